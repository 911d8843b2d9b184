section
-- ===== PART A: goes FIRST, ahead of the names: the tables' words, and 'selects' of the private methods out of them =====
/-- a private method of a class that the tables say can be made, by its rows of tables_1 -/
def lw_okq (q : MethodName × Nat) : Prop := (q.1.cls ≠ "java/lang/invoke/MethodHandle" ∧ q.1.cls ≠ "java/lang/invoke/VarHandle") ∧ Cond.instantiable q.1.cls q.2 ∈ tables_1 ∧ Cond.privateMethod q.1 ∈ tables_1 ∧ Cond.instanceMethod q.1 ∈ tables_1
theorem lw_p0 : lw_okq (⟨"CallShaper$Shaping", "findReached", "()V"⟩, 6) := ⟨⟨by decide +kernel, by decide +kernel⟩, List.mem_of_getElem? (i := 64) (by decide +kernel), List.mem_of_getElem? (i := 161) (by decide +kernel), List.mem_of_getElem? (i := 162) (by decide +kernel)⟩
theorem lw_p1 : lw_okq (⟨"CallShaper$Shaping", "targetSet", "(II)I"⟩, 6) := ⟨⟨by decide +kernel, by decide +kernel⟩, List.mem_of_getElem? (i := 64) (by decide +kernel), List.mem_of_getElem? (i := 165) (by decide +kernel), List.mem_of_getElem? (i := 166) (by decide +kernel)⟩
theorem lw_p2 : lw_okq (⟨"CallShaper$Shaping", "readBodies", "(I)V"⟩, 6) := ⟨⟨by decide +kernel, by decide +kernel⟩, List.mem_of_getElem? (i := 64) (by decide +kernel), List.mem_of_getElem? (i := 176) (by decide +kernel), List.mem_of_getElem? (i := 177) (by decide +kernel)⟩
theorem lw_p3 : lw_okq (⟨"CallShaper$Shaping", "readBody", "(I)V"⟩, 6) := ⟨⟨by decide +kernel, by decide +kernel⟩, List.mem_of_getElem? (i := 64) (by decide +kernel), List.mem_of_getElem? (i := 183) (by decide +kernel), List.mem_of_getElem? (i := 184) (by decide +kernel)⟩
theorem lw_p4 : lw_okq (⟨"CallShaper$Shaping", "reachTargets", "()V"⟩, 6) := ⟨⟨by decide +kernel, by decide +kernel⟩, List.mem_of_getElem? (i := 64) (by decide +kernel), List.mem_of_getElem? (i := 206) (by decide +kernel), List.mem_of_getElem? (i := 207) (by decide +kernel)⟩
theorem lw_p5 : lw_okq (⟨"CallShaper$Shaping", "verdictOfCalls", "(I)I"⟩, 6) := ⟨⟨by decide +kernel, by decide +kernel⟩, List.mem_of_getElem? (i := 64) (by decide +kernel), List.mem_of_getElem? (i := 210) (by decide +kernel), List.mem_of_getElem? (i := 211) (by decide +kernel)⟩
theorem lw_p6 : lw_okq (⟨"CallShaper$Shaping", "judge", "(I)V"⟩, 6) := ⟨⟨by decide +kernel, by decide +kernel⟩, List.mem_of_getElem? (i := 64) (by decide +kernel), List.mem_of_getElem? (i := 219) (by decide +kernel), List.mem_of_getElem? (i := 220) (by decide +kernel)⟩
theorem lw_p7 : lw_okq (⟨"CallShaper$Shaping", "waysOut", "(I)I"⟩, 6) := ⟨⟨by decide +kernel, by decide +kernel⟩, List.mem_of_getElem? (i := 64) (by decide +kernel), List.mem_of_getElem? (i := 223) (by decide +kernel), List.mem_of_getElem? (i := 224) (by decide +kernel)⟩
theorem lw_p8 : lw_okq (⟨"CallShaper$Shaping", "holders", "(II)I"⟩, 6) := ⟨⟨by decide +kernel, by decide +kernel⟩, List.mem_of_getElem? (i := 64) (by decide +kernel), List.mem_of_getElem? (i := 231) (by decide +kernel), List.mem_of_getElem? (i := 232) (by decide +kernel)⟩
theorem lw_p9 : lw_okq (⟨"java/lang/Throwable", "fillInStackTrace", "(I)Ljava/lang/Throwable;"⟩, 6) := ⟨⟨by decide +kernel, by decide +kernel⟩, List.mem_of_getElem? (i := 303) (by decide +kernel), List.mem_of_getElem? (i := 301) (by decide +kernel), List.mem_of_getElem? (i := 302) (by decide +kernel)⟩
theorem lw_p10 : lw_okq (⟨"CallShaper$Machine", "begin", "()V"⟩, 15) := ⟨⟨by decide +kernel, by decide +kernel⟩, List.mem_of_getElem? (i := 89) (by decide +kernel), List.mem_of_getElem? (i := 690) (by decide +kernel), List.mem_of_getElem? (i := 691) (by decide +kernel)⟩
theorem lw_p11 : lw_okq (⟨"CallShaper$Machine", "newObject", "(I)J"⟩, 15) := ⟨⟨by decide +kernel, by decide +kernel⟩, List.mem_of_getElem? (i := 89) (by decide +kernel), List.mem_of_getElem? (i := 694) (by decide +kernel), List.mem_of_getElem? (i := 695) (by decide +kernel)⟩
theorem lw_p12 : lw_okq (⟨"CallShaper$Machine", "enter", "(IJJ)V"⟩, 15) := ⟨⟨by decide +kernel, by decide +kernel⟩, List.mem_of_getElem? (i := 89) (by decide +kernel), List.mem_of_getElem? (i := 703) (by decide +kernel), List.mem_of_getElem? (i := 704) (by decide +kernel)⟩
theorem lw_p13 : lw_okq (⟨"CallShaper$Machine", "isGoing", "()Z"⟩, 15) := ⟨⟨by decide +kernel, by decide +kernel⟩, List.mem_of_getElem? (i := 89) (by decide +kernel), List.mem_of_getElem? (i := 708) (by decide +kernel), List.mem_of_getElem? (i := 709) (by decide +kernel)⟩
theorem lw_p14 : lw_okq (⟨"CallShaper$Machine", "isBehindLast", "(I)Z"⟩, 15) := ⟨⟨by decide +kernel, by decide +kernel⟩, List.mem_of_getElem? (i := 89) (by decide +kernel), List.mem_of_getElem? (i := 712) (by decide +kernel), List.mem_of_getElem? (i := 713) (by decide +kernel)⟩
theorem lw_p15 : lw_okq (⟨"CallShaper$Machine", "answer", "(J)V"⟩, 15) := ⟨⟨by decide +kernel, by decide +kernel⟩, List.mem_of_getElem? (i := 89) (by decide +kernel), List.mem_of_getElem? (i := 717) (by decide +kernel), List.mem_of_getElem? (i := 718) (by decide +kernel)⟩
def lw_privs_1 : List (MethodName × Nat) := [(⟨"CallShaper$Shaping", "findReached", "()V"⟩, 6), (⟨"CallShaper$Shaping", "targetSet", "(II)I"⟩, 6), (⟨"CallShaper$Shaping", "readBodies", "(I)V"⟩, 6), (⟨"CallShaper$Shaping", "readBody", "(I)V"⟩, 6), (⟨"CallShaper$Shaping", "reachTargets", "()V"⟩, 6), (⟨"CallShaper$Shaping", "verdictOfCalls", "(I)I"⟩, 6), (⟨"CallShaper$Shaping", "judge", "(I)V"⟩, 6), (⟨"CallShaper$Shaping", "waysOut", "(I)I"⟩, 6), (⟨"CallShaper$Shaping", "holders", "(II)I"⟩, 6), (⟨"java/lang/Throwable", "fillInStackTrace", "(I)Ljava/lang/Throwable;"⟩, 6), (⟨"CallShaper$Machine", "begin", "()V"⟩, 15), (⟨"CallShaper$Machine", "newObject", "(I)J"⟩, 15), (⟨"CallShaper$Machine", "enter", "(IJJ)V"⟩, 15), (⟨"CallShaper$Machine", "isGoing", "()Z"⟩, 15), (⟨"CallShaper$Machine", "isBehindLast", "(I)Z"⟩, 15), (⟨"CallShaper$Machine", "answer", "(J)V"⟩, 15)]
theorem lw_r1 : ∀ q ∈ lw_privs_1, lw_okq q := List.forall_mem_cons.mpr ⟨lw_p0, List.forall_mem_cons.mpr ⟨lw_p1, List.forall_mem_cons.mpr ⟨lw_p2, List.forall_mem_cons.mpr ⟨lw_p3, List.forall_mem_cons.mpr ⟨lw_p4, List.forall_mem_cons.mpr ⟨lw_p5, List.forall_mem_cons.mpr ⟨lw_p6, List.forall_mem_cons.mpr ⟨lw_p7, List.forall_mem_cons.mpr ⟨lw_p8, List.forall_mem_cons.mpr ⟨lw_p9, List.forall_mem_cons.mpr ⟨lw_p10, List.forall_mem_cons.mpr ⟨lw_p11, List.forall_mem_cons.mpr ⟨lw_p12, List.forall_mem_cons.mpr ⟨lw_p13, List.forall_mem_cons.mpr ⟨lw_p14, List.forall_mem_cons.mpr ⟨lw_p15, fun _ h => absurd h List.not_mem_nil⟩⟩⟩⟩⟩⟩⟩⟩⟩⟩⟩⟩⟩⟩⟩⟩
theorem lw_p16 : lw_okq (⟨"CallShaper$Machine", "step", "()V"⟩, 15) := ⟨⟨by decide +kernel, by decide +kernel⟩, List.mem_of_getElem? (i := 89) (by decide +kernel), List.mem_of_getElem? (i := 721) (by decide +kernel), List.mem_of_getElem? (i := 722) (by decide +kernel)⟩
theorem lw_p17 : lw_okq (⟨"CallShaper$Machine", "perform", "(II)V"⟩, 15) := ⟨⟨by decide +kernel, by decide +kernel⟩, List.mem_of_getElem? (i := 89) (by decide +kernel), List.mem_of_getElem? (i := 726) (by decide +kernel), List.mem_of_getElem? (i := 727) (by decide +kernel)⟩
theorem lw_p18 : lw_okq (⟨"CallShaper$Machine", "reckon", "(II)V"⟩, 15) := ⟨⟨by decide +kernel, by decide +kernel⟩, List.mem_of_getElem? (i := 89) (by decide +kernel), List.mem_of_getElem? (i := 733) (by decide +kernel), List.mem_of_getElem? (i := 734) (by decide +kernel)⟩
theorem lw_p19 : lw_okq (⟨"CallShaper$Machine", "make", "(II)V"⟩, 15) := ⟨⟨by decide +kernel, by decide +kernel⟩, List.mem_of_getElem? (i := 89) (by decide +kernel), List.mem_of_getElem? (i := 741) (by decide +kernel), List.mem_of_getElem? (i := 742) (by decide +kernel)⟩
theorem lw_p20 : lw_okq (⟨"CallShaper$Machine", "readField", "(II)V"⟩, 15) := ⟨⟨by decide +kernel, by decide +kernel⟩, List.mem_of_getElem? (i := 89) (by decide +kernel), List.mem_of_getElem? (i := 746) (by decide +kernel), List.mem_of_getElem? (i := 747) (by decide +kernel)⟩
theorem lw_p21 : lw_okq (⟨"CallShaper$Machine", "writeField", "(II)V"⟩, 15) := ⟨⟨by decide +kernel, by decide +kernel⟩, List.mem_of_getElem? (i := 89) (by decide +kernel), List.mem_of_getElem? (i := 753) (by decide +kernel), List.mem_of_getElem? (i := 754) (by decide +kernel)⟩
theorem lw_p22 : lw_okq (⟨"CallShaper$Machine", "send", "(II)V"⟩, 15) := ⟨⟨by decide +kernel, by decide +kernel⟩, List.mem_of_getElem? (i := 89) (by decide +kernel), List.mem_of_getElem? (i := 757) (by decide +kernel), List.mem_of_getElem? (i := 758) (by decide +kernel)⟩
theorem lw_p23 : lw_okq (⟨"CallShaper$Machine", "countCall", "(I)V"⟩, 15) := ⟨⟨by decide +kernel, by decide +kernel⟩, List.mem_of_getElem? (i := 89) (by decide +kernel), List.mem_of_getElem? (i := 761) (by decide +kernel), List.mem_of_getElem? (i := 762) (by decide +kernel)⟩
theorem lw_p24 : lw_okq (⟨"CallShaper$Machine", "print", "(J)V"⟩, 15) := ⟨⟨by decide +kernel, by decide +kernel⟩, List.mem_of_getElem? (i := 89) (by decide +kernel), List.mem_of_getElem? (i := 765) (by decide +kernel), List.mem_of_getElem? (i := 766) (by decide +kernel)⟩
theorem lw_p25 : lw_okq (⟨"CallShaper$Machine", "checkClass", "(JI)V"⟩, 15) := ⟨⟨by decide +kernel, by decide +kernel⟩, List.mem_of_getElem? (i := 89) (by decide +kernel), List.mem_of_getElem? (i := 769) (by decide +kernel), List.mem_of_getElem? (i := 770) (by decide +kernel)⟩
theorem lw_p26 : lw_okq (⟨"CallShaperModel", "fails", "(ZZ)Z"⟩, 23) := ⟨⟨by decide +kernel, by decide +kernel⟩, List.mem_of_getElem? (i := 801) (by decide +kernel), List.mem_of_getElem? (i := 889) (by decide +kernel), List.mem_of_getElem? (i := 890) (by decide +kernel)⟩
theorem lw_p27 : lw_okq (⟨"CallShaperModel", "isBody", "(II)Z"⟩, 23) := ⟨⟨by decide +kernel, by decide +kernel⟩, List.mem_of_getElem? (i := 801) (by decide +kernel), List.mem_of_getElem? (i := 897) (by decide +kernel), List.mem_of_getElem? (i := 898) (by decide +kernel)⟩
theorem lw_p28 : lw_okq (⟨"CallShaperModel", "target", "(II)I"⟩, 23) := ⟨⟨by decide +kernel, by decide +kernel⟩, List.mem_of_getElem? (i := 801) (by decide +kernel), List.mem_of_getElem? (i := 918) (by decide +kernel), List.mem_of_getElem? (i := 919) (by decide +kernel)⟩
theorem lw_p29 : lw_okq (⟨"CallShaperModel", "grows", "(I)Z"⟩, 23) := ⟨⟨by decide +kernel, by decide +kernel⟩, List.mem_of_getElem? (i := 801) (by decide +kernel), List.mem_of_getElem? (i := 922) (by decide +kernel), List.mem_of_getElem? (i := 923) (by decide +kernel)⟩
theorem lw_p30 : lw_okq (⟨"CallShaperModel", "at", "(III)I"⟩, 23) := ⟨⟨by decide +kernel, by decide +kernel⟩, List.mem_of_getElem? (i := 801) (by decide +kernel), List.mem_of_getElem? (i := 926) (by decide +kernel), List.mem_of_getElem? (i := 927) (by decide +kernel)⟩
theorem lw_p31 : lw_okq (⟨"CallShaperModel", "reachAll", "(I)Z"⟩, 23) := ⟨⟨by decide +kernel, by decide +kernel⟩, List.mem_of_getElem? (i := 801) (by decide +kernel), List.mem_of_getElem? (i := 930) (by decide +kernel), List.mem_of_getElem? (i := 931) (by decide +kernel)⟩
def lw_privs_2 : List (MethodName × Nat) := [(⟨"CallShaper$Machine", "step", "()V"⟩, 15), (⟨"CallShaper$Machine", "perform", "(II)V"⟩, 15), (⟨"CallShaper$Machine", "reckon", "(II)V"⟩, 15), (⟨"CallShaper$Machine", "make", "(II)V"⟩, 15), (⟨"CallShaper$Machine", "readField", "(II)V"⟩, 15), (⟨"CallShaper$Machine", "writeField", "(II)V"⟩, 15), (⟨"CallShaper$Machine", "send", "(II)V"⟩, 15), (⟨"CallShaper$Machine", "countCall", "(I)V"⟩, 15), (⟨"CallShaper$Machine", "print", "(J)V"⟩, 15), (⟨"CallShaper$Machine", "checkClass", "(JI)V"⟩, 15), (⟨"CallShaperModel", "fails", "(ZZ)Z"⟩, 23), (⟨"CallShaperModel", "isBody", "(II)Z"⟩, 23), (⟨"CallShaperModel", "target", "(II)I"⟩, 23), (⟨"CallShaperModel", "grows", "(I)Z"⟩, 23), (⟨"CallShaperModel", "at", "(III)I"⟩, 23), (⟨"CallShaperModel", "reachAll", "(I)Z"⟩, 23)]
theorem lw_r2 : ∀ q ∈ lw_privs_2, lw_okq q := List.forall_mem_cons.mpr ⟨lw_p16, List.forall_mem_cons.mpr ⟨lw_p17, List.forall_mem_cons.mpr ⟨lw_p18, List.forall_mem_cons.mpr ⟨lw_p19, List.forall_mem_cons.mpr ⟨lw_p20, List.forall_mem_cons.mpr ⟨lw_p21, List.forall_mem_cons.mpr ⟨lw_p22, List.forall_mem_cons.mpr ⟨lw_p23, List.forall_mem_cons.mpr ⟨lw_p24, List.forall_mem_cons.mpr ⟨lw_p25, List.forall_mem_cons.mpr ⟨lw_p26, List.forall_mem_cons.mpr ⟨lw_p27, List.forall_mem_cons.mpr ⟨lw_p28, List.forall_mem_cons.mpr ⟨lw_p29, List.forall_mem_cons.mpr ⟨lw_p30, List.forall_mem_cons.mpr ⟨lw_p31, fun _ h => absurd h List.not_mem_nil⟩⟩⟩⟩⟩⟩⟩⟩⟩⟩⟩⟩⟩⟩⟩⟩
theorem lw_p32 : lw_okq (⟨"CallShaperModel", "call", "(I)I"⟩, 23) := ⟨⟨by decide +kernel, by decide +kernel⟩, List.mem_of_getElem? (i := 801) (by decide +kernel), List.mem_of_getElem? (i := 934) (by decide +kernel), List.mem_of_getElem? (i := 935) (by decide +kernel)⟩
theorem lw_p33 : lw_okq (⟨"CallShaperModel", "stays", "(II)Z"⟩, 23) := ⟨⟨by decide +kernel, by decide +kernel⟩, List.mem_of_getElem? (i := 801) (by decide +kernel), List.mem_of_getElem? (i := 938) (by decide +kernel), List.mem_of_getElem? (i := 939) (by decide +kernel)⟩
theorem lw_p34 : lw_okq (⟨"CallShaperModel", "siteOf", "(II)I"⟩, 23) := ⟨⟨by decide +kernel, by decide +kernel⟩, List.mem_of_getElem? (i := 801) (by decide +kernel), List.mem_of_getElem? (i := 950) (by decide +kernel), List.mem_of_getElem? (i := 951) (by decide +kernel)⟩
theorem lw_p35 : lw_okq (⟨"CallShaperModel", "makes", "(IZ)I"⟩, 23) := ⟨⟨by decide +kernel, by decide +kernel⟩, List.mem_of_getElem? (i := 801) (by decide +kernel), List.mem_of_getElem? (i := 958) (by decide +kernel), List.mem_of_getElem? (i := 959) (by decide +kernel)⟩
theorem lw_p36 : lw_okq (⟨"CallShaperModel", "enters", "(IIZII)V"⟩, 23) := ⟨⟨by decide +kernel, by decide +kernel⟩, List.mem_of_getElem? (i := 801) (by decide +kernel), List.mem_of_getElem? (i := 962) (by decide +kernel), List.mem_of_getElem? (i := 963) (by decide +kernel)⟩
theorem lw_p37 : lw_okq (⟨"CallShaperModel", "answers", "(ZI)V"⟩, 23) := ⟨⟨by decide +kernel, by decide +kernel⟩, List.mem_of_getElem? (i := 801) (by decide +kernel), List.mem_of_getElem? (i := 966) (by decide +kernel), List.mem_of_getElem? (i := 967) (by decide +kernel)⟩
theorem lw_p38 : lw_okq (⟨"CallShaperModel", "set", "(IZI)V"⟩, 23) := ⟨⟨by decide +kernel, by decide +kernel⟩, List.mem_of_getElem? (i := 801) (by decide +kernel), List.mem_of_getElem? (i := 970) (by decide +kernel), List.mem_of_getElem? (i := 971) (by decide +kernel)⟩
theorem lw_p39 : lw_okq (⟨"CallShaperModel", "does", "(Z)I"⟩, 23) := ⟨⟨by decide +kernel, by decide +kernel⟩, List.mem_of_getElem? (i := 801) (by decide +kernel), List.mem_of_getElem? (i := 974) (by decide +kernel), List.mem_of_getElem? (i := 975) (by decide +kernel)⟩
theorem lw_p40 : lw_okq (⟨"CallShaperModel", "sums", "(IZIII)I"⟩, 23) := ⟨⟨by decide +kernel, by decide +kernel⟩, List.mem_of_getElem? (i := 801) (by decide +kernel), List.mem_of_getElem? (i := 978) (by decide +kernel), List.mem_of_getElem? (i := 979) (by decide +kernel)⟩
theorem lw_p41 : lw_okq (⟨"CallShaperModel", "news", "(III)I"⟩, 23) := ⟨⟨by decide +kernel, by decide +kernel⟩, List.mem_of_getElem? (i := 801) (by decide +kernel), List.mem_of_getElem? (i := 982) (by decide +kernel), List.mem_of_getElem? (i := 983) (by decide +kernel)⟩
theorem lw_p42 : lw_okq (⟨"CallShaperModel", "calls", "(IIIII)I"⟩, 23) := ⟨⟨by decide +kernel, by decide +kernel⟩, List.mem_of_getElem? (i := 801) (by decide +kernel), List.mem_of_getElem? (i := 986) (by decide +kernel), List.mem_of_getElem? (i := 987) (by decide +kernel)⟩
theorem lw_p43 : lw_okq (⟨"CallShaperModel", "puts", "(I)I"⟩, 23) := ⟨⟨by decide +kernel, by decide +kernel⟩, List.mem_of_getElem? (i := 801) (by decide +kernel), List.mem_of_getElem? (i := 990) (by decide +kernel), List.mem_of_getElem? (i := 991) (by decide +kernel)⟩
theorem lw_p44 : lw_okq (⟨"CallShaperModel", "isAnother", "(II)Z"⟩, 23) := ⟨⟨by decide +kernel, by decide +kernel⟩, List.mem_of_getElem? (i := 801) (by decide +kernel), List.mem_of_getElem? (i := 994) (by decide +kernel), List.mem_of_getElem? (i := 995) (by decide +kernel)⟩
def lw_privs_3 : List (MethodName × Nat) := [(⟨"CallShaperModel", "call", "(I)I"⟩, 23), (⟨"CallShaperModel", "stays", "(II)Z"⟩, 23), (⟨"CallShaperModel", "siteOf", "(II)I"⟩, 23), (⟨"CallShaperModel", "makes", "(IZ)I"⟩, 23), (⟨"CallShaperModel", "enters", "(IIZII)V"⟩, 23), (⟨"CallShaperModel", "answers", "(ZI)V"⟩, 23), (⟨"CallShaperModel", "set", "(IZI)V"⟩, 23), (⟨"CallShaperModel", "does", "(Z)I"⟩, 23), (⟨"CallShaperModel", "sums", "(IZIII)I"⟩, 23), (⟨"CallShaperModel", "news", "(III)I"⟩, 23), (⟨"CallShaperModel", "calls", "(IIIII)I"⟩, 23), (⟨"CallShaperModel", "puts", "(I)I"⟩, 23), (⟨"CallShaperModel", "isAnother", "(II)Z"⟩, 23)]
theorem lw_r3 : ∀ q ∈ lw_privs_3, lw_okq q := List.forall_mem_cons.mpr ⟨lw_p32, List.forall_mem_cons.mpr ⟨lw_p33, List.forall_mem_cons.mpr ⟨lw_p34, List.forall_mem_cons.mpr ⟨lw_p35, List.forall_mem_cons.mpr ⟨lw_p36, List.forall_mem_cons.mpr ⟨lw_p37, List.forall_mem_cons.mpr ⟨lw_p38, List.forall_mem_cons.mpr ⟨lw_p39, List.forall_mem_cons.mpr ⟨lw_p40, List.forall_mem_cons.mpr ⟨lw_p41, List.forall_mem_cons.mpr ⟨lw_p42, List.forall_mem_cons.mpr ⟨lw_p43, List.forall_mem_cons.mpr ⟨lw_p44, fun _ h => absurd h List.not_mem_nil⟩⟩⟩⟩⟩⟩⟩⟩⟩⟩⟩⟩⟩
def lw_privs : List (MethodName × Nat) := lw_privs_1 ++ (lw_privs_2 ++ (lw_privs_3))
def lw_tbl : List Cond := k2_sels lw_privs ++ tables_1
theorem lw_privs_ok : ∀ q ∈ lw_privs, lw_okq q := by
  show ∀ q ∈ lw_privs_1 ++ (lw_privs_2 ++ (lw_privs_3)), lw_okq q
  exact List.forall_mem_append.mpr ⟨lw_r1, List.forall_mem_append.mpr ⟨lw_r2, lw_r3⟩⟩
/-! ===== BEGIN words of one list among another's, by their places ===== -/
theorem goodIn_r {big : List Cond} (ws : List Cond) (ps : List Nat) (hp : ws = ps.filterMap (fun i => big[i]?)) (h : ws.all goodWord = true) : GoodIn big ws := by
  intro w hw
  have h1 := List.all_eq_true.mp h w hw
  rw [hp] at hw
  obtain ⟨i, -, hi⟩ := List.mem_filterMap.mp hw
  have hm : w ∈ big := by first | exact List.mem_of_getElem? hi | exact List.getElem?_mem hi
  exact ⟨hm, good_of_word h1⟩
theorem goodIn_app {big a b : List Cond} (ha : GoodIn big a) (hb : GoodIn big b) : GoodIn big (a ++ b) := fun w h => (List.mem_append.mp h).elim (ha w) (hb w)
theorem goodIn_ca {big a b : List Cond} {c : Cond} (ha : GoodIn big (c :: a)) (hb : GoodIn big b) : GoodIn big (c :: (a ++ b)) := fun w h => (List.mem_cons.mp h).elim (fun e => ha w (List.mem_cons.mpr (Or.inl e))) (fun h => (List.mem_append.mp h).elim (fun h => ha w (List.mem_cons.mpr (Or.inr h))) (hb w))
theorem goodIn_sub {big ws : List Cond} (hm : ∀ w ∈ ws, w ∈ big) (h : ws.all goodWord = true) : GoodIn big ws := fun w hw => ⟨hm w hw, good_of_word (List.all_eq_true.mp h w hw)⟩
/-! ===== END ===== -/
end
section
def RX0 : String := "CallShaper$Machine"
def TX0 : u_T := fun k => match k with
  | 0 => ("CallShaper$Machine", "program", "LCallShaper$Program;", true)
  | 1 => ("CallShaper$Machine", "shaping", "LCallShaper$Shaping;", true)
  | 2 => ("CallShaper$Machine", "registers", "[J", true)
  | 3 => ("CallShaper$Machine", "bodies", "[I", true)
  | 4 => ("CallShaper$Machine", "nexts", "[I", true)
  | 5 => ("CallShaper$Machine", "answersTo", "[I", true)
  | 6 => ("CallShaper$Machine", "classes", "[I", true)
  | 7 => ("CallShaper$Machine", "fields", "[J", true)
  | 8 => ("CallShaper$Machine", "putOut", "[I", true)
  | 9 => ("CallShaper$Machine", "counts", "[I", true)
  | 10 => ("CallShaper$Machine", "asShaped", "Z", false)
  | 11 => ("CallShaper$Machine", "room", "I", false)
  | 12 => ("CallShaper$Machine", "frames", "I", false)
  | 13 => ("CallShaper$Machine", "objects", "I", false)
  | _ => ("CallShaper$Machine", "trap", "I", false)
def tyX0 : Nat → FieldType := fun k => match k with
  | 0 => .object "CallShaper$Program"
  | 1 => .object "CallShaper$Shaping"
  | 2 => .array .long
  | 3 => .array .int
  | 4 => .array .int
  | 5 => .array .int
  | 6 => .array .int
  | 7 => .array .long
  | 8 => .array .int
  | 9 => .array .int
  | 10 => .boolean
  | 11 => .int
  | 12 => .int
  | 13 => .int
  | _ => .int
abbrev wsX00 : List Cond := u_ws RX0 TX0 15
theorem nmX0 : ∀ a, a < 15 → ∀ b, b < 15 → a ≠ b → (TX0 a).2.1 ≠ (TX0 b).2.1 := by decide +kernel
theorem tyX0_ok : ∀ k, k < 15 → parseFieldDescriptor (TX0 k).2.2.1 = some (tyX0 k) := by decide +kernel
abbrev cX0_init : ByteArray := prog_2_method_1_code
def yX0_init : MethodName := ⟨RX0, "<init>", "(LCallShaper$Program;LCallShaper$Shaping;)V"⟩
abbrev cX0_tally : ByteArray := prog_2_method_2_code
def yX0_tally : MethodName := ⟨RX0, "tally", "(I)I"⟩
abbrev cX0_valuePutOut : ByteArray := prog_2_method_3_code
def yX0_valuePutOut : MethodName := ⟨RX0, "valuePutOut", "(I)I"⟩
abbrev cX0_execute : ByteArray := prog_2_method_4_code
def yX0_execute : MethodName := ⟨RX0, "execute", "(ZI)I"⟩
abbrev cX0_begin : ByteArray := prog_2_method_5_code
def yX0_begin : MethodName := ⟨RX0, "begin", "()V"⟩
abbrev cX0_isGoing : ByteArray := prog_2_method_6_code
def yX0_isGoing : MethodName := ⟨RX0, "isGoing", "()Z"⟩
abbrev cX0_isBehindLast : ByteArray := prog_2_method_7_code
def yX0_isBehindLast : MethodName := ⟨RX0, "isBehindLast", "(I)Z"⟩
abbrev cX0_step : ByteArray := prog_2_method_8_code
def yX0_step : MethodName := ⟨RX0, "step", "()V"⟩
abbrev cX0_perform : ByteArray := prog_2_method_9_code
def yX0_perform : MethodName := ⟨RX0, "perform", "(II)V"⟩
abbrev cX0_isObject : ByteArray := prog_2_method_10_code
def yX0_isObject : MethodName := ⟨RX0, "isObject", "(J)Z"⟩
abbrev cX0_objectOf : ByteArray := prog_2_method_11_code
def yX0_objectOf : MethodName := ⟨RX0, "objectOf", "(J)I"⟩
abbrev cX0_reckon : ByteArray := prog_2_method_12_code
def yX0_reckon : MethodName := ⟨RX0, "reckon", "(II)V"⟩
abbrev cX0_make : ByteArray := prog_2_method_13_code
def yX0_make : MethodName := ⟨RX0, "make", "(II)V"⟩
abbrev cX0_newObject : ByteArray := prog_2_method_14_code
def yX0_newObject : MethodName := ⟨RX0, "newObject", "(I)J"⟩
abbrev cX0_readField : ByteArray := prog_2_method_15_code
def yX0_readField : MethodName := ⟨RX0, "readField", "(II)V"⟩
abbrev cX0_writeField : ByteArray := prog_2_method_16_code
def yX0_writeField : MethodName := ⟨RX0, "writeField", "(II)V"⟩
abbrev cX0_send : ByteArray := prog_2_method_17_code
def yX0_send : MethodName := ⟨RX0, "send", "(II)V"⟩
abbrev cX0_countCall : ByteArray := prog_2_method_18_code
def yX0_countCall : MethodName := ⟨RX0, "countCall", "(I)V"⟩
abbrev cX0_enter : ByteArray := prog_2_method_19_code
def yX0_enter : MethodName := ⟨RX0, "enter", "(IJJ)V"⟩
abbrev cX0_answer : ByteArray := prog_2_method_20_code
def yX0_answer : MethodName := ⟨RX0, "answer", "(J)V"⟩
abbrev cX0_print : ByteArray := prog_2_method_21_code
def yX0_print : MethodName := ⟨RX0, "print", "(J)V"⟩
abbrev cX0_checkClass : ByteArray := prog_2_method_22_code
def yX0_checkClass : MethodName := ⟨RX0, "checkClass", "(JI)V"⟩
def RX1 : String := "CallShaper$Program"
def TX1 : u_T := fun k => match k with
  | 0 => ("CallShaper$Program", "parents", "[I", true)
  | 1 => ("CallShaper$Program", "lengths", "[I", true)
  | 2 => ("CallShaper$Program", "kinds", "[I", true)
  | 3 => ("CallShaper$Program", "xs", "[I", true)
  | 4 => ("CallShaper$Program", "ys", "[I", true)
  | 5 => ("CallShaper$Program", "zs", "[I", true)
  | _ => ("CallShaper$Program", "classes", "I", false)
def tyX1 : Nat → FieldType := fun k => match k with
  | 0 => .array .int
  | 1 => .array .int
  | 2 => .array .int
  | 3 => .array .int
  | 4 => .array .int
  | 5 => .array .int
  | _ => .int
abbrev wsX10 : List Cond := u_ws RX1 TX1 7
theorem nmX1 : ∀ a, a < 7 → ∀ b, b < 7 → a ≠ b → (TX1 a).2.1 ≠ (TX1 b).2.1 := by decide +kernel
theorem tyX1_ok : ∀ k, k < 7 → parseFieldDescriptor (TX1 k).2.2.1 = some (tyX1 k) := by decide +kernel
abbrev cX1_init : ByteArray := prog_3_method_1_code
def yX1_init : MethodName := ⟨RX1, "<init>", "()V"⟩
abbrev cX1_bodyOf : ByteArray := prog_3_method_2_code
def yX1_bodyOf : MethodName := ⟨RX1, "bodyOf", "(II)I"⟩
abbrev cX1_placeOf : ByteArray := prog_3_method_3_code
def yX1_placeOf : MethodName := ⟨RX1, "placeOf", "(II)I"⟩
abbrev cX1_isWellFormed : ByteArray := prog_3_method_4_code
def yX1_isWellFormed : MethodName := ⟨RX1, "isWellFormed", "(IIII)Z"⟩
abbrev cX1_isWithin : ByteArray := prog_3_method_5_code
def yX1_isWithin : MethodName := ⟨RX1, "isWithin", "(II)Z"⟩
abbrev cX1_hasClass : ByteArray := prog_3_method_6_code
def yX1_hasClass : MethodName := ⟨RX1, "hasClass", "(I)Z"⟩
abbrev cX1_hasPlaceFor : ByteArray := prog_3_method_7_code
def yX1_hasPlaceFor : MethodName := ⟨RX1, "hasPlaceFor", "(II)Z"⟩
abbrev cX1_isFullOfClasses : ByteArray := prog_3_method_8_code
def yX1_isFullOfClasses : MethodName := ⟨RX1, "isFullOfClasses", "()Z"⟩
abbrev cX1_addClass : ByteArray := prog_3_method_9_code
def yX1_addClass : MethodName := ⟨RX1, "addClass", "(I)I"⟩
abbrev cX1_isFull : ByteArray := prog_3_method_10_code
def yX1_isFull : MethodName := ⟨RX1, "isFull", "(I)Z"⟩
abbrev cX1_append : ByteArray := prog_3_method_11_code
def yX1_append : MethodName := ⟨RX1, "append", "(IIIII)I"⟩
abbrev cX1_empty : ByteArray := prog_3_method_12_code
def yX1_empty : MethodName := ⟨RX1, "empty", "(I)I"⟩
abbrev cX1_length : ByteArray := prog_3_method_13_code
def yX1_length : MethodName := ⟨RX1, "length", "(I)I"⟩
abbrev cX1_kind : ByteArray := prog_3_method_14_code
def yX1_kind : MethodName := ⟨RX1, "kind", "(I)I"⟩
abbrev cX1_x : ByteArray := prog_3_method_15_code
def yX1_x : MethodName := ⟨RX1, "x", "(I)I"⟩
abbrev cX1_y : ByteArray := prog_3_method_16_code
def yX1_y : MethodName := ⟨RX1, "y", "(I)I"⟩
abbrev cX1_z : ByteArray := prog_3_method_17_code
def yX1_z : MethodName := ⟨RX1, "z", "(I)I"⟩
abbrev cX1_target : ByteArray := prog_3_method_18_code
def yX1_target : MethodName := ⟨RX1, "target", "(II)I"⟩
abbrev cX1_classIs : ByteArray := prog_3_method_19_code
def yX1_classIs : MethodName := ⟨RX1, "classIs", "(II)Z"⟩
abbrev cX1_fitsInPlace : ByteArray := prog_3_method_20_code
def yX1_fitsInPlace : MethodName := ⟨RX1, "fitsInPlace", "(I)Z"⟩
def RX2 : String := "CallShaper$Shaping"
def TX2 : u_T := fun k => match k with
  | 0 => ("CallShaper$Shaping", "program", "LCallShaper$Program;", true)
  | 1 => ("CallShaper$Shaping", "verdicts", "[I", true)
  | 2 => ("CallShaper$Shaping", "callVerdicts", "[I", true)
  | 3 => ("CallShaper$Shaping", "made", "I", false)
  | 4 => ("CallShaper$Shaping", "reached", "I", false)
  | _ => ("CallShaper$Shaping", "called", "I", false)
def tyX2 : Nat → FieldType := fun k => match k with
  | 0 => .object "CallShaper$Program"
  | 1 => .array .int
  | 2 => .array .int
  | 3 => .int
  | 4 => .int
  | _ => .int
abbrev wsX20 : List Cond := u_ws RX2 TX2 6
theorem nmX2 : ∀ a, a < 6 → ∀ b, b < 6 → a ≠ b → (TX2 a).2.1 ≠ (TX2 b).2.1 := by decide +kernel
theorem tyX2_ok : ∀ k, k < 6 → parseFieldDescriptor (TX2 k).2.2.1 = some (tyX2 k) := by decide +kernel
abbrev cX2_init : ByteArray := prog_4_method_1_code
def yX2_init : MethodName := ⟨RX2, "<init>", "(LCallShaper$Program;)V"⟩
abbrev cX2_isIn : ByteArray := prog_4_method_2_code
def yX2_isIn : MethodName := ⟨RX2, "isIn", "(II)Z"⟩
abbrev cX2_bits : ByteArray := prog_4_method_3_code
def yX2_bits : MethodName := ⟨RX2, "bits", "()I"⟩
abbrev cX2_verdictAt : ByteArray := prog_4_method_4_code
def yX2_verdictAt : MethodName := ⟨RX2, "verdictAt", "(I)I"⟩
abbrev cX2_forget : ByteArray := prog_4_method_5_code
def yX2_forget : MethodName := ⟨RX2, "forget", "(I)V"⟩
abbrev cX2_renew : ByteArray := prog_4_method_6_code
def yX2_renew : MethodName := ⟨RX2, "renew", "()I"⟩
abbrev cX2_findReached : ByteArray := prog_4_method_7_code
def yX2_findReached : MethodName := ⟨RX2, "findReached", "()V"⟩
abbrev cX2_targetSet : ByteArray := prog_4_method_8_code
def yX2_targetSet : MethodName := ⟨RX2, "targetSet", "(II)I"⟩
abbrev cX2_readBodies : ByteArray := prog_4_method_9_code
def yX2_readBodies : MethodName := ⟨RX2, "readBodies", "(I)V"⟩
abbrev cX2_readBody : ByteArray := prog_4_method_10_code
def yX2_readBody : MethodName := ⟨RX2, "readBody", "(I)V"⟩
abbrev cX2_reachTargets : ByteArray := prog_4_method_11_code
def yX2_reachTargets : MethodName := ⟨RX2, "reachTargets", "()V"⟩
abbrev cX2_verdictOfCalls : ByteArray := prog_4_method_12_code
def yX2_verdictOfCalls : MethodName := ⟨RX2, "verdictOfCalls", "(I)I"⟩
abbrev cX2_judge : ByteArray := prog_4_method_13_code
def yX2_judge : MethodName := ⟨RX2, "judge", "(I)V"⟩
abbrev cX2_waysOut : ByteArray := prog_4_method_14_code
def yX2_waysOut : MethodName := ⟨RX2, "waysOut", "(I)I"⟩
abbrev cX2_holders : ByteArray := prog_4_method_15_code
def yX2_holders : MethodName := ⟨RX2, "holders", "(II)I"⟩
def RX3 : String := "CallShaper"
def TX3 : u_T := fun k => match k with
  | 0 => ("CallShaper", "program", "LCallShaper$Program;", true)
  | 1 => ("CallShaper", "shaping", "LCallShaper$Shaping;", true)
  | _ => ("CallShaper", "machine", "LCallShaper$Machine;", true)
def tyX3 : Nat → FieldType := fun k => match k with
  | 0 => .object "CallShaper$Program"
  | 1 => .object "CallShaper$Shaping"
  | _ => .object "CallShaper$Machine"
abbrev wsX30 : List Cond := u_ws RX3 TX3 3
theorem nmX3 : ∀ a, a < 3 → ∀ b, b < 3 → a ≠ b → (TX3 a).2.1 ≠ (TX3 b).2.1 := by decide +kernel
theorem tyX3_ok : ∀ k, k < 3 → parseFieldDescriptor (TX3 k).2.2.1 = some (tyX3 k) := by decide +kernel
abbrev cX3_init : ByteArray := prog_1_method_1_code
def yX3_init : MethodName := ⟨RX3, "<init>", "()V"⟩
abbrev cX3_type : ByteArray := prog_1_method_2_code
def yX3_type : MethodName := ⟨RX3, "type", "(I)I"⟩
abbrev cX3_operation : ByteArray := prog_1_method_3_code
def yX3_operation : MethodName := ⟨RX3, "operation", "(IIIIII)I"⟩
abbrev cX3_strip : ByteArray := prog_1_method_4_code
def yX3_strip : MethodName := ⟨RX3, "strip", "(II)I"⟩
abbrev cX3_shape : ByteArray := prog_1_method_5_code
def yX3_shape : MethodName := ⟨RX3, "shape", "()I"⟩
abbrev cX3_reach : ByteArray := prog_1_method_6_code
def yX3_reach : MethodName := ⟨RX3, "reach", "()I"⟩
abbrev cX3_site : ByteArray := prog_1_method_7_code
def yX3_site : MethodName := ⟨RX3, "site", "(III)I"⟩
abbrev cX3_run : ByteArray := prog_1_method_8_code
def yX3_run : MethodName := ⟨RX3, "run", "(ZI)I"⟩
abbrev cX3_count : ByteArray := prog_1_method_9_code
def yX3_count : MethodName := ⟨RX3, "count", "(I)I"⟩
abbrev cX3_out : ByteArray := prog_1_method_10_code
def yX3_out : MethodName := ⟨RX3, "out", "(I)I"⟩
def RX4 : String := "CallShaperModel"
def TX4 : u_T := fun k => match k with
  | 0 => ("CallShaperModel", "thrown", "I", false)
  | 1 => ("CallShaperModel", "types", "I", false)
  | 2 => ("CallShaperModel", "parent", "[I", true)
  | 3 => ("CallShaperModel", "many", "[I", true)
  | 4 => ("CallShaperModel", "code", "[I", true)
  | 5 => ("CallShaperModel", "made", "[Z", true)
  | 6 => ("CallShaperModel", "reached", "[Z", true)
  | 7 => ("CallShaperModel", "changed", "[Z", true)
  | 8 => ("CallShaperModel", "sites", "[I", true)
  | 9 => ("CallShaperModel", "holder", "[Z", true)
  | 10 => ("CallShaperModel", "objects", "I", false)
  | 11 => ("CallShaperModel", "room", "I", false)
  | 12 => ("CallShaperModel", "classOf", "[I", true)
  | 13 => ("CallShaperModel", "fieldIs", "[Z", true)
  | 14 => ("CallShaperModel", "field", "[I", true)
  | 15 => ("CallShaperModel", "frames", "I", false)
  | 16 => ("CallShaperModel", "body", "[I", true)
  | 17 => ("CallShaperModel", "place", "[I", true)
  | 18 => ("CallShaperModel", "wants", "[I", true)
  | 19 => ("CallShaperModel", "is", "[Z", true)
  | 20 => ("CallShaperModel", "value", "[I", true)
  | 21 => ("CallShaperModel", "outs", "[I", true)
  | _ => ("CallShaperModel", "counts", "[I", true)
def tyX4 : Nat → FieldType := fun k => match k with
  | 0 => .int
  | 1 => .int
  | 2 => .array .int
  | 3 => .array .int
  | 4 => .array .int
  | 5 => .array .boolean
  | 6 => .array .boolean
  | 7 => .array .boolean
  | 8 => .array .int
  | 9 => .array .boolean
  | 10 => .int
  | 11 => .int
  | 12 => .array .int
  | 13 => .array .boolean
  | 14 => .array .int
  | 15 => .int
  | 16 => .array .int
  | 17 => .array .int
  | 18 => .array .int
  | 19 => .array .boolean
  | 20 => .array .int
  | 21 => .array .int
  | _ => .array .int
abbrev wsX40 : List Cond := u_ws RX4 TX4 23
theorem nmX4 : ∀ a, a < 23 → ∀ b, b < 23 → a ≠ b → (TX4 a).2.1 ≠ (TX4 b).2.1 := by decide +kernel
theorem tyX4_ok : ∀ k, k < 23 → parseFieldDescriptor (TX4 k).2.2.1 = some (tyX4 k) := by decide +kernel
abbrev cX4_init : ByteArray := prog_6_method_1_code
def yX4_init : MethodName := ⟨RX4, "<init>", "()V"⟩
abbrev cX4_thrown : ByteArray := prog_6_method_2_code
def yX4_thrown : MethodName := ⟨RX4, "thrown", "()I"⟩
abbrev cX4_fails : ByteArray := prog_6_method_3_code
def yX4_fails : MethodName := ⟨RX4, "fails", "(ZZ)Z"⟩
abbrev cX4_outside : ByteArray := prog_6_method_4_code
def yX4_outside : MethodName := ⟨RX4, "outside", "(III)Z"⟩
abbrev cX4_type : ByteArray := prog_6_method_5_code
def yX4_type : MethodName := ⟨RX4, "type", "(I)I"⟩
abbrev cX4_isRegister : ByteArray := prog_6_method_6_code
def yX4_isRegister : MethodName := ⟨RX4, "isRegister", "(I)Z"⟩
abbrev cX4_isField : ByteArray := prog_6_method_7_code
def yX4_isField : MethodName := ⟨RX4, "isField", "(I)Z"⟩
abbrev cX4_isGood : ByteArray := prog_6_method_8_code
def yX4_isGood : MethodName := ⟨RX4, "isGood", "(IIII)Z"⟩
abbrev cX4_isBody : ByteArray := prog_6_method_9_code
def yX4_isBody : MethodName := ⟨RX4, "isBody", "(II)Z"⟩
abbrev cX4_operation : ByteArray := prog_6_method_10_code
def yX4_operation : MethodName := ⟨RX4, "operation", "(IIIIII)I"⟩
abbrev cX4_strip : ByteArray := prog_6_method_11_code
def yX4_strip : MethodName := ⟨RX4, "strip", "(II)I"⟩
abbrev cX4_target : ByteArray := prog_6_method_12_code
def yX4_target : MethodName := ⟨RX4, "target", "(II)I"⟩
abbrev cX4_at : ByteArray := prog_6_method_13_code
def yX4_at : MethodName := ⟨RX4, "at", "(III)I"⟩
abbrev cX4_reachAll : ByteArray := prog_6_method_14_code
def yX4_reachAll : MethodName := ⟨RX4, "reachAll", "(I)Z"⟩
abbrev cX4_grows : ByteArray := prog_6_method_15_code
def yX4_grows : MethodName := ⟨RX4, "grows", "(I)Z"⟩
abbrev cX4_call : ByteArray := prog_6_method_16_code
def yX4_call : MethodName := ⟨RX4, "call", "(I)I"⟩
abbrev cX4_stays : ByteArray := prog_6_method_17_code
def yX4_stays : MethodName := ⟨RX4, "stays", "(II)Z"⟩
abbrev cX4_shape : ByteArray := prog_6_method_18_code
def yX4_shape : MethodName := ⟨RX4, "shape", "()I"⟩
abbrev cX4_reach : ByteArray := prog_6_method_19_code
def yX4_reach : MethodName := ⟨RX4, "reach", "()I"⟩
abbrev cX4_siteOf : ByteArray := prog_6_method_20_code
def yX4_siteOf : MethodName := ⟨RX4, "siteOf", "(II)I"⟩
abbrev cX4_site : ByteArray := prog_6_method_21_code
def yX4_site : MethodName := ⟨RX4, "site", "(III)I"⟩
abbrev cX4_makes : ByteArray := prog_6_method_22_code
def yX4_makes : MethodName := ⟨RX4, "makes", "(IZ)I"⟩
abbrev cX4_enters : ByteArray := prog_6_method_23_code
def yX4_enters : MethodName := ⟨RX4, "enters", "(IIZII)V"⟩
abbrev cX4_answers : ByteArray := prog_6_method_24_code
def yX4_answers : MethodName := ⟨RX4, "answers", "(ZI)V"⟩
abbrev cX4_set : ByteArray := prog_6_method_25_code
def yX4_set : MethodName := ⟨RX4, "set", "(IZI)V"⟩
abbrev cX4_calls : ByteArray := prog_6_method_26_code
def yX4_calls : MethodName := ⟨RX4, "calls", "(IIIII)I"⟩
abbrev cX4_puts : ByteArray := prog_6_method_27_code
def yX4_puts : MethodName := ⟨RX4, "puts", "(I)I"⟩
abbrev cX4_isAnother : ByteArray := prog_6_method_28_code
def yX4_isAnother : MethodName := ⟨RX4, "isAnother", "(II)Z"⟩
abbrev cX4_news : ByteArray := prog_6_method_29_code
def yX4_news : MethodName := ⟨RX4, "news", "(III)I"⟩
abbrev cX4_sums : ByteArray := prog_6_method_30_code
def yX4_sums : MethodName := ⟨RX4, "sums", "(IZIII)I"⟩
abbrev cX4_does : ByteArray := prog_6_method_31_code
def yX4_does : MethodName := ⟨RX4, "does", "(Z)I"⟩
abbrev cX4_run : ByteArray := prog_6_method_32_code
def yX4_run : MethodName := ⟨RX4, "run", "(ZI)I"⟩
abbrev cX4_count : ByteArray := prog_6_method_33_code
def yX4_count : MethodName := ⟨RX4, "count", "(I)I"⟩
abbrev cX4_out : ByteArray := prog_6_method_34_code
def yX4_out : MethodName := ⟨RX4, "out", "(I)I"⟩
def RJ6 : String := "java/lang/Integer"
def TJ6 : u_T := fun k => match k with
  | _ => ("", "", "", false)
def tyJ6 : Nat → FieldType := fun k => match k with
  | _ => .int
abbrev wsJ60 : List Cond := u_ws RJ6 TJ6 0
theorem nmJ6 : ∀ a, a < 0 → ∀ b, b < 0 → a ≠ b → (TJ6 a).2.1 ≠ (TJ6 b).2.1 := by decide +kernel
theorem tyJ6_ok : ∀ k, k < 0 → parseFieldDescriptor (TJ6 k).2.2.1 = some (tyJ6 k) := by decide +kernel
abbrev cJ6_bitCount_0f7a4 : ByteArray := prog_12_method_49_code
def yJ6_bitCount_0f7a4 : MethodName := ⟨RJ6, "bitCount", "(I)I"⟩
def RJ0 : String := "java/lang/String"
def TJ0 : u_T := fun k => match k with
  | 0 => ("java/lang/String", "value", "[B", true)
  | 1 => ("java/lang/String", "coder", "B", true)
  | 2 => ("java/lang/String", "hash", "I", false)
  | _ => ("java/lang/String", "hashIsZero", "Z", false)
def tyJ0 : Nat → FieldType := fun k => match k with
  | 0 => .array .byte
  | 1 => .byte
  | 2 => .int
  | _ => .boolean
abbrev wsJ00 : List Cond := u_ws RJ0 TJ0 4
theorem nmJ0 : ∀ a, a < 4 → ∀ b, b < 4 → a ≠ b → (TJ0 a).2.1 ≠ (TJ0 b).2.1 := by decide +kernel
theorem tyJ0_ok : ∀ k, k < 4 → parseFieldDescriptor (TJ0 k).2.2.1 = some (tyJ0 k) := by decide +kernel
def RJ4 : String := "java/lang/StringBuilder"
def TJ4 : u_T := fun k => match k with
  | 0 => ("java/lang/AbstractStringBuilder", "value", "[B", false)
  | 1 => ("java/lang/AbstractStringBuilder", "coder", "B", false)
  | 2 => ("java/lang/AbstractStringBuilder", "maybeLatin1", "Z", false)
  | _ => ("java/lang/AbstractStringBuilder", "count", "I", false)
def tyJ4 : Nat → FieldType := fun k => match k with
  | 0 => .array .byte
  | 1 => .byte
  | 2 => .boolean
  | _ => .int
abbrev wsJ40 : List Cond := u_ws RJ4 TJ4 4
theorem nmJ4 : ∀ a, a < 4 → ∀ b, b < 4 → a ≠ b → (TJ4 a).2.1 ≠ (TJ4 b).2.1 := by decide +kernel
theorem tyJ4_ok : ∀ k, k < 4 → parseFieldDescriptor (TJ4 k).2.2.1 = some (tyJ4 k) := by decide +kernel
def RJ7 : String := "java/util/Arrays"
def TJ7 : u_T := fun k => match k with
  | _ => ("", "", "", false)
def tyJ7 : Nat → FieldType := fun k => match k with
  | _ => .int
abbrev wsJ70 : List Cond := u_ws RJ7 TJ7 0
theorem nmJ7 : ∀ a, a < 0 → ∀ b, b < 0 → a ≠ b → (TJ7 a).2.1 ≠ (TJ7 b).2.1 := by decide +kernel
theorem tyJ7_ok : ∀ k, k < 0 → parseFieldDescriptor (TJ7 k).2.2.1 = some (tyJ7 k) := by decide +kernel
abbrev cJ7_rangeCheck_23922 : ByteArray := prog_21_method_30_code
def yJ7_rangeCheck_23922 : MethodName := ⟨RJ7, "rangeCheck", "(III)V"⟩
abbrev cJ7_fill_bad5a : ByteArray := prog_21_method_102_code
def yJ7_fill_bad5a : MethodName := ⟨RJ7, "fill", "([JIIJ)V"⟩
abbrev cJ7_fill_53178 : ByteArray := prog_21_method_103_code
def yJ7_fill_53178 : MethodName := ⟨RJ7, "fill", "([II)V"⟩
abbrev cJ7_fill_fda19 : ByteArray := prog_21_method_104_code
def yJ7_fill_fda19 : MethodName := ⟨RJ7, "fill", "([IIII)V"⟩
def RL : String := "CallShaperLaw"
abbrev cL_type : ByteArray := method_3_code
def yL_type : MethodName := ⟨RL, "type", "(LCallShaper;I[J)I"⟩
abbrev cL_operation : ByteArray := method_4_code
def yL_operation : MethodName := ⟨RL, "operation", "(LCallShaper;IIIIII[J)I"⟩
abbrev cL_strip : ByteArray := method_5_code
def yL_strip : MethodName := ⟨RL, "strip", "(LCallShaper;II[J)I"⟩
abbrev cL_site : ByteArray := method_6_code
def yL_site : MethodName := ⟨RL, "site", "(LCallShaper;III[J)I"⟩
abbrev cL_run : ByteArray := method_7_code
def yL_run : MethodName := ⟨RL, "run", "(LCallShaper;ZI[J)I"⟩
abbrev cL_count : ByteArray := method_8_code
def yL_count : MethodName := ⟨RL, "count", "(LCallShaper;I[J)I"⟩
abbrev cL_out : ByteArray := method_9_code
def yL_out : MethodName := ⟨RL, "out", "(LCallShaper;I[J)I"⟩
abbrev cL_law : ByteArray := code
def yL_law : MethodName := ⟨RL, "law", "([I)Z"⟩
abbrev vwCl : List vw_C := [(RJ0, TJ0, 4), (RJ4, TJ4, 4), (RX0, TX0, 15), (RX1, TX1, 7), (RX2, TX2, 6), (RX3, TX3, 3), (RX4, TX4, 23)]
end
section
/-! the words that every method takes: the tables' good ones -/
def G : List Cond := lw_tbl.filter goodWord
theorem mG {w : Cond} (h : w ∈ lw_tbl) (g : goodWord w = true) : w ∈ G := List.mem_filter.mpr ⟨h, g⟩
theorem G_good {w : Cond} (h : w ∈ G) : goodWord w = true := (List.mem_filter.mp h).2
theorem gdIn {x0 : Cond} {ws : List Cond} (h : ∀ w ∈ ws, w ∈ G) : GoodIn (x0 :: G) ws := fun w hw => ⟨List.mem_cons_of_mem _ (h w hw), good_of_word (G_good (h w hw))⟩
/-- what a walk stands on: the machine, the code, its class, the words, the classes' tables -/
abbrev Cx (p : Program) (s : State) (m : MethodId) (args : Array Value) (c : Code) (cc : ByteArray) (nL : Nat) (own : String) (x0 : Cond) (D : va_G) (tys : List (ClassId × FieldType)) : Prop :=
  CallFix p m c cc nL s args (x0 :: G) own ∧ va_K D vwCl tys s
/-- how a method ends: its answer, its world, nothing else changed -/
def Qcm (D : va_G) (w0 : va_W) (sz : Nat) (r : Option Value) (w1 : va_W) : Array Value → State → Outcome → State → Prop := fun _ st o t => o = .returned r ∧ va_P D vwCl w1 t.heap ∧ va_F (va_A w0 sz) st t
/-- a method that makes no cell: from the world w0 with the arguments av it answers r, and the world is w1 -/
def CM (l : Launch) (D : va_G) (tys : List (ClassId × FieldType)) (y : MethodName) (cd : ByteArray) (nL : Nat) (ret : Option FieldType) (lev : Nat) (av : List Value) (w0 : va_W) (r : Option Value) (w1 : va_W) : Prop :=
  ∀ sz : Nat, Met l y (.code y cd nL ret :: G) { frames := lev, cells := 0, slots := 0, locals := 40 * lev }
    (va_Pc av (fun U => U.heap.size = sz ∧ va_P D vwCl w0 U.heap ∧ va_K D vwCl tys U ∧ va_D (fun _ => True) w0)) (Qcm D w0 sz r w1) 0 0 (va_A w0 sz)
theorem CM.of {l : Launch} {D : va_G} {tys : List (ClassId × FieldType)} {y : MethodName} {cd : ByteArray} {nL : Nat} {ret : Option FieldType} {lev : Nat} {av : List Value} {w0 : va_W} {r : Option Value} {w1 : va_W} (hy : plainName y.cls = true) (hn : (lg_sl av).length ≤ nL)
    (body : ∀ (p : Program) (e : Env) (s : State) (m : MethodId) (below : List Frame) (meth : Method) (c : Code) (A : Nat → Prop) (ls : Array Slot), Cx p s m av.toArray c cd nL y.cls (.code y cd nL ret) D tys → meth.sig.returnType = ret → meth.locks = false → va_P D vwCl w0 s.heap → va_D A w0 → A = va_A w0 s.heap.size → (∀ q : Nat, s.heap.size ≤ q → A q) → va_S A s.heap s.heap [] → lv_has ls nL (lv_args 0 av) →
      W p l e { frames := lev, cells := 0, slots := 0, locals := 40 * lev } s m av.toArray below meth c s.heap [] 0 0 (MQ below (Qcm D w0 s.heap.size r w1) av.toArray s 0 0 A) (F0 m 0 ls [])) : CM l D tys y cd nL ret lev av w0 r w1 := by
  intro sz
  refine Met.ofW (cc := cd) (maxL := nL) (ret := ret) hy rfl ?_
  intro p e s m args below meth c s₁ B hml hv
  obtain ⟨rfl, hsz, hP, hK, hD0⟩ := hv
  subst hsz
  have hl := lv_entry av (n := nL) hn
  rw [lg_entry_eq]
  exact body p e s m below meth c _ _ ⟨⟨B.exec, B.bytes, hml, findClass_of_methodNamed B.named, atoms_spec (ws := .code y cd nL ret :: G) B.pre⟩, hK⟩ B.returns B.notSynchronized hP hD0.self rfl (fun q h => Or.inr h) va_S.rf hl
section CMR
variable {p : Program} {l : Launch} {e : Env} {R : Room} {s : State} {m : MethodId} {args : Array Value} {below : List Frame} {meth : Method} {c : Code} {H : Heap} {locs : List Loc} {cells slots : Nat} {Q : State → Prop}
variable {cc cd : ByteArray} {nL nLy n idx pc : Nat} {own C : String} {x0 : Cond} {D : va_G} {tys : List (ClassId × FieldType)} {w0 w1 : va_W} {r : Option Value} {A : Nat → Prop} {ls : Array Slot} {rest : List Value} {y : MethodName} {ret : Option FieldType} {lev : Nat} {H0 : Heap} {st0 : List Value}
theorem CM.reti {v : Int32} (E : Cx p s m args c cc nL own x0 D tys) (hr : meth.sig.returnType = some .int) (hlocks : meth.locks = false) (hA : A = va_A w0 s.heap.size) (hP : va_P D vwCl w1 H) (hS : va_S A s.heap H locs) (er : r = some (.int v)) (hd : decode cc pc = .ok (.ireturn, 1)) : W p l e R s m args below meth c H locs cells slots (MQ below (Qcm D w0 s.heap.size r w1) args s cells slots A) (F0 m pc ls [.int v]) := by
  subst hA; subst er
  exact W.iret E.1.1 E.1.2.1 hr (fun t ht hW => ⟨rfl, by rw [ht]; exact hP, hS.F ht⟩) hS.2.2 hd hlocks
theorem CM.retz {v : Int32} (E : Cx p s m args c cc nL own x0 D tys) (hr : meth.sig.returnType = some .boolean) (hlocks : meth.locks = false) (hA : A = va_A w0 s.heap.size) (hP : va_P D vwCl w1 H) (hS : va_S A s.heap H locs) (er : r = some (.int v)) (hn : narrow .boolean (.int v) = .int v) (hd : decode cc pc = .ok (.ireturn, 1)) : W p l e R s m args below meth c H locs cells slots (MQ below (Qcm D w0 s.heap.size r w1) args s cells slots A) (F0 m pc ls [.int v]) := by
  subst hA; subst er
  exact W.zret E.1.1 E.1.2.1 hr hn (fun t ht hW => ⟨rfl, by rw [ht]; exact hP, hS.F ht⟩) hS.2.2 hd hlocks
theorem CM.retl {v : Int64} (E : Cx p s m args c cc nL own x0 D tys) (hr : meth.sig.returnType = some .long) (hlocks : meth.locks = false) (hA : A = va_A w0 s.heap.size) (hP : va_P D vwCl w1 H) (hS : va_S A s.heap H locs) (er : r = some (.long v)) (hd : decode cc pc = .ok (.lreturn, 1)) : W p l e R s m args below meth c H locs cells slots (MQ below (Qcm D w0 s.heap.size r w1) args s cells slots A) (F0 m pc ls [.long v]) := by
  subst hA; subst er
  exact W.lret E.1.1 E.1.2.1 hr (fun t ht hW => ⟨rfl, by rw [ht]; exact hP, hS.F ht⟩) hS.2.2 hd hlocks
theorem CM.retv (E : Cx p s m args c cc nL own x0 D tys) (hr : meth.sig.returnType = none) (hlocks : meth.locks = false) (hA : A = va_A w0 s.heap.size) (hP : va_P D vwCl w1 H) (hS : va_S A s.heap H locs) (er : r = none) (hd : decode cc pc = .ok (.return_, 1)) : W p l e R s m args below meth c H locs cells slots (MQ below (Qcm D w0 s.heap.size r w1) args s cells slots A) (F0 m pc ls []) := by
  subst hA; subst er
  exact W.vret E.1.1 E.1.2.1 hr (fun t ht hW => ⟨rfl, by rw [ht]; exact hP, hS.F ht⟩) hS.2.2 hd hlocks
theorem CM.go {a : Array Value} (hr : va_Run p l e R s m args below meth c H locs cells slots 0 0 (F0 m pc ls st0) rest (Qcm D w0 H.size r w1 a) (va_A w0 H.size)) (hS : va_S A H0 H locs) (hF : ∀ q, va_A w0 H.size q → A q)
    (kk : ∀ (H1 : Heap) (locs1 : List Loc), va_P D vwCl w1 H1 → va_S A H0 H1 locs1 → W p l e R s m args below meth c H1 locs1 cells slots Q (F0 m (pc + 3) ls (r.toList ++ rest))) : W p l e R s m args below meth c H locs cells slots Q (F0 m pc ls st0) := by
  intro T hT X
  obtain ⟨v, st₀, t, T', L, h0, X', hL, e1, e2, ⟨hv, hp, hz, hk⟩, st⟩ := hr T hT X
  cases hv
  rw [h0] at hz hk
  obtain ⟨t2, a1, b1⟩ := kk T'.heap (locs ++ L) (by rw [e1]; exact hp)
    ⟨Nat.le_trans hS.1 (by rw [e1]; exact hz), fun q h1 h2 => by rw [e1, hk q (Nat.lt_of_lt_of_le h1 hS.1) (fun z => h2 (hF q z))]; exact hS.2.1 q h1 h2, fun q hq => by
      rcases List.mem_append.mp hq with h | h
      · exact hS.2.2 q h
      · exact hF _ (hL q h)⟩ T' rfl X'
  exact ⟨t2, st t2 a1, b1⟩
theorem CM.pre {av : List Value} (sz : Nat) : FrameBlind (va_Pc av (fun U => U.heap.size = sz ∧ va_P D vwCl w0 U.heap ∧ va_K D vwCl tys U ∧ va_D (fun _ => True) w0)) := fun a U g mk q => by
  obtain ⟨q0, q1, qP, qK, qD⟩ := q
  exact ⟨q0, q1, qP, va_K.moved (u := U) (U := U.calling g mk a) (Vm.Alike.refl U.vm) qK, qD⟩
theorem CM.fr (hD : va_D A w0) (hS : va_S A H0 H locs) (hA : ∀ q : Nat, H0.size ≤ q → A q) : ∀ q, va_A w0 H.size q → A q := fun q h => by
  rcases h with ⟨k, e, h⟩ | h
  · exact hD.2 k (q, e) h
  · exact hA q (Nat.le_trans hS.1 h)
theorem CM.callV {b : Nat} {As : List Value} {T : u_T} {N ci : Nat} {fs : List Value} (E : Cx p s m args c cc nL own x0 D tys) (hM : CM l D tys y cd nLy ret lev (.ref b :: As) w0 r w1)
    (hl : Cond.methodLink own idx y ∈ G) (hi : Cond.instanceMethod y ∈ G) (hse : Cond.selects C y y ∈ G) (hin : Cond.initialized C ∈ G) (hco : Cond.code y cd nLy ret ∈ G)
    (hd0 : y.cls = C ∧ y.cls ≠ "java/lang/invoke/MethodHandle" ∧ y.cls ≠ "java/lang/invoke/VarHandle" ∧ (parseMethodDescriptor y.desc).map (fun d => d.parameters.length) = some n)
    (hR : lev + 1 ≤ R.frames ∧ 8 + (nLy + 11) + 40 * lev ≤ R.locals) (hcs : cells ≤ R.cells ∧ slots ≤ R.slots) (q0 : Nat) (he : w0[q0]? = some (b, .inr (ci, fs))) (hc : vwCl[ci]? = some (C, T, N))
    (hP : va_P D vwCl w0 H) (hD : va_D A w0) (hS : va_S A H0 H locs) (hA : ∀ q : Nat, H0.size ≤ q → A q) (hn : As.length = n) (hsz : ls.size = nL) (hw : (rest.map fun v => v.category).sum ≤ 8) (hdg : decode cc pc = .ok (.invokevirtual idx, 3)) (hst : st0 = As.reverse ++ .ref b :: rest)
    (kk : ∀ (H1 : Heap) (locs1 : List Loc), va_P D vwCl w1 H1 → va_S A H0 H1 locs1 → W p l e R s m args below meth c H1 locs1 cells slots Q (F0 m (pc + 3) ls (r.toList ++ rest))) : W p l e R s m args below meth c H locs cells slots Q (F0 m pc ls st0) := by
  refine CM.go (va_runV (As := As) (rest := rest) E.1 (hM H.size) (cwV n E.1.2.2.2.2 (gdIn ?_) rfl rfl rfl hd0 hR) ⟨CM.pre _, va_recv E.2 hP hc he, fun U hU hW => ⟨rfl, by rw [hU], by rw [hU]; exact hP, va_K.moved hW.alike E.2, hD.weaken (fun _ _ _ _ => trivial)⟩⟩ rfl hn hsz hst (lv_room hw) hdg hcs) hS (CM.fr hD hS hA) kk
  intro w hw
  simp only [wsV, List.mem_append, List.mem_cons, List.not_mem_nil, or_false] at hw
  rcases hw with (rfl | rfl | rfl | rfl) | rfl | hw
  · exact hl
  · exact hi
  · exact hse
  · exact hin
  · exact hco
  · exact hw
theorem CM.callS {As : List Value} (E : Cx p s m args c cc nL own x0 D tys) (hM : CM l D tys y cd nLy ret lev As w0 r w1)
    (hl : Cond.methodLink own idx y ∈ G) (hs : Cond.static y ∈ G) (hin : Cond.initialized y.cls ∈ G) (hco : Cond.code y cd nLy ret ∈ G)
    (hd0 : y.cls ≠ "java/lang/invoke/MethodHandle" ∧ y.cls ≠ "java/lang/invoke/VarHandle" ∧ (parseMethodDescriptor y.desc).map (fun d => d.parameters.length) = some n)
    (hR : lev + 1 ≤ R.frames ∧ 8 + (nLy + 11) + 40 * lev ≤ R.locals) (hcs : cells ≤ R.cells ∧ slots ≤ R.slots)
    (hP : va_P D vwCl w0 H) (hD : va_D A w0) (hS : va_S A H0 H locs) (hA : ∀ q : Nat, H0.size ≤ q → A q) (hn : As.length = n) (hsz : ls.size = nL) (hw : (rest.map fun v => v.category).sum ≤ 8) (hdg : decode cc pc = .ok (.invokestatic idx, 3)) (hst : st0 = As.reverse ++ rest)
    (kk : ∀ (H1 : Heap) (locs1 : List Loc), va_P D vwCl w1 H1 → va_S A H0 H1 locs1 → W p l e R s m args below meth c H1 locs1 cells slots Q (F0 m (pc + 3) ls (r.toList ++ rest))) : W p l e R s m args below meth c H locs cells slots Q (F0 m pc ls st0) := by
  refine CM.go (va_runS (As := As) (rest := rest) E.1 (hM H.size) (va_cwS n E.1.2.2.2.2 (gdIn ?_) rfl rfl rfl hd0 hR) ⟨CM.pre _, fun U hU hW => ⟨rfl, by rw [hU], by rw [hU]; exact hP, va_K.moved hW.alike E.2, hD.weaken (fun _ _ _ _ => trivial)⟩⟩ rfl hn hsz hst (lv_room hw) hdg hcs) hS (CM.fr hD hS hA) kk
  intro w hw
  simp only [va_wsS, List.mem_append, List.mem_cons, List.not_mem_nil, or_false] at hw
  rcases hw with (rfl | rfl | rfl) | rfl | hw
  · exact hl
  · exact hs
  · exact hin
  · exact hco
  · exact hw
theorem CM.get {a ci N : Nat} {ref : String} {T : u_T} {fs : List Value} {v : Value} (E : Cx p s m args c cc nL own x0 D tys) (hP : va_P D vwCl w0 H) (q0 : Nat) (he : w0[q0]? = some (a, .inr (ci, fs))) (hc : vwCl[ci]? = some (C, T, N)) (hin : ∀ w ∈ u_ws C T N, w ∈ G) (k : Nat) (hk : k < N) (hl : Cond.fieldLink own idx (T k).1 (T k).2.1 (T k).2.2.1 ∈ G) (hv : fs[k]? = some v) (hd : decode cc pc = .ok (.getfield idx, 3))
    (kk : W p l e R s m args below meth c H locs cells slots Q (F0 m (pc + 3) ls (v :: rest))) : W p l e R s m args below meth c H locs cells slots Q (F0 m pc ls (.ref a :: rest)) :=
  va_get (T := T) (N := N) E.1.1 E.1.2.1 E.1.2.2.2.2 (fun w h => List.mem_cons_of_mem _ (hin w h)) E.1.2.2.2.1 E.2 hP q0 he hc k hk (E.1.2.2.2.2 _ (List.mem_cons_of_mem _ hl)) (fun _ h9 => h9) hv hd kk
theorem CM.put {a ci N : Nat} {T : u_T} {fs : List Value} {v : Value} {ty : FieldType} (E : Cx p s m args c cc nL own x0 D tys) (hP : va_P D vwCl w0 H) (hD : va_D A w0) (hS : va_S A H0 H locs) (q0 : Nat) (he : w0[q0]? = some (a, .inr (ci, fs))) (hc : vwCl[ci]? = some (C, T, N)) (hin : ∀ w ∈ u_ws C T N, w ∈ G) (ty0 : Nat → FieldType) (hty : ∀ k, k < N → parseFieldDescriptor (T k).2.2.1 = some (ty0 k)) (hnm : ∀ a, a < N → ∀ b, b < N → a ≠ b → (T a).2.1 ≠ (T b).2.1) (k : Nat) (hk : k < N) (hl : Cond.fieldLink own idx (T k).1 (T k).2.1 (T k).2.2.1 ∈ G) (hfin : (T k).2.2.2 = false) (hdt : parseFieldDescriptor (T k).2.2.1 = some ty) (hn : narrow ty v = v) (hfit : fits ty v = true) (hl2 : k < fs.length) (he1 : w0.set q0 (a, .inr (ci, fs.set k v)) = w1) (hd : decode cc pc = .ok (.putfield idx, 3))
    (kk : ∀ (H1 : Heap) (locs1 : List Loc), va_P D vwCl w1 H1 → va_D A w1 → va_S A H0 H1 locs1 → W p l e R s m args below meth c H1 locs1 cells slots Q (F0 m (pc + 3) ls rest)) : W p l e R s m args below meth c H locs cells slots Q (F0 m pc ls (v :: .ref a :: rest)) := by
  subst he1
  exact va_put (T := T) (N := N) E.1.1 E.1.2.1 E.1.2.2.2.2 (fun w h => List.mem_cons_of_mem _ (hin w h)) ty0 hty hnm E.1.2.2.2.1 E.2 hP hD hS q0 he hc k hk (E.1.2.2.2.2 _ (List.mem_cons_of_mem _ hl)) (fun _ h9 => h9) hfin hdt hn hfit hl2 hd kk
end CMR
end
section
theorem tb1 {w : Cond} (h : w ∈ tables_1_1) : w ∈ lw_tbl := List.mem_append_right _ (List.mem_append_left _ h)
theorem tb2 {w : Cond} (h : w ∈ tables_1_2) : w ∈ lw_tbl := List.mem_append_right _ (List.mem_append_right _ (List.mem_append_left _ h))
theorem tb3 {w : Cond} (h : w ∈ tables_1_3) : w ∈ lw_tbl := List.mem_append_right _ (List.mem_append_right _ (List.mem_append_right _ (List.mem_append_left _ h)))
theorem tb4 {w : Cond} (h : w ∈ tables_1_4) : w ∈ lw_tbl := List.mem_append_right _ (List.mem_append_right _ (List.mem_append_right _ (List.mem_append_right _ (List.mem_append_left _ h))))
theorem tb5 {w : Cond} (h : w ∈ tables_1_5) : w ∈ lw_tbl := List.mem_append_right _ (List.mem_append_right _ (List.mem_append_right _ (List.mem_append_right _ (List.mem_append_right _ h))))
theorem tbs {q : MethodName × Nat} (h : q ∈ lw_privs) : Cond.selects q.1.cls q.1 q.1 ∈ lw_tbl := List.mem_append_left _ (List.mem_map.mpr ⟨q, h, rfl⟩)
theorem pv1 {q : MethodName × Nat} (h : q ∈ lw_privs_1) : q ∈ lw_privs := (List.mem_append_left _ h)
theorem pv2 {q : MethodName × Nat} (h : q ∈ lw_privs_2) : q ∈ lw_privs := (List.mem_append_right _ (List.mem_append_left _ h))
theorem pv3 {q : MethodName × Nat} (h : q ∈ lw_privs_3) : q ∈ lw_privs := (List.mem_append_right _ (List.mem_append_right _ h))
theorem ini_L : Cond.initialized RL ∈ G := mG (tb1 (List.mem_of_getElem? (i := 0) rfl)) rfl
theorem ini_X3 : Cond.initialized RX3 ∈ G := mG (tb1 (List.mem_of_getElem? (i := 1) rfl)) rfl
theorem ini_X1 : Cond.initialized RX1 ∈ G := mG (tb1 (List.mem_of_getElem? (i := 2) rfl)) rfl
theorem ini_J7 : Cond.initialized RJ7 ∈ G := mG (tb1 (List.mem_of_getElem? (i := 3) rfl)) rfl
theorem ini_X2 : Cond.initialized RX2 ∈ G := mG (tb1 (List.mem_of_getElem? (i := 4) rfl)) rfl
theorem ini_X0 : Cond.initialized RX0 ∈ G := mG (tb1 (List.mem_of_getElem? (i := 5) rfl)) rfl
theorem ini_X4 : Cond.initialized RX4 ∈ G := mG (tb1 (List.mem_of_getElem? (i := 6) rfl)) rfl
theorem ini_J9 : Cond.initialized "java/lang/Math" ∈ G := mG (tb1 (List.mem_of_getElem? (i := 17) rfl)) rfl
theorem ini_J6 : Cond.initialized RJ6 ∈ G := mG (tb1 (List.mem_of_getElem? (i := 21) rfl)) rfl
theorem cl_L_8 : Cond.classLink RL 8 "CallShaper" ∈ G := mG (tb1 (List.mem_of_getElem? (i := 23) rfl)) rfl
theorem ib_X3 : Cond.instantiable RX3 3 ∈ G := mG (tb1 (List.mem_of_getElem? (i := 24) rfl)) rfl
theorem ml_L_41 : Cond.methodLink RL 41 yX3_init ∈ G := mG (tb1 (List.mem_of_getElem? (i := 25) rfl)) rfl
theorem im_X3_init : Cond.instanceMethod yX3_init ∈ G := mG (tb1 (List.mem_of_getElem? (i := 26) rfl)) rfl
theorem co_X3_init : Cond.code yX3_init cX3_init 1 none ∈ G := mG (tb1 (List.mem_of_getElem? (i := 27) rfl)) rfl
theorem ml_X3_3 : Cond.methodLink RX3 3 objectInit ∈ G := mG (tb1 (List.mem_of_getElem? (i := 28) rfl)) rfl
theorem im_objInit : Cond.instanceMethod objectInit ∈ G := mG (tb1 (List.mem_of_getElem? (i := 29) rfl)) rfl
theorem co_objInit : Cond.code objectInit ⟨#[0xb1]⟩ 1 none ∈ G := mG (tb1 (List.mem_of_getElem? (i := 30) rfl)) rfl
theorem cl_X3_9 : Cond.classLink RX3 9 "CallShaper$Program" ∈ G := mG (tb1 (List.mem_of_getElem? (i := 31) rfl)) rfl
theorem ib_X1 : Cond.instantiable RX1 7 ∈ G := mG (tb1 (List.mem_of_getElem? (i := 32) rfl)) rfl
theorem ml_X3_11 : Cond.methodLink RX3 11 yX1_init ∈ G := mG (tb1 (List.mem_of_getElem? (i := 33) rfl)) rfl
theorem im_X1_init : Cond.instanceMethod yX1_init ∈ G := mG (tb1 (List.mem_of_getElem? (i := 34) rfl)) rfl
theorem co_X1_init : Cond.code yX1_init cX1_init 1 none ∈ G := mG (tb1 (List.mem_of_getElem? (i := 35) rfl)) rfl
theorem ml_X1_3 : Cond.methodLink RX1 3 objectInit ∈ G := mG (tb1 (List.mem_of_getElem? (i := 36) rfl)) rfl
theorem ml_X1_30 : Cond.methodLink RX1 30 yJ7_fill_53178 ∈ G := mG (tb1 (List.mem_of_getElem? (i := 37) rfl)) rfl
theorem st_J7_fill_53178 : Cond.static yJ7_fill_53178 ∈ G := mG (tb1 (List.mem_of_getElem? (i := 38) rfl)) rfl
theorem co_J7_fill_53178 : Cond.code yJ7_fill_53178 cJ7_fill_53178 4 none ∈ G := mG (tb1 (List.mem_of_getElem? (i := 39) rfl)) rfl
theorem fl_X1_9 : Cond.fieldLink RX1 9 "CallShaper$Program" "parents" "[I" ∈ G := mG (tb1 (List.mem_of_getElem? (i := 40) rfl)) rfl
theorem fl_X1_15 : Cond.fieldLink RX1 15 "CallShaper$Program" "lengths" "[I" ∈ G := mG (tb1 (List.mem_of_getElem? (i := 41) rfl)) rfl
theorem fl_X1_18 : Cond.fieldLink RX1 18 "CallShaper$Program" "kinds" "[I" ∈ G := mG (tb1 (List.mem_of_getElem? (i := 42) rfl)) rfl
theorem fl_X1_21 : Cond.fieldLink RX1 21 "CallShaper$Program" "xs" "[I" ∈ G := mG (tb1 (List.mem_of_getElem? (i := 43) rfl)) rfl
theorem fl_X1_24 : Cond.fieldLink RX1 24 "CallShaper$Program" "ys" "[I" ∈ G := mG (tb1 (List.mem_of_getElem? (i := 44) rfl)) rfl
theorem fl_X1_27 : Cond.fieldLink RX1 27 "CallShaper$Program" "zs" "[I" ∈ G := mG (tb1 (List.mem_of_getElem? (i := 45) rfl)) rfl
theorem fl_X1_36 : Cond.fieldLink RX1 36 "CallShaper$Program" "classes" "I" ∈ G := mG (tb1 (List.mem_of_getElem? (i := 46) rfl)) rfl
theorem ar_int : Cond.arrayClass .int ∈ G := mG (tb1 (List.mem_of_getElem? (i := 62) rfl)) rfl
theorem cl_X3_16 : Cond.classLink RX3 16 "CallShaper$Shaping" ∈ G := mG (tb1 (List.mem_of_getElem? (i := 63) rfl)) rfl
theorem ib_X2 : Cond.instantiable RX2 6 ∈ G := mG (tb1 (List.mem_of_getElem? (i := 64) rfl)) rfl
theorem ml_X3_18 : Cond.methodLink RX3 18 yX2_init ∈ G := mG (tb1 (List.mem_of_getElem? (i := 65) rfl)) rfl
theorem im_X2_init : Cond.instanceMethod yX2_init ∈ G := mG (tb1 (List.mem_of_getElem? (i := 66) rfl)) rfl
theorem co_X2_init : Cond.code yX2_init cX2_init 2 none ∈ G := mG (tb1 (List.mem_of_getElem? (i := 67) rfl)) rfl
theorem ml_X2_3 : Cond.methodLink RX2 3 objectInit ∈ G := mG (tb1 (List.mem_of_getElem? (i := 68) rfl)) rfl
theorem fl_X2_18 : Cond.fieldLink RX2 18 "CallShaper$Shaping" "program" "LCallShaper$Program;" ∈ G := mG (tb1 (List.mem_of_getElem? (i := 69) rfl)) rfl
theorem fl_X2_9 : Cond.fieldLink RX2 9 "CallShaper$Shaping" "verdicts" "[I" ∈ G := mG (tb1 (List.mem_of_getElem? (i := 70) rfl)) rfl
theorem fl_X2_15 : Cond.fieldLink RX2 15 "CallShaper$Shaping" "callVerdicts" "[I" ∈ G := mG (tb1 (List.mem_of_getElem? (i := 71) rfl)) rfl
theorem fl_X2_22 : Cond.fieldLink RX2 22 "CallShaper$Shaping" "made" "I" ∈ G := mG (tb1 (List.mem_of_getElem? (i := 72) rfl)) rfl
theorem fl_X2_26 : Cond.fieldLink RX2 26 "CallShaper$Shaping" "reached" "I" ∈ G := mG (tb1 (List.mem_of_getElem? (i := 73) rfl)) rfl
theorem fl_X2_64 : Cond.fieldLink RX2 64 "CallShaper$Shaping" "called" "I" ∈ G := mG (tb1 (List.mem_of_getElem? (i := 74) rfl)) rfl
theorem cl_X3_25 : Cond.classLink RX3 25 "CallShaper$Machine" ∈ G := mG (tb1 (List.mem_of_getElem? (i := 88) rfl)) rfl
theorem ib_X0 : Cond.instantiable RX0 15 ∈ G := mG (tb1 (List.mem_of_getElem? (i := 89) rfl)) rfl
theorem ml_X3_27 : Cond.methodLink RX3 27 yX0_init ∈ G := mG (tb1 (List.mem_of_getElem? (i := 90) rfl)) rfl
theorem im_X0_init : Cond.instanceMethod yX0_init ∈ G := mG (tb1 (List.mem_of_getElem? (i := 91) rfl)) rfl
theorem co_X0_init : Cond.code yX0_init cX0_init 3 none ∈ G := mG (tb1 (List.mem_of_getElem? (i := 92) rfl)) rfl
theorem ml_X0_3 : Cond.methodLink RX0 3 objectInit ∈ G := mG (tb1 (List.mem_of_getElem? (i := 93) rfl)) rfl
theorem fl_X0_37 : Cond.fieldLink RX0 37 "CallShaper$Machine" "program" "LCallShaper$Program;" ∈ G := mG (tb1 (List.mem_of_getElem? (i := 94) rfl)) rfl
theorem fl_X0_41 : Cond.fieldLink RX0 41 "CallShaper$Machine" "shaping" "LCallShaper$Shaping;" ∈ G := mG (tb1 (List.mem_of_getElem? (i := 95) rfl)) rfl
theorem fl_X0_9 : Cond.fieldLink RX0 9 "CallShaper$Machine" "registers" "[J" ∈ G := mG (tb1 (List.mem_of_getElem? (i := 96) rfl)) rfl
theorem fl_X0_15 : Cond.fieldLink RX0 15 "CallShaper$Machine" "bodies" "[I" ∈ G := mG (tb1 (List.mem_of_getElem? (i := 97) rfl)) rfl
theorem fl_X0_19 : Cond.fieldLink RX0 19 "CallShaper$Machine" "nexts" "[I" ∈ G := mG (tb1 (List.mem_of_getElem? (i := 98) rfl)) rfl
theorem fl_X0_22 : Cond.fieldLink RX0 22 "CallShaper$Machine" "answersTo" "[I" ∈ G := mG (tb1 (List.mem_of_getElem? (i := 99) rfl)) rfl
theorem fl_X0_25 : Cond.fieldLink RX0 25 "CallShaper$Machine" "classes" "[I" ∈ G := mG (tb1 (List.mem_of_getElem? (i := 100) rfl)) rfl
theorem fl_X0_28 : Cond.fieldLink RX0 28 "CallShaper$Machine" "fields" "[J" ∈ G := mG (tb1 (List.mem_of_getElem? (i := 101) rfl)) rfl
theorem fl_X0_31 : Cond.fieldLink RX0 31 "CallShaper$Machine" "putOut" "[I" ∈ G := mG (tb1 (List.mem_of_getElem? (i := 102) rfl)) rfl
theorem fl_X0_34 : Cond.fieldLink RX0 34 "CallShaper$Machine" "counts" "[I" ∈ G := mG (tb1 (List.mem_of_getElem? (i := 103) rfl)) rfl
theorem fl_X0_45 : Cond.fieldLink RX0 45 "CallShaper$Machine" "asShaped" "Z" ∈ G := mG (tb1 (List.mem_of_getElem? (i := 104) rfl)) rfl
theorem fl_X0_49 : Cond.fieldLink RX0 49 "CallShaper$Machine" "room" "I" ∈ G := mG (tb1 (List.mem_of_getElem? (i := 105) rfl)) rfl
theorem fl_X0_53 : Cond.fieldLink RX0 53 "CallShaper$Machine" "frames" "I" ∈ G := mG (tb1 (List.mem_of_getElem? (i := 106) rfl)) rfl
theorem fl_X0_56 : Cond.fieldLink RX0 56 "CallShaper$Machine" "objects" "I" ∈ G := mG (tb1 (List.mem_of_getElem? (i := 107) rfl)) rfl
theorem fl_X0_59 : Cond.fieldLink RX0 59 "CallShaper$Machine" "trap" "I" ∈ G := mG (tb1 (List.mem_of_getElem? (i := 108) rfl)) rfl
theorem ar_long : Cond.arrayClass .long ∈ G := mG (tb1 (List.mem_of_getElem? (i := 140) rfl)) rfl
theorem fl_X3_12 : Cond.fieldLink RX3 12 "CallShaper" "program" "LCallShaper$Program;" ∈ G := mG (tb1 (List.mem_of_getElem? (i := 141) rfl)) rfl
theorem fl_X3_21 : Cond.fieldLink RX3 21 "CallShaper" "shaping" "LCallShaper$Shaping;" ∈ G := mG (tb1 (List.mem_of_getElem? (i := 142) rfl)) rfl
theorem fl_X3_30 : Cond.fieldLink RX3 30 "CallShaper" "machine" "LCallShaper$Machine;" ∈ G := mG (tb1 (List.mem_of_getElem? (i := 143) rfl)) rfl
theorem ml_L_63 : Cond.methodLink RL 63 yX3_shape ∈ G := mG (tb1 (List.mem_of_getElem? (i := 151) rfl)) rfl
theorem im_X3_shape : Cond.instanceMethod yX3_shape ∈ G := mG (tb1 (List.mem_of_getElem? (i := 152) rfl)) rfl
theorem se_X3_shape : Cond.selects RX3 yX3_shape yX3_shape ∈ G := mG (tb1 (List.mem_of_getElem? (i := 153) rfl)) rfl
theorem co_X3_shape : Cond.code yX3_shape cX3_shape 1 (some .int) ∈ G := mG (tb1 (List.mem_of_getElem? (i := 154) rfl)) rfl
theorem ml_X3_90 : Cond.methodLink RX3 90 yX2_renew ∈ G := mG (tb1 (List.mem_of_getElem? (i := 155) rfl)) rfl
theorem im_X2_renew : Cond.instanceMethod yX2_renew ∈ G := mG (tb1 (List.mem_of_getElem? (i := 156) rfl)) rfl
theorem se_X2_renew : Cond.selects RX2 yX2_renew yX2_renew ∈ G := mG (tb1 (List.mem_of_getElem? (i := 157) rfl)) rfl
theorem co_X2_renew : Cond.code yX2_renew cX2_renew 2 (some .int) ∈ G := mG (tb1 (List.mem_of_getElem? (i := 158) rfl)) rfl
theorem ml_X2_41 : Cond.methodLink RX2 41 yJ7_fill_53178 ∈ G := mG (tb1 (List.mem_of_getElem? (i := 159) rfl)) rfl
theorem ml_X2_44 : Cond.methodLink RX2 44 yX2_findReached ∈ G := mG (tb1 (List.mem_of_getElem? (i := 160) rfl)) rfl
theorem im_X2_findReached : Cond.instanceMethod yX2_findReached ∈ G := mG (tb1 (List.mem_of_getElem? (i := 162) rfl)) rfl
theorem co_X2_findReached : Cond.code yX2_findReached cX2_findReached 4 none ∈ G := mG (tb1 (List.mem_of_getElem? (i := 163) rfl)) rfl
theorem ml_X2_67 : Cond.methodLink RX2 67 yX2_targetSet ∈ G := mG (tb1 (List.mem_of_getElem? (i := 164) rfl)) rfl
theorem im_X2_targetSet : Cond.instanceMethod yX2_targetSet ∈ G := mG (tb1 (List.mem_of_getElem? (i := 166) rfl)) rfl
theorem co_X2_targetSet : Cond.code yX2_targetSet cX2_targetSet 4 (some .int) ∈ G := mG (tb1 (List.mem_of_getElem? (i := 167) rfl)) rfl
theorem ml_X2_76 : Cond.methodLink RX2 76 yX1_target ∈ G := mG (tb1 (List.mem_of_getElem? (i := 168) rfl)) rfl
theorem im_X1_target : Cond.instanceMethod yX1_target ∈ G := mG (tb1 (List.mem_of_getElem? (i := 169) rfl)) rfl
theorem se_X1_target : Cond.selects RX1 yX1_target yX1_target ∈ G := mG (tb1 (List.mem_of_getElem? (i := 170) rfl)) rfl
theorem co_X1_target : Cond.code yX1_target cX1_target 6 (some .int) ∈ G := mG (tb1 (List.mem_of_getElem? (i := 171) rfl)) rfl
theorem ml_X1_52 : Cond.methodLink RX1 52 yX1_bodyOf ∈ G := mG (tb1 (List.mem_of_getElem? (i := 172) rfl)) rfl
theorem st_X1_bodyOf : Cond.static yX1_bodyOf ∈ G := mG (tb1 (List.mem_of_getElem? (i := 173) rfl)) rfl
theorem co_X1_bodyOf : Cond.code yX1_bodyOf cX1_bodyOf 2 (some .int) ∈ G := mG (tb1 (List.mem_of_getElem? (i := 174) rfl)) rfl
theorem ml_X2_70 : Cond.methodLink RX2 70 yX2_readBodies ∈ G := mG (tb1 (List.mem_of_getElem? (i := 175) rfl)) rfl
theorem im_X2_readBodies : Cond.instanceMethod yX2_readBodies ∈ G := mG (tb1 (List.mem_of_getElem? (i := 177) rfl)) rfl
theorem co_X2_readBodies : Cond.code yX2_readBodies cX2_readBodies 3 none ∈ G := mG (tb1 (List.mem_of_getElem? (i := 178) rfl)) rfl
theorem ml_X2_51 : Cond.methodLink RX2 51 yX2_isIn ∈ G := mG (tb1 (List.mem_of_getElem? (i := 179) rfl)) rfl
theorem st_X2_isIn : Cond.static yX2_isIn ∈ G := mG (tb1 (List.mem_of_getElem? (i := 180) rfl)) rfl
theorem co_X2_isIn : Cond.code yX2_isIn cX2_isIn 2 (some .boolean) ∈ G := mG (tb1 (List.mem_of_getElem? (i := 181) rfl)) rfl
theorem ml_X2_79 : Cond.methodLink RX2 79 yX2_readBody ∈ G := mG (tb1 (List.mem_of_getElem? (i := 182) rfl)) rfl
theorem im_X2_readBody : Cond.instanceMethod yX2_readBody ∈ G := mG (tb1 (List.mem_of_getElem? (i := 184) rfl)) rfl
theorem co_X2_readBody : Cond.code yX2_readBody cX2_readBody 4 none ∈ G := mG (tb1 (List.mem_of_getElem? (i := 185) rfl)) rfl
theorem ml_X2_82 : Cond.methodLink RX2 82 yX1_length ∈ G := mG (tb1 (List.mem_of_getElem? (i := 186) rfl)) rfl
theorem im_X1_length : Cond.instanceMethod yX1_length ∈ G := mG (tb1 (List.mem_of_getElem? (i := 187) rfl)) rfl
theorem se_X1_length : Cond.selects RX1 yX1_length yX1_length ∈ G := mG (tb1 (List.mem_of_getElem? (i := 188) rfl)) rfl
theorem co_X1_length : Cond.code yX1_length cX1_length 2 (some .int) ∈ G := mG (tb1 (List.mem_of_getElem? (i := 189) rfl)) rfl
theorem ml_X2_29 : Cond.methodLink RX2 29 yX1_placeOf ∈ G := mG (tb1 (List.mem_of_getElem? (i := 190) rfl)) rfl
theorem st_X1_placeOf : Cond.static yX1_placeOf ∈ G := mG (tb1 (List.mem_of_getElem? (i := 191) rfl)) rfl
theorem co_X1_placeOf : Cond.code yX1_placeOf cX1_placeOf 2 (some .int) ∈ G := mG (tb1 (List.mem_of_getElem? (i := 192) rfl)) rfl
theorem ml_X2_85 : Cond.methodLink RX2 85 yX1_kind ∈ G := mG (tb1 (List.mem_of_getElem? (i := 193) rfl)) rfl
theorem im_X1_kind : Cond.instanceMethod yX1_kind ∈ G := mG (tb1 (List.mem_of_getElem? (i := 194) rfl)) rfl
theorem se_X1_kind : Cond.selects RX1 yX1_kind yX1_kind ∈ G := mG (tb1 (List.mem_of_getElem? (i := 195) rfl)) rfl
theorem co_X1_kind : Cond.code yX1_kind cX1_kind 2 (some .int) ∈ G := mG (tb1 (List.mem_of_getElem? (i := 196) rfl)) rfl
theorem ml_X2_88 : Cond.methodLink RX2 88 yX1_y ∈ G := mG (tb1 (List.mem_of_getElem? (i := 197) rfl)) rfl
theorem im_X1_y : Cond.instanceMethod yX1_y ∈ G := mG (tb1 (List.mem_of_getElem? (i := 198) rfl)) rfl
theorem se_X1_y : Cond.selects RX1 yX1_y yX1_y ∈ G := mG (tb1 (List.mem_of_getElem? (i := 199) rfl)) rfl
theorem co_X1_y : Cond.code yX1_y cX1_y 2 (some .int) ∈ G := mG (tb1 (List.mem_of_getElem? (i := 200) rfl)) rfl
theorem ml_X2_91 : Cond.methodLink RX2 91 yX1_z ∈ G := mG (tb1 (List.mem_of_getElem? (i := 201) rfl)) rfl
theorem im_X1_z : Cond.instanceMethod yX1_z ∈ G := mG (tb1 (List.mem_of_getElem? (i := 202) rfl)) rfl
theorem se_X1_z : Cond.selects RX1 yX1_z yX1_z ∈ G := mG (tb1 (List.mem_of_getElem? (i := 203) rfl)) rfl
theorem co_X1_z : Cond.code yX1_z cX1_z 2 (some .int) ∈ G := mG (tb1 (List.mem_of_getElem? (i := 204) rfl)) rfl
theorem ml_X2_73 : Cond.methodLink RX2 73 yX2_reachTargets ∈ G := mG (tb1 (List.mem_of_getElem? (i := 205) rfl)) rfl
theorem im_X2_reachTargets : Cond.instanceMethod yX2_reachTargets ∈ G := mG (tb1 (List.mem_of_getElem? (i := 207) rfl)) rfl
theorem co_X2_reachTargets : Cond.code yX2_reachTargets cX2_reachTargets 3 none ∈ G := mG (tb1 (List.mem_of_getElem? (i := 208) rfl)) rfl
theorem ml_X2_47 : Cond.methodLink RX2 47 yX2_verdictOfCalls ∈ G := mG (tb1 (List.mem_of_getElem? (i := 209) rfl)) rfl
theorem im_X2_verdictOfCalls : Cond.instanceMethod yX2_verdictOfCalls ∈ G := mG (tb1 (List.mem_of_getElem? (i := 211) rfl)) rfl
theorem co_X2_verdictOfCalls : Cond.code yX2_verdictOfCalls cX2_verdictOfCalls 5 (some .int) ∈ G := mG (tb1 (List.mem_of_getElem? (i := 212) rfl)) rfl
theorem ml_X2_94 : Cond.methodLink RX2 94 yX1_fitsInPlace ∈ G := mG (tb1 (List.mem_of_getElem? (i := 213) rfl)) rfl
theorem im_X1_fitsInPlace : Cond.instanceMethod yX1_fitsInPlace ∈ G := mG (tb1 (List.mem_of_getElem? (i := 214) rfl)) rfl
theorem se_X1_fitsInPlace : Cond.selects RX1 yX1_fitsInPlace yX1_fitsInPlace ∈ G := mG (tb1 (List.mem_of_getElem? (i := 215) rfl)) rfl
theorem co_X1_fitsInPlace : Cond.code yX1_fitsInPlace cX1_fitsInPlace 4 (some .boolean) ∈ G := mG (tb1 (List.mem_of_getElem? (i := 216) rfl)) rfl
theorem ml_X1_48 : Cond.methodLink RX1 48 yX1_placeOf ∈ G := mG (tb1 (List.mem_of_getElem? (i := 217) rfl)) rfl
theorem ml_X2_55 : Cond.methodLink RX2 55 yX2_judge ∈ G := mG (tb1 (List.mem_of_getElem? (i := 218) rfl)) rfl
theorem im_X2_judge : Cond.instanceMethod yX2_judge ∈ G := mG (tb1 (List.mem_of_getElem? (i := 220) rfl)) rfl
theorem co_X2_judge : Cond.code yX2_judge cX2_judge 6 none ∈ G := mG (tb1 (List.mem_of_getElem? (i := 221) rfl)) rfl
theorem ml_X2_98 : Cond.methodLink RX2 98 yX2_waysOut ∈ G := mG (tb1 (List.mem_of_getElem? (i := 222) rfl)) rfl
theorem im_X2_waysOut : Cond.instanceMethod yX2_waysOut ∈ G := mG (tb1 (List.mem_of_getElem? (i := 224) rfl)) rfl
theorem co_X2_waysOut : Cond.code yX2_waysOut cX2_waysOut 6 (some .int) ∈ G := mG (tb1 (List.mem_of_getElem? (i := 225) rfl)) rfl
theorem ml_X2_101 : Cond.methodLink RX2 101 yX1_x ∈ G := mG (tb1 (List.mem_of_getElem? (i := 226) rfl)) rfl
theorem im_X1_x : Cond.instanceMethod yX1_x ∈ G := mG (tb1 (List.mem_of_getElem? (i := 227) rfl)) rfl
theorem se_X1_x : Cond.selects RX1 yX1_x yX1_x ∈ G := mG (tb1 (List.mem_of_getElem? (i := 228) rfl)) rfl
theorem co_X1_x : Cond.code yX1_x cX1_x 2 (some .int) ∈ G := mG (tb1 (List.mem_of_getElem? (i := 229) rfl)) rfl
theorem ml_X2_104 : Cond.methodLink RX2 104 yX2_holders ∈ G := mG (tb1 (List.mem_of_getElem? (i := 230) rfl)) rfl
theorem im_X2_holders : Cond.instanceMethod yX2_holders ∈ G := mG (tb1 (List.mem_of_getElem? (i := 232) rfl)) rfl
theorem co_X2_holders : Cond.code yX2_holders cX2_holders 7 (some .int) ∈ G := mG (tb1 (List.mem_of_getElem? (i := 233) rfl)) rfl
theorem ml_X2_59 : Cond.methodLink RX2 59 yJ6_bitCount_0f7a4 ∈ G := mG (tb1 (List.mem_of_getElem? (i := 234) rfl)) rfl
theorem st_J6_bitCount_0f7a4 : Cond.static yJ6_bitCount_0f7a4 ∈ G := mG (tb1 (List.mem_of_getElem? (i := 235) rfl)) rfl
theorem co_J6_bitCount_0f7a4 : Cond.code yJ6_bitCount_0f7a4 cJ6_bitCount_0f7a4 1 (some .int) ∈ G := mG (tb1 (List.mem_of_getElem? (i := 236) rfl)) rfl
theorem kc_J6_265 : Cond.constant RJ6 265 (1431655765 : Int32) ∈ G := mG (tb1 (List.mem_of_getElem? (i := 237) rfl)) rfl
theorem kc_J6_266 : Cond.constant RJ6 266 (858993459 : Int32) ∈ G := mG (tb1 (List.mem_of_getElem? (i := 238) rfl)) rfl
theorem kc_J6_267 : Cond.constant RJ6 267 (252645135 : Int32) ∈ G := mG (tb1 (List.mem_of_getElem? (i := 239) rfl)) rfl
theorem ml_L_67 : Cond.methodLink RL 67 yX3_reach ∈ G := mG (tb2 (List.mem_of_getElem? (i := 0) rfl)) rfl
theorem im_X3_reach : Cond.instanceMethod yX3_reach ∈ G := mG (tb2 (List.mem_of_getElem? (i := 1) rfl)) rfl
theorem se_X3_reach : Cond.selects RX3 yX3_reach yX3_reach ∈ G := mG (tb2 (List.mem_of_getElem? (i := 2) rfl)) rfl
theorem co_X3_reach : Cond.code yX3_reach cX3_reach 1 (some .int) ∈ G := mG (tb2 (List.mem_of_getElem? (i := 3) rfl)) rfl
theorem ml_X3_94 : Cond.methodLink RX3 94 yX2_bits ∈ G := mG (tb2 (List.mem_of_getElem? (i := 4) rfl)) rfl
theorem im_X2_bits : Cond.instanceMethod yX2_bits ∈ G := mG (tb2 (List.mem_of_getElem? (i := 5) rfl)) rfl
theorem se_X2_bits : Cond.selects RX2 yX2_bits yX2_bits ∈ G := mG (tb2 (List.mem_of_getElem? (i := 6) rfl)) rfl
theorem co_X2_bits : Cond.code yX2_bits cX2_bits 1 (some .int) ∈ G := mG (tb2 (List.mem_of_getElem? (i := 7) rfl)) rfl
theorem ml_L_45 : Cond.methodLink RL 45 yL_type ∈ G := mG (tb2 (List.mem_of_getElem? (i := 8) rfl)) rfl
theorem st_L_type : Cond.static yL_type ∈ G := mG (tb2 (List.mem_of_getElem? (i := 9) rfl)) rfl
theorem cl_L_13 : Cond.classLink RL 13 "java/lang/IllegalArgumentException" ∈ G := mG (tb2 (List.mem_of_getElem? (i := 11) rfl)) rfl
theorem cl_L_15 : Cond.classLink RL 15 "java/lang/IllegalStateException" ∈ G := mG (tb2 (List.mem_of_getElem? (i := 12) rfl)) rfl
theorem ml_L_7 : Cond.methodLink RL 7 yX3_type ∈ G := mG (tb2 (List.mem_of_getElem? (i := 13) rfl)) rfl
theorem im_X3_type : Cond.instanceMethod yX3_type ∈ G := mG (tb2 (List.mem_of_getElem? (i := 14) rfl)) rfl
theorem se_X3_type : Cond.selects RX3 yX3_type yX3_type ∈ G := mG (tb2 (List.mem_of_getElem? (i := 15) rfl)) rfl
theorem co_X3_type : Cond.code yX3_type cX3_type 2 (some .int) ∈ G := mG (tb2 (List.mem_of_getElem? (i := 16) rfl)) rfl
theorem ml_X3_34 : Cond.methodLink RX3 34 yX1_hasClass ∈ G := mG (tb2 (List.mem_of_getElem? (i := 17) rfl)) rfl
theorem im_X1_hasClass : Cond.instanceMethod yX1_hasClass ∈ G := mG (tb2 (List.mem_of_getElem? (i := 18) rfl)) rfl
theorem se_X1_hasClass : Cond.selects RX1 yX1_hasClass yX1_hasClass ∈ G := mG (tb2 (List.mem_of_getElem? (i := 19) rfl)) rfl
theorem co_X1_hasClass : Cond.code yX1_hasClass cX1_hasClass 2 (some .boolean) ∈ G := mG (tb2 (List.mem_of_getElem? (i := 20) rfl)) rfl
theorem ml_X1_40 : Cond.methodLink RX1 40 yX1_isWithin ∈ G := mG (tb2 (List.mem_of_getElem? (i := 21) rfl)) rfl
theorem st_X1_isWithin : Cond.static yX1_isWithin ∈ G := mG (tb2 (List.mem_of_getElem? (i := 22) rfl)) rfl
theorem co_X1_isWithin : Cond.code yX1_isWithin cX1_isWithin 2 (some .boolean) ∈ G := mG (tb2 (List.mem_of_getElem? (i := 23) rfl)) rfl
theorem cl_X3_38 : Cond.classLink RX3 38 "java/lang/IllegalArgumentException" ∈ G := mG (tb2 (List.mem_of_getElem? (i := 24) rfl)) rfl
theorem ar_byte : Cond.arrayClass .byte ∈ G := mG (tb2 (List.mem_of_getElem? (i := 91) rfl)) rfl
theorem ml_X3_45 : Cond.methodLink RX3 45 yX1_isFullOfClasses ∈ G := mG (tb2 (List.mem_of_getElem? (i := 92) rfl)) rfl
theorem im_X1_isFullOfClasses : Cond.instanceMethod yX1_isFullOfClasses ∈ G := mG (tb2 (List.mem_of_getElem? (i := 93) rfl)) rfl
theorem se_X1_isFullOfClasses : Cond.selects RX1 yX1_isFullOfClasses yX1_isFullOfClasses ∈ G := mG (tb2 (List.mem_of_getElem? (i := 94) rfl)) rfl
theorem co_X1_isFullOfClasses : Cond.code yX1_isFullOfClasses cX1_isFullOfClasses 1 (some .boolean) ∈ G := mG (tb2 (List.mem_of_getElem? (i := 95) rfl)) rfl
theorem cl_X3_49 : Cond.classLink RX3 49 "java/lang/IllegalStateException" ∈ G := mG (tb2 (List.mem_of_getElem? (i := 96) rfl)) rfl
theorem ml_X3_54 : Cond.methodLink RX3 54 yX1_addClass ∈ G := mG (tb2 (List.mem_of_getElem? (i := 112) rfl)) rfl
theorem im_X1_addClass : Cond.instanceMethod yX1_addClass ∈ G := mG (tb2 (List.mem_of_getElem? (i := 113) rfl)) rfl
theorem se_X1_addClass : Cond.selects RX1 yX1_addClass yX1_addClass ∈ G := mG (tb2 (List.mem_of_getElem? (i := 114) rfl)) rfl
theorem co_X1_addClass : Cond.code yX1_addClass cX1_addClass 3 (some .int) ∈ G := mG (tb2 (List.mem_of_getElem? (i := 115) rfl)) rfl
theorem ml_L_55 : Cond.methodLink RL 55 yL_operation ∈ G := mG (tb2 (List.mem_of_getElem? (i := 116) rfl)) rfl
theorem st_L_operation : Cond.static yL_operation ∈ G := mG (tb2 (List.mem_of_getElem? (i := 117) rfl)) rfl
theorem ml_L_17 : Cond.methodLink RL 17 yX3_operation ∈ G := mG (tb2 (List.mem_of_getElem? (i := 119) rfl)) rfl
theorem im_X3_operation : Cond.instanceMethod yX3_operation ∈ G := mG (tb2 (List.mem_of_getElem? (i := 120) rfl)) rfl
theorem se_X3_operation : Cond.selects RX3 yX3_operation yX3_operation ∈ G := mG (tb2 (List.mem_of_getElem? (i := 121) rfl)) rfl
theorem co_X3_operation : Cond.code yX3_operation cX3_operation 8 (some .int) ∈ G := mG (tb2 (List.mem_of_getElem? (i := 122) rfl)) rfl
theorem ml_X3_58 : Cond.methodLink RX3 58 yX1_hasPlaceFor ∈ G := mG (tb2 (List.mem_of_getElem? (i := 123) rfl)) rfl
theorem im_X1_hasPlaceFor : Cond.instanceMethod yX1_hasPlaceFor ∈ G := mG (tb2 (List.mem_of_getElem? (i := 124) rfl)) rfl
theorem se_X1_hasPlaceFor : Cond.selects RX1 yX1_hasPlaceFor yX1_hasPlaceFor ∈ G := mG (tb2 (List.mem_of_getElem? (i := 125) rfl)) rfl
theorem co_X1_hasPlaceFor : Cond.code yX1_hasPlaceFor cX1_hasPlaceFor 3 (some .boolean) ∈ G := mG (tb2 (List.mem_of_getElem? (i := 126) rfl)) rfl
theorem ml_X1_44 : Cond.methodLink RX1 44 yX1_hasClass ∈ G := mG (tb2 (List.mem_of_getElem? (i := 127) rfl)) rfl
theorem ml_X3_64 : Cond.methodLink RX3 64 yX1_isWellFormed ∈ G := mG (tb2 (List.mem_of_getElem? (i := 129) rfl)) rfl
theorem st_X1_isWellFormed : Cond.static yX1_isWellFormed ∈ G := mG (tb2 (List.mem_of_getElem? (i := 130) rfl)) rfl
theorem co_X1_isWellFormed : Cond.code yX1_isWellFormed cX1_isWellFormed 4 (some .boolean) ∈ G := mG (tb2 (List.mem_of_getElem? (i := 131) rfl)) rfl
theorem ml_X3_70 : Cond.methodLink RX3 70 yX1_bodyOf ∈ G := mG (tb2 (List.mem_of_getElem? (i := 133) rfl)) rfl
theorem ml_X3_74 : Cond.methodLink RX3 74 yX1_isFull ∈ G := mG (tb2 (List.mem_of_getElem? (i := 134) rfl)) rfl
theorem im_X1_isFull : Cond.instanceMethod yX1_isFull ∈ G := mG (tb2 (List.mem_of_getElem? (i := 135) rfl)) rfl
theorem se_X1_isFull : Cond.selects RX1 yX1_isFull yX1_isFull ∈ G := mG (tb2 (List.mem_of_getElem? (i := 136) rfl)) rfl
theorem co_X1_isFull : Cond.code yX1_isFull cX1_isFull 2 (some .boolean) ∈ G := mG (tb2 (List.mem_of_getElem? (i := 137) rfl)) rfl
theorem ml_X3_79 : Cond.methodLink RX3 79 yX2_forget ∈ G := mG (tb2 (List.mem_of_getElem? (i := 139) rfl)) rfl
theorem im_X2_forget : Cond.instanceMethod yX2_forget ∈ G := mG (tb2 (List.mem_of_getElem? (i := 140) rfl)) rfl
theorem se_X2_forget : Cond.selects RX2 yX2_forget yX2_forget ∈ G := mG (tb2 (List.mem_of_getElem? (i := 141) rfl)) rfl
theorem co_X2_forget : Cond.code yX2_forget cX2_forget 3 none ∈ G := mG (tb2 (List.mem_of_getElem? (i := 142) rfl)) rfl
theorem ml_X2_35 : Cond.methodLink RX2 35 yJ7_fill_fda19 ∈ G := mG (tb2 (List.mem_of_getElem? (i := 143) rfl)) rfl
theorem st_J7_fill_fda19 : Cond.static yJ7_fill_fda19 ∈ G := mG (tb2 (List.mem_of_getElem? (i := 144) rfl)) rfl
theorem co_J7_fill_fda19 : Cond.code yJ7_fill_fda19 cJ7_fill_fda19 5 none ∈ G := mG (tb2 (List.mem_of_getElem? (i := 145) rfl)) rfl
theorem ml_J7_13 : Cond.methodLink RJ7 13 yJ7_rangeCheck_23922 ∈ G := mG (tb2 (List.mem_of_getElem? (i := 146) rfl)) rfl
theorem st_J7_rangeCheck_23922 : Cond.static yJ7_rangeCheck_23922 ∈ G := mG (tb2 (List.mem_of_getElem? (i := 147) rfl)) rfl
theorem co_J7_rangeCheck_23922 : Cond.code yJ7_rangeCheck_23922 cJ7_rangeCheck_23922 3 none ∈ G := mG (tb2 (List.mem_of_getElem? (i := 148) rfl)) rfl
theorem cl_J7_43 : Cond.classLink RJ7 43 "java/lang/IllegalArgumentException" ∈ G := mG (tb2 (List.mem_of_getElem? (i := 149) rfl)) rfl
theorem cl_J7_45 : Cond.classLink RJ7 45 "java/lang/StringBuilder" ∈ G := mG (tb2 (List.mem_of_getElem? (i := 150) rfl)) rfl
theorem st_max : Cond.static Lib.Math.max.name ∈ G := mG (tb2 (List.mem_of_getElem? (i := 205) rfl)) rfl
theorem co_max : Cond.code Lib.Math.max.name Lib.Math.max.code 2 (some .int) ∈ G := mG (tb2 (List.mem_of_getElem? (i := 206) rfl)) rfl
theorem cl_J7_311 : Cond.classLink RJ7 311 "[B" ∈ G := mG (tb2 (List.mem_of_getElem? (i := 221) rfl)) rfl
theorem fl_J6_83 : Cond.fieldLink RJ6 83 "java/lang/Integer" "DigitOnes" "[B" ∈ G := mG (tb3 (List.mem_of_getElem? (i := 75) rfl)) rfl
theorem fl_J6_87 : Cond.fieldLink RJ6 87 "java/lang/Integer" "DigitTens" "[B" ∈ G := mG (tb3 (List.mem_of_getElem? (i := 77) rfl)) rfl
theorem ml_X3_83 : Cond.methodLink RX3 83 yX1_append ∈ G := mG (tb3 (List.mem_of_getElem? (i := 151) rfl)) rfl
theorem im_X1_append : Cond.instanceMethod yX1_append ∈ G := mG (tb3 (List.mem_of_getElem? (i := 152) rfl)) rfl
theorem se_X1_append : Cond.selects RX1 yX1_append yX1_append ∈ G := mG (tb3 (List.mem_of_getElem? (i := 153) rfl)) rfl
theorem co_X1_append : Cond.code yX1_append cX1_append 7 (some .int) ∈ G := mG (tb3 (List.mem_of_getElem? (i := 154) rfl)) rfl
theorem ml_L_59 : Cond.methodLink RL 59 yL_strip ∈ G := mG (tb3 (List.mem_of_getElem? (i := 155) rfl)) rfl
theorem st_L_strip : Cond.static yL_strip ∈ G := mG (tb3 (List.mem_of_getElem? (i := 156) rfl)) rfl
theorem ml_L_21 : Cond.methodLink RL 21 yX3_strip ∈ G := mG (tb3 (List.mem_of_getElem? (i := 158) rfl)) rfl
theorem im_X3_strip : Cond.instanceMethod yX3_strip ∈ G := mG (tb3 (List.mem_of_getElem? (i := 159) rfl)) rfl
theorem se_X3_strip : Cond.selects RX3 yX3_strip yX3_strip ∈ G := mG (tb3 (List.mem_of_getElem? (i := 160) rfl)) rfl
theorem co_X3_strip : Cond.code yX3_strip cX3_strip 4 (some .int) ∈ G := mG (tb3 (List.mem_of_getElem? (i := 161) rfl)) rfl
theorem ml_X3_87 : Cond.methodLink RX3 87 yX1_empty ∈ G := mG (tb3 (List.mem_of_getElem? (i := 162) rfl)) rfl
theorem im_X1_empty : Cond.instanceMethod yX1_empty ∈ G := mG (tb3 (List.mem_of_getElem? (i := 163) rfl)) rfl
theorem se_X1_empty : Cond.selects RX1 yX1_empty yX1_empty ∈ G := mG (tb3 (List.mem_of_getElem? (i := 164) rfl)) rfl
theorem co_X1_empty : Cond.code yX1_empty cX1_empty 3 (some .int) ∈ G := mG (tb3 (List.mem_of_getElem? (i := 165) rfl)) rfl
theorem ml_L_71 : Cond.methodLink RL 71 yL_site ∈ G := mG (tb3 (List.mem_of_getElem? (i := 166) rfl)) rfl
theorem st_L_site : Cond.static yL_site ∈ G := mG (tb3 (List.mem_of_getElem? (i := 167) rfl)) rfl
theorem cl_L_29 : Cond.classLink RL 29 "java/util/NoSuchElementException" ∈ G := mG (tb3 (List.mem_of_getElem? (i := 169) rfl)) rfl
theorem ml_L_25 : Cond.methodLink RL 25 yX3_site ∈ G := mG (tb3 (List.mem_of_getElem? (i := 170) rfl)) rfl
theorem im_X3_site : Cond.instanceMethod yX3_site ∈ G := mG (tb3 (List.mem_of_getElem? (i := 171) rfl)) rfl
theorem se_X3_site : Cond.selects RX3 yX3_site yX3_site ∈ G := mG (tb3 (List.mem_of_getElem? (i := 172) rfl)) rfl
theorem co_X3_site : Cond.code yX3_site cX3_site 5 (some .int) ∈ G := mG (tb3 (List.mem_of_getElem? (i := 173) rfl)) rfl
theorem cl_X3_97 : Cond.classLink RX3 97 "java/util/NoSuchElementException" ∈ G := mG (tb3 (List.mem_of_getElem? (i := 174) rfl)) rfl
theorem ml_X3_100 : Cond.methodLink RX3 100 yX1_length ∈ G := mG (tb3 (List.mem_of_getElem? (i := 189) rfl)) rfl
theorem ml_X3_105 : Cond.methodLink RX3 105 yX1_placeOf ∈ G := mG (tb3 (List.mem_of_getElem? (i := 191) rfl)) rfl
theorem ml_X3_108 : Cond.methodLink RX3 108 yX2_verdictAt ∈ G := mG (tb3 (List.mem_of_getElem? (i := 192) rfl)) rfl
theorem im_X2_verdictAt : Cond.instanceMethod yX2_verdictAt ∈ G := mG (tb3 (List.mem_of_getElem? (i := 193) rfl)) rfl
theorem se_X2_verdictAt : Cond.selects RX2 yX2_verdictAt yX2_verdictAt ∈ G := mG (tb3 (List.mem_of_getElem? (i := 194) rfl)) rfl
theorem co_X2_verdictAt : Cond.code yX2_verdictAt cX2_verdictAt 2 (some .int) ∈ G := mG (tb3 (List.mem_of_getElem? (i := 195) rfl)) rfl
theorem ml_L_75 : Cond.methodLink RL 75 yL_run ∈ G := mG (tb3 (List.mem_of_getElem? (i := 196) rfl)) rfl
theorem st_L_run : Cond.static yL_run ∈ G := mG (tb3 (List.mem_of_getElem? (i := 197) rfl)) rfl
theorem ml_L_31 : Cond.methodLink RL 31 yX3_run ∈ G := mG (tb3 (List.mem_of_getElem? (i := 199) rfl)) rfl
theorem im_X3_run : Cond.instanceMethod yX3_run ∈ G := mG (tb3 (List.mem_of_getElem? (i := 200) rfl)) rfl
theorem se_X3_run : Cond.selects RX3 yX3_run yX3_run ∈ G := mG (tb3 (List.mem_of_getElem? (i := 201) rfl)) rfl
theorem co_X3_run : Cond.code yX3_run cX3_run 3 (some .int) ∈ G := mG (tb3 (List.mem_of_getElem? (i := 202) rfl)) rfl
theorem ml_X3_113 : Cond.methodLink RX3 113 yX0_execute ∈ G := mG (tb3 (List.mem_of_getElem? (i := 204) rfl)) rfl
theorem im_X0_execute : Cond.instanceMethod yX0_execute ∈ G := mG (tb3 (List.mem_of_getElem? (i := 205) rfl)) rfl
theorem se_X0_execute : Cond.selects RX0 yX0_execute yX0_execute ∈ G := mG (tb3 (List.mem_of_getElem? (i := 206) rfl)) rfl
theorem co_X0_execute : Cond.code yX0_execute cX0_execute 4 (some .int) ∈ G := mG (tb3 (List.mem_of_getElem? (i := 207) rfl)) rfl
theorem ml_X0_62 : Cond.methodLink RX0 62 yJ7_fill_53178 ∈ G := mG (tb3 (List.mem_of_getElem? (i := 208) rfl)) rfl
theorem ml_X0_68 : Cond.methodLink RX0 68 yX0_begin ∈ G := mG (tb3 (List.mem_of_getElem? (i := 209) rfl)) rfl
theorem im_X0_begin : Cond.instanceMethod yX0_begin ∈ G := mG (tb3 (List.mem_of_getElem? (i := 211) rfl)) rfl
theorem co_X0_begin : Cond.code yX0_begin cX0_begin 4 none ∈ G := mG (tb3 (List.mem_of_getElem? (i := 212) rfl)) rfl
theorem ml_X0_78 : Cond.methodLink RX0 78 yX0_newObject ∈ G := mG (tb3 (List.mem_of_getElem? (i := 213) rfl)) rfl
theorem im_X0_newObject : Cond.instanceMethod yX0_newObject ∈ G := mG (tb3 (List.mem_of_getElem? (i := 215) rfl)) rfl
theorem co_X0_newObject : Cond.code yX0_newObject cX0_newObject 4 (some .long) ∈ G := mG (tb3 (List.mem_of_getElem? (i := 216) rfl)) rfl
theorem ml_X0_156 : Cond.methodLink RX0 156 yJ7_fill_bad5a ∈ G := mG (tb3 (List.mem_of_getElem? (i := 217) rfl)) rfl
theorem st_J7_fill_bad5a : Cond.static yJ7_fill_bad5a ∈ G := mG (tb3 (List.mem_of_getElem? (i := 218) rfl)) rfl
theorem co_J7_fill_bad5a : Cond.code yJ7_fill_bad5a cJ7_fill_bad5a 6 none ∈ G := mG (tb3 (List.mem_of_getElem? (i := 219) rfl)) rfl
theorem kl_X0_142 : Cond.constantLong RX0 142 (4294967296 : Int64) ∈ G := mG (tb3 (List.mem_of_getElem? (i := 220) rfl)) rfl
theorem ml_X0_82 : Cond.methodLink RX0 82 yX1_target ∈ G := mG (tb3 (List.mem_of_getElem? (i := 221) rfl)) rfl
theorem ml_X0_88 : Cond.methodLink RX0 88 yX0_enter ∈ G := mG (tb3 (List.mem_of_getElem? (i := 222) rfl)) rfl
theorem im_X0_enter : Cond.instanceMethod yX0_enter ∈ G := mG (tb3 (List.mem_of_getElem? (i := 224) rfl)) rfl
theorem co_X0_enter : Cond.code yX0_enter cX0_enter 7 none ∈ G := mG (tb3 (List.mem_of_getElem? (i := 225) rfl)) rfl
theorem ml_X0_167 : Cond.methodLink RX0 167 Lib.Math.max.name ∈ G := mG (tb3 (List.mem_of_getElem? (i := 226) rfl)) rfl
theorem ml_X0_71 : Cond.methodLink RX0 71 yX0_isGoing ∈ G := mG (tb3 (List.mem_of_getElem? (i := 227) rfl)) rfl
theorem im_X0_isGoing : Cond.instanceMethod yX0_isGoing ∈ G := mG (tb3 (List.mem_of_getElem? (i := 229) rfl)) rfl
theorem co_X0_isGoing : Cond.code yX0_isGoing cX0_isGoing 2 (some .boolean) ∈ G := mG (tb3 (List.mem_of_getElem? (i := 230) rfl)) rfl
theorem ml_X0_92 : Cond.methodLink RX0 92 yX0_isBehindLast ∈ G := mG (tb3 (List.mem_of_getElem? (i := 231) rfl)) rfl
theorem im_X0_isBehindLast : Cond.instanceMethod yX0_isBehindLast ∈ G := mG (tb3 (List.mem_of_getElem? (i := 233) rfl)) rfl
theorem co_X0_isBehindLast : Cond.code yX0_isBehindLast cX0_isBehindLast 2 (some .boolean) ∈ G := mG (tb3 (List.mem_of_getElem? (i := 234) rfl)) rfl
theorem ml_X0_100 : Cond.methodLink RX0 100 yX1_length ∈ G := mG (tb3 (List.mem_of_getElem? (i := 235) rfl)) rfl
theorem ml_X0_96 : Cond.methodLink RX0 96 yX0_answer ∈ G := mG (tb3 (List.mem_of_getElem? (i := 236) rfl)) rfl
theorem im_X0_answer : Cond.instanceMethod yX0_answer ∈ G := mG (tb3 (List.mem_of_getElem? (i := 238) rfl)) rfl
theorem co_X0_answer : Cond.code yX0_answer cX0_answer 3 none ∈ G := mG (tb3 (List.mem_of_getElem? (i := 239) rfl)) rfl
theorem ml_X0_75 : Cond.methodLink RX0 75 yX0_step ∈ G := mG (tb4 (List.mem_of_getElem? (i := 0) rfl)) rfl
theorem im_X0_step : Cond.instanceMethod yX0_step ∈ G := mG (tb4 (List.mem_of_getElem? (i := 2) rfl)) rfl
theorem co_X0_step : Cond.code yX0_step cX0_step 3 none ∈ G := mG (tb4 (List.mem_of_getElem? (i := 3) rfl)) rfl
theorem ml_X0_104 : Cond.methodLink RX0 104 yX1_placeOf ∈ G := mG (tb4 (List.mem_of_getElem? (i := 4) rfl)) rfl
theorem ml_X0_107 : Cond.methodLink RX0 107 yX0_perform ∈ G := mG (tb4 (List.mem_of_getElem? (i := 5) rfl)) rfl
theorem im_X0_perform : Cond.instanceMethod yX0_perform ∈ G := mG (tb4 (List.mem_of_getElem? (i := 7) rfl)) rfl
theorem co_X0_perform : Cond.code yX0_perform cX0_perform 4 none ∈ G := mG (tb4 (List.mem_of_getElem? (i := 8) rfl)) rfl
theorem ml_X0_111 : Cond.methodLink RX0 111 yX1_x ∈ G := mG (tb4 (List.mem_of_getElem? (i := 9) rfl)) rfl
theorem ml_X0_114 : Cond.methodLink RX0 114 yX1_kind ∈ G := mG (tb4 (List.mem_of_getElem? (i := 10) rfl)) rfl
theorem ml_X0_117 : Cond.methodLink RX0 117 yX1_y ∈ G := mG (tb4 (List.mem_of_getElem? (i := 11) rfl)) rfl
theorem ml_X0_120 : Cond.methodLink RX0 120 yX0_reckon ∈ G := mG (tb4 (List.mem_of_getElem? (i := 12) rfl)) rfl
theorem im_X0_reckon : Cond.instanceMethod yX0_reckon ∈ G := mG (tb4 (List.mem_of_getElem? (i := 14) rfl)) rfl
theorem co_X0_reckon : Cond.code yX0_reckon cX0_reckon 7 none ∈ G := mG (tb4 (List.mem_of_getElem? (i := 15) rfl)) rfl
theorem ml_X0_144 : Cond.methodLink RX0 144 yX1_z ∈ G := mG (tb4 (List.mem_of_getElem? (i := 16) rfl)) rfl
theorem ml_X0_147 : Cond.methodLink RX0 147 yX0_isObject ∈ G := mG (tb4 (List.mem_of_getElem? (i := 17) rfl)) rfl
theorem st_X0_isObject : Cond.static yX0_isObject ∈ G := mG (tb4 (List.mem_of_getElem? (i := 18) rfl)) rfl
theorem co_X0_isObject : Cond.code yX0_isObject cX0_isObject 2 (some .boolean) ∈ G := mG (tb4 (List.mem_of_getElem? (i := 19) rfl)) rfl
theorem ml_X0_123 : Cond.methodLink RX0 123 yX0_make ∈ G := mG (tb4 (List.mem_of_getElem? (i := 20) rfl)) rfl
theorem im_X0_make : Cond.instanceMethod yX0_make ∈ G := mG (tb4 (List.mem_of_getElem? (i := 22) rfl)) rfl
theorem co_X0_make : Cond.code yX0_make cX0_make 4 none ∈ G := mG (tb4 (List.mem_of_getElem? (i := 23) rfl)) rfl
theorem ml_X0_151 : Cond.methodLink RX0 151 yX2_verdictAt ∈ G := mG (tb4 (List.mem_of_getElem? (i := 24) rfl)) rfl
theorem ml_X0_126 : Cond.methodLink RX0 126 yX0_readField ∈ G := mG (tb4 (List.mem_of_getElem? (i := 25) rfl)) rfl
theorem im_X0_readField : Cond.instanceMethod yX0_readField ∈ G := mG (tb4 (List.mem_of_getElem? (i := 27) rfl)) rfl
theorem co_X0_readField : Cond.code yX0_readField cX0_readField 5 none ∈ G := mG (tb4 (List.mem_of_getElem? (i := 28) rfl)) rfl
theorem ml_X0_159 : Cond.methodLink RX0 159 yX0_objectOf ∈ G := mG (tb4 (List.mem_of_getElem? (i := 29) rfl)) rfl
theorem st_X0_objectOf : Cond.static yX0_objectOf ∈ G := mG (tb4 (List.mem_of_getElem? (i := 30) rfl)) rfl
theorem co_X0_objectOf : Cond.code yX0_objectOf cX0_objectOf 2 (some .int) ∈ G := mG (tb4 (List.mem_of_getElem? (i := 31) rfl)) rfl
theorem ml_X0_129 : Cond.methodLink RX0 129 yX0_writeField ∈ G := mG (tb4 (List.mem_of_getElem? (i := 32) rfl)) rfl
theorem im_X0_writeField : Cond.instanceMethod yX0_writeField ∈ G := mG (tb4 (List.mem_of_getElem? (i := 34) rfl)) rfl
theorem co_X0_writeField : Cond.code yX0_writeField cX0_writeField 5 none ∈ G := mG (tb4 (List.mem_of_getElem? (i := 35) rfl)) rfl
theorem ml_X0_132 : Cond.methodLink RX0 132 yX0_send ∈ G := mG (tb4 (List.mem_of_getElem? (i := 36) rfl)) rfl
theorem im_X0_send : Cond.instanceMethod yX0_send ∈ G := mG (tb4 (List.mem_of_getElem? (i := 38) rfl)) rfl
theorem co_X0_send : Cond.code yX0_send cX0_send 6 none ∈ G := mG (tb4 (List.mem_of_getElem? (i := 39) rfl)) rfl
theorem ml_X0_163 : Cond.methodLink RX0 163 yX0_countCall ∈ G := mG (tb4 (List.mem_of_getElem? (i := 40) rfl)) rfl
theorem im_X0_countCall : Cond.instanceMethod yX0_countCall ∈ G := mG (tb4 (List.mem_of_getElem? (i := 42) rfl)) rfl
theorem co_X0_countCall : Cond.code yX0_countCall cX0_countCall 2 none ∈ G := mG (tb4 (List.mem_of_getElem? (i := 43) rfl)) rfl
theorem ml_X0_135 : Cond.methodLink RX0 135 yX0_print ∈ G := mG (tb4 (List.mem_of_getElem? (i := 44) rfl)) rfl
theorem im_X0_print : Cond.instanceMethod yX0_print ∈ G := mG (tb4 (List.mem_of_getElem? (i := 46) rfl)) rfl
theorem co_X0_print : Cond.code yX0_print cX0_print 4 none ∈ G := mG (tb4 (List.mem_of_getElem? (i := 47) rfl)) rfl
theorem ml_X0_138 : Cond.methodLink RX0 138 yX0_checkClass ∈ G := mG (tb4 (List.mem_of_getElem? (i := 48) rfl)) rfl
theorem im_X0_checkClass : Cond.instanceMethod yX0_checkClass ∈ G := mG (tb4 (List.mem_of_getElem? (i := 50) rfl)) rfl
theorem co_X0_checkClass : Cond.code yX0_checkClass cX0_checkClass 4 none ∈ G := mG (tb4 (List.mem_of_getElem? (i := 51) rfl)) rfl
theorem ml_X0_172 : Cond.methodLink RX0 172 yX1_classIs ∈ G := mG (tb4 (List.mem_of_getElem? (i := 52) rfl)) rfl
theorem im_X1_classIs : Cond.instanceMethod yX1_classIs ∈ G := mG (tb4 (List.mem_of_getElem? (i := 53) rfl)) rfl
theorem se_X1_classIs : Cond.selects RX1 yX1_classIs yX1_classIs ∈ G := mG (tb4 (List.mem_of_getElem? (i := 54) rfl)) rfl
theorem co_X1_classIs : Cond.code yX1_classIs cX1_classIs 5 (some .boolean) ∈ G := mG (tb4 (List.mem_of_getElem? (i := 55) rfl)) rfl
theorem ml_L_79 : Cond.methodLink RL 79 yL_count ∈ G := mG (tb4 (List.mem_of_getElem? (i := 56) rfl)) rfl
theorem st_L_count : Cond.static yL_count ∈ G := mG (tb4 (List.mem_of_getElem? (i := 57) rfl)) rfl
theorem ml_L_35 : Cond.methodLink RL 35 yX3_count ∈ G := mG (tb4 (List.mem_of_getElem? (i := 59) rfl)) rfl
theorem im_X3_count : Cond.instanceMethod yX3_count ∈ G := mG (tb4 (List.mem_of_getElem? (i := 60) rfl)) rfl
theorem se_X3_count : Cond.selects RX3 yX3_count yX3_count ∈ G := mG (tb4 (List.mem_of_getElem? (i := 61) rfl)) rfl
theorem co_X3_count : Cond.code yX3_count cX3_count 2 (some .int) ∈ G := mG (tb4 (List.mem_of_getElem? (i := 62) rfl)) rfl
theorem ml_X3_119 : Cond.methodLink RX3 119 yX0_tally ∈ G := mG (tb4 (List.mem_of_getElem? (i := 64) rfl)) rfl
theorem im_X0_tally : Cond.instanceMethod yX0_tally ∈ G := mG (tb4 (List.mem_of_getElem? (i := 65) rfl)) rfl
theorem se_X0_tally : Cond.selects RX0 yX0_tally yX0_tally ∈ G := mG (tb4 (List.mem_of_getElem? (i := 66) rfl)) rfl
theorem co_X0_tally : Cond.code yX0_tally cX0_tally 2 (some .int) ∈ G := mG (tb4 (List.mem_of_getElem? (i := 67) rfl)) rfl
theorem ml_L_82 : Cond.methodLink RL 82 yL_out ∈ G := mG (tb4 (List.mem_of_getElem? (i := 68) rfl)) rfl
theorem st_L_out : Cond.static yL_out ∈ G := mG (tb4 (List.mem_of_getElem? (i := 69) rfl)) rfl
theorem ml_L_38 : Cond.methodLink RL 38 yX3_out ∈ G := mG (tb4 (List.mem_of_getElem? (i := 71) rfl)) rfl
theorem im_X3_out : Cond.instanceMethod yX3_out ∈ G := mG (tb4 (List.mem_of_getElem? (i := 72) rfl)) rfl
theorem se_X3_out : Cond.selects RX3 yX3_out yX3_out ∈ G := mG (tb4 (List.mem_of_getElem? (i := 73) rfl)) rfl
theorem co_X3_out : Cond.code yX3_out cX3_out 2 (some .int) ∈ G := mG (tb4 (List.mem_of_getElem? (i := 74) rfl)) rfl
theorem ml_X3_124 : Cond.methodLink RX3 124 yX0_valuePutOut ∈ G := mG (tb4 (List.mem_of_getElem? (i := 76) rfl)) rfl
theorem im_X0_valuePutOut : Cond.instanceMethod yX0_valuePutOut ∈ G := mG (tb4 (List.mem_of_getElem? (i := 77) rfl)) rfl
theorem se_X0_valuePutOut : Cond.selects RX0 yX0_valuePutOut yX0_valuePutOut ∈ G := mG (tb4 (List.mem_of_getElem? (i := 78) rfl)) rfl
theorem co_X0_valuePutOut : Cond.code yX0_valuePutOut cX0_valuePutOut 2 (some .int) ∈ G := mG (tb4 (List.mem_of_getElem? (i := 79) rfl)) rfl
theorem cl_L_42 : Cond.classLink RL 42 "CallShaperModel" ∈ G := mG (tb4 (List.mem_of_getElem? (i := 80) rfl)) rfl
theorem ib_X4 : Cond.instantiable RX4 23 ∈ G := mG (tb4 (List.mem_of_getElem? (i := 81) rfl)) rfl
theorem ml_L_44 : Cond.methodLink RL 44 yX4_init ∈ G := mG (tb4 (List.mem_of_getElem? (i := 82) rfl)) rfl
theorem im_X4_init : Cond.instanceMethod yX4_init ∈ G := mG (tb4 (List.mem_of_getElem? (i := 83) rfl)) rfl
theorem co_X4_init : Cond.code yX4_init cX4_init 1 none ∈ G := mG (tb4 (List.mem_of_getElem? (i := 84) rfl)) rfl
theorem ml_X4_1 : Cond.methodLink RX4 1 objectInit ∈ G := mG (tb4 (List.mem_of_getElem? (i := 85) rfl)) rfl
theorem fl_X4_69 : Cond.fieldLink RX4 69 "CallShaperModel" "thrown" "I" ∈ G := mG (tb4 (List.mem_of_getElem? (i := 86) rfl)) rfl
theorem fl_X4_7 : Cond.fieldLink RX4 7 "CallShaperModel" "types" "I" ∈ G := mG (tb4 (List.mem_of_getElem? (i := 87) rfl)) rfl
theorem fl_X4_13 : Cond.fieldLink RX4 13 "CallShaperModel" "parent" "[I" ∈ G := mG (tb4 (List.mem_of_getElem? (i := 88) rfl)) rfl
theorem fl_X4_17 : Cond.fieldLink RX4 17 "CallShaperModel" "many" "[I" ∈ G := mG (tb4 (List.mem_of_getElem? (i := 89) rfl)) rfl
theorem fl_X4_20 : Cond.fieldLink RX4 20 "CallShaperModel" "code" "[I" ∈ G := mG (tb4 (List.mem_of_getElem? (i := 90) rfl)) rfl
theorem fl_X4_23 : Cond.fieldLink RX4 23 "CallShaperModel" "made" "[Z" ∈ G := mG (tb4 (List.mem_of_getElem? (i := 91) rfl)) rfl
theorem fl_X4_27 : Cond.fieldLink RX4 27 "CallShaperModel" "reached" "[Z" ∈ G := mG (tb4 (List.mem_of_getElem? (i := 92) rfl)) rfl
theorem fl_X4_30 : Cond.fieldLink RX4 30 "CallShaperModel" "changed" "[Z" ∈ G := mG (tb4 (List.mem_of_getElem? (i := 93) rfl)) rfl
theorem fl_X4_33 : Cond.fieldLink RX4 33 "CallShaperModel" "sites" "[I" ∈ G := mG (tb4 (List.mem_of_getElem? (i := 94) rfl)) rfl
theorem fl_X4_36 : Cond.fieldLink RX4 36 "CallShaperModel" "holder" "[Z" ∈ G := mG (tb4 (List.mem_of_getElem? (i := 95) rfl)) rfl
theorem fl_X4_122 : Cond.fieldLink RX4 122 "CallShaperModel" "objects" "I" ∈ G := mG (tb4 (List.mem_of_getElem? (i := 96) rfl)) rfl
theorem fl_X4_119 : Cond.fieldLink RX4 119 "CallShaperModel" "room" "I" ∈ G := mG (tb4 (List.mem_of_getElem? (i := 97) rfl)) rfl
theorem fl_X4_39 : Cond.fieldLink RX4 39 "CallShaperModel" "classOf" "[I" ∈ G := mG (tb4 (List.mem_of_getElem? (i := 98) rfl)) rfl
theorem fl_X4_42 : Cond.fieldLink RX4 42 "CallShaperModel" "fieldIs" "[Z" ∈ G := mG (tb4 (List.mem_of_getElem? (i := 99) rfl)) rfl
theorem fl_X4_45 : Cond.fieldLink RX4 45 "CallShaperModel" "field" "[I" ∈ G := mG (tb4 (List.mem_of_getElem? (i := 100) rfl)) rfl
theorem fl_X4_125 : Cond.fieldLink RX4 125 "CallShaperModel" "frames" "I" ∈ G := mG (tb4 (List.mem_of_getElem? (i := 101) rfl)) rfl
theorem fl_X4_48 : Cond.fieldLink RX4 48 "CallShaperModel" "body" "[I" ∈ G := mG (tb4 (List.mem_of_getElem? (i := 102) rfl)) rfl
theorem fl_X4_51 : Cond.fieldLink RX4 51 "CallShaperModel" "place" "[I" ∈ G := mG (tb4 (List.mem_of_getElem? (i := 103) rfl)) rfl
theorem fl_X4_54 : Cond.fieldLink RX4 54 "CallShaperModel" "wants" "[I" ∈ G := mG (tb4 (List.mem_of_getElem? (i := 104) rfl)) rfl
theorem fl_X4_57 : Cond.fieldLink RX4 57 "CallShaperModel" "is" "[Z" ∈ G := mG (tb4 (List.mem_of_getElem? (i := 105) rfl)) rfl
theorem fl_X4_60 : Cond.fieldLink RX4 60 "CallShaperModel" "value" "[I" ∈ G := mG (tb4 (List.mem_of_getElem? (i := 106) rfl)) rfl
theorem fl_X4_63 : Cond.fieldLink RX4 63 "CallShaperModel" "outs" "[I" ∈ G := mG (tb4 (List.mem_of_getElem? (i := 107) rfl)) rfl
theorem fl_X4_66 : Cond.fieldLink RX4 66 "CallShaperModel" "counts" "[I" ∈ G := mG (tb4 (List.mem_of_getElem? (i := 108) rfl)) rfl
theorem ar_boolean : Cond.arrayClass .boolean ∈ G := mG (tb4 (List.mem_of_getElem? (i := 156) rfl)) rfl
theorem ml_L_51 : Cond.methodLink RL 51 yX4_thrown ∈ G := mG (tb4 (List.mem_of_getElem? (i := 157) rfl)) rfl
theorem im_X4_thrown : Cond.instanceMethod yX4_thrown ∈ G := mG (tb4 (List.mem_of_getElem? (i := 158) rfl)) rfl
theorem se_X4_thrown : Cond.selects RX4 yX4_thrown yX4_thrown ∈ G := mG (tb4 (List.mem_of_getElem? (i := 159) rfl)) rfl
theorem co_X4_thrown : Cond.code yX4_thrown cX4_thrown 1 (some .int) ∈ G := mG (tb4 (List.mem_of_getElem? (i := 160) rfl)) rfl
theorem ml_L_50 : Cond.methodLink RL 50 yX4_type ∈ G := mG (tb4 (List.mem_of_getElem? (i := 161) rfl)) rfl
theorem im_X4_type : Cond.instanceMethod yX4_type ∈ G := mG (tb4 (List.mem_of_getElem? (i := 162) rfl)) rfl
theorem se_X4_type : Cond.selects RX4 yX4_type yX4_type ∈ G := mG (tb4 (List.mem_of_getElem? (i := 163) rfl)) rfl
theorem co_X4_type : Cond.code yX4_type cX4_type 2 (some .int) ∈ G := mG (tb4 (List.mem_of_getElem? (i := 164) rfl)) rfl
theorem ml_X4_72 : Cond.methodLink RX4 72 yX4_outside ∈ G := mG (tb4 (List.mem_of_getElem? (i := 165) rfl)) rfl
theorem st_X4_outside : Cond.static yX4_outside ∈ G := mG (tb4 (List.mem_of_getElem? (i := 166) rfl)) rfl
theorem co_X4_outside : Cond.code yX4_outside cX4_outside 3 (some .boolean) ∈ G := mG (tb4 (List.mem_of_getElem? (i := 167) rfl)) rfl
theorem ml_X4_76 : Cond.methodLink RX4 76 yX4_fails ∈ G := mG (tb4 (List.mem_of_getElem? (i := 168) rfl)) rfl
theorem im_X4_fails : Cond.instanceMethod yX4_fails ∈ G := mG (tb4 (List.mem_of_getElem? (i := 170) rfl)) rfl
theorem co_X4_fails : Cond.code yX4_fails cX4_fails 3 (some .boolean) ∈ G := mG (tb4 (List.mem_of_getElem? (i := 171) rfl)) rfl
theorem ml_L_58 : Cond.methodLink RL 58 yX4_operation ∈ G := mG (tb4 (List.mem_of_getElem? (i := 172) rfl)) rfl
theorem im_X4_operation : Cond.instanceMethod yX4_operation ∈ G := mG (tb4 (List.mem_of_getElem? (i := 173) rfl)) rfl
theorem se_X4_operation : Cond.selects RX4 yX4_operation yX4_operation ∈ G := mG (tb4 (List.mem_of_getElem? (i := 174) rfl)) rfl
theorem co_X4_operation : Cond.code yX4_operation cX4_operation 10 (some .int) ∈ G := mG (tb4 (List.mem_of_getElem? (i := 175) rfl)) rfl
theorem ml_X4_87 : Cond.methodLink RX4 87 yX4_isBody ∈ G := mG (tb4 (List.mem_of_getElem? (i := 176) rfl)) rfl
theorem im_X4_isBody : Cond.instanceMethod yX4_isBody ∈ G := mG (tb4 (List.mem_of_getElem? (i := 178) rfl)) rfl
theorem co_X4_isBody : Cond.code yX4_isBody cX4_isBody 3 (some .boolean) ∈ G := mG (tb4 (List.mem_of_getElem? (i := 179) rfl)) rfl
theorem ml_X4_91 : Cond.methodLink RX4 91 yX4_isGood ∈ G := mG (tb4 (List.mem_of_getElem? (i := 180) rfl)) rfl
theorem st_X4_isGood : Cond.static yX4_isGood ∈ G := mG (tb4 (List.mem_of_getElem? (i := 181) rfl)) rfl
theorem co_X4_isGood : Cond.code yX4_isGood cX4_isGood 4 (some .boolean) ∈ G := mG (tb4 (List.mem_of_getElem? (i := 182) rfl)) rfl
theorem ml_X4_80 : Cond.methodLink RX4 80 yX4_isRegister ∈ G := mG (tb4 (List.mem_of_getElem? (i := 183) rfl)) rfl
theorem st_X4_isRegister : Cond.static yX4_isRegister ∈ G := mG (tb4 (List.mem_of_getElem? (i := 184) rfl)) rfl
theorem co_X4_isRegister : Cond.code yX4_isRegister cX4_isRegister 1 (some .boolean) ∈ G := mG (tb4 (List.mem_of_getElem? (i := 185) rfl)) rfl
theorem ml_X4_84 : Cond.methodLink RX4 84 yX4_isField ∈ G := mG (tb4 (List.mem_of_getElem? (i := 186) rfl)) rfl
theorem st_X4_isField : Cond.static yX4_isField ∈ G := mG (tb4 (List.mem_of_getElem? (i := 187) rfl)) rfl
theorem co_X4_isField : Cond.code yX4_isField cX4_isField 1 (some .boolean) ∈ G := mG (tb4 (List.mem_of_getElem? (i := 188) rfl)) rfl
theorem ml_L_62 : Cond.methodLink RL 62 yX4_strip ∈ G := mG (tb4 (List.mem_of_getElem? (i := 189) rfl)) rfl
theorem im_X4_strip : Cond.instanceMethod yX4_strip ∈ G := mG (tb4 (List.mem_of_getElem? (i := 190) rfl)) rfl
theorem se_X4_strip : Cond.selects RX4 yX4_strip yX4_strip ∈ G := mG (tb4 (List.mem_of_getElem? (i := 191) rfl)) rfl
theorem co_X4_strip : Cond.code yX4_strip cX4_strip 5 (some .int) ∈ G := mG (tb4 (List.mem_of_getElem? (i := 192) rfl)) rfl
theorem ml_L_66 : Cond.methodLink RL 66 yX4_shape ∈ G := mG (tb4 (List.mem_of_getElem? (i := 193) rfl)) rfl
theorem im_X4_shape : Cond.instanceMethod yX4_shape ∈ G := mG (tb4 (List.mem_of_getElem? (i := 194) rfl)) rfl
theorem se_X4_shape : Cond.selects RX4 yX4_shape yX4_shape ∈ G := mG (tb4 (List.mem_of_getElem? (i := 195) rfl)) rfl
theorem co_X4_shape : Cond.code yX4_shape cX4_shape 7 (some .int) ∈ G := mG (tb4 (List.mem_of_getElem? (i := 196) rfl)) rfl
theorem ml_X4_95 : Cond.methodLink RX4 95 yX4_target ∈ G := mG (tb4 (List.mem_of_getElem? (i := 197) rfl)) rfl
theorem im_X4_target : Cond.instanceMethod yX4_target ∈ G := mG (tb4 (List.mem_of_getElem? (i := 199) rfl)) rfl
theorem co_X4_target : Cond.code yX4_target cX4_target 4 (some .int) ∈ G := mG (tb4 (List.mem_of_getElem? (i := 200) rfl)) rfl
theorem ml_X4_106 : Cond.methodLink RX4 106 yX4_grows ∈ G := mG (tb4 (List.mem_of_getElem? (i := 201) rfl)) rfl
theorem im_X4_grows : Cond.instanceMethod yX4_grows ∈ G := mG (tb4 (List.mem_of_getElem? (i := 203) rfl)) rfl
theorem co_X4_grows : Cond.code yX4_grows cX4_grows 4 (some .boolean) ∈ G := mG (tb4 (List.mem_of_getElem? (i := 204) rfl)) rfl
theorem ml_X4_99 : Cond.methodLink RX4 99 yX4_at ∈ G := mG (tb4 (List.mem_of_getElem? (i := 205) rfl)) rfl
theorem im_X4_at : Cond.instanceMethod yX4_at ∈ G := mG (tb4 (List.mem_of_getElem? (i := 207) rfl)) rfl
theorem co_X4_at : Cond.code yX4_at cX4_at 4 (some .int) ∈ G := mG (tb4 (List.mem_of_getElem? (i := 208) rfl)) rfl
theorem ml_X4_103 : Cond.methodLink RX4 103 yX4_reachAll ∈ G := mG (tb4 (List.mem_of_getElem? (i := 209) rfl)) rfl
theorem im_X4_reachAll : Cond.instanceMethod yX4_reachAll ∈ G := mG (tb4 (List.mem_of_getElem? (i := 211) rfl)) rfl
theorem co_X4_reachAll : Cond.code yX4_reachAll cX4_reachAll 5 (some .boolean) ∈ G := mG (tb4 (List.mem_of_getElem? (i := 212) rfl)) rfl
theorem ml_X4_109 : Cond.methodLink RX4 109 yX4_call ∈ G := mG (tb4 (List.mem_of_getElem? (i := 213) rfl)) rfl
theorem im_X4_call : Cond.instanceMethod yX4_call ∈ G := mG (tb4 (List.mem_of_getElem? (i := 215) rfl)) rfl
theorem co_X4_call : Cond.code yX4_call cX4_call 6 (some .int) ∈ G := mG (tb4 (List.mem_of_getElem? (i := 216) rfl)) rfl
theorem ml_X4_113 : Cond.methodLink RX4 113 yX4_stays ∈ G := mG (tb4 (List.mem_of_getElem? (i := 217) rfl)) rfl
theorem im_X4_stays : Cond.instanceMethod yX4_stays ∈ G := mG (tb4 (List.mem_of_getElem? (i := 219) rfl)) rfl
theorem co_X4_stays : Cond.code yX4_stays cX4_stays 6 (some .boolean) ∈ G := mG (tb4 (List.mem_of_getElem? (i := 220) rfl)) rfl
theorem ml_L_70 : Cond.methodLink RL 70 yX4_reach ∈ G := mG (tb4 (List.mem_of_getElem? (i := 221) rfl)) rfl
theorem im_X4_reach : Cond.instanceMethod yX4_reach ∈ G := mG (tb4 (List.mem_of_getElem? (i := 222) rfl)) rfl
theorem se_X4_reach : Cond.selects RX4 yX4_reach yX4_reach ∈ G := mG (tb4 (List.mem_of_getElem? (i := 223) rfl)) rfl
theorem co_X4_reach : Cond.code yX4_reach cX4_reach 3 (some .int) ∈ G := mG (tb4 (List.mem_of_getElem? (i := 224) rfl)) rfl
theorem ml_L_74 : Cond.methodLink RL 74 yX4_site ∈ G := mG (tb4 (List.mem_of_getElem? (i := 225) rfl)) rfl
theorem im_X4_site : Cond.instanceMethod yX4_site ∈ G := mG (tb4 (List.mem_of_getElem? (i := 226) rfl)) rfl
theorem se_X4_site : Cond.selects RX4 yX4_site yX4_site ∈ G := mG (tb4 (List.mem_of_getElem? (i := 227) rfl)) rfl
theorem co_X4_site : Cond.code yX4_site cX4_site 5 (some .int) ∈ G := mG (tb4 (List.mem_of_getElem? (i := 228) rfl)) rfl
theorem ml_X4_116 : Cond.methodLink RX4 116 yX4_siteOf ∈ G := mG (tb4 (List.mem_of_getElem? (i := 229) rfl)) rfl
theorem im_X4_siteOf : Cond.instanceMethod yX4_siteOf ∈ G := mG (tb4 (List.mem_of_getElem? (i := 231) rfl)) rfl
theorem co_X4_siteOf : Cond.code yX4_siteOf cX4_siteOf 3 (some .int) ∈ G := mG (tb4 (List.mem_of_getElem? (i := 232) rfl)) rfl
theorem ml_L_78 : Cond.methodLink RL 78 yX4_run ∈ G := mG (tb4 (List.mem_of_getElem? (i := 233) rfl)) rfl
theorem im_X4_run : Cond.instanceMethod yX4_run ∈ G := mG (tb4 (List.mem_of_getElem? (i := 234) rfl)) rfl
theorem se_X4_run : Cond.selects RX4 yX4_run yX4_run ∈ G := mG (tb4 (List.mem_of_getElem? (i := 235) rfl)) rfl
theorem co_X4_run : Cond.code yX4_run cX4_run 5 (some .int) ∈ G := mG (tb4 (List.mem_of_getElem? (i := 236) rfl)) rfl
theorem ml_X4_136 : Cond.methodLink RX4 136 yX4_makes ∈ G := mG (tb4 (List.mem_of_getElem? (i := 237) rfl)) rfl
theorem im_X4_makes : Cond.instanceMethod yX4_makes ∈ G := mG (tb4 (List.mem_of_getElem? (i := 239) rfl)) rfl
theorem co_X4_makes : Cond.code yX4_makes cX4_makes 4 (some .int) ∈ G := mG (tb5 (List.mem_of_getElem? (i := 0) rfl)) rfl
theorem ml_X4_132 : Cond.methodLink RX4 132 yX4_enters ∈ G := mG (tb5 (List.mem_of_getElem? (i := 1) rfl)) rfl
theorem im_X4_enters : Cond.instanceMethod yX4_enters ∈ G := mG (tb5 (List.mem_of_getElem? (i := 3) rfl)) rfl
theorem co_X4_enters : Cond.code yX4_enters cX4_enters 8 none ∈ G := mG (tb5 (List.mem_of_getElem? (i := 4) rfl)) rfl
theorem ml_X4_157 : Cond.methodLink RX4 157 yX4_answers ∈ G := mG (tb5 (List.mem_of_getElem? (i := 5) rfl)) rfl
theorem im_X4_answers : Cond.instanceMethod yX4_answers ∈ G := mG (tb5 (List.mem_of_getElem? (i := 7) rfl)) rfl
theorem co_X4_answers : Cond.code yX4_answers cX4_answers 3 none ∈ G := mG (tb5 (List.mem_of_getElem? (i := 8) rfl)) rfl
theorem ml_X4_128 : Cond.methodLink RX4 128 yX4_set ∈ G := mG (tb5 (List.mem_of_getElem? (i := 9) rfl)) rfl
theorem im_X4_set : Cond.instanceMethod yX4_set ∈ G := mG (tb5 (List.mem_of_getElem? (i := 11) rfl)) rfl
theorem co_X4_set : Cond.code yX4_set cX4_set 4 none ∈ G := mG (tb5 (List.mem_of_getElem? (i := 12) rfl)) rfl
theorem ml_X4_161 : Cond.methodLink RX4 161 yX4_does ∈ G := mG (tb5 (List.mem_of_getElem? (i := 13) rfl)) rfl
theorem im_X4_does : Cond.instanceMethod yX4_does ∈ G := mG (tb5 (List.mem_of_getElem? (i := 15) rfl)) rfl
theorem co_X4_does : Cond.code yX4_does cX4_does 10 (some .int) ∈ G := mG (tb5 (List.mem_of_getElem? (i := 16) rfl)) rfl
theorem ml_X4_140 : Cond.methodLink RX4 140 yX4_sums ∈ G := mG (tb5 (List.mem_of_getElem? (i := 17) rfl)) rfl
theorem im_X4_sums : Cond.instanceMethod yX4_sums ∈ G := mG (tb5 (List.mem_of_getElem? (i := 19) rfl)) rfl
theorem co_X4_sums : Cond.code yX4_sums cX4_sums 8 (some .int) ∈ G := mG (tb5 (List.mem_of_getElem? (i := 20) rfl)) rfl
theorem ml_X4_144 : Cond.methodLink RX4 144 yX4_news ∈ G := mG (tb5 (List.mem_of_getElem? (i := 21) rfl)) rfl
theorem im_X4_news : Cond.instanceMethod yX4_news ∈ G := mG (tb5 (List.mem_of_getElem? (i := 23) rfl)) rfl
theorem co_X4_news : Cond.code yX4_news cX4_news 5 (some .int) ∈ G := mG (tb5 (List.mem_of_getElem? (i := 24) rfl)) rfl
theorem ml_X4_147 : Cond.methodLink RX4 147 yX4_calls ∈ G := mG (tb5 (List.mem_of_getElem? (i := 25) rfl)) rfl
theorem im_X4_calls : Cond.instanceMethod yX4_calls ∈ G := mG (tb5 (List.mem_of_getElem? (i := 27) rfl)) rfl
theorem co_X4_calls : Cond.code yX4_calls cX4_calls 7 (some .int) ∈ G := mG (tb5 (List.mem_of_getElem? (i := 28) rfl)) rfl
theorem ml_X4_151 : Cond.methodLink RX4 151 yX4_puts ∈ G := mG (tb5 (List.mem_of_getElem? (i := 29) rfl)) rfl
theorem im_X4_puts : Cond.instanceMethod yX4_puts ∈ G := mG (tb5 (List.mem_of_getElem? (i := 31) rfl)) rfl
theorem co_X4_puts : Cond.code yX4_puts cX4_puts 2 (some .int) ∈ G := mG (tb5 (List.mem_of_getElem? (i := 32) rfl)) rfl
theorem ml_X4_154 : Cond.methodLink RX4 154 yX4_isAnother ∈ G := mG (tb5 (List.mem_of_getElem? (i := 33) rfl)) rfl
theorem im_X4_isAnother : Cond.instanceMethod yX4_isAnother ∈ G := mG (tb5 (List.mem_of_getElem? (i := 35) rfl)) rfl
theorem co_X4_isAnother : Cond.code yX4_isAnother cX4_isAnother 4 (some .boolean) ∈ G := mG (tb5 (List.mem_of_getElem? (i := 36) rfl)) rfl
theorem ml_L_81 : Cond.methodLink RL 81 yX4_count ∈ G := mG (tb5 (List.mem_of_getElem? (i := 37) rfl)) rfl
theorem im_X4_count : Cond.instanceMethod yX4_count ∈ G := mG (tb5 (List.mem_of_getElem? (i := 38) rfl)) rfl
theorem se_X4_count : Cond.selects RX4 yX4_count yX4_count ∈ G := mG (tb5 (List.mem_of_getElem? (i := 39) rfl)) rfl
theorem co_X4_count : Cond.code yX4_count cX4_count 2 (some .int) ∈ G := mG (tb5 (List.mem_of_getElem? (i := 40) rfl)) rfl
theorem ml_L_84 : Cond.methodLink RL 84 yX4_out ∈ G := mG (tb5 (List.mem_of_getElem? (i := 41) rfl)) rfl
theorem im_X4_out : Cond.instanceMethod yX4_out ∈ G := mG (tb5 (List.mem_of_getElem? (i := 42) rfl)) rfl
theorem se_X4_out : Cond.selects RX4 yX4_out yX4_out ∈ G := mG (tb5 (List.mem_of_getElem? (i := 43) rfl)) rfl
theorem co_X4_out : Cond.code yX4_out cX4_out 2 (some .int) ∈ G := mG (tb5 (List.mem_of_getElem? (i := 44) rfl)) rfl
theorem se_X2_findReached : Cond.selects RX2 yX2_findReached yX2_findReached ∈ G := mG (tbs (pv1 (List.mem_of_getElem? (i := 0) rfl))) rfl
theorem se_X2_targetSet : Cond.selects RX2 yX2_targetSet yX2_targetSet ∈ G := mG (tbs (pv1 (List.mem_of_getElem? (i := 1) rfl))) rfl
theorem se_X2_readBodies : Cond.selects RX2 yX2_readBodies yX2_readBodies ∈ G := mG (tbs (pv1 (List.mem_of_getElem? (i := 2) rfl))) rfl
theorem se_X2_readBody : Cond.selects RX2 yX2_readBody yX2_readBody ∈ G := mG (tbs (pv1 (List.mem_of_getElem? (i := 3) rfl))) rfl
theorem se_X2_reachTargets : Cond.selects RX2 yX2_reachTargets yX2_reachTargets ∈ G := mG (tbs (pv1 (List.mem_of_getElem? (i := 4) rfl))) rfl
theorem se_X2_verdictOfCalls : Cond.selects RX2 yX2_verdictOfCalls yX2_verdictOfCalls ∈ G := mG (tbs (pv1 (List.mem_of_getElem? (i := 5) rfl))) rfl
theorem se_X2_judge : Cond.selects RX2 yX2_judge yX2_judge ∈ G := mG (tbs (pv1 (List.mem_of_getElem? (i := 6) rfl))) rfl
theorem se_X2_waysOut : Cond.selects RX2 yX2_waysOut yX2_waysOut ∈ G := mG (tbs (pv1 (List.mem_of_getElem? (i := 7) rfl))) rfl
theorem se_X2_holders : Cond.selects RX2 yX2_holders yX2_holders ∈ G := mG (tbs (pv1 (List.mem_of_getElem? (i := 8) rfl))) rfl
theorem se_X0_begin : Cond.selects RX0 yX0_begin yX0_begin ∈ G := mG (tbs (pv1 (List.mem_of_getElem? (i := 10) rfl))) rfl
theorem se_X0_newObject : Cond.selects RX0 yX0_newObject yX0_newObject ∈ G := mG (tbs (pv1 (List.mem_of_getElem? (i := 11) rfl))) rfl
theorem se_X0_enter : Cond.selects RX0 yX0_enter yX0_enter ∈ G := mG (tbs (pv1 (List.mem_of_getElem? (i := 12) rfl))) rfl
theorem se_X0_isGoing : Cond.selects RX0 yX0_isGoing yX0_isGoing ∈ G := mG (tbs (pv1 (List.mem_of_getElem? (i := 13) rfl))) rfl
theorem se_X0_isBehindLast : Cond.selects RX0 yX0_isBehindLast yX0_isBehindLast ∈ G := mG (tbs (pv1 (List.mem_of_getElem? (i := 14) rfl))) rfl
theorem se_X0_answer : Cond.selects RX0 yX0_answer yX0_answer ∈ G := mG (tbs (pv1 (List.mem_of_getElem? (i := 15) rfl))) rfl
theorem se_X0_step : Cond.selects RX0 yX0_step yX0_step ∈ G := mG (tbs (pv2 (List.mem_of_getElem? (i := 0) rfl))) rfl
theorem se_X0_perform : Cond.selects RX0 yX0_perform yX0_perform ∈ G := mG (tbs (pv2 (List.mem_of_getElem? (i := 1) rfl))) rfl
theorem se_X0_reckon : Cond.selects RX0 yX0_reckon yX0_reckon ∈ G := mG (tbs (pv2 (List.mem_of_getElem? (i := 2) rfl))) rfl
theorem se_X0_make : Cond.selects RX0 yX0_make yX0_make ∈ G := mG (tbs (pv2 (List.mem_of_getElem? (i := 3) rfl))) rfl
theorem se_X0_readField : Cond.selects RX0 yX0_readField yX0_readField ∈ G := mG (tbs (pv2 (List.mem_of_getElem? (i := 4) rfl))) rfl
theorem se_X0_writeField : Cond.selects RX0 yX0_writeField yX0_writeField ∈ G := mG (tbs (pv2 (List.mem_of_getElem? (i := 5) rfl))) rfl
theorem se_X0_send : Cond.selects RX0 yX0_send yX0_send ∈ G := mG (tbs (pv2 (List.mem_of_getElem? (i := 6) rfl))) rfl
theorem se_X0_countCall : Cond.selects RX0 yX0_countCall yX0_countCall ∈ G := mG (tbs (pv2 (List.mem_of_getElem? (i := 7) rfl))) rfl
theorem se_X0_print : Cond.selects RX0 yX0_print yX0_print ∈ G := mG (tbs (pv2 (List.mem_of_getElem? (i := 8) rfl))) rfl
theorem se_X0_checkClass : Cond.selects RX0 yX0_checkClass yX0_checkClass ∈ G := mG (tbs (pv2 (List.mem_of_getElem? (i := 9) rfl))) rfl
theorem se_X4_fails : Cond.selects RX4 yX4_fails yX4_fails ∈ G := mG (tbs (pv2 (List.mem_of_getElem? (i := 10) rfl))) rfl
theorem se_X4_isBody : Cond.selects RX4 yX4_isBody yX4_isBody ∈ G := mG (tbs (pv2 (List.mem_of_getElem? (i := 11) rfl))) rfl
theorem se_X4_target : Cond.selects RX4 yX4_target yX4_target ∈ G := mG (tbs (pv2 (List.mem_of_getElem? (i := 12) rfl))) rfl
theorem se_X4_grows : Cond.selects RX4 yX4_grows yX4_grows ∈ G := mG (tbs (pv2 (List.mem_of_getElem? (i := 13) rfl))) rfl
theorem se_X4_at : Cond.selects RX4 yX4_at yX4_at ∈ G := mG (tbs (pv2 (List.mem_of_getElem? (i := 14) rfl))) rfl
theorem se_X4_reachAll : Cond.selects RX4 yX4_reachAll yX4_reachAll ∈ G := mG (tbs (pv2 (List.mem_of_getElem? (i := 15) rfl))) rfl
theorem se_X4_call : Cond.selects RX4 yX4_call yX4_call ∈ G := mG (tbs (pv3 (List.mem_of_getElem? (i := 0) rfl))) rfl
theorem se_X4_stays : Cond.selects RX4 yX4_stays yX4_stays ∈ G := mG (tbs (pv3 (List.mem_of_getElem? (i := 1) rfl))) rfl
theorem se_X4_siteOf : Cond.selects RX4 yX4_siteOf yX4_siteOf ∈ G := mG (tbs (pv3 (List.mem_of_getElem? (i := 2) rfl))) rfl
theorem se_X4_makes : Cond.selects RX4 yX4_makes yX4_makes ∈ G := mG (tbs (pv3 (List.mem_of_getElem? (i := 3) rfl))) rfl
theorem se_X4_enters : Cond.selects RX4 yX4_enters yX4_enters ∈ G := mG (tbs (pv3 (List.mem_of_getElem? (i := 4) rfl))) rfl
theorem se_X4_answers : Cond.selects RX4 yX4_answers yX4_answers ∈ G := mG (tbs (pv3 (List.mem_of_getElem? (i := 5) rfl))) rfl
theorem se_X4_set : Cond.selects RX4 yX4_set yX4_set ∈ G := mG (tbs (pv3 (List.mem_of_getElem? (i := 6) rfl))) rfl
theorem se_X4_does : Cond.selects RX4 yX4_does yX4_does ∈ G := mG (tbs (pv3 (List.mem_of_getElem? (i := 7) rfl))) rfl
theorem se_X4_sums : Cond.selects RX4 yX4_sums yX4_sums ∈ G := mG (tbs (pv3 (List.mem_of_getElem? (i := 8) rfl))) rfl
theorem se_X4_news : Cond.selects RX4 yX4_news yX4_news ∈ G := mG (tbs (pv3 (List.mem_of_getElem? (i := 9) rfl))) rfl
theorem se_X4_calls : Cond.selects RX4 yX4_calls yX4_calls ∈ G := mG (tbs (pv3 (List.mem_of_getElem? (i := 10) rfl))) rfl
theorem se_X4_puts : Cond.selects RX4 yX4_puts yX4_puts ∈ G := mG (tbs (pv3 (List.mem_of_getElem? (i := 11) rfl))) rfl
theorem se_X4_isAnother : Cond.selects RX4 yX4_isAnother yX4_isAnother ∈ G := mG (tbs (pv3 (List.mem_of_getElem? (i := 12) rfl))) rfl
theorem inG_X0 : ∀ w ∈ u_ws RX0 TX0 15, w ∈ G := by
  show ∀ w ∈ [u_lay RX0 TX0 0, u_lay RX0 TX0 1, u_lay RX0 TX0 2, u_lay RX0 TX0 3, u_lay RX0 TX0 4, u_lay RX0 TX0 5, u_lay RX0 TX0 6, u_lay RX0 TX0 7, u_lay RX0 TX0 8, u_lay RX0 TX0 9, u_lay RX0 TX0 10, u_lay RX0 TX0 11, u_lay RX0 TX0 12, u_lay RX0 TX0 13, u_lay RX0 TX0 14], w ∈ G
  exact List.forall_mem_cons.mpr ⟨mG (tb1 (List.mem_of_getElem? (i := 109) rfl)) rfl, List.forall_mem_cons.mpr ⟨mG (tb1 (List.mem_of_getElem? (i := 111) rfl)) rfl, List.forall_mem_cons.mpr ⟨mG (tb1 (List.mem_of_getElem? (i := 113) rfl)) rfl, List.forall_mem_cons.mpr ⟨mG (tb1 (List.mem_of_getElem? (i := 115) rfl)) rfl, List.forall_mem_cons.mpr ⟨mG (tb1 (List.mem_of_getElem? (i := 117) rfl)) rfl, List.forall_mem_cons.mpr ⟨mG (tb1 (List.mem_of_getElem? (i := 119) rfl)) rfl, List.forall_mem_cons.mpr ⟨mG (tb1 (List.mem_of_getElem? (i := 121) rfl)) rfl, List.forall_mem_cons.mpr ⟨mG (tb1 (List.mem_of_getElem? (i := 123) rfl)) rfl, List.forall_mem_cons.mpr ⟨mG (tb1 (List.mem_of_getElem? (i := 125) rfl)) rfl, List.forall_mem_cons.mpr ⟨mG (tb1 (List.mem_of_getElem? (i := 127) rfl)) rfl, List.forall_mem_cons.mpr ⟨mG (tb1 (List.mem_of_getElem? (i := 129) rfl)) rfl, List.forall_mem_cons.mpr ⟨mG (tb1 (List.mem_of_getElem? (i := 131) rfl)) rfl, List.forall_mem_cons.mpr ⟨mG (tb1 (List.mem_of_getElem? (i := 133) rfl)) rfl, List.forall_mem_cons.mpr ⟨mG (tb1 (List.mem_of_getElem? (i := 135) rfl)) rfl, List.forall_mem_cons.mpr ⟨mG (tb1 (List.mem_of_getElem? (i := 137) rfl)) rfl, fun _ h => absurd h List.not_mem_nil⟩⟩⟩⟩⟩⟩⟩⟩⟩⟩⟩⟩⟩⟩⟩
theorem inG_X1 : ∀ w ∈ u_ws RX1 TX1 7, w ∈ G := by
  show ∀ w ∈ [u_lay RX1 TX1 0, u_lay RX1 TX1 1, u_lay RX1 TX1 2, u_lay RX1 TX1 3, u_lay RX1 TX1 4, u_lay RX1 TX1 5, u_lay RX1 TX1 6], w ∈ G
  exact List.forall_mem_cons.mpr ⟨mG (tb1 (List.mem_of_getElem? (i := 47) rfl)) rfl, List.forall_mem_cons.mpr ⟨mG (tb1 (List.mem_of_getElem? (i := 49) rfl)) rfl, List.forall_mem_cons.mpr ⟨mG (tb1 (List.mem_of_getElem? (i := 51) rfl)) rfl, List.forall_mem_cons.mpr ⟨mG (tb1 (List.mem_of_getElem? (i := 53) rfl)) rfl, List.forall_mem_cons.mpr ⟨mG (tb1 (List.mem_of_getElem? (i := 55) rfl)) rfl, List.forall_mem_cons.mpr ⟨mG (tb1 (List.mem_of_getElem? (i := 57) rfl)) rfl, List.forall_mem_cons.mpr ⟨mG (tb1 (List.mem_of_getElem? (i := 59) rfl)) rfl, fun _ h => absurd h List.not_mem_nil⟩⟩⟩⟩⟩⟩⟩
theorem inG_X2 : ∀ w ∈ u_ws RX2 TX2 6, w ∈ G := by
  show ∀ w ∈ [u_lay RX2 TX2 0, u_lay RX2 TX2 1, u_lay RX2 TX2 2, u_lay RX2 TX2 3, u_lay RX2 TX2 4, u_lay RX2 TX2 5], w ∈ G
  exact List.forall_mem_cons.mpr ⟨mG (tb1 (List.mem_of_getElem? (i := 75) rfl)) rfl, List.forall_mem_cons.mpr ⟨mG (tb1 (List.mem_of_getElem? (i := 77) rfl)) rfl, List.forall_mem_cons.mpr ⟨mG (tb1 (List.mem_of_getElem? (i := 79) rfl)) rfl, List.forall_mem_cons.mpr ⟨mG (tb1 (List.mem_of_getElem? (i := 81) rfl)) rfl, List.forall_mem_cons.mpr ⟨mG (tb1 (List.mem_of_getElem? (i := 83) rfl)) rfl, List.forall_mem_cons.mpr ⟨mG (tb1 (List.mem_of_getElem? (i := 85) rfl)) rfl, fun _ h => absurd h List.not_mem_nil⟩⟩⟩⟩⟩⟩
theorem inG_X3 : ∀ w ∈ u_ws RX3 TX3 3, w ∈ G := by
  show ∀ w ∈ [u_lay RX3 TX3 0, u_lay RX3 TX3 1, u_lay RX3 TX3 2], w ∈ G
  exact List.forall_mem_cons.mpr ⟨mG (tb1 (List.mem_of_getElem? (i := 144) rfl)) rfl, List.forall_mem_cons.mpr ⟨mG (tb1 (List.mem_of_getElem? (i := 146) rfl)) rfl, List.forall_mem_cons.mpr ⟨mG (tb1 (List.mem_of_getElem? (i := 148) rfl)) rfl, fun _ h => absurd h List.not_mem_nil⟩⟩⟩
theorem inG_X4 : ∀ w ∈ u_ws RX4 TX4 23, w ∈ G := by
  show ∀ w ∈ [u_lay RX4 TX4 0, u_lay RX4 TX4 1, u_lay RX4 TX4 2, u_lay RX4 TX4 3, u_lay RX4 TX4 4, u_lay RX4 TX4 5, u_lay RX4 TX4 6, u_lay RX4 TX4 7, u_lay RX4 TX4 8, u_lay RX4 TX4 9, u_lay RX4 TX4 10, u_lay RX4 TX4 11, u_lay RX4 TX4 12, u_lay RX4 TX4 13, u_lay RX4 TX4 14, u_lay RX4 TX4 15, u_lay RX4 TX4 16, u_lay RX4 TX4 17, u_lay RX4 TX4 18, u_lay RX4 TX4 19, u_lay RX4 TX4 20, u_lay RX4 TX4 21, u_lay RX4 TX4 22], w ∈ G
  exact List.forall_mem_cons.mpr ⟨mG (tb4 (List.mem_of_getElem? (i := 109) rfl)) rfl, List.forall_mem_cons.mpr ⟨mG (tb4 (List.mem_of_getElem? (i := 111) rfl)) rfl, List.forall_mem_cons.mpr ⟨mG (tb4 (List.mem_of_getElem? (i := 113) rfl)) rfl, List.forall_mem_cons.mpr ⟨mG (tb4 (List.mem_of_getElem? (i := 115) rfl)) rfl, List.forall_mem_cons.mpr ⟨mG (tb4 (List.mem_of_getElem? (i := 117) rfl)) rfl, List.forall_mem_cons.mpr ⟨mG (tb4 (List.mem_of_getElem? (i := 119) rfl)) rfl, List.forall_mem_cons.mpr ⟨mG (tb4 (List.mem_of_getElem? (i := 121) rfl)) rfl, List.forall_mem_cons.mpr ⟨mG (tb4 (List.mem_of_getElem? (i := 123) rfl)) rfl, List.forall_mem_cons.mpr ⟨mG (tb4 (List.mem_of_getElem? (i := 125) rfl)) rfl, List.forall_mem_cons.mpr ⟨mG (tb4 (List.mem_of_getElem? (i := 127) rfl)) rfl, List.forall_mem_cons.mpr ⟨mG (tb4 (List.mem_of_getElem? (i := 129) rfl)) rfl, List.forall_mem_cons.mpr ⟨mG (tb4 (List.mem_of_getElem? (i := 131) rfl)) rfl, List.forall_mem_cons.mpr ⟨mG (tb4 (List.mem_of_getElem? (i := 133) rfl)) rfl, List.forall_mem_cons.mpr ⟨mG (tb4 (List.mem_of_getElem? (i := 135) rfl)) rfl, List.forall_mem_cons.mpr ⟨mG (tb4 (List.mem_of_getElem? (i := 137) rfl)) rfl, List.forall_mem_cons.mpr ⟨mG (tb4 (List.mem_of_getElem? (i := 139) rfl)) rfl, List.forall_mem_cons.mpr ⟨mG (tb4 (List.mem_of_getElem? (i := 141) rfl)) rfl, List.forall_mem_cons.mpr ⟨mG (tb4 (List.mem_of_getElem? (i := 143) rfl)) rfl, List.forall_mem_cons.mpr ⟨mG (tb4 (List.mem_of_getElem? (i := 145) rfl)) rfl, List.forall_mem_cons.mpr ⟨mG (tb4 (List.mem_of_getElem? (i := 147) rfl)) rfl, List.forall_mem_cons.mpr ⟨mG (tb4 (List.mem_of_getElem? (i := 149) rfl)) rfl, List.forall_mem_cons.mpr ⟨mG (tb4 (List.mem_of_getElem? (i := 151) rfl)) rfl, List.forall_mem_cons.mpr ⟨mG (tb4 (List.mem_of_getElem? (i := 153) rfl)) rfl, fun _ h => absurd h List.not_mem_nil⟩⟩⟩⟩⟩⟩⟩⟩⟩⟩⟩⟩⟩⟩⟩⟩⟩⟩⟩⟩⟩⟩⟩
end
section
abbrev Val : Type := Int32 ⊕ Nat
def oI (o : Option Nat) : Int32 := match o with
  | none => -1
  | some k => nI k
def bI (b : Bool) : Int32 := match b with
  | true => 1
  | false => 0
def vJ (v : Val) : Int64 := match v with
  | .inl x => x.toInt64
  | .inr k => lN (4294967296 + k)
theorem bI_n (b : Bool) : narrow .boolean (.int (bI b)) = .int (bI b) := by cases b <;> rfl
theorem bI_f (b : Bool) : fits .boolean (.int (bI b)) = true := by cases b <;> rfl
theorem bI_nar (b : Bool) : vp_nar .boolean (bI b) = bI b := by cases b <;> rfl
theorem va_D_addr {A : Nat → Prop} {ws ws' : va_W} (h : ws.map Prod.fst = ws'.map Prod.fst) (hD : va_D A ws) : va_D A ws' := by
  have at' : ∀ (k : Nat) (q : Nat × va_E), ws'[k]? = some q → ∃ e, ws[k]? = some (q.1, e) := fun k q hq => by
    have h1 : (ws'.map Prod.fst)[k]? = some q.1 := by rw [List.getElem?_map, hq]; rfl
    rw [← h, List.getElem?_map] at h1
    cases hw : ws[k]? with
    | none => rw [hw] at h1; cases h1
    | some z =>
      rw [hw] at h1
      obtain ⟨z1, z2⟩ := z
      cases Option.some.inj h1
      exact ⟨z2, rfl⟩
  refine ⟨fun i j p q hi hj e => ?_, fun k q hk => ?_⟩
  · obtain ⟨a, ha⟩ := at' i p hi
    obtain ⟨b, hb⟩ := at' j q hj
    exact hD.1 i j _ _ ha hb e
  · obtain ⟨a, ha⟩ := at' k q hk
    exact hD.2 k (q.1, a) ha
abbrev t3 (cI cJ cZ : ClassId) : List (ClassId × FieldType) := [(cI, .int), (cJ, .long), (cZ, .boolean)]
abbrev CS : Type := (Nat → Option Nat) × (Nat → Nat) × (Nat → Nat) × (Nat → Nat) × (Nat → Int32) × (Nat → Int32) × Nat × (Nat → Nat) × (Nat → Nat) × Nat × Nat × Nat × (Nat → Val) × (Nat → Nat) × (Nat → Nat) × (Nat → Nat) × (Nat → Nat) × (Nat → Val) × (Nat → Int32) × (Nat → Nat) × Bool × Nat × Nat × Nat × Nat
def gcP (σ : CS) : (Nat → Option Nat) := σ.1
def gcL (σ : CS) : (Nat → Nat) := σ.2.1
def gcK (σ : CS) : (Nat → Nat) := σ.2.2.1
def gcX (σ : CS) : (Nat → Nat) := σ.2.2.2.1
def gcY (σ : CS) : (Nat → Int32) := σ.2.2.2.2.1
def gcZ (σ : CS) : (Nat → Int32) := σ.2.2.2.2.2.1
def gcn (σ : CS) : Nat := σ.2.2.2.2.2.2.1
def gcV (σ : CS) : (Nat → Nat) := σ.2.2.2.2.2.2.2.1
def gcCV (σ : CS) : (Nat → Nat) := σ.2.2.2.2.2.2.2.2.1
def gcma (σ : CS) : Nat := σ.2.2.2.2.2.2.2.2.2.1
def gcre (σ : CS) : Nat := σ.2.2.2.2.2.2.2.2.2.2.1
def gcca (σ : CS) : Nat := σ.2.2.2.2.2.2.2.2.2.2.2.1
def gcRg (σ : CS) : (Nat → Val) := σ.2.2.2.2.2.2.2.2.2.2.2.2.1
def gcBo (σ : CS) : (Nat → Nat) := σ.2.2.2.2.2.2.2.2.2.2.2.2.2.1
def gcNe (σ : CS) : (Nat → Nat) := σ.2.2.2.2.2.2.2.2.2.2.2.2.2.2.1
def gcAn (σ : CS) : (Nat → Nat) := σ.2.2.2.2.2.2.2.2.2.2.2.2.2.2.2.1
def gcCl (σ : CS) : (Nat → Nat) := σ.2.2.2.2.2.2.2.2.2.2.2.2.2.2.2.2.1
def gcFl (σ : CS) : (Nat → Val) := σ.2.2.2.2.2.2.2.2.2.2.2.2.2.2.2.2.2.1
def gcPo (σ : CS) : (Nat → Int32) := σ.2.2.2.2.2.2.2.2.2.2.2.2.2.2.2.2.2.2.1
def gcCt (σ : CS) : (Nat → Nat) := σ.2.2.2.2.2.2.2.2.2.2.2.2.2.2.2.2.2.2.2.1
def gcsh (σ : CS) : Bool := σ.2.2.2.2.2.2.2.2.2.2.2.2.2.2.2.2.2.2.2.2.1
def gcrm (σ : CS) : Nat := σ.2.2.2.2.2.2.2.2.2.2.2.2.2.2.2.2.2.2.2.2.2.1
def gcfr (σ : CS) : Nat := σ.2.2.2.2.2.2.2.2.2.2.2.2.2.2.2.2.2.2.2.2.2.2.1
def gcob (σ : CS) : Nat := σ.2.2.2.2.2.2.2.2.2.2.2.2.2.2.2.2.2.2.2.2.2.2.2.1
def gctr (σ : CS) : Nat := σ.2.2.2.2.2.2.2.2.2.2.2.2.2.2.2.2.2.2.2.2.2.2.2.2
def scP (σ : CS) (v : (Nat → Option Nat)) : CS := (v, σ.2)
def scL (σ : CS) (v : (Nat → Nat)) : CS := (σ.1, v, σ.2.2)
def scK (σ : CS) (v : (Nat → Nat)) : CS := (σ.1, σ.2.1, v, σ.2.2.2)
def scX (σ : CS) (v : (Nat → Nat)) : CS := (σ.1, σ.2.1, σ.2.2.1, v, σ.2.2.2.2)
def scY (σ : CS) (v : (Nat → Int32)) : CS := (σ.1, σ.2.1, σ.2.2.1, σ.2.2.2.1, v, σ.2.2.2.2.2)
def scZ (σ : CS) (v : (Nat → Int32)) : CS := (σ.1, σ.2.1, σ.2.2.1, σ.2.2.2.1, σ.2.2.2.2.1, v, σ.2.2.2.2.2.2)
def scn (σ : CS) (v : Nat) : CS := (σ.1, σ.2.1, σ.2.2.1, σ.2.2.2.1, σ.2.2.2.2.1, σ.2.2.2.2.2.1, v, σ.2.2.2.2.2.2.2)
def scV (σ : CS) (v : (Nat → Nat)) : CS := (σ.1, σ.2.1, σ.2.2.1, σ.2.2.2.1, σ.2.2.2.2.1, σ.2.2.2.2.2.1, σ.2.2.2.2.2.2.1, v, σ.2.2.2.2.2.2.2.2)
def scCV (σ : CS) (v : (Nat → Nat)) : CS := (σ.1, σ.2.1, σ.2.2.1, σ.2.2.2.1, σ.2.2.2.2.1, σ.2.2.2.2.2.1, σ.2.2.2.2.2.2.1, σ.2.2.2.2.2.2.2.1, v, σ.2.2.2.2.2.2.2.2.2)
def scma (σ : CS) (v : Nat) : CS := (σ.1, σ.2.1, σ.2.2.1, σ.2.2.2.1, σ.2.2.2.2.1, σ.2.2.2.2.2.1, σ.2.2.2.2.2.2.1, σ.2.2.2.2.2.2.2.1, σ.2.2.2.2.2.2.2.2.1, v, σ.2.2.2.2.2.2.2.2.2.2)
def scre (σ : CS) (v : Nat) : CS := (σ.1, σ.2.1, σ.2.2.1, σ.2.2.2.1, σ.2.2.2.2.1, σ.2.2.2.2.2.1, σ.2.2.2.2.2.2.1, σ.2.2.2.2.2.2.2.1, σ.2.2.2.2.2.2.2.2.1, σ.2.2.2.2.2.2.2.2.2.1, v, σ.2.2.2.2.2.2.2.2.2.2.2)
def scca (σ : CS) (v : Nat) : CS := (σ.1, σ.2.1, σ.2.2.1, σ.2.2.2.1, σ.2.2.2.2.1, σ.2.2.2.2.2.1, σ.2.2.2.2.2.2.1, σ.2.2.2.2.2.2.2.1, σ.2.2.2.2.2.2.2.2.1, σ.2.2.2.2.2.2.2.2.2.1, σ.2.2.2.2.2.2.2.2.2.2.1, v, σ.2.2.2.2.2.2.2.2.2.2.2.2)
def scRg (σ : CS) (v : (Nat → Val)) : CS := (σ.1, σ.2.1, σ.2.2.1, σ.2.2.2.1, σ.2.2.2.2.1, σ.2.2.2.2.2.1, σ.2.2.2.2.2.2.1, σ.2.2.2.2.2.2.2.1, σ.2.2.2.2.2.2.2.2.1, σ.2.2.2.2.2.2.2.2.2.1, σ.2.2.2.2.2.2.2.2.2.2.1, σ.2.2.2.2.2.2.2.2.2.2.2.1, v, σ.2.2.2.2.2.2.2.2.2.2.2.2.2)
def scBo (σ : CS) (v : (Nat → Nat)) : CS := (σ.1, σ.2.1, σ.2.2.1, σ.2.2.2.1, σ.2.2.2.2.1, σ.2.2.2.2.2.1, σ.2.2.2.2.2.2.1, σ.2.2.2.2.2.2.2.1, σ.2.2.2.2.2.2.2.2.1, σ.2.2.2.2.2.2.2.2.2.1, σ.2.2.2.2.2.2.2.2.2.2.1, σ.2.2.2.2.2.2.2.2.2.2.2.1, σ.2.2.2.2.2.2.2.2.2.2.2.2.1, v, σ.2.2.2.2.2.2.2.2.2.2.2.2.2.2)
def scNe (σ : CS) (v : (Nat → Nat)) : CS := (σ.1, σ.2.1, σ.2.2.1, σ.2.2.2.1, σ.2.2.2.2.1, σ.2.2.2.2.2.1, σ.2.2.2.2.2.2.1, σ.2.2.2.2.2.2.2.1, σ.2.2.2.2.2.2.2.2.1, σ.2.2.2.2.2.2.2.2.2.1, σ.2.2.2.2.2.2.2.2.2.2.1, σ.2.2.2.2.2.2.2.2.2.2.2.1, σ.2.2.2.2.2.2.2.2.2.2.2.2.1, σ.2.2.2.2.2.2.2.2.2.2.2.2.2.1, v, σ.2.2.2.2.2.2.2.2.2.2.2.2.2.2.2)
def scAn (σ : CS) (v : (Nat → Nat)) : CS := (σ.1, σ.2.1, σ.2.2.1, σ.2.2.2.1, σ.2.2.2.2.1, σ.2.2.2.2.2.1, σ.2.2.2.2.2.2.1, σ.2.2.2.2.2.2.2.1, σ.2.2.2.2.2.2.2.2.1, σ.2.2.2.2.2.2.2.2.2.1, σ.2.2.2.2.2.2.2.2.2.2.1, σ.2.2.2.2.2.2.2.2.2.2.2.1, σ.2.2.2.2.2.2.2.2.2.2.2.2.1, σ.2.2.2.2.2.2.2.2.2.2.2.2.2.1, σ.2.2.2.2.2.2.2.2.2.2.2.2.2.2.1, v, σ.2.2.2.2.2.2.2.2.2.2.2.2.2.2.2.2)
def scCl (σ : CS) (v : (Nat → Nat)) : CS := (σ.1, σ.2.1, σ.2.2.1, σ.2.2.2.1, σ.2.2.2.2.1, σ.2.2.2.2.2.1, σ.2.2.2.2.2.2.1, σ.2.2.2.2.2.2.2.1, σ.2.2.2.2.2.2.2.2.1, σ.2.2.2.2.2.2.2.2.2.1, σ.2.2.2.2.2.2.2.2.2.2.1, σ.2.2.2.2.2.2.2.2.2.2.2.1, σ.2.2.2.2.2.2.2.2.2.2.2.2.1, σ.2.2.2.2.2.2.2.2.2.2.2.2.2.1, σ.2.2.2.2.2.2.2.2.2.2.2.2.2.2.1, σ.2.2.2.2.2.2.2.2.2.2.2.2.2.2.2.1, v, σ.2.2.2.2.2.2.2.2.2.2.2.2.2.2.2.2.2)
def scFl (σ : CS) (v : (Nat → Val)) : CS := (σ.1, σ.2.1, σ.2.2.1, σ.2.2.2.1, σ.2.2.2.2.1, σ.2.2.2.2.2.1, σ.2.2.2.2.2.2.1, σ.2.2.2.2.2.2.2.1, σ.2.2.2.2.2.2.2.2.1, σ.2.2.2.2.2.2.2.2.2.1, σ.2.2.2.2.2.2.2.2.2.2.1, σ.2.2.2.2.2.2.2.2.2.2.2.1, σ.2.2.2.2.2.2.2.2.2.2.2.2.1, σ.2.2.2.2.2.2.2.2.2.2.2.2.2.1, σ.2.2.2.2.2.2.2.2.2.2.2.2.2.2.1, σ.2.2.2.2.2.2.2.2.2.2.2.2.2.2.2.1, σ.2.2.2.2.2.2.2.2.2.2.2.2.2.2.2.2.1, v, σ.2.2.2.2.2.2.2.2.2.2.2.2.2.2.2.2.2.2)
def scPo (σ : CS) (v : (Nat → Int32)) : CS := (σ.1, σ.2.1, σ.2.2.1, σ.2.2.2.1, σ.2.2.2.2.1, σ.2.2.2.2.2.1, σ.2.2.2.2.2.2.1, σ.2.2.2.2.2.2.2.1, σ.2.2.2.2.2.2.2.2.1, σ.2.2.2.2.2.2.2.2.2.1, σ.2.2.2.2.2.2.2.2.2.2.1, σ.2.2.2.2.2.2.2.2.2.2.2.1, σ.2.2.2.2.2.2.2.2.2.2.2.2.1, σ.2.2.2.2.2.2.2.2.2.2.2.2.2.1, σ.2.2.2.2.2.2.2.2.2.2.2.2.2.2.1, σ.2.2.2.2.2.2.2.2.2.2.2.2.2.2.2.1, σ.2.2.2.2.2.2.2.2.2.2.2.2.2.2.2.2.1, σ.2.2.2.2.2.2.2.2.2.2.2.2.2.2.2.2.2.1, v, σ.2.2.2.2.2.2.2.2.2.2.2.2.2.2.2.2.2.2.2)
def scCt (σ : CS) (v : (Nat → Nat)) : CS := (σ.1, σ.2.1, σ.2.2.1, σ.2.2.2.1, σ.2.2.2.2.1, σ.2.2.2.2.2.1, σ.2.2.2.2.2.2.1, σ.2.2.2.2.2.2.2.1, σ.2.2.2.2.2.2.2.2.1, σ.2.2.2.2.2.2.2.2.2.1, σ.2.2.2.2.2.2.2.2.2.2.1, σ.2.2.2.2.2.2.2.2.2.2.2.1, σ.2.2.2.2.2.2.2.2.2.2.2.2.1, σ.2.2.2.2.2.2.2.2.2.2.2.2.2.1, σ.2.2.2.2.2.2.2.2.2.2.2.2.2.2.1, σ.2.2.2.2.2.2.2.2.2.2.2.2.2.2.2.1, σ.2.2.2.2.2.2.2.2.2.2.2.2.2.2.2.2.1, σ.2.2.2.2.2.2.2.2.2.2.2.2.2.2.2.2.2.1, σ.2.2.2.2.2.2.2.2.2.2.2.2.2.2.2.2.2.2.1, v, σ.2.2.2.2.2.2.2.2.2.2.2.2.2.2.2.2.2.2.2.2)
def scsh (σ : CS) (v : Bool) : CS := (σ.1, σ.2.1, σ.2.2.1, σ.2.2.2.1, σ.2.2.2.2.1, σ.2.2.2.2.2.1, σ.2.2.2.2.2.2.1, σ.2.2.2.2.2.2.2.1, σ.2.2.2.2.2.2.2.2.1, σ.2.2.2.2.2.2.2.2.2.1, σ.2.2.2.2.2.2.2.2.2.2.1, σ.2.2.2.2.2.2.2.2.2.2.2.1, σ.2.2.2.2.2.2.2.2.2.2.2.2.1, σ.2.2.2.2.2.2.2.2.2.2.2.2.2.1, σ.2.2.2.2.2.2.2.2.2.2.2.2.2.2.1, σ.2.2.2.2.2.2.2.2.2.2.2.2.2.2.2.1, σ.2.2.2.2.2.2.2.2.2.2.2.2.2.2.2.2.1, σ.2.2.2.2.2.2.2.2.2.2.2.2.2.2.2.2.2.1, σ.2.2.2.2.2.2.2.2.2.2.2.2.2.2.2.2.2.2.1, σ.2.2.2.2.2.2.2.2.2.2.2.2.2.2.2.2.2.2.2.1, v, σ.2.2.2.2.2.2.2.2.2.2.2.2.2.2.2.2.2.2.2.2.2)
def scrm (σ : CS) (v : Nat) : CS := (σ.1, σ.2.1, σ.2.2.1, σ.2.2.2.1, σ.2.2.2.2.1, σ.2.2.2.2.2.1, σ.2.2.2.2.2.2.1, σ.2.2.2.2.2.2.2.1, σ.2.2.2.2.2.2.2.2.1, σ.2.2.2.2.2.2.2.2.2.1, σ.2.2.2.2.2.2.2.2.2.2.1, σ.2.2.2.2.2.2.2.2.2.2.2.1, σ.2.2.2.2.2.2.2.2.2.2.2.2.1, σ.2.2.2.2.2.2.2.2.2.2.2.2.2.1, σ.2.2.2.2.2.2.2.2.2.2.2.2.2.2.1, σ.2.2.2.2.2.2.2.2.2.2.2.2.2.2.2.1, σ.2.2.2.2.2.2.2.2.2.2.2.2.2.2.2.2.1, σ.2.2.2.2.2.2.2.2.2.2.2.2.2.2.2.2.2.1, σ.2.2.2.2.2.2.2.2.2.2.2.2.2.2.2.2.2.2.1, σ.2.2.2.2.2.2.2.2.2.2.2.2.2.2.2.2.2.2.2.1, σ.2.2.2.2.2.2.2.2.2.2.2.2.2.2.2.2.2.2.2.2.1, v, σ.2.2.2.2.2.2.2.2.2.2.2.2.2.2.2.2.2.2.2.2.2.2)
def scfr (σ : CS) (v : Nat) : CS := (σ.1, σ.2.1, σ.2.2.1, σ.2.2.2.1, σ.2.2.2.2.1, σ.2.2.2.2.2.1, σ.2.2.2.2.2.2.1, σ.2.2.2.2.2.2.2.1, σ.2.2.2.2.2.2.2.2.1, σ.2.2.2.2.2.2.2.2.2.1, σ.2.2.2.2.2.2.2.2.2.2.1, σ.2.2.2.2.2.2.2.2.2.2.2.1, σ.2.2.2.2.2.2.2.2.2.2.2.2.1, σ.2.2.2.2.2.2.2.2.2.2.2.2.2.1, σ.2.2.2.2.2.2.2.2.2.2.2.2.2.2.1, σ.2.2.2.2.2.2.2.2.2.2.2.2.2.2.2.1, σ.2.2.2.2.2.2.2.2.2.2.2.2.2.2.2.2.1, σ.2.2.2.2.2.2.2.2.2.2.2.2.2.2.2.2.2.1, σ.2.2.2.2.2.2.2.2.2.2.2.2.2.2.2.2.2.2.1, σ.2.2.2.2.2.2.2.2.2.2.2.2.2.2.2.2.2.2.2.1, σ.2.2.2.2.2.2.2.2.2.2.2.2.2.2.2.2.2.2.2.2.1, σ.2.2.2.2.2.2.2.2.2.2.2.2.2.2.2.2.2.2.2.2.2.1, v, σ.2.2.2.2.2.2.2.2.2.2.2.2.2.2.2.2.2.2.2.2.2.2.2)
def scob (σ : CS) (v : Nat) : CS := (σ.1, σ.2.1, σ.2.2.1, σ.2.2.2.1, σ.2.2.2.2.1, σ.2.2.2.2.2.1, σ.2.2.2.2.2.2.1, σ.2.2.2.2.2.2.2.1, σ.2.2.2.2.2.2.2.2.1, σ.2.2.2.2.2.2.2.2.2.1, σ.2.2.2.2.2.2.2.2.2.2.1, σ.2.2.2.2.2.2.2.2.2.2.2.1, σ.2.2.2.2.2.2.2.2.2.2.2.2.1, σ.2.2.2.2.2.2.2.2.2.2.2.2.2.1, σ.2.2.2.2.2.2.2.2.2.2.2.2.2.2.1, σ.2.2.2.2.2.2.2.2.2.2.2.2.2.2.2.1, σ.2.2.2.2.2.2.2.2.2.2.2.2.2.2.2.2.1, σ.2.2.2.2.2.2.2.2.2.2.2.2.2.2.2.2.2.1, σ.2.2.2.2.2.2.2.2.2.2.2.2.2.2.2.2.2.2.1, σ.2.2.2.2.2.2.2.2.2.2.2.2.2.2.2.2.2.2.2.1, σ.2.2.2.2.2.2.2.2.2.2.2.2.2.2.2.2.2.2.2.2.1, σ.2.2.2.2.2.2.2.2.2.2.2.2.2.2.2.2.2.2.2.2.2.1, σ.2.2.2.2.2.2.2.2.2.2.2.2.2.2.2.2.2.2.2.2.2.2.1, v, σ.2.2.2.2.2.2.2.2.2.2.2.2.2.2.2.2.2.2.2.2.2.2.2.2)
def sctr (σ : CS) (v : Nat) : CS := (σ.1, σ.2.1, σ.2.2.1, σ.2.2.2.1, σ.2.2.2.2.1, σ.2.2.2.2.2.1, σ.2.2.2.2.2.2.1, σ.2.2.2.2.2.2.2.1, σ.2.2.2.2.2.2.2.2.1, σ.2.2.2.2.2.2.2.2.2.1, σ.2.2.2.2.2.2.2.2.2.2.1, σ.2.2.2.2.2.2.2.2.2.2.2.1, σ.2.2.2.2.2.2.2.2.2.2.2.2.1, σ.2.2.2.2.2.2.2.2.2.2.2.2.2.1, σ.2.2.2.2.2.2.2.2.2.2.2.2.2.2.1, σ.2.2.2.2.2.2.2.2.2.2.2.2.2.2.2.1, σ.2.2.2.2.2.2.2.2.2.2.2.2.2.2.2.2.1, σ.2.2.2.2.2.2.2.2.2.2.2.2.2.2.2.2.2.1, σ.2.2.2.2.2.2.2.2.2.2.2.2.2.2.2.2.2.2.1, σ.2.2.2.2.2.2.2.2.2.2.2.2.2.2.2.2.2.2.2.1, σ.2.2.2.2.2.2.2.2.2.2.2.2.2.2.2.2.2.2.2.2.1, σ.2.2.2.2.2.2.2.2.2.2.2.2.2.2.2.2.2.2.2.2.2.1, σ.2.2.2.2.2.2.2.2.2.2.2.2.2.2.2.2.2.2.2.2.2.2.1, σ.2.2.2.2.2.2.2.2.2.2.2.2.2.2.2.2.2.2.2.2.2.2.2.1, v)
def wC (ad : Nat → Nat) (cI cJ cZ : ClassId) (σ : CS) : va_W := [(ad 0, .inr (5, [.ref (ad 1), .ref (ad 2), .ref (ad 3)])), (ad 1, .inr (3, [.ref (ad 4), .ref (ad 5), .ref (ad 6), .ref (ad 7), .ref (ad 8), .ref (ad 9), .int (nI (gcn σ))])), (ad 2, .inr (4, [.ref (ad 1), .ref (ad 10), .ref (ad 11), .int (nI (gcma σ)), .int (nI (gcre σ)), .int (nI (gcca σ))])), (ad 3, .inr (2, [.ref (ad 1), .ref (ad 2), .ref (ad 12), .ref (ad 13), .ref (ad 14), .ref (ad 15), .ref (ad 16), .ref (ad 17), .ref (ad 18), .ref (ad 19), .int (bI (gcsh σ)), .int (nI (gcrm σ)), .int (nI (gcfr σ)), .int (nI (gcob σ)), .int (nI (gctr σ))])), (ad 4, .inl (cI, 6, .inl (fun i => oI (gcP σ i)))), (ad 5, .inl (cI, 24, .inl (fun i => nI (gcL σ i)))), (ad 6, .inl (cI, 240, .inl (fun i => nI (gcK σ i)))), (ad 7, .inl (cI, 240, .inl (fun i => nI (gcX σ i)))), (ad 8, .inl (cI, 240, .inl (fun i => gcY σ i))), (ad 9, .inl (cI, 240, .inl (fun i => gcZ σ i))), (ad 10, .inl (cI, 240, .inl (fun i => nI (gcV σ i)))), (ad 11, .inl (cI, 4, .inl (fun i => nI (gcCV σ i)))), (ad 12, .inl (cJ, 72, .inr (.inl (fun i => vJ (gcRg σ i))))), (ad 13, .inl (cI, 12, .inl (fun i => nI (gcBo σ i)))), (ad 14, .inl (cI, 12, .inl (fun i => nI (gcNe σ i)))), (ad 15, .inl (cI, 12, .inl (fun i => nI (gcAn σ i)))), (ad 16, .inl (cI, 401, .inl (fun i => nI (gcCl σ i)))), (ad 17, .inl (cJ, 1203, .inr (.inl (fun i => vJ (gcFl σ i))))), (ad 18, .inl (cI, 40, .inl (fun i => gcPo σ i))), (ad 19, .inl (cI, 6, .inl (fun i => nI (gcCt σ i))))]
theorem wC_D {A : Nat → Prop} {ad : Nat → Nat} {cI cJ cZ : ClassId} {σ : CS} (h : va_D A (wC ad cI cJ cZ σ)) (τ : CS) : va_D A (wC ad cI cJ cZ τ) := va_D_addr (ws := wC ad cI cJ cZ σ) rfl h
section RCS
variable {p : Program} {l : Launch} {e : Env} {R : Room} {s : State} {m : MethodId} {args : Array Value} {below : List Frame} {meth : Method} {c : Code} {H : Heap} {locs : List Loc} {cells slots : Nat} {Q : State → Prop}
variable {cc : ByteArray} {nL idx pc : Nat} {own : String} {x0 : Cond} {D : va_G} {cI cJ cZ : ClassId} {ad : Nat → Nat} {σ : CS} {A : Nat → Prop} {ls : Array Slot} {rest : List Value} {H0 : Heap}
theorem gt_X3_program (E : Cx p s m args c cc nL own x0 D (t3 cI cJ cZ)) (hl : Cond.fieldLink own idx (TX3 0).1 (TX3 0).2.1 (TX3 0).2.2.1 ∈ G) (hP : va_P D vwCl (wC ad cI cJ cZ σ) H) (hd : decode cc pc = .ok (.getfield idx, 3)) (kk : W p l e R s m args below meth c H locs cells slots Q (F0 m (pc + 3) ls (.ref (ad 1) :: rest))) : W p l e R s m args below meth c H locs cells slots Q (F0 m (pc) ls (.ref (ad 0) :: rest)) := CM.get (T := TX3) (N := 3) (ref := "") E hP 0 rfl rfl inG_X3 0 (by decide) hl rfl hd kk
theorem gt_X3_shaping (E : Cx p s m args c cc nL own x0 D (t3 cI cJ cZ)) (hl : Cond.fieldLink own idx (TX3 1).1 (TX3 1).2.1 (TX3 1).2.2.1 ∈ G) (hP : va_P D vwCl (wC ad cI cJ cZ σ) H) (hd : decode cc pc = .ok (.getfield idx, 3)) (kk : W p l e R s m args below meth c H locs cells slots Q (F0 m (pc + 3) ls (.ref (ad 2) :: rest))) : W p l e R s m args below meth c H locs cells slots Q (F0 m (pc) ls (.ref (ad 0) :: rest)) := CM.get (T := TX3) (N := 3) (ref := "") E hP 0 rfl rfl inG_X3 1 (by decide) hl rfl hd kk
theorem gt_X3_machine (E : Cx p s m args c cc nL own x0 D (t3 cI cJ cZ)) (hl : Cond.fieldLink own idx (TX3 2).1 (TX3 2).2.1 (TX3 2).2.2.1 ∈ G) (hP : va_P D vwCl (wC ad cI cJ cZ σ) H) (hd : decode cc pc = .ok (.getfield idx, 3)) (kk : W p l e R s m args below meth c H locs cells slots Q (F0 m (pc + 3) ls (.ref (ad 3) :: rest))) : W p l e R s m args below meth c H locs cells slots Q (F0 m (pc) ls (.ref (ad 0) :: rest)) := CM.get (T := TX3) (N := 3) (ref := "") E hP 0 rfl rfl inG_X3 2 (by decide) hl rfl hd kk
theorem gt_X1_parents (E : Cx p s m args c cc nL own x0 D (t3 cI cJ cZ)) (hl : Cond.fieldLink own idx (TX1 0).1 (TX1 0).2.1 (TX1 0).2.2.1 ∈ G) (hP : va_P D vwCl (wC ad cI cJ cZ σ) H) (hd : decode cc pc = .ok (.getfield idx, 3)) (kk : W p l e R s m args below meth c H locs cells slots Q (F0 m (pc + 3) ls (.ref (ad 4) :: rest))) : W p l e R s m args below meth c H locs cells slots Q (F0 m (pc) ls (.ref (ad 1) :: rest)) := CM.get (T := TX1) (N := 7) (ref := "") E hP 1 rfl rfl inG_X1 0 (by decide) hl rfl hd kk
theorem gt_X1_lengths (E : Cx p s m args c cc nL own x0 D (t3 cI cJ cZ)) (hl : Cond.fieldLink own idx (TX1 1).1 (TX1 1).2.1 (TX1 1).2.2.1 ∈ G) (hP : va_P D vwCl (wC ad cI cJ cZ σ) H) (hd : decode cc pc = .ok (.getfield idx, 3)) (kk : W p l e R s m args below meth c H locs cells slots Q (F0 m (pc + 3) ls (.ref (ad 5) :: rest))) : W p l e R s m args below meth c H locs cells slots Q (F0 m (pc) ls (.ref (ad 1) :: rest)) := CM.get (T := TX1) (N := 7) (ref := "") E hP 1 rfl rfl inG_X1 1 (by decide) hl rfl hd kk
theorem gt_X1_kinds (E : Cx p s m args c cc nL own x0 D (t3 cI cJ cZ)) (hl : Cond.fieldLink own idx (TX1 2).1 (TX1 2).2.1 (TX1 2).2.2.1 ∈ G) (hP : va_P D vwCl (wC ad cI cJ cZ σ) H) (hd : decode cc pc = .ok (.getfield idx, 3)) (kk : W p l e R s m args below meth c H locs cells slots Q (F0 m (pc + 3) ls (.ref (ad 6) :: rest))) : W p l e R s m args below meth c H locs cells slots Q (F0 m (pc) ls (.ref (ad 1) :: rest)) := CM.get (T := TX1) (N := 7) (ref := "") E hP 1 rfl rfl inG_X1 2 (by decide) hl rfl hd kk
theorem gt_X1_xs (E : Cx p s m args c cc nL own x0 D (t3 cI cJ cZ)) (hl : Cond.fieldLink own idx (TX1 3).1 (TX1 3).2.1 (TX1 3).2.2.1 ∈ G) (hP : va_P D vwCl (wC ad cI cJ cZ σ) H) (hd : decode cc pc = .ok (.getfield idx, 3)) (kk : W p l e R s m args below meth c H locs cells slots Q (F0 m (pc + 3) ls (.ref (ad 7) :: rest))) : W p l e R s m args below meth c H locs cells slots Q (F0 m (pc) ls (.ref (ad 1) :: rest)) := CM.get (T := TX1) (N := 7) (ref := "") E hP 1 rfl rfl inG_X1 3 (by decide) hl rfl hd kk
theorem gt_X1_ys (E : Cx p s m args c cc nL own x0 D (t3 cI cJ cZ)) (hl : Cond.fieldLink own idx (TX1 4).1 (TX1 4).2.1 (TX1 4).2.2.1 ∈ G) (hP : va_P D vwCl (wC ad cI cJ cZ σ) H) (hd : decode cc pc = .ok (.getfield idx, 3)) (kk : W p l e R s m args below meth c H locs cells slots Q (F0 m (pc + 3) ls (.ref (ad 8) :: rest))) : W p l e R s m args below meth c H locs cells slots Q (F0 m (pc) ls (.ref (ad 1) :: rest)) := CM.get (T := TX1) (N := 7) (ref := "") E hP 1 rfl rfl inG_X1 4 (by decide) hl rfl hd kk
theorem gt_X1_zs (E : Cx p s m args c cc nL own x0 D (t3 cI cJ cZ)) (hl : Cond.fieldLink own idx (TX1 5).1 (TX1 5).2.1 (TX1 5).2.2.1 ∈ G) (hP : va_P D vwCl (wC ad cI cJ cZ σ) H) (hd : decode cc pc = .ok (.getfield idx, 3)) (kk : W p l e R s m args below meth c H locs cells slots Q (F0 m (pc + 3) ls (.ref (ad 9) :: rest))) : W p l e R s m args below meth c H locs cells slots Q (F0 m (pc) ls (.ref (ad 1) :: rest)) := CM.get (T := TX1) (N := 7) (ref := "") E hP 1 rfl rfl inG_X1 5 (by decide) hl rfl hd kk
theorem gt_X1_classes (E : Cx p s m args c cc nL own x0 D (t3 cI cJ cZ)) (hl : Cond.fieldLink own idx (TX1 6).1 (TX1 6).2.1 (TX1 6).2.2.1 ∈ G) (hP : va_P D vwCl (wC ad cI cJ cZ σ) H) (hd : decode cc pc = .ok (.getfield idx, 3)) (kk : W p l e R s m args below meth c H locs cells slots Q (F0 m (pc + 3) ls (.int (nI (gcn σ)) :: rest))) : W p l e R s m args below meth c H locs cells slots Q (F0 m (pc) ls (.ref (ad 1) :: rest)) := CM.get (T := TX1) (N := 7) (ref := "") E hP 1 rfl rfl inG_X1 6 (by decide) hl rfl hd kk
theorem pt_X1_classes {v : Nat} (E : Cx p s m args c cc nL own x0 D (t3 cI cJ cZ)) (hl : Cond.fieldLink own idx (TX1 6).1 (TX1 6).2.1 (TX1 6).2.2.1 ∈ G) (hP : va_P D vwCl (wC ad cI cJ cZ σ) H) (hD : ∀ τ, va_D A (wC ad cI cJ cZ τ)) (hS : va_S A H0 H locs) (hd : decode cc pc = .ok (.putfield idx, 3)) (kk : ∀ (H1 : Heap) (locs1 : List Loc), va_P D vwCl (wC ad cI cJ cZ (scn σ v)) H1 → va_S A H0 H1 locs1 → W p l e R s m args below meth c H1 locs1 cells slots Q (F0 m (pc + 3) ls (rest))) : W p l e R s m args below meth c H locs cells slots Q (F0 m (pc) ls (.int (nI (v)) :: .ref (ad 1) :: rest)) := CM.put (T := TX1) (N := 7) (ty := .int) E hP (hD σ) hS 1 rfl rfl inG_X1 tyX1 tyX1_ok nmX1 6 (by decide) hl rfl (by decide +kernel) rfl rfl (Nat.le_of_ble_eq_true rfl) rfl hd (fun H1 l1 h1 _ h3 => kk H1 l1 h1 h3)
theorem gt_X2_program (E : Cx p s m args c cc nL own x0 D (t3 cI cJ cZ)) (hl : Cond.fieldLink own idx (TX2 0).1 (TX2 0).2.1 (TX2 0).2.2.1 ∈ G) (hP : va_P D vwCl (wC ad cI cJ cZ σ) H) (hd : decode cc pc = .ok (.getfield idx, 3)) (kk : W p l e R s m args below meth c H locs cells slots Q (F0 m (pc + 3) ls (.ref (ad 1) :: rest))) : W p l e R s m args below meth c H locs cells slots Q (F0 m (pc) ls (.ref (ad 2) :: rest)) := CM.get (T := TX2) (N := 6) (ref := "") E hP 2 rfl rfl inG_X2 0 (by decide) hl rfl hd kk
theorem gt_X2_verdicts (E : Cx p s m args c cc nL own x0 D (t3 cI cJ cZ)) (hl : Cond.fieldLink own idx (TX2 1).1 (TX2 1).2.1 (TX2 1).2.2.1 ∈ G) (hP : va_P D vwCl (wC ad cI cJ cZ σ) H) (hd : decode cc pc = .ok (.getfield idx, 3)) (kk : W p l e R s m args below meth c H locs cells slots Q (F0 m (pc + 3) ls (.ref (ad 10) :: rest))) : W p l e R s m args below meth c H locs cells slots Q (F0 m (pc) ls (.ref (ad 2) :: rest)) := CM.get (T := TX2) (N := 6) (ref := "") E hP 2 rfl rfl inG_X2 1 (by decide) hl rfl hd kk
theorem gt_X2_callVerdicts (E : Cx p s m args c cc nL own x0 D (t3 cI cJ cZ)) (hl : Cond.fieldLink own idx (TX2 2).1 (TX2 2).2.1 (TX2 2).2.2.1 ∈ G) (hP : va_P D vwCl (wC ad cI cJ cZ σ) H) (hd : decode cc pc = .ok (.getfield idx, 3)) (kk : W p l e R s m args below meth c H locs cells slots Q (F0 m (pc + 3) ls (.ref (ad 11) :: rest))) : W p l e R s m args below meth c H locs cells slots Q (F0 m (pc) ls (.ref (ad 2) :: rest)) := CM.get (T := TX2) (N := 6) (ref := "") E hP 2 rfl rfl inG_X2 2 (by decide) hl rfl hd kk
theorem gt_X2_made (E : Cx p s m args c cc nL own x0 D (t3 cI cJ cZ)) (hl : Cond.fieldLink own idx (TX2 3).1 (TX2 3).2.1 (TX2 3).2.2.1 ∈ G) (hP : va_P D vwCl (wC ad cI cJ cZ σ) H) (hd : decode cc pc = .ok (.getfield idx, 3)) (kk : W p l e R s m args below meth c H locs cells slots Q (F0 m (pc + 3) ls (.int (nI (gcma σ)) :: rest))) : W p l e R s m args below meth c H locs cells slots Q (F0 m (pc) ls (.ref (ad 2) :: rest)) := CM.get (T := TX2) (N := 6) (ref := "") E hP 2 rfl rfl inG_X2 3 (by decide) hl rfl hd kk
theorem pt_X2_made {v : Nat} (E : Cx p s m args c cc nL own x0 D (t3 cI cJ cZ)) (hl : Cond.fieldLink own idx (TX2 3).1 (TX2 3).2.1 (TX2 3).2.2.1 ∈ G) (hP : va_P D vwCl (wC ad cI cJ cZ σ) H) (hD : ∀ τ, va_D A (wC ad cI cJ cZ τ)) (hS : va_S A H0 H locs) (hd : decode cc pc = .ok (.putfield idx, 3)) (kk : ∀ (H1 : Heap) (locs1 : List Loc), va_P D vwCl (wC ad cI cJ cZ (scma σ v)) H1 → va_S A H0 H1 locs1 → W p l e R s m args below meth c H1 locs1 cells slots Q (F0 m (pc + 3) ls (rest))) : W p l e R s m args below meth c H locs cells slots Q (F0 m (pc) ls (.int (nI (v)) :: .ref (ad 2) :: rest)) := CM.put (T := TX2) (N := 6) (ty := .int) E hP (hD σ) hS 2 rfl rfl inG_X2 tyX2 tyX2_ok nmX2 3 (by decide) hl rfl (by decide +kernel) rfl rfl (Nat.le_of_ble_eq_true rfl) rfl hd (fun H1 l1 h1 _ h3 => kk H1 l1 h1 h3)
theorem gt_X2_reached (E : Cx p s m args c cc nL own x0 D (t3 cI cJ cZ)) (hl : Cond.fieldLink own idx (TX2 4).1 (TX2 4).2.1 (TX2 4).2.2.1 ∈ G) (hP : va_P D vwCl (wC ad cI cJ cZ σ) H) (hd : decode cc pc = .ok (.getfield idx, 3)) (kk : W p l e R s m args below meth c H locs cells slots Q (F0 m (pc + 3) ls (.int (nI (gcre σ)) :: rest))) : W p l e R s m args below meth c H locs cells slots Q (F0 m (pc) ls (.ref (ad 2) :: rest)) := CM.get (T := TX2) (N := 6) (ref := "") E hP 2 rfl rfl inG_X2 4 (by decide) hl rfl hd kk
theorem pt_X2_reached {v : Nat} (E : Cx p s m args c cc nL own x0 D (t3 cI cJ cZ)) (hl : Cond.fieldLink own idx (TX2 4).1 (TX2 4).2.1 (TX2 4).2.2.1 ∈ G) (hP : va_P D vwCl (wC ad cI cJ cZ σ) H) (hD : ∀ τ, va_D A (wC ad cI cJ cZ τ)) (hS : va_S A H0 H locs) (hd : decode cc pc = .ok (.putfield idx, 3)) (kk : ∀ (H1 : Heap) (locs1 : List Loc), va_P D vwCl (wC ad cI cJ cZ (scre σ v)) H1 → va_S A H0 H1 locs1 → W p l e R s m args below meth c H1 locs1 cells slots Q (F0 m (pc + 3) ls (rest))) : W p l e R s m args below meth c H locs cells slots Q (F0 m (pc) ls (.int (nI (v)) :: .ref (ad 2) :: rest)) := CM.put (T := TX2) (N := 6) (ty := .int) E hP (hD σ) hS 2 rfl rfl inG_X2 tyX2 tyX2_ok nmX2 4 (by decide) hl rfl (by decide +kernel) rfl rfl (Nat.le_of_ble_eq_true rfl) rfl hd (fun H1 l1 h1 _ h3 => kk H1 l1 h1 h3)
theorem gt_X2_called (E : Cx p s m args c cc nL own x0 D (t3 cI cJ cZ)) (hl : Cond.fieldLink own idx (TX2 5).1 (TX2 5).2.1 (TX2 5).2.2.1 ∈ G) (hP : va_P D vwCl (wC ad cI cJ cZ σ) H) (hd : decode cc pc = .ok (.getfield idx, 3)) (kk : W p l e R s m args below meth c H locs cells slots Q (F0 m (pc + 3) ls (.int (nI (gcca σ)) :: rest))) : W p l e R s m args below meth c H locs cells slots Q (F0 m (pc) ls (.ref (ad 2) :: rest)) := CM.get (T := TX2) (N := 6) (ref := "") E hP 2 rfl rfl inG_X2 5 (by decide) hl rfl hd kk
theorem pt_X2_called {v : Nat} (E : Cx p s m args c cc nL own x0 D (t3 cI cJ cZ)) (hl : Cond.fieldLink own idx (TX2 5).1 (TX2 5).2.1 (TX2 5).2.2.1 ∈ G) (hP : va_P D vwCl (wC ad cI cJ cZ σ) H) (hD : ∀ τ, va_D A (wC ad cI cJ cZ τ)) (hS : va_S A H0 H locs) (hd : decode cc pc = .ok (.putfield idx, 3)) (kk : ∀ (H1 : Heap) (locs1 : List Loc), va_P D vwCl (wC ad cI cJ cZ (scca σ v)) H1 → va_S A H0 H1 locs1 → W p l e R s m args below meth c H1 locs1 cells slots Q (F0 m (pc + 3) ls (rest))) : W p l e R s m args below meth c H locs cells slots Q (F0 m (pc) ls (.int (nI (v)) :: .ref (ad 2) :: rest)) := CM.put (T := TX2) (N := 6) (ty := .int) E hP (hD σ) hS 2 rfl rfl inG_X2 tyX2 tyX2_ok nmX2 5 (by decide) hl rfl (by decide +kernel) rfl rfl (Nat.le_of_ble_eq_true rfl) rfl hd (fun H1 l1 h1 _ h3 => kk H1 l1 h1 h3)
theorem gt_X0_program (E : Cx p s m args c cc nL own x0 D (t3 cI cJ cZ)) (hl : Cond.fieldLink own idx (TX0 0).1 (TX0 0).2.1 (TX0 0).2.2.1 ∈ G) (hP : va_P D vwCl (wC ad cI cJ cZ σ) H) (hd : decode cc pc = .ok (.getfield idx, 3)) (kk : W p l e R s m args below meth c H locs cells slots Q (F0 m (pc + 3) ls (.ref (ad 1) :: rest))) : W p l e R s m args below meth c H locs cells slots Q (F0 m (pc) ls (.ref (ad 3) :: rest)) := CM.get (T := TX0) (N := 15) (ref := "") E hP 3 rfl rfl inG_X0 0 (by decide) hl rfl hd kk
theorem gt_X0_shaping (E : Cx p s m args c cc nL own x0 D (t3 cI cJ cZ)) (hl : Cond.fieldLink own idx (TX0 1).1 (TX0 1).2.1 (TX0 1).2.2.1 ∈ G) (hP : va_P D vwCl (wC ad cI cJ cZ σ) H) (hd : decode cc pc = .ok (.getfield idx, 3)) (kk : W p l e R s m args below meth c H locs cells slots Q (F0 m (pc + 3) ls (.ref (ad 2) :: rest))) : W p l e R s m args below meth c H locs cells slots Q (F0 m (pc) ls (.ref (ad 3) :: rest)) := CM.get (T := TX0) (N := 15) (ref := "") E hP 3 rfl rfl inG_X0 1 (by decide) hl rfl hd kk
theorem gt_X0_registers (E : Cx p s m args c cc nL own x0 D (t3 cI cJ cZ)) (hl : Cond.fieldLink own idx (TX0 2).1 (TX0 2).2.1 (TX0 2).2.2.1 ∈ G) (hP : va_P D vwCl (wC ad cI cJ cZ σ) H) (hd : decode cc pc = .ok (.getfield idx, 3)) (kk : W p l e R s m args below meth c H locs cells slots Q (F0 m (pc + 3) ls (.ref (ad 12) :: rest))) : W p l e R s m args below meth c H locs cells slots Q (F0 m (pc) ls (.ref (ad 3) :: rest)) := CM.get (T := TX0) (N := 15) (ref := "") E hP 3 rfl rfl inG_X0 2 (by decide) hl rfl hd kk
theorem gt_X0_bodies (E : Cx p s m args c cc nL own x0 D (t3 cI cJ cZ)) (hl : Cond.fieldLink own idx (TX0 3).1 (TX0 3).2.1 (TX0 3).2.2.1 ∈ G) (hP : va_P D vwCl (wC ad cI cJ cZ σ) H) (hd : decode cc pc = .ok (.getfield idx, 3)) (kk : W p l e R s m args below meth c H locs cells slots Q (F0 m (pc + 3) ls (.ref (ad 13) :: rest))) : W p l e R s m args below meth c H locs cells slots Q (F0 m (pc) ls (.ref (ad 3) :: rest)) := CM.get (T := TX0) (N := 15) (ref := "") E hP 3 rfl rfl inG_X0 3 (by decide) hl rfl hd kk
theorem gt_X0_nexts (E : Cx p s m args c cc nL own x0 D (t3 cI cJ cZ)) (hl : Cond.fieldLink own idx (TX0 4).1 (TX0 4).2.1 (TX0 4).2.2.1 ∈ G) (hP : va_P D vwCl (wC ad cI cJ cZ σ) H) (hd : decode cc pc = .ok (.getfield idx, 3)) (kk : W p l e R s m args below meth c H locs cells slots Q (F0 m (pc + 3) ls (.ref (ad 14) :: rest))) : W p l e R s m args below meth c H locs cells slots Q (F0 m (pc) ls (.ref (ad 3) :: rest)) := CM.get (T := TX0) (N := 15) (ref := "") E hP 3 rfl rfl inG_X0 4 (by decide) hl rfl hd kk
theorem gt_X0_answersTo (E : Cx p s m args c cc nL own x0 D (t3 cI cJ cZ)) (hl : Cond.fieldLink own idx (TX0 5).1 (TX0 5).2.1 (TX0 5).2.2.1 ∈ G) (hP : va_P D vwCl (wC ad cI cJ cZ σ) H) (hd : decode cc pc = .ok (.getfield idx, 3)) (kk : W p l e R s m args below meth c H locs cells slots Q (F0 m (pc + 3) ls (.ref (ad 15) :: rest))) : W p l e R s m args below meth c H locs cells slots Q (F0 m (pc) ls (.ref (ad 3) :: rest)) := CM.get (T := TX0) (N := 15) (ref := "") E hP 3 rfl rfl inG_X0 5 (by decide) hl rfl hd kk
theorem gt_X0_classes (E : Cx p s m args c cc nL own x0 D (t3 cI cJ cZ)) (hl : Cond.fieldLink own idx (TX0 6).1 (TX0 6).2.1 (TX0 6).2.2.1 ∈ G) (hP : va_P D vwCl (wC ad cI cJ cZ σ) H) (hd : decode cc pc = .ok (.getfield idx, 3)) (kk : W p l e R s m args below meth c H locs cells slots Q (F0 m (pc + 3) ls (.ref (ad 16) :: rest))) : W p l e R s m args below meth c H locs cells slots Q (F0 m (pc) ls (.ref (ad 3) :: rest)) := CM.get (T := TX0) (N := 15) (ref := "") E hP 3 rfl rfl inG_X0 6 (by decide) hl rfl hd kk
theorem gt_X0_fields (E : Cx p s m args c cc nL own x0 D (t3 cI cJ cZ)) (hl : Cond.fieldLink own idx (TX0 7).1 (TX0 7).2.1 (TX0 7).2.2.1 ∈ G) (hP : va_P D vwCl (wC ad cI cJ cZ σ) H) (hd : decode cc pc = .ok (.getfield idx, 3)) (kk : W p l e R s m args below meth c H locs cells slots Q (F0 m (pc + 3) ls (.ref (ad 17) :: rest))) : W p l e R s m args below meth c H locs cells slots Q (F0 m (pc) ls (.ref (ad 3) :: rest)) := CM.get (T := TX0) (N := 15) (ref := "") E hP 3 rfl rfl inG_X0 7 (by decide) hl rfl hd kk
theorem gt_X0_putOut (E : Cx p s m args c cc nL own x0 D (t3 cI cJ cZ)) (hl : Cond.fieldLink own idx (TX0 8).1 (TX0 8).2.1 (TX0 8).2.2.1 ∈ G) (hP : va_P D vwCl (wC ad cI cJ cZ σ) H) (hd : decode cc pc = .ok (.getfield idx, 3)) (kk : W p l e R s m args below meth c H locs cells slots Q (F0 m (pc + 3) ls (.ref (ad 18) :: rest))) : W p l e R s m args below meth c H locs cells slots Q (F0 m (pc) ls (.ref (ad 3) :: rest)) := CM.get (T := TX0) (N := 15) (ref := "") E hP 3 rfl rfl inG_X0 8 (by decide) hl rfl hd kk
theorem gt_X0_counts (E : Cx p s m args c cc nL own x0 D (t3 cI cJ cZ)) (hl : Cond.fieldLink own idx (TX0 9).1 (TX0 9).2.1 (TX0 9).2.2.1 ∈ G) (hP : va_P D vwCl (wC ad cI cJ cZ σ) H) (hd : decode cc pc = .ok (.getfield idx, 3)) (kk : W p l e R s m args below meth c H locs cells slots Q (F0 m (pc + 3) ls (.ref (ad 19) :: rest))) : W p l e R s m args below meth c H locs cells slots Q (F0 m (pc) ls (.ref (ad 3) :: rest)) := CM.get (T := TX0) (N := 15) (ref := "") E hP 3 rfl rfl inG_X0 9 (by decide) hl rfl hd kk
theorem gt_X0_asShaped (E : Cx p s m args c cc nL own x0 D (t3 cI cJ cZ)) (hl : Cond.fieldLink own idx (TX0 10).1 (TX0 10).2.1 (TX0 10).2.2.1 ∈ G) (hP : va_P D vwCl (wC ad cI cJ cZ σ) H) (hd : decode cc pc = .ok (.getfield idx, 3)) (kk : W p l e R s m args below meth c H locs cells slots Q (F0 m (pc + 3) ls (.int (bI (gcsh σ)) :: rest))) : W p l e R s m args below meth c H locs cells slots Q (F0 m (pc) ls (.ref (ad 3) :: rest)) := CM.get (T := TX0) (N := 15) (ref := "") E hP 3 rfl rfl inG_X0 10 (by decide) hl rfl hd kk
theorem pt_X0_asShaped {v : Bool} (E : Cx p s m args c cc nL own x0 D (t3 cI cJ cZ)) (hl : Cond.fieldLink own idx (TX0 10).1 (TX0 10).2.1 (TX0 10).2.2.1 ∈ G) (hP : va_P D vwCl (wC ad cI cJ cZ σ) H) (hD : ∀ τ, va_D A (wC ad cI cJ cZ τ)) (hS : va_S A H0 H locs) (hd : decode cc pc = .ok (.putfield idx, 3)) (kk : ∀ (H1 : Heap) (locs1 : List Loc), va_P D vwCl (wC ad cI cJ cZ (scsh σ v)) H1 → va_S A H0 H1 locs1 → W p l e R s m args below meth c H1 locs1 cells slots Q (F0 m (pc + 3) ls (rest))) : W p l e R s m args below meth c H locs cells slots Q (F0 m (pc) ls (.int (bI (v)) :: .ref (ad 3) :: rest)) := CM.put (T := TX0) (N := 15) (ty := .boolean) E hP (hD σ) hS 3 rfl rfl inG_X0 tyX0 tyX0_ok nmX0 10 (by decide) hl rfl (by decide +kernel) (bI_n v) (bI_f v) (Nat.le_of_ble_eq_true rfl) rfl hd (fun H1 l1 h1 _ h3 => kk H1 l1 h1 h3)
theorem gt_X0_room (E : Cx p s m args c cc nL own x0 D (t3 cI cJ cZ)) (hl : Cond.fieldLink own idx (TX0 11).1 (TX0 11).2.1 (TX0 11).2.2.1 ∈ G) (hP : va_P D vwCl (wC ad cI cJ cZ σ) H) (hd : decode cc pc = .ok (.getfield idx, 3)) (kk : W p l e R s m args below meth c H locs cells slots Q (F0 m (pc + 3) ls (.int (nI (gcrm σ)) :: rest))) : W p l e R s m args below meth c H locs cells slots Q (F0 m (pc) ls (.ref (ad 3) :: rest)) := CM.get (T := TX0) (N := 15) (ref := "") E hP 3 rfl rfl inG_X0 11 (by decide) hl rfl hd kk
theorem pt_X0_room {v : Nat} (E : Cx p s m args c cc nL own x0 D (t3 cI cJ cZ)) (hl : Cond.fieldLink own idx (TX0 11).1 (TX0 11).2.1 (TX0 11).2.2.1 ∈ G) (hP : va_P D vwCl (wC ad cI cJ cZ σ) H) (hD : ∀ τ, va_D A (wC ad cI cJ cZ τ)) (hS : va_S A H0 H locs) (hd : decode cc pc = .ok (.putfield idx, 3)) (kk : ∀ (H1 : Heap) (locs1 : List Loc), va_P D vwCl (wC ad cI cJ cZ (scrm σ v)) H1 → va_S A H0 H1 locs1 → W p l e R s m args below meth c H1 locs1 cells slots Q (F0 m (pc + 3) ls (rest))) : W p l e R s m args below meth c H locs cells slots Q (F0 m (pc) ls (.int (nI (v)) :: .ref (ad 3) :: rest)) := CM.put (T := TX0) (N := 15) (ty := .int) E hP (hD σ) hS 3 rfl rfl inG_X0 tyX0 tyX0_ok nmX0 11 (by decide) hl rfl (by decide +kernel) rfl rfl (Nat.le_of_ble_eq_true rfl) rfl hd (fun H1 l1 h1 _ h3 => kk H1 l1 h1 h3)
theorem gt_X0_frames (E : Cx p s m args c cc nL own x0 D (t3 cI cJ cZ)) (hl : Cond.fieldLink own idx (TX0 12).1 (TX0 12).2.1 (TX0 12).2.2.1 ∈ G) (hP : va_P D vwCl (wC ad cI cJ cZ σ) H) (hd : decode cc pc = .ok (.getfield idx, 3)) (kk : W p l e R s m args below meth c H locs cells slots Q (F0 m (pc + 3) ls (.int (nI (gcfr σ)) :: rest))) : W p l e R s m args below meth c H locs cells slots Q (F0 m (pc) ls (.ref (ad 3) :: rest)) := CM.get (T := TX0) (N := 15) (ref := "") E hP 3 rfl rfl inG_X0 12 (by decide) hl rfl hd kk
theorem pt_X0_frames {v : Nat} (E : Cx p s m args c cc nL own x0 D (t3 cI cJ cZ)) (hl : Cond.fieldLink own idx (TX0 12).1 (TX0 12).2.1 (TX0 12).2.2.1 ∈ G) (hP : va_P D vwCl (wC ad cI cJ cZ σ) H) (hD : ∀ τ, va_D A (wC ad cI cJ cZ τ)) (hS : va_S A H0 H locs) (hd : decode cc pc = .ok (.putfield idx, 3)) (kk : ∀ (H1 : Heap) (locs1 : List Loc), va_P D vwCl (wC ad cI cJ cZ (scfr σ v)) H1 → va_S A H0 H1 locs1 → W p l e R s m args below meth c H1 locs1 cells slots Q (F0 m (pc + 3) ls (rest))) : W p l e R s m args below meth c H locs cells slots Q (F0 m (pc) ls (.int (nI (v)) :: .ref (ad 3) :: rest)) := CM.put (T := TX0) (N := 15) (ty := .int) E hP (hD σ) hS 3 rfl rfl inG_X0 tyX0 tyX0_ok nmX0 12 (by decide) hl rfl (by decide +kernel) rfl rfl (Nat.le_of_ble_eq_true rfl) rfl hd (fun H1 l1 h1 _ h3 => kk H1 l1 h1 h3)
theorem gt_X0_objects (E : Cx p s m args c cc nL own x0 D (t3 cI cJ cZ)) (hl : Cond.fieldLink own idx (TX0 13).1 (TX0 13).2.1 (TX0 13).2.2.1 ∈ G) (hP : va_P D vwCl (wC ad cI cJ cZ σ) H) (hd : decode cc pc = .ok (.getfield idx, 3)) (kk : W p l e R s m args below meth c H locs cells slots Q (F0 m (pc + 3) ls (.int (nI (gcob σ)) :: rest))) : W p l e R s m args below meth c H locs cells slots Q (F0 m (pc) ls (.ref (ad 3) :: rest)) := CM.get (T := TX0) (N := 15) (ref := "") E hP 3 rfl rfl inG_X0 13 (by decide) hl rfl hd kk
theorem pt_X0_objects {v : Nat} (E : Cx p s m args c cc nL own x0 D (t3 cI cJ cZ)) (hl : Cond.fieldLink own idx (TX0 13).1 (TX0 13).2.1 (TX0 13).2.2.1 ∈ G) (hP : va_P D vwCl (wC ad cI cJ cZ σ) H) (hD : ∀ τ, va_D A (wC ad cI cJ cZ τ)) (hS : va_S A H0 H locs) (hd : decode cc pc = .ok (.putfield idx, 3)) (kk : ∀ (H1 : Heap) (locs1 : List Loc), va_P D vwCl (wC ad cI cJ cZ (scob σ v)) H1 → va_S A H0 H1 locs1 → W p l e R s m args below meth c H1 locs1 cells slots Q (F0 m (pc + 3) ls (rest))) : W p l e R s m args below meth c H locs cells slots Q (F0 m (pc) ls (.int (nI (v)) :: .ref (ad 3) :: rest)) := CM.put (T := TX0) (N := 15) (ty := .int) E hP (hD σ) hS 3 rfl rfl inG_X0 tyX0 tyX0_ok nmX0 13 (by decide) hl rfl (by decide +kernel) rfl rfl (Nat.le_of_ble_eq_true rfl) rfl hd (fun H1 l1 h1 _ h3 => kk H1 l1 h1 h3)
theorem gt_X0_trap (E : Cx p s m args c cc nL own x0 D (t3 cI cJ cZ)) (hl : Cond.fieldLink own idx (TX0 14).1 (TX0 14).2.1 (TX0 14).2.2.1 ∈ G) (hP : va_P D vwCl (wC ad cI cJ cZ σ) H) (hd : decode cc pc = .ok (.getfield idx, 3)) (kk : W p l e R s m args below meth c H locs cells slots Q (F0 m (pc + 3) ls (.int (nI (gctr σ)) :: rest))) : W p l e R s m args below meth c H locs cells slots Q (F0 m (pc) ls (.ref (ad 3) :: rest)) := CM.get (T := TX0) (N := 15) (ref := "") E hP 3 rfl rfl inG_X0 14 (by decide) hl rfl hd kk
theorem pt_X0_trap {v : Nat} (E : Cx p s m args c cc nL own x0 D (t3 cI cJ cZ)) (hl : Cond.fieldLink own idx (TX0 14).1 (TX0 14).2.1 (TX0 14).2.2.1 ∈ G) (hP : va_P D vwCl (wC ad cI cJ cZ σ) H) (hD : ∀ τ, va_D A (wC ad cI cJ cZ τ)) (hS : va_S A H0 H locs) (hd : decode cc pc = .ok (.putfield idx, 3)) (kk : ∀ (H1 : Heap) (locs1 : List Loc), va_P D vwCl (wC ad cI cJ cZ (sctr σ v)) H1 → va_S A H0 H1 locs1 → W p l e R s m args below meth c H1 locs1 cells slots Q (F0 m (pc + 3) ls (rest))) : W p l e R s m args below meth c H locs cells slots Q (F0 m (pc) ls (.int (nI (v)) :: .ref (ad 3) :: rest)) := CM.put (T := TX0) (N := 15) (ty := .int) E hP (hD σ) hS 3 rfl rfl inG_X0 tyX0 tyX0_ok nmX0 14 (by decide) hl rfl (by decide +kernel) rfl rfl (Nat.le_of_ble_eq_true rfl) rfl hd (fun H1 l1 h1 _ h3 => kk H1 l1 h1 h3)
theorem ld_CS_P {i : Nat} (E : Cx p s m args c cc nL own x0 D (t3 cI cJ cZ)) (hP : va_P D vwCl (wC ad cI cJ cZ σ) H) (hi : i < 6) (hd : decode cc pc = .ok (.iaload, 1)) (kk : W p l e R s m args below meth c H locs cells slots Q (F0 m (pc + 1) ls (.int (oI (gcP σ i)) :: rest))) : W p l e R s m args below meth c H locs cells slots Q (F0 m (pc) ls (.int (nI i) :: .ref (ad 4) :: rest)) := by
  refine va_iald E.1.1 E.1.2.1 E.2 hP 4 0 rfl rfl (vp_in_nI hi (by decide)) hd ?_
  rw [nI_clamp (Nat.lt_trans hi (by decide))]
  exact kk
theorem as_CS_P {i : Nat} {v : Option Nat} (E : Cx p s m args c cc nL own x0 D (t3 cI cJ cZ)) (hP : va_P D vwCl (wC ad cI cJ cZ σ) H) (hD : ∀ τ, va_D A (wC ad cI cJ cZ τ)) (hS : va_S A H0 H locs) (hi : i < 6) (hd : decode cc pc = .ok (.iastore, 1)) (kk : ∀ (H1 : Heap) (locs1 : List Loc), va_P D vwCl (wC ad cI cJ cZ (scP σ (va_up (gcP σ) i v))) H1 → va_S A H0 H1 locs1 → W p l e R s m args below meth c H1 locs1 cells slots Q (F0 m (pc + 1) ls (rest))) : W p l e R s m args below meth c H locs cells slots Q (F0 m (pc) ls (.int (oI (v)) :: .int (nI i) :: .ref (ad 4) :: rest)) := by
  refine va_iast E.1.1 E.1.2.1 E.2 hP (hD σ) hS 4 0 rfl rfl (vp_in_nI hi (by decide)) hd (fun H1 l1 h1 _ h3 => kk H1 l1 ?_ h3)
  have e9 : upd (fun i => oI (gcP σ i)) (nI i).toNatClampNeg (oI (v)) = fun j => oI (va_up (gcP σ) i v j) := by
    funext j
    rw [nI_clamp (Nat.lt_trans hi (by decide))]
    unfold upd va_up
    split <;> rfl
  rw [e9] at h1
  exact h1
theorem ld_CS_L {i : Nat} (E : Cx p s m args c cc nL own x0 D (t3 cI cJ cZ)) (hP : va_P D vwCl (wC ad cI cJ cZ σ) H) (hi : i < 24) (hd : decode cc pc = .ok (.iaload, 1)) (kk : W p l e R s m args below meth c H locs cells slots Q (F0 m (pc + 1) ls (.int (nI (gcL σ i)) :: rest))) : W p l e R s m args below meth c H locs cells slots Q (F0 m (pc) ls (.int (nI i) :: .ref (ad 5) :: rest)) := by
  refine va_iald E.1.1 E.1.2.1 E.2 hP 5 0 rfl rfl (vp_in_nI hi (by decide)) hd ?_
  rw [nI_clamp (Nat.lt_trans hi (by decide))]
  exact kk
theorem as_CS_L {i : Nat} {v : Nat} (E : Cx p s m args c cc nL own x0 D (t3 cI cJ cZ)) (hP : va_P D vwCl (wC ad cI cJ cZ σ) H) (hD : ∀ τ, va_D A (wC ad cI cJ cZ τ)) (hS : va_S A H0 H locs) (hi : i < 24) (hd : decode cc pc = .ok (.iastore, 1)) (kk : ∀ (H1 : Heap) (locs1 : List Loc), va_P D vwCl (wC ad cI cJ cZ (scL σ (va_up (gcL σ) i v))) H1 → va_S A H0 H1 locs1 → W p l e R s m args below meth c H1 locs1 cells slots Q (F0 m (pc + 1) ls (rest))) : W p l e R s m args below meth c H locs cells slots Q (F0 m (pc) ls (.int (nI (v)) :: .int (nI i) :: .ref (ad 5) :: rest)) := by
  refine va_iast E.1.1 E.1.2.1 E.2 hP (hD σ) hS 5 0 rfl rfl (vp_in_nI hi (by decide)) hd (fun H1 l1 h1 _ h3 => kk H1 l1 ?_ h3)
  have e9 : upd (fun i => nI (gcL σ i)) (nI i).toNatClampNeg (nI (v)) = fun j => nI (va_up (gcL σ) i v j) := by
    funext j
    rw [nI_clamp (Nat.lt_trans hi (by decide))]
    unfold upd va_up
    split <;> rfl
  rw [e9] at h1
  exact h1
theorem ld_CS_K {i : Nat} (E : Cx p s m args c cc nL own x0 D (t3 cI cJ cZ)) (hP : va_P D vwCl (wC ad cI cJ cZ σ) H) (hi : i < 240) (hd : decode cc pc = .ok (.iaload, 1)) (kk : W p l e R s m args below meth c H locs cells slots Q (F0 m (pc + 1) ls (.int (nI (gcK σ i)) :: rest))) : W p l e R s m args below meth c H locs cells slots Q (F0 m (pc) ls (.int (nI i) :: .ref (ad 6) :: rest)) := by
  refine va_iald E.1.1 E.1.2.1 E.2 hP 6 0 rfl rfl (vp_in_nI hi (by decide)) hd ?_
  rw [nI_clamp (Nat.lt_trans hi (by decide))]
  exact kk
theorem as_CS_K {i : Nat} {v : Nat} (E : Cx p s m args c cc nL own x0 D (t3 cI cJ cZ)) (hP : va_P D vwCl (wC ad cI cJ cZ σ) H) (hD : ∀ τ, va_D A (wC ad cI cJ cZ τ)) (hS : va_S A H0 H locs) (hi : i < 240) (hd : decode cc pc = .ok (.iastore, 1)) (kk : ∀ (H1 : Heap) (locs1 : List Loc), va_P D vwCl (wC ad cI cJ cZ (scK σ (va_up (gcK σ) i v))) H1 → va_S A H0 H1 locs1 → W p l e R s m args below meth c H1 locs1 cells slots Q (F0 m (pc + 1) ls (rest))) : W p l e R s m args below meth c H locs cells slots Q (F0 m (pc) ls (.int (nI (v)) :: .int (nI i) :: .ref (ad 6) :: rest)) := by
  refine va_iast E.1.1 E.1.2.1 E.2 hP (hD σ) hS 6 0 rfl rfl (vp_in_nI hi (by decide)) hd (fun H1 l1 h1 _ h3 => kk H1 l1 ?_ h3)
  have e9 : upd (fun i => nI (gcK σ i)) (nI i).toNatClampNeg (nI (v)) = fun j => nI (va_up (gcK σ) i v j) := by
    funext j
    rw [nI_clamp (Nat.lt_trans hi (by decide))]
    unfold upd va_up
    split <;> rfl
  rw [e9] at h1
  exact h1
theorem ld_CS_X {i : Nat} (E : Cx p s m args c cc nL own x0 D (t3 cI cJ cZ)) (hP : va_P D vwCl (wC ad cI cJ cZ σ) H) (hi : i < 240) (hd : decode cc pc = .ok (.iaload, 1)) (kk : W p l e R s m args below meth c H locs cells slots Q (F0 m (pc + 1) ls (.int (nI (gcX σ i)) :: rest))) : W p l e R s m args below meth c H locs cells slots Q (F0 m (pc) ls (.int (nI i) :: .ref (ad 7) :: rest)) := by
  refine va_iald E.1.1 E.1.2.1 E.2 hP 7 0 rfl rfl (vp_in_nI hi (by decide)) hd ?_
  rw [nI_clamp (Nat.lt_trans hi (by decide))]
  exact kk
theorem as_CS_X {i : Nat} {v : Nat} (E : Cx p s m args c cc nL own x0 D (t3 cI cJ cZ)) (hP : va_P D vwCl (wC ad cI cJ cZ σ) H) (hD : ∀ τ, va_D A (wC ad cI cJ cZ τ)) (hS : va_S A H0 H locs) (hi : i < 240) (hd : decode cc pc = .ok (.iastore, 1)) (kk : ∀ (H1 : Heap) (locs1 : List Loc), va_P D vwCl (wC ad cI cJ cZ (scX σ (va_up (gcX σ) i v))) H1 → va_S A H0 H1 locs1 → W p l e R s m args below meth c H1 locs1 cells slots Q (F0 m (pc + 1) ls (rest))) : W p l e R s m args below meth c H locs cells slots Q (F0 m (pc) ls (.int (nI (v)) :: .int (nI i) :: .ref (ad 7) :: rest)) := by
  refine va_iast E.1.1 E.1.2.1 E.2 hP (hD σ) hS 7 0 rfl rfl (vp_in_nI hi (by decide)) hd (fun H1 l1 h1 _ h3 => kk H1 l1 ?_ h3)
  have e9 : upd (fun i => nI (gcX σ i)) (nI i).toNatClampNeg (nI (v)) = fun j => nI (va_up (gcX σ) i v j) := by
    funext j
    rw [nI_clamp (Nat.lt_trans hi (by decide))]
    unfold upd va_up
    split <;> rfl
  rw [e9] at h1
  exact h1
theorem ld_CS_Y {i : Nat} (E : Cx p s m args c cc nL own x0 D (t3 cI cJ cZ)) (hP : va_P D vwCl (wC ad cI cJ cZ σ) H) (hi : i < 240) (hd : decode cc pc = .ok (.iaload, 1)) (kk : W p l e R s m args below meth c H locs cells slots Q (F0 m (pc + 1) ls (.int (gcY σ i) :: rest))) : W p l e R s m args below meth c H locs cells slots Q (F0 m (pc) ls (.int (nI i) :: .ref (ad 8) :: rest)) := by
  refine va_iald E.1.1 E.1.2.1 E.2 hP 8 0 rfl rfl (vp_in_nI hi (by decide)) hd ?_
  rw [nI_clamp (Nat.lt_trans hi (by decide))]
  exact kk
theorem as_CS_Y {i : Nat} {v : Int32} (E : Cx p s m args c cc nL own x0 D (t3 cI cJ cZ)) (hP : va_P D vwCl (wC ad cI cJ cZ σ) H) (hD : ∀ τ, va_D A (wC ad cI cJ cZ τ)) (hS : va_S A H0 H locs) (hi : i < 240) (hd : decode cc pc = .ok (.iastore, 1)) (kk : ∀ (H1 : Heap) (locs1 : List Loc), va_P D vwCl (wC ad cI cJ cZ (scY σ (va_up (gcY σ) i v))) H1 → va_S A H0 H1 locs1 → W p l e R s m args below meth c H1 locs1 cells slots Q (F0 m (pc + 1) ls (rest))) : W p l e R s m args below meth c H locs cells slots Q (F0 m (pc) ls (.int (v) :: .int (nI i) :: .ref (ad 8) :: rest)) := by
  refine va_iast E.1.1 E.1.2.1 E.2 hP (hD σ) hS 8 0 rfl rfl (vp_in_nI hi (by decide)) hd (fun H1 l1 h1 _ h3 => kk H1 l1 ?_ h3)
  have e9 : upd (fun i => gcY σ i) (nI i).toNatClampNeg (v) = fun j => va_up (gcY σ) i v j := by
    funext j
    rw [nI_clamp (Nat.lt_trans hi (by decide))]
    unfold upd va_up
    split <;> rfl
  rw [e9] at h1
  exact h1
theorem ld_CS_Z {i : Nat} (E : Cx p s m args c cc nL own x0 D (t3 cI cJ cZ)) (hP : va_P D vwCl (wC ad cI cJ cZ σ) H) (hi : i < 240) (hd : decode cc pc = .ok (.iaload, 1)) (kk : W p l e R s m args below meth c H locs cells slots Q (F0 m (pc + 1) ls (.int (gcZ σ i) :: rest))) : W p l e R s m args below meth c H locs cells slots Q (F0 m (pc) ls (.int (nI i) :: .ref (ad 9) :: rest)) := by
  refine va_iald E.1.1 E.1.2.1 E.2 hP 9 0 rfl rfl (vp_in_nI hi (by decide)) hd ?_
  rw [nI_clamp (Nat.lt_trans hi (by decide))]
  exact kk
theorem as_CS_Z {i : Nat} {v : Int32} (E : Cx p s m args c cc nL own x0 D (t3 cI cJ cZ)) (hP : va_P D vwCl (wC ad cI cJ cZ σ) H) (hD : ∀ τ, va_D A (wC ad cI cJ cZ τ)) (hS : va_S A H0 H locs) (hi : i < 240) (hd : decode cc pc = .ok (.iastore, 1)) (kk : ∀ (H1 : Heap) (locs1 : List Loc), va_P D vwCl (wC ad cI cJ cZ (scZ σ (va_up (gcZ σ) i v))) H1 → va_S A H0 H1 locs1 → W p l e R s m args below meth c H1 locs1 cells slots Q (F0 m (pc + 1) ls (rest))) : W p l e R s m args below meth c H locs cells slots Q (F0 m (pc) ls (.int (v) :: .int (nI i) :: .ref (ad 9) :: rest)) := by
  refine va_iast E.1.1 E.1.2.1 E.2 hP (hD σ) hS 9 0 rfl rfl (vp_in_nI hi (by decide)) hd (fun H1 l1 h1 _ h3 => kk H1 l1 ?_ h3)
  have e9 : upd (fun i => gcZ σ i) (nI i).toNatClampNeg (v) = fun j => va_up (gcZ σ) i v j := by
    funext j
    rw [nI_clamp (Nat.lt_trans hi (by decide))]
    unfold upd va_up
    split <;> rfl
  rw [e9] at h1
  exact h1
theorem ld_CS_V {i : Nat} (E : Cx p s m args c cc nL own x0 D (t3 cI cJ cZ)) (hP : va_P D vwCl (wC ad cI cJ cZ σ) H) (hi : i < 240) (hd : decode cc pc = .ok (.iaload, 1)) (kk : W p l e R s m args below meth c H locs cells slots Q (F0 m (pc + 1) ls (.int (nI (gcV σ i)) :: rest))) : W p l e R s m args below meth c H locs cells slots Q (F0 m (pc) ls (.int (nI i) :: .ref (ad 10) :: rest)) := by
  refine va_iald E.1.1 E.1.2.1 E.2 hP 10 0 rfl rfl (vp_in_nI hi (by decide)) hd ?_
  rw [nI_clamp (Nat.lt_trans hi (by decide))]
  exact kk
theorem as_CS_V {i : Nat} {v : Nat} (E : Cx p s m args c cc nL own x0 D (t3 cI cJ cZ)) (hP : va_P D vwCl (wC ad cI cJ cZ σ) H) (hD : ∀ τ, va_D A (wC ad cI cJ cZ τ)) (hS : va_S A H0 H locs) (hi : i < 240) (hd : decode cc pc = .ok (.iastore, 1)) (kk : ∀ (H1 : Heap) (locs1 : List Loc), va_P D vwCl (wC ad cI cJ cZ (scV σ (va_up (gcV σ) i v))) H1 → va_S A H0 H1 locs1 → W p l e R s m args below meth c H1 locs1 cells slots Q (F0 m (pc + 1) ls (rest))) : W p l e R s m args below meth c H locs cells slots Q (F0 m (pc) ls (.int (nI (v)) :: .int (nI i) :: .ref (ad 10) :: rest)) := by
  refine va_iast E.1.1 E.1.2.1 E.2 hP (hD σ) hS 10 0 rfl rfl (vp_in_nI hi (by decide)) hd (fun H1 l1 h1 _ h3 => kk H1 l1 ?_ h3)
  have e9 : upd (fun i => nI (gcV σ i)) (nI i).toNatClampNeg (nI (v)) = fun j => nI (va_up (gcV σ) i v j) := by
    funext j
    rw [nI_clamp (Nat.lt_trans hi (by decide))]
    unfold upd va_up
    split <;> rfl
  rw [e9] at h1
  exact h1
theorem ld_CS_CV {i : Nat} (E : Cx p s m args c cc nL own x0 D (t3 cI cJ cZ)) (hP : va_P D vwCl (wC ad cI cJ cZ σ) H) (hi : i < 4) (hd : decode cc pc = .ok (.iaload, 1)) (kk : W p l e R s m args below meth c H locs cells slots Q (F0 m (pc + 1) ls (.int (nI (gcCV σ i)) :: rest))) : W p l e R s m args below meth c H locs cells slots Q (F0 m (pc) ls (.int (nI i) :: .ref (ad 11) :: rest)) := by
  refine va_iald E.1.1 E.1.2.1 E.2 hP 11 0 rfl rfl (vp_in_nI hi (by decide)) hd ?_
  rw [nI_clamp (Nat.lt_trans hi (by decide))]
  exact kk
theorem as_CS_CV {i : Nat} {v : Nat} (E : Cx p s m args c cc nL own x0 D (t3 cI cJ cZ)) (hP : va_P D vwCl (wC ad cI cJ cZ σ) H) (hD : ∀ τ, va_D A (wC ad cI cJ cZ τ)) (hS : va_S A H0 H locs) (hi : i < 4) (hd : decode cc pc = .ok (.iastore, 1)) (kk : ∀ (H1 : Heap) (locs1 : List Loc), va_P D vwCl (wC ad cI cJ cZ (scCV σ (va_up (gcCV σ) i v))) H1 → va_S A H0 H1 locs1 → W p l e R s m args below meth c H1 locs1 cells slots Q (F0 m (pc + 1) ls (rest))) : W p l e R s m args below meth c H locs cells slots Q (F0 m (pc) ls (.int (nI (v)) :: .int (nI i) :: .ref (ad 11) :: rest)) := by
  refine va_iast E.1.1 E.1.2.1 E.2 hP (hD σ) hS 11 0 rfl rfl (vp_in_nI hi (by decide)) hd (fun H1 l1 h1 _ h3 => kk H1 l1 ?_ h3)
  have e9 : upd (fun i => nI (gcCV σ i)) (nI i).toNatClampNeg (nI (v)) = fun j => nI (va_up (gcCV σ) i v j) := by
    funext j
    rw [nI_clamp (Nat.lt_trans hi (by decide))]
    unfold upd va_up
    split <;> rfl
  rw [e9] at h1
  exact h1
theorem ld_CS_Rg {i : Nat} (E : Cx p s m args c cc nL own x0 D (t3 cI cJ cZ)) (hP : va_P D vwCl (wC ad cI cJ cZ σ) H) (hi : i < 72) (hd : decode cc pc = .ok (.laload, 1)) (kk : W p l e R s m args below meth c H locs cells slots Q (F0 m (pc + 1) ls (.long (vJ (gcRg σ i)) :: rest))) : W p l e R s m args below meth c H locs cells slots Q (F0 m (pc) ls (.int (nI i) :: .ref (ad 12) :: rest)) := by
  refine va_lald E.1.1 E.1.2.1 E.2 hP 12 1 rfl rfl (vp_in_nI hi (by decide)) hd ?_
  rw [nI_clamp (Nat.lt_trans hi (by decide))]
  exact kk
theorem as_CS_Rg {i : Nat} {v : Val} (E : Cx p s m args c cc nL own x0 D (t3 cI cJ cZ)) (hP : va_P D vwCl (wC ad cI cJ cZ σ) H) (hD : ∀ τ, va_D A (wC ad cI cJ cZ τ)) (hS : va_S A H0 H locs) (hi : i < 72) (hd : decode cc pc = .ok (.lastore, 1)) (kk : ∀ (H1 : Heap) (locs1 : List Loc), va_P D vwCl (wC ad cI cJ cZ (scRg σ (va_up (gcRg σ) i v))) H1 → va_S A H0 H1 locs1 → W p l e R s m args below meth c H1 locs1 cells slots Q (F0 m (pc + 1) ls (rest))) : W p l e R s m args below meth c H locs cells slots Q (F0 m (pc) ls (.long (vJ (v)) :: .int (nI i) :: .ref (ad 12) :: rest)) := by
  refine va_last E.1.1 E.1.2.1 E.2 hP (hD σ) hS 12 1 rfl rfl (vp_in_nI hi (by decide)) hd (fun H1 l1 h1 _ h3 => kk H1 l1 ?_ h3)
  have e9 : vp_updL (fun i => vJ (gcRg σ i)) (nI i).toNatClampNeg (vJ (v)) = fun j => vJ (va_up (gcRg σ) i v j) := by
    funext j
    rw [nI_clamp (Nat.lt_trans hi (by decide))]
    unfold vp_updL va_up
    split <;> rfl
  rw [e9] at h1
  exact h1
theorem ld_CS_Bo {i : Nat} (E : Cx p s m args c cc nL own x0 D (t3 cI cJ cZ)) (hP : va_P D vwCl (wC ad cI cJ cZ σ) H) (hi : i < 12) (hd : decode cc pc = .ok (.iaload, 1)) (kk : W p l e R s m args below meth c H locs cells slots Q (F0 m (pc + 1) ls (.int (nI (gcBo σ i)) :: rest))) : W p l e R s m args below meth c H locs cells slots Q (F0 m (pc) ls (.int (nI i) :: .ref (ad 13) :: rest)) := by
  refine va_iald E.1.1 E.1.2.1 E.2 hP 13 0 rfl rfl (vp_in_nI hi (by decide)) hd ?_
  rw [nI_clamp (Nat.lt_trans hi (by decide))]
  exact kk
theorem as_CS_Bo {i : Nat} {v : Nat} (E : Cx p s m args c cc nL own x0 D (t3 cI cJ cZ)) (hP : va_P D vwCl (wC ad cI cJ cZ σ) H) (hD : ∀ τ, va_D A (wC ad cI cJ cZ τ)) (hS : va_S A H0 H locs) (hi : i < 12) (hd : decode cc pc = .ok (.iastore, 1)) (kk : ∀ (H1 : Heap) (locs1 : List Loc), va_P D vwCl (wC ad cI cJ cZ (scBo σ (va_up (gcBo σ) i v))) H1 → va_S A H0 H1 locs1 → W p l e R s m args below meth c H1 locs1 cells slots Q (F0 m (pc + 1) ls (rest))) : W p l e R s m args below meth c H locs cells slots Q (F0 m (pc) ls (.int (nI (v)) :: .int (nI i) :: .ref (ad 13) :: rest)) := by
  refine va_iast E.1.1 E.1.2.1 E.2 hP (hD σ) hS 13 0 rfl rfl (vp_in_nI hi (by decide)) hd (fun H1 l1 h1 _ h3 => kk H1 l1 ?_ h3)
  have e9 : upd (fun i => nI (gcBo σ i)) (nI i).toNatClampNeg (nI (v)) = fun j => nI (va_up (gcBo σ) i v j) := by
    funext j
    rw [nI_clamp (Nat.lt_trans hi (by decide))]
    unfold upd va_up
    split <;> rfl
  rw [e9] at h1
  exact h1
theorem ld_CS_Ne {i : Nat} (E : Cx p s m args c cc nL own x0 D (t3 cI cJ cZ)) (hP : va_P D vwCl (wC ad cI cJ cZ σ) H) (hi : i < 12) (hd : decode cc pc = .ok (.iaload, 1)) (kk : W p l e R s m args below meth c H locs cells slots Q (F0 m (pc + 1) ls (.int (nI (gcNe σ i)) :: rest))) : W p l e R s m args below meth c H locs cells slots Q (F0 m (pc) ls (.int (nI i) :: .ref (ad 14) :: rest)) := by
  refine va_iald E.1.1 E.1.2.1 E.2 hP 14 0 rfl rfl (vp_in_nI hi (by decide)) hd ?_
  rw [nI_clamp (Nat.lt_trans hi (by decide))]
  exact kk
theorem as_CS_Ne {i : Nat} {v : Nat} (E : Cx p s m args c cc nL own x0 D (t3 cI cJ cZ)) (hP : va_P D vwCl (wC ad cI cJ cZ σ) H) (hD : ∀ τ, va_D A (wC ad cI cJ cZ τ)) (hS : va_S A H0 H locs) (hi : i < 12) (hd : decode cc pc = .ok (.iastore, 1)) (kk : ∀ (H1 : Heap) (locs1 : List Loc), va_P D vwCl (wC ad cI cJ cZ (scNe σ (va_up (gcNe σ) i v))) H1 → va_S A H0 H1 locs1 → W p l e R s m args below meth c H1 locs1 cells slots Q (F0 m (pc + 1) ls (rest))) : W p l e R s m args below meth c H locs cells slots Q (F0 m (pc) ls (.int (nI (v)) :: .int (nI i) :: .ref (ad 14) :: rest)) := by
  refine va_iast E.1.1 E.1.2.1 E.2 hP (hD σ) hS 14 0 rfl rfl (vp_in_nI hi (by decide)) hd (fun H1 l1 h1 _ h3 => kk H1 l1 ?_ h3)
  have e9 : upd (fun i => nI (gcNe σ i)) (nI i).toNatClampNeg (nI (v)) = fun j => nI (va_up (gcNe σ) i v j) := by
    funext j
    rw [nI_clamp (Nat.lt_trans hi (by decide))]
    unfold upd va_up
    split <;> rfl
  rw [e9] at h1
  exact h1
theorem ld_CS_An {i : Nat} (E : Cx p s m args c cc nL own x0 D (t3 cI cJ cZ)) (hP : va_P D vwCl (wC ad cI cJ cZ σ) H) (hi : i < 12) (hd : decode cc pc = .ok (.iaload, 1)) (kk : W p l e R s m args below meth c H locs cells slots Q (F0 m (pc + 1) ls (.int (nI (gcAn σ i)) :: rest))) : W p l e R s m args below meth c H locs cells slots Q (F0 m (pc) ls (.int (nI i) :: .ref (ad 15) :: rest)) := by
  refine va_iald E.1.1 E.1.2.1 E.2 hP 15 0 rfl rfl (vp_in_nI hi (by decide)) hd ?_
  rw [nI_clamp (Nat.lt_trans hi (by decide))]
  exact kk
theorem as_CS_An {i : Nat} {v : Nat} (E : Cx p s m args c cc nL own x0 D (t3 cI cJ cZ)) (hP : va_P D vwCl (wC ad cI cJ cZ σ) H) (hD : ∀ τ, va_D A (wC ad cI cJ cZ τ)) (hS : va_S A H0 H locs) (hi : i < 12) (hd : decode cc pc = .ok (.iastore, 1)) (kk : ∀ (H1 : Heap) (locs1 : List Loc), va_P D vwCl (wC ad cI cJ cZ (scAn σ (va_up (gcAn σ) i v))) H1 → va_S A H0 H1 locs1 → W p l e R s m args below meth c H1 locs1 cells slots Q (F0 m (pc + 1) ls (rest))) : W p l e R s m args below meth c H locs cells slots Q (F0 m (pc) ls (.int (nI (v)) :: .int (nI i) :: .ref (ad 15) :: rest)) := by
  refine va_iast E.1.1 E.1.2.1 E.2 hP (hD σ) hS 15 0 rfl rfl (vp_in_nI hi (by decide)) hd (fun H1 l1 h1 _ h3 => kk H1 l1 ?_ h3)
  have e9 : upd (fun i => nI (gcAn σ i)) (nI i).toNatClampNeg (nI (v)) = fun j => nI (va_up (gcAn σ) i v j) := by
    funext j
    rw [nI_clamp (Nat.lt_trans hi (by decide))]
    unfold upd va_up
    split <;> rfl
  rw [e9] at h1
  exact h1
theorem ld_CS_Cl {i : Nat} (E : Cx p s m args c cc nL own x0 D (t3 cI cJ cZ)) (hP : va_P D vwCl (wC ad cI cJ cZ σ) H) (hi : i < 401) (hd : decode cc pc = .ok (.iaload, 1)) (kk : W p l e R s m args below meth c H locs cells slots Q (F0 m (pc + 1) ls (.int (nI (gcCl σ i)) :: rest))) : W p l e R s m args below meth c H locs cells slots Q (F0 m (pc) ls (.int (nI i) :: .ref (ad 16) :: rest)) := by
  refine va_iald E.1.1 E.1.2.1 E.2 hP 16 0 rfl rfl (vp_in_nI hi (by decide)) hd ?_
  rw [nI_clamp (Nat.lt_trans hi (by decide))]
  exact kk
theorem as_CS_Cl {i : Nat} {v : Nat} (E : Cx p s m args c cc nL own x0 D (t3 cI cJ cZ)) (hP : va_P D vwCl (wC ad cI cJ cZ σ) H) (hD : ∀ τ, va_D A (wC ad cI cJ cZ τ)) (hS : va_S A H0 H locs) (hi : i < 401) (hd : decode cc pc = .ok (.iastore, 1)) (kk : ∀ (H1 : Heap) (locs1 : List Loc), va_P D vwCl (wC ad cI cJ cZ (scCl σ (va_up (gcCl σ) i v))) H1 → va_S A H0 H1 locs1 → W p l e R s m args below meth c H1 locs1 cells slots Q (F0 m (pc + 1) ls (rest))) : W p l e R s m args below meth c H locs cells slots Q (F0 m (pc) ls (.int (nI (v)) :: .int (nI i) :: .ref (ad 16) :: rest)) := by
  refine va_iast E.1.1 E.1.2.1 E.2 hP (hD σ) hS 16 0 rfl rfl (vp_in_nI hi (by decide)) hd (fun H1 l1 h1 _ h3 => kk H1 l1 ?_ h3)
  have e9 : upd (fun i => nI (gcCl σ i)) (nI i).toNatClampNeg (nI (v)) = fun j => nI (va_up (gcCl σ) i v j) := by
    funext j
    rw [nI_clamp (Nat.lt_trans hi (by decide))]
    unfold upd va_up
    split <;> rfl
  rw [e9] at h1
  exact h1
theorem ld_CS_Fl {i : Nat} (E : Cx p s m args c cc nL own x0 D (t3 cI cJ cZ)) (hP : va_P D vwCl (wC ad cI cJ cZ σ) H) (hi : i < 1203) (hd : decode cc pc = .ok (.laload, 1)) (kk : W p l e R s m args below meth c H locs cells slots Q (F0 m (pc + 1) ls (.long (vJ (gcFl σ i)) :: rest))) : W p l e R s m args below meth c H locs cells slots Q (F0 m (pc) ls (.int (nI i) :: .ref (ad 17) :: rest)) := by
  refine va_lald E.1.1 E.1.2.1 E.2 hP 17 1 rfl rfl (vp_in_nI hi (by decide)) hd ?_
  rw [nI_clamp (Nat.lt_trans hi (by decide))]
  exact kk
theorem as_CS_Fl {i : Nat} {v : Val} (E : Cx p s m args c cc nL own x0 D (t3 cI cJ cZ)) (hP : va_P D vwCl (wC ad cI cJ cZ σ) H) (hD : ∀ τ, va_D A (wC ad cI cJ cZ τ)) (hS : va_S A H0 H locs) (hi : i < 1203) (hd : decode cc pc = .ok (.lastore, 1)) (kk : ∀ (H1 : Heap) (locs1 : List Loc), va_P D vwCl (wC ad cI cJ cZ (scFl σ (va_up (gcFl σ) i v))) H1 → va_S A H0 H1 locs1 → W p l e R s m args below meth c H1 locs1 cells slots Q (F0 m (pc + 1) ls (rest))) : W p l e R s m args below meth c H locs cells slots Q (F0 m (pc) ls (.long (vJ (v)) :: .int (nI i) :: .ref (ad 17) :: rest)) := by
  refine va_last E.1.1 E.1.2.1 E.2 hP (hD σ) hS 17 1 rfl rfl (vp_in_nI hi (by decide)) hd (fun H1 l1 h1 _ h3 => kk H1 l1 ?_ h3)
  have e9 : vp_updL (fun i => vJ (gcFl σ i)) (nI i).toNatClampNeg (vJ (v)) = fun j => vJ (va_up (gcFl σ) i v j) := by
    funext j
    rw [nI_clamp (Nat.lt_trans hi (by decide))]
    unfold vp_updL va_up
    split <;> rfl
  rw [e9] at h1
  exact h1
theorem ld_CS_Po {i : Nat} (E : Cx p s m args c cc nL own x0 D (t3 cI cJ cZ)) (hP : va_P D vwCl (wC ad cI cJ cZ σ) H) (hi : i < 40) (hd : decode cc pc = .ok (.iaload, 1)) (kk : W p l e R s m args below meth c H locs cells slots Q (F0 m (pc + 1) ls (.int (gcPo σ i) :: rest))) : W p l e R s m args below meth c H locs cells slots Q (F0 m (pc) ls (.int (nI i) :: .ref (ad 18) :: rest)) := by
  refine va_iald E.1.1 E.1.2.1 E.2 hP 18 0 rfl rfl (vp_in_nI hi (by decide)) hd ?_
  rw [nI_clamp (Nat.lt_trans hi (by decide))]
  exact kk
theorem as_CS_Po {i : Nat} {v : Int32} (E : Cx p s m args c cc nL own x0 D (t3 cI cJ cZ)) (hP : va_P D vwCl (wC ad cI cJ cZ σ) H) (hD : ∀ τ, va_D A (wC ad cI cJ cZ τ)) (hS : va_S A H0 H locs) (hi : i < 40) (hd : decode cc pc = .ok (.iastore, 1)) (kk : ∀ (H1 : Heap) (locs1 : List Loc), va_P D vwCl (wC ad cI cJ cZ (scPo σ (va_up (gcPo σ) i v))) H1 → va_S A H0 H1 locs1 → W p l e R s m args below meth c H1 locs1 cells slots Q (F0 m (pc + 1) ls (rest))) : W p l e R s m args below meth c H locs cells slots Q (F0 m (pc) ls (.int (v) :: .int (nI i) :: .ref (ad 18) :: rest)) := by
  refine va_iast E.1.1 E.1.2.1 E.2 hP (hD σ) hS 18 0 rfl rfl (vp_in_nI hi (by decide)) hd (fun H1 l1 h1 _ h3 => kk H1 l1 ?_ h3)
  have e9 : upd (fun i => gcPo σ i) (nI i).toNatClampNeg (v) = fun j => va_up (gcPo σ) i v j := by
    funext j
    rw [nI_clamp (Nat.lt_trans hi (by decide))]
    unfold upd va_up
    split <;> rfl
  rw [e9] at h1
  exact h1
theorem ld_CS_Ct {i : Nat} (E : Cx p s m args c cc nL own x0 D (t3 cI cJ cZ)) (hP : va_P D vwCl (wC ad cI cJ cZ σ) H) (hi : i < 6) (hd : decode cc pc = .ok (.iaload, 1)) (kk : W p l e R s m args below meth c H locs cells slots Q (F0 m (pc + 1) ls (.int (nI (gcCt σ i)) :: rest))) : W p l e R s m args below meth c H locs cells slots Q (F0 m (pc) ls (.int (nI i) :: .ref (ad 19) :: rest)) := by
  refine va_iald E.1.1 E.1.2.1 E.2 hP 19 0 rfl rfl (vp_in_nI hi (by decide)) hd ?_
  rw [nI_clamp (Nat.lt_trans hi (by decide))]
  exact kk
theorem as_CS_Ct {i : Nat} {v : Nat} (E : Cx p s m args c cc nL own x0 D (t3 cI cJ cZ)) (hP : va_P D vwCl (wC ad cI cJ cZ σ) H) (hD : ∀ τ, va_D A (wC ad cI cJ cZ τ)) (hS : va_S A H0 H locs) (hi : i < 6) (hd : decode cc pc = .ok (.iastore, 1)) (kk : ∀ (H1 : Heap) (locs1 : List Loc), va_P D vwCl (wC ad cI cJ cZ (scCt σ (va_up (gcCt σ) i v))) H1 → va_S A H0 H1 locs1 → W p l e R s m args below meth c H1 locs1 cells slots Q (F0 m (pc + 1) ls (rest))) : W p l e R s m args below meth c H locs cells slots Q (F0 m (pc) ls (.int (nI (v)) :: .int (nI i) :: .ref (ad 19) :: rest)) := by
  refine va_iast E.1.1 E.1.2.1 E.2 hP (hD σ) hS 19 0 rfl rfl (vp_in_nI hi (by decide)) hd (fun H1 l1 h1 _ h3 => kk H1 l1 ?_ h3)
  have e9 : upd (fun i => nI (gcCt σ i)) (nI i).toNatClampNeg (nI (v)) = fun j => nI (va_up (gcCt σ) i v j) := by
    funext j
    rw [nI_clamp (Nat.lt_trans hi (by decide))]
    unfold upd va_up
    split <;> rfl
  rw [e9] at h1
  exact h1
end RCS
end
section
abbrev MS : Type := Nat × Nat × (Nat → Option Nat) × (Nat → Nat) × (Nat → Int32) × (Nat → Bool) × (Nat → Bool) × (Nat → Bool) × (Nat → Nat) × (Nat → Bool) × Nat × Nat × (Nat → Nat) × (Nat → Bool) × (Nat → Int32) × Nat × (Nat → Nat) × (Nat → Nat) × (Nat → Nat) × (Nat → Bool) × (Nat → Int32) × (Nat → Int32) × (Nat → Nat)
def gmth (σ : MS) : Nat := σ.1
def gmty (σ : MS) : Nat := σ.2.1
def gmpa (σ : MS) : (Nat → Option Nat) := σ.2.2.1
def gmmy (σ : MS) : (Nat → Nat) := σ.2.2.2.1
def gmcd (σ : MS) : (Nat → Int32) := σ.2.2.2.2.1
def gmmd (σ : MS) : (Nat → Bool) := σ.2.2.2.2.2.1
def gmrd (σ : MS) : (Nat → Bool) := σ.2.2.2.2.2.2.1
def gmch (σ : MS) : (Nat → Bool) := σ.2.2.2.2.2.2.2.1
def gmsi (σ : MS) : (Nat → Nat) := σ.2.2.2.2.2.2.2.2.1
def gmho (σ : MS) : (Nat → Bool) := σ.2.2.2.2.2.2.2.2.2.1
def gmob (σ : MS) : Nat := σ.2.2.2.2.2.2.2.2.2.2.1
def gmrm (σ : MS) : Nat := σ.2.2.2.2.2.2.2.2.2.2.2.1
def gmcl (σ : MS) : (Nat → Nat) := σ.2.2.2.2.2.2.2.2.2.2.2.2.1
def gmfI (σ : MS) : (Nat → Bool) := σ.2.2.2.2.2.2.2.2.2.2.2.2.2.1
def gmfV (σ : MS) : (Nat → Int32) := σ.2.2.2.2.2.2.2.2.2.2.2.2.2.2.1
def gmfr (σ : MS) : Nat := σ.2.2.2.2.2.2.2.2.2.2.2.2.2.2.2.1
def gmbo (σ : MS) : (Nat → Nat) := σ.2.2.2.2.2.2.2.2.2.2.2.2.2.2.2.2.1
def gmpl (σ : MS) : (Nat → Nat) := σ.2.2.2.2.2.2.2.2.2.2.2.2.2.2.2.2.2.1
def gmwa (σ : MS) : (Nat → Nat) := σ.2.2.2.2.2.2.2.2.2.2.2.2.2.2.2.2.2.2.1
def gmis (σ : MS) : (Nat → Bool) := σ.2.2.2.2.2.2.2.2.2.2.2.2.2.2.2.2.2.2.2.1
def gmva (σ : MS) : (Nat → Int32) := σ.2.2.2.2.2.2.2.2.2.2.2.2.2.2.2.2.2.2.2.2.1
def gmou (σ : MS) : (Nat → Int32) := σ.2.2.2.2.2.2.2.2.2.2.2.2.2.2.2.2.2.2.2.2.2.1
def gmct (σ : MS) : (Nat → Nat) := σ.2.2.2.2.2.2.2.2.2.2.2.2.2.2.2.2.2.2.2.2.2.2
def smth (σ : MS) (v : Nat) : MS := (v, σ.2)
def smty (σ : MS) (v : Nat) : MS := (σ.1, v, σ.2.2)
def smpa (σ : MS) (v : (Nat → Option Nat)) : MS := (σ.1, σ.2.1, v, σ.2.2.2)
def smmy (σ : MS) (v : (Nat → Nat)) : MS := (σ.1, σ.2.1, σ.2.2.1, v, σ.2.2.2.2)
def smcd (σ : MS) (v : (Nat → Int32)) : MS := (σ.1, σ.2.1, σ.2.2.1, σ.2.2.2.1, v, σ.2.2.2.2.2)
def smmd (σ : MS) (v : (Nat → Bool)) : MS := (σ.1, σ.2.1, σ.2.2.1, σ.2.2.2.1, σ.2.2.2.2.1, v, σ.2.2.2.2.2.2)
def smrd (σ : MS) (v : (Nat → Bool)) : MS := (σ.1, σ.2.1, σ.2.2.1, σ.2.2.2.1, σ.2.2.2.2.1, σ.2.2.2.2.2.1, v, σ.2.2.2.2.2.2.2)
def smch (σ : MS) (v : (Nat → Bool)) : MS := (σ.1, σ.2.1, σ.2.2.1, σ.2.2.2.1, σ.2.2.2.2.1, σ.2.2.2.2.2.1, σ.2.2.2.2.2.2.1, v, σ.2.2.2.2.2.2.2.2)
def smsi (σ : MS) (v : (Nat → Nat)) : MS := (σ.1, σ.2.1, σ.2.2.1, σ.2.2.2.1, σ.2.2.2.2.1, σ.2.2.2.2.2.1, σ.2.2.2.2.2.2.1, σ.2.2.2.2.2.2.2.1, v, σ.2.2.2.2.2.2.2.2.2)
def smho (σ : MS) (v : (Nat → Bool)) : MS := (σ.1, σ.2.1, σ.2.2.1, σ.2.2.2.1, σ.2.2.2.2.1, σ.2.2.2.2.2.1, σ.2.2.2.2.2.2.1, σ.2.2.2.2.2.2.2.1, σ.2.2.2.2.2.2.2.2.1, v, σ.2.2.2.2.2.2.2.2.2.2)
def smob (σ : MS) (v : Nat) : MS := (σ.1, σ.2.1, σ.2.2.1, σ.2.2.2.1, σ.2.2.2.2.1, σ.2.2.2.2.2.1, σ.2.2.2.2.2.2.1, σ.2.2.2.2.2.2.2.1, σ.2.2.2.2.2.2.2.2.1, σ.2.2.2.2.2.2.2.2.2.1, v, σ.2.2.2.2.2.2.2.2.2.2.2)
def smrm (σ : MS) (v : Nat) : MS := (σ.1, σ.2.1, σ.2.2.1, σ.2.2.2.1, σ.2.2.2.2.1, σ.2.2.2.2.2.1, σ.2.2.2.2.2.2.1, σ.2.2.2.2.2.2.2.1, σ.2.2.2.2.2.2.2.2.1, σ.2.2.2.2.2.2.2.2.2.1, σ.2.2.2.2.2.2.2.2.2.2.1, v, σ.2.2.2.2.2.2.2.2.2.2.2.2)
def smcl (σ : MS) (v : (Nat → Nat)) : MS := (σ.1, σ.2.1, σ.2.2.1, σ.2.2.2.1, σ.2.2.2.2.1, σ.2.2.2.2.2.1, σ.2.2.2.2.2.2.1, σ.2.2.2.2.2.2.2.1, σ.2.2.2.2.2.2.2.2.1, σ.2.2.2.2.2.2.2.2.2.1, σ.2.2.2.2.2.2.2.2.2.2.1, σ.2.2.2.2.2.2.2.2.2.2.2.1, v, σ.2.2.2.2.2.2.2.2.2.2.2.2.2)
def smfI (σ : MS) (v : (Nat → Bool)) : MS := (σ.1, σ.2.1, σ.2.2.1, σ.2.2.2.1, σ.2.2.2.2.1, σ.2.2.2.2.2.1, σ.2.2.2.2.2.2.1, σ.2.2.2.2.2.2.2.1, σ.2.2.2.2.2.2.2.2.1, σ.2.2.2.2.2.2.2.2.2.1, σ.2.2.2.2.2.2.2.2.2.2.1, σ.2.2.2.2.2.2.2.2.2.2.2.1, σ.2.2.2.2.2.2.2.2.2.2.2.2.1, v, σ.2.2.2.2.2.2.2.2.2.2.2.2.2.2)
def smfV (σ : MS) (v : (Nat → Int32)) : MS := (σ.1, σ.2.1, σ.2.2.1, σ.2.2.2.1, σ.2.2.2.2.1, σ.2.2.2.2.2.1, σ.2.2.2.2.2.2.1, σ.2.2.2.2.2.2.2.1, σ.2.2.2.2.2.2.2.2.1, σ.2.2.2.2.2.2.2.2.2.1, σ.2.2.2.2.2.2.2.2.2.2.1, σ.2.2.2.2.2.2.2.2.2.2.2.1, σ.2.2.2.2.2.2.2.2.2.2.2.2.1, σ.2.2.2.2.2.2.2.2.2.2.2.2.2.1, v, σ.2.2.2.2.2.2.2.2.2.2.2.2.2.2.2)
def smfr (σ : MS) (v : Nat) : MS := (σ.1, σ.2.1, σ.2.2.1, σ.2.2.2.1, σ.2.2.2.2.1, σ.2.2.2.2.2.1, σ.2.2.2.2.2.2.1, σ.2.2.2.2.2.2.2.1, σ.2.2.2.2.2.2.2.2.1, σ.2.2.2.2.2.2.2.2.2.1, σ.2.2.2.2.2.2.2.2.2.2.1, σ.2.2.2.2.2.2.2.2.2.2.2.1, σ.2.2.2.2.2.2.2.2.2.2.2.2.1, σ.2.2.2.2.2.2.2.2.2.2.2.2.2.1, σ.2.2.2.2.2.2.2.2.2.2.2.2.2.2.1, v, σ.2.2.2.2.2.2.2.2.2.2.2.2.2.2.2.2)
def smbo (σ : MS) (v : (Nat → Nat)) : MS := (σ.1, σ.2.1, σ.2.2.1, σ.2.2.2.1, σ.2.2.2.2.1, σ.2.2.2.2.2.1, σ.2.2.2.2.2.2.1, σ.2.2.2.2.2.2.2.1, σ.2.2.2.2.2.2.2.2.1, σ.2.2.2.2.2.2.2.2.2.1, σ.2.2.2.2.2.2.2.2.2.2.1, σ.2.2.2.2.2.2.2.2.2.2.2.1, σ.2.2.2.2.2.2.2.2.2.2.2.2.1, σ.2.2.2.2.2.2.2.2.2.2.2.2.2.1, σ.2.2.2.2.2.2.2.2.2.2.2.2.2.2.1, σ.2.2.2.2.2.2.2.2.2.2.2.2.2.2.2.1, v, σ.2.2.2.2.2.2.2.2.2.2.2.2.2.2.2.2.2)
def smpl (σ : MS) (v : (Nat → Nat)) : MS := (σ.1, σ.2.1, σ.2.2.1, σ.2.2.2.1, σ.2.2.2.2.1, σ.2.2.2.2.2.1, σ.2.2.2.2.2.2.1, σ.2.2.2.2.2.2.2.1, σ.2.2.2.2.2.2.2.2.1, σ.2.2.2.2.2.2.2.2.2.1, σ.2.2.2.2.2.2.2.2.2.2.1, σ.2.2.2.2.2.2.2.2.2.2.2.1, σ.2.2.2.2.2.2.2.2.2.2.2.2.1, σ.2.2.2.2.2.2.2.2.2.2.2.2.2.1, σ.2.2.2.2.2.2.2.2.2.2.2.2.2.2.1, σ.2.2.2.2.2.2.2.2.2.2.2.2.2.2.2.1, σ.2.2.2.2.2.2.2.2.2.2.2.2.2.2.2.2.1, v, σ.2.2.2.2.2.2.2.2.2.2.2.2.2.2.2.2.2.2)
def smwa (σ : MS) (v : (Nat → Nat)) : MS := (σ.1, σ.2.1, σ.2.2.1, σ.2.2.2.1, σ.2.2.2.2.1, σ.2.2.2.2.2.1, σ.2.2.2.2.2.2.1, σ.2.2.2.2.2.2.2.1, σ.2.2.2.2.2.2.2.2.1, σ.2.2.2.2.2.2.2.2.2.1, σ.2.2.2.2.2.2.2.2.2.2.1, σ.2.2.2.2.2.2.2.2.2.2.2.1, σ.2.2.2.2.2.2.2.2.2.2.2.2.1, σ.2.2.2.2.2.2.2.2.2.2.2.2.2.1, σ.2.2.2.2.2.2.2.2.2.2.2.2.2.2.1, σ.2.2.2.2.2.2.2.2.2.2.2.2.2.2.2.1, σ.2.2.2.2.2.2.2.2.2.2.2.2.2.2.2.2.1, σ.2.2.2.2.2.2.2.2.2.2.2.2.2.2.2.2.2.1, v, σ.2.2.2.2.2.2.2.2.2.2.2.2.2.2.2.2.2.2.2)
def smis (σ : MS) (v : (Nat → Bool)) : MS := (σ.1, σ.2.1, σ.2.2.1, σ.2.2.2.1, σ.2.2.2.2.1, σ.2.2.2.2.2.1, σ.2.2.2.2.2.2.1, σ.2.2.2.2.2.2.2.1, σ.2.2.2.2.2.2.2.2.1, σ.2.2.2.2.2.2.2.2.2.1, σ.2.2.2.2.2.2.2.2.2.2.1, σ.2.2.2.2.2.2.2.2.2.2.2.1, σ.2.2.2.2.2.2.2.2.2.2.2.2.1, σ.2.2.2.2.2.2.2.2.2.2.2.2.2.1, σ.2.2.2.2.2.2.2.2.2.2.2.2.2.2.1, σ.2.2.2.2.2.2.2.2.2.2.2.2.2.2.2.1, σ.2.2.2.2.2.2.2.2.2.2.2.2.2.2.2.2.1, σ.2.2.2.2.2.2.2.2.2.2.2.2.2.2.2.2.2.1, σ.2.2.2.2.2.2.2.2.2.2.2.2.2.2.2.2.2.2.1, v, σ.2.2.2.2.2.2.2.2.2.2.2.2.2.2.2.2.2.2.2.2)
def smva (σ : MS) (v : (Nat → Int32)) : MS := (σ.1, σ.2.1, σ.2.2.1, σ.2.2.2.1, σ.2.2.2.2.1, σ.2.2.2.2.2.1, σ.2.2.2.2.2.2.1, σ.2.2.2.2.2.2.2.1, σ.2.2.2.2.2.2.2.2.1, σ.2.2.2.2.2.2.2.2.2.1, σ.2.2.2.2.2.2.2.2.2.2.1, σ.2.2.2.2.2.2.2.2.2.2.2.1, σ.2.2.2.2.2.2.2.2.2.2.2.2.1, σ.2.2.2.2.2.2.2.2.2.2.2.2.2.1, σ.2.2.2.2.2.2.2.2.2.2.2.2.2.2.1, σ.2.2.2.2.2.2.2.2.2.2.2.2.2.2.2.1, σ.2.2.2.2.2.2.2.2.2.2.2.2.2.2.2.2.1, σ.2.2.2.2.2.2.2.2.2.2.2.2.2.2.2.2.2.1, σ.2.2.2.2.2.2.2.2.2.2.2.2.2.2.2.2.2.2.1, σ.2.2.2.2.2.2.2.2.2.2.2.2.2.2.2.2.2.2.2.1, v, σ.2.2.2.2.2.2.2.2.2.2.2.2.2.2.2.2.2.2.2.2.2)
def smou (σ : MS) (v : (Nat → Int32)) : MS := (σ.1, σ.2.1, σ.2.2.1, σ.2.2.2.1, σ.2.2.2.2.1, σ.2.2.2.2.2.1, σ.2.2.2.2.2.2.1, σ.2.2.2.2.2.2.2.1, σ.2.2.2.2.2.2.2.2.1, σ.2.2.2.2.2.2.2.2.2.1, σ.2.2.2.2.2.2.2.2.2.2.1, σ.2.2.2.2.2.2.2.2.2.2.2.1, σ.2.2.2.2.2.2.2.2.2.2.2.2.1, σ.2.2.2.2.2.2.2.2.2.2.2.2.2.1, σ.2.2.2.2.2.2.2.2.2.2.2.2.2.2.1, σ.2.2.2.2.2.2.2.2.2.2.2.2.2.2.2.1, σ.2.2.2.2.2.2.2.2.2.2.2.2.2.2.2.2.1, σ.2.2.2.2.2.2.2.2.2.2.2.2.2.2.2.2.2.1, σ.2.2.2.2.2.2.2.2.2.2.2.2.2.2.2.2.2.2.1, σ.2.2.2.2.2.2.2.2.2.2.2.2.2.2.2.2.2.2.2.1, σ.2.2.2.2.2.2.2.2.2.2.2.2.2.2.2.2.2.2.2.2.1, v, σ.2.2.2.2.2.2.2.2.2.2.2.2.2.2.2.2.2.2.2.2.2.2)
def smct (σ : MS) (v : (Nat → Nat)) : MS := (σ.1, σ.2.1, σ.2.2.1, σ.2.2.2.1, σ.2.2.2.2.1, σ.2.2.2.2.2.1, σ.2.2.2.2.2.2.1, σ.2.2.2.2.2.2.2.1, σ.2.2.2.2.2.2.2.2.1, σ.2.2.2.2.2.2.2.2.2.1, σ.2.2.2.2.2.2.2.2.2.2.1, σ.2.2.2.2.2.2.2.2.2.2.2.1, σ.2.2.2.2.2.2.2.2.2.2.2.2.1, σ.2.2.2.2.2.2.2.2.2.2.2.2.2.1, σ.2.2.2.2.2.2.2.2.2.2.2.2.2.2.1, σ.2.2.2.2.2.2.2.2.2.2.2.2.2.2.2.1, σ.2.2.2.2.2.2.2.2.2.2.2.2.2.2.2.2.1, σ.2.2.2.2.2.2.2.2.2.2.2.2.2.2.2.2.2.1, σ.2.2.2.2.2.2.2.2.2.2.2.2.2.2.2.2.2.2.1, σ.2.2.2.2.2.2.2.2.2.2.2.2.2.2.2.2.2.2.2.1, σ.2.2.2.2.2.2.2.2.2.2.2.2.2.2.2.2.2.2.2.2.1, σ.2.2.2.2.2.2.2.2.2.2.2.2.2.2.2.2.2.2.2.2.2.1, v)
def wR (ad : Nat → Nat) (cI cJ cZ : ClassId) (σ : MS) : va_W := [(ad 0, .inr (6, [.int (nI (gmth σ)), .int (nI (gmty σ)), .ref (ad 1), .ref (ad 2), .ref (ad 3), .ref (ad 4), .ref (ad 5), .ref (ad 6), .ref (ad 7), .ref (ad 8), .int (nI (gmob σ)), .int (nI (gmrm σ)), .ref (ad 9), .ref (ad 10), .ref (ad 11), .int (nI (gmfr σ)), .ref (ad 12), .ref (ad 13), .ref (ad 14), .ref (ad 15), .ref (ad 16), .ref (ad 17), .ref (ad 18)])), (ad 1, .inl (cI, 6, .inl (fun i => oI (gmpa σ i)))), (ad 2, .inl (cI, 24, .inl (fun i => nI (gmmy σ i)))), (ad 3, .inl (cI, 960, .inl (fun i => gmcd σ i))), (ad 4, .inl (cZ, 6, .inl (fun i => bI (gmmd σ i)))), (ad 5, .inl (cZ, 24, .inl (fun i => bI (gmrd σ i)))), (ad 6, .inl (cZ, 24, .inl (fun i => bI (gmch σ i)))), (ad 7, .inl (cI, 240, .inl (fun i => nI (gmsi σ i)))), (ad 8, .inl (cZ, 6, .inl (fun i => bI (gmho σ i)))), (ad 9, .inl (cI, 420, .inl (fun i => nI (gmcl σ i)))), (ad 10, .inl (cZ, 1260, .inl (fun i => bI (gmfI σ i)))), (ad 11, .inl (cI, 1260, .inl (fun i => gmfV σ i))), (ad 12, .inl (cI, 13, .inl (fun i => nI (gmbo σ i)))), (ad 13, .inl (cI, 13, .inl (fun i => nI (gmpl σ i)))), (ad 14, .inl (cI, 13, .inl (fun i => nI (gmwa σ i)))), (ad 15, .inl (cZ, 78, .inl (fun i => bI (gmis σ i)))), (ad 16, .inl (cI, 78, .inl (fun i => gmva σ i))), (ad 17, .inl (cI, 40, .inl (fun i => gmou σ i))), (ad 18, .inl (cI, 6, .inl (fun i => nI (gmct σ i))))]
theorem wR_D {A : Nat → Prop} {ad : Nat → Nat} {cI cJ cZ : ClassId} {σ : MS} (h : va_D A (wR ad cI cJ cZ σ)) (τ : MS) : va_D A (wR ad cI cJ cZ τ) := va_D_addr (ws := wR ad cI cJ cZ σ) rfl h
section RMS
variable {p : Program} {l : Launch} {e : Env} {R : Room} {s : State} {m : MethodId} {args : Array Value} {below : List Frame} {meth : Method} {c : Code} {H : Heap} {locs : List Loc} {cells slots : Nat} {Q : State → Prop}
variable {cc : ByteArray} {nL idx pc : Nat} {own : String} {x0 : Cond} {D : va_G} {cI cJ cZ : ClassId} {ad : Nat → Nat} {σ : MS} {A : Nat → Prop} {ls : Array Slot} {rest : List Value} {H0 : Heap}
theorem gt_X4_thrown (E : Cx p s m args c cc nL own x0 D (t3 cI cJ cZ)) (hl : Cond.fieldLink own idx (TX4 0).1 (TX4 0).2.1 (TX4 0).2.2.1 ∈ G) (hP : va_P D vwCl (wR ad cI cJ cZ σ) H) (hd : decode cc pc = .ok (.getfield idx, 3)) (kk : W p l e R s m args below meth c H locs cells slots Q (F0 m (pc + 3) ls (.int (nI (gmth σ)) :: rest))) : W p l e R s m args below meth c H locs cells slots Q (F0 m (pc) ls (.ref (ad 0) :: rest)) := CM.get (T := TX4) (N := 23) (ref := "") E hP 0 rfl rfl inG_X4 0 (by decide) hl rfl hd kk
theorem pt_X4_thrown {v : Nat} (E : Cx p s m args c cc nL own x0 D (t3 cI cJ cZ)) (hl : Cond.fieldLink own idx (TX4 0).1 (TX4 0).2.1 (TX4 0).2.2.1 ∈ G) (hP : va_P D vwCl (wR ad cI cJ cZ σ) H) (hD : ∀ τ, va_D A (wR ad cI cJ cZ τ)) (hS : va_S A H0 H locs) (hd : decode cc pc = .ok (.putfield idx, 3)) (kk : ∀ (H1 : Heap) (locs1 : List Loc), va_P D vwCl (wR ad cI cJ cZ (smth σ v)) H1 → va_S A H0 H1 locs1 → W p l e R s m args below meth c H1 locs1 cells slots Q (F0 m (pc + 3) ls (rest))) : W p l e R s m args below meth c H locs cells slots Q (F0 m (pc) ls (.int (nI (v)) :: .ref (ad 0) :: rest)) := CM.put (T := TX4) (N := 23) (ty := .int) E hP (hD σ) hS 0 rfl rfl inG_X4 tyX4 tyX4_ok nmX4 0 (by decide) hl rfl (by decide +kernel) rfl rfl (Nat.le_of_ble_eq_true rfl) rfl hd (fun H1 l1 h1 _ h3 => kk H1 l1 h1 h3)
theorem gt_X4_types (E : Cx p s m args c cc nL own x0 D (t3 cI cJ cZ)) (hl : Cond.fieldLink own idx (TX4 1).1 (TX4 1).2.1 (TX4 1).2.2.1 ∈ G) (hP : va_P D vwCl (wR ad cI cJ cZ σ) H) (hd : decode cc pc = .ok (.getfield idx, 3)) (kk : W p l e R s m args below meth c H locs cells slots Q (F0 m (pc + 3) ls (.int (nI (gmty σ)) :: rest))) : W p l e R s m args below meth c H locs cells slots Q (F0 m (pc) ls (.ref (ad 0) :: rest)) := CM.get (T := TX4) (N := 23) (ref := "") E hP 0 rfl rfl inG_X4 1 (by decide) hl rfl hd kk
theorem pt_X4_types {v : Nat} (E : Cx p s m args c cc nL own x0 D (t3 cI cJ cZ)) (hl : Cond.fieldLink own idx (TX4 1).1 (TX4 1).2.1 (TX4 1).2.2.1 ∈ G) (hP : va_P D vwCl (wR ad cI cJ cZ σ) H) (hD : ∀ τ, va_D A (wR ad cI cJ cZ τ)) (hS : va_S A H0 H locs) (hd : decode cc pc = .ok (.putfield idx, 3)) (kk : ∀ (H1 : Heap) (locs1 : List Loc), va_P D vwCl (wR ad cI cJ cZ (smty σ v)) H1 → va_S A H0 H1 locs1 → W p l e R s m args below meth c H1 locs1 cells slots Q (F0 m (pc + 3) ls (rest))) : W p l e R s m args below meth c H locs cells slots Q (F0 m (pc) ls (.int (nI (v)) :: .ref (ad 0) :: rest)) := CM.put (T := TX4) (N := 23) (ty := .int) E hP (hD σ) hS 0 rfl rfl inG_X4 tyX4 tyX4_ok nmX4 1 (by decide) hl rfl (by decide +kernel) rfl rfl (Nat.le_of_ble_eq_true rfl) rfl hd (fun H1 l1 h1 _ h3 => kk H1 l1 h1 h3)
theorem gt_X4_parent (E : Cx p s m args c cc nL own x0 D (t3 cI cJ cZ)) (hl : Cond.fieldLink own idx (TX4 2).1 (TX4 2).2.1 (TX4 2).2.2.1 ∈ G) (hP : va_P D vwCl (wR ad cI cJ cZ σ) H) (hd : decode cc pc = .ok (.getfield idx, 3)) (kk : W p l e R s m args below meth c H locs cells slots Q (F0 m (pc + 3) ls (.ref (ad 1) :: rest))) : W p l e R s m args below meth c H locs cells slots Q (F0 m (pc) ls (.ref (ad 0) :: rest)) := CM.get (T := TX4) (N := 23) (ref := "") E hP 0 rfl rfl inG_X4 2 (by decide) hl rfl hd kk
theorem gt_X4_many (E : Cx p s m args c cc nL own x0 D (t3 cI cJ cZ)) (hl : Cond.fieldLink own idx (TX4 3).1 (TX4 3).2.1 (TX4 3).2.2.1 ∈ G) (hP : va_P D vwCl (wR ad cI cJ cZ σ) H) (hd : decode cc pc = .ok (.getfield idx, 3)) (kk : W p l e R s m args below meth c H locs cells slots Q (F0 m (pc + 3) ls (.ref (ad 2) :: rest))) : W p l e R s m args below meth c H locs cells slots Q (F0 m (pc) ls (.ref (ad 0) :: rest)) := CM.get (T := TX4) (N := 23) (ref := "") E hP 0 rfl rfl inG_X4 3 (by decide) hl rfl hd kk
theorem gt_X4_code (E : Cx p s m args c cc nL own x0 D (t3 cI cJ cZ)) (hl : Cond.fieldLink own idx (TX4 4).1 (TX4 4).2.1 (TX4 4).2.2.1 ∈ G) (hP : va_P D vwCl (wR ad cI cJ cZ σ) H) (hd : decode cc pc = .ok (.getfield idx, 3)) (kk : W p l e R s m args below meth c H locs cells slots Q (F0 m (pc + 3) ls (.ref (ad 3) :: rest))) : W p l e R s m args below meth c H locs cells slots Q (F0 m (pc) ls (.ref (ad 0) :: rest)) := CM.get (T := TX4) (N := 23) (ref := "") E hP 0 rfl rfl inG_X4 4 (by decide) hl rfl hd kk
theorem gt_X4_made (E : Cx p s m args c cc nL own x0 D (t3 cI cJ cZ)) (hl : Cond.fieldLink own idx (TX4 5).1 (TX4 5).2.1 (TX4 5).2.2.1 ∈ G) (hP : va_P D vwCl (wR ad cI cJ cZ σ) H) (hd : decode cc pc = .ok (.getfield idx, 3)) (kk : W p l e R s m args below meth c H locs cells slots Q (F0 m (pc + 3) ls (.ref (ad 4) :: rest))) : W p l e R s m args below meth c H locs cells slots Q (F0 m (pc) ls (.ref (ad 0) :: rest)) := CM.get (T := TX4) (N := 23) (ref := "") E hP 0 rfl rfl inG_X4 5 (by decide) hl rfl hd kk
theorem gt_X4_reached (E : Cx p s m args c cc nL own x0 D (t3 cI cJ cZ)) (hl : Cond.fieldLink own idx (TX4 6).1 (TX4 6).2.1 (TX4 6).2.2.1 ∈ G) (hP : va_P D vwCl (wR ad cI cJ cZ σ) H) (hd : decode cc pc = .ok (.getfield idx, 3)) (kk : W p l e R s m args below meth c H locs cells slots Q (F0 m (pc + 3) ls (.ref (ad 5) :: rest))) : W p l e R s m args below meth c H locs cells slots Q (F0 m (pc) ls (.ref (ad 0) :: rest)) := CM.get (T := TX4) (N := 23) (ref := "") E hP 0 rfl rfl inG_X4 6 (by decide) hl rfl hd kk
theorem gt_X4_changed (E : Cx p s m args c cc nL own x0 D (t3 cI cJ cZ)) (hl : Cond.fieldLink own idx (TX4 7).1 (TX4 7).2.1 (TX4 7).2.2.1 ∈ G) (hP : va_P D vwCl (wR ad cI cJ cZ σ) H) (hd : decode cc pc = .ok (.getfield idx, 3)) (kk : W p l e R s m args below meth c H locs cells slots Q (F0 m (pc + 3) ls (.ref (ad 6) :: rest))) : W p l e R s m args below meth c H locs cells slots Q (F0 m (pc) ls (.ref (ad 0) :: rest)) := CM.get (T := TX4) (N := 23) (ref := "") E hP 0 rfl rfl inG_X4 7 (by decide) hl rfl hd kk
theorem gt_X4_sites (E : Cx p s m args c cc nL own x0 D (t3 cI cJ cZ)) (hl : Cond.fieldLink own idx (TX4 8).1 (TX4 8).2.1 (TX4 8).2.2.1 ∈ G) (hP : va_P D vwCl (wR ad cI cJ cZ σ) H) (hd : decode cc pc = .ok (.getfield idx, 3)) (kk : W p l e R s m args below meth c H locs cells slots Q (F0 m (pc + 3) ls (.ref (ad 7) :: rest))) : W p l e R s m args below meth c H locs cells slots Q (F0 m (pc) ls (.ref (ad 0) :: rest)) := CM.get (T := TX4) (N := 23) (ref := "") E hP 0 rfl rfl inG_X4 8 (by decide) hl rfl hd kk
theorem gt_X4_holder (E : Cx p s m args c cc nL own x0 D (t3 cI cJ cZ)) (hl : Cond.fieldLink own idx (TX4 9).1 (TX4 9).2.1 (TX4 9).2.2.1 ∈ G) (hP : va_P D vwCl (wR ad cI cJ cZ σ) H) (hd : decode cc pc = .ok (.getfield idx, 3)) (kk : W p l e R s m args below meth c H locs cells slots Q (F0 m (pc + 3) ls (.ref (ad 8) :: rest))) : W p l e R s m args below meth c H locs cells slots Q (F0 m (pc) ls (.ref (ad 0) :: rest)) := CM.get (T := TX4) (N := 23) (ref := "") E hP 0 rfl rfl inG_X4 9 (by decide) hl rfl hd kk
theorem gt_X4_objects (E : Cx p s m args c cc nL own x0 D (t3 cI cJ cZ)) (hl : Cond.fieldLink own idx (TX4 10).1 (TX4 10).2.1 (TX4 10).2.2.1 ∈ G) (hP : va_P D vwCl (wR ad cI cJ cZ σ) H) (hd : decode cc pc = .ok (.getfield idx, 3)) (kk : W p l e R s m args below meth c H locs cells slots Q (F0 m (pc + 3) ls (.int (nI (gmob σ)) :: rest))) : W p l e R s m args below meth c H locs cells slots Q (F0 m (pc) ls (.ref (ad 0) :: rest)) := CM.get (T := TX4) (N := 23) (ref := "") E hP 0 rfl rfl inG_X4 10 (by decide) hl rfl hd kk
theorem pt_X4_objects {v : Nat} (E : Cx p s m args c cc nL own x0 D (t3 cI cJ cZ)) (hl : Cond.fieldLink own idx (TX4 10).1 (TX4 10).2.1 (TX4 10).2.2.1 ∈ G) (hP : va_P D vwCl (wR ad cI cJ cZ σ) H) (hD : ∀ τ, va_D A (wR ad cI cJ cZ τ)) (hS : va_S A H0 H locs) (hd : decode cc pc = .ok (.putfield idx, 3)) (kk : ∀ (H1 : Heap) (locs1 : List Loc), va_P D vwCl (wR ad cI cJ cZ (smob σ v)) H1 → va_S A H0 H1 locs1 → W p l e R s m args below meth c H1 locs1 cells slots Q (F0 m (pc + 3) ls (rest))) : W p l e R s m args below meth c H locs cells slots Q (F0 m (pc) ls (.int (nI (v)) :: .ref (ad 0) :: rest)) := CM.put (T := TX4) (N := 23) (ty := .int) E hP (hD σ) hS 0 rfl rfl inG_X4 tyX4 tyX4_ok nmX4 10 (by decide) hl rfl (by decide +kernel) rfl rfl (Nat.le_of_ble_eq_true rfl) rfl hd (fun H1 l1 h1 _ h3 => kk H1 l1 h1 h3)
theorem gt_X4_room (E : Cx p s m args c cc nL own x0 D (t3 cI cJ cZ)) (hl : Cond.fieldLink own idx (TX4 11).1 (TX4 11).2.1 (TX4 11).2.2.1 ∈ G) (hP : va_P D vwCl (wR ad cI cJ cZ σ) H) (hd : decode cc pc = .ok (.getfield idx, 3)) (kk : W p l e R s m args below meth c H locs cells slots Q (F0 m (pc + 3) ls (.int (nI (gmrm σ)) :: rest))) : W p l e R s m args below meth c H locs cells slots Q (F0 m (pc) ls (.ref (ad 0) :: rest)) := CM.get (T := TX4) (N := 23) (ref := "") E hP 0 rfl rfl inG_X4 11 (by decide) hl rfl hd kk
theorem pt_X4_room {v : Nat} (E : Cx p s m args c cc nL own x0 D (t3 cI cJ cZ)) (hl : Cond.fieldLink own idx (TX4 11).1 (TX4 11).2.1 (TX4 11).2.2.1 ∈ G) (hP : va_P D vwCl (wR ad cI cJ cZ σ) H) (hD : ∀ τ, va_D A (wR ad cI cJ cZ τ)) (hS : va_S A H0 H locs) (hd : decode cc pc = .ok (.putfield idx, 3)) (kk : ∀ (H1 : Heap) (locs1 : List Loc), va_P D vwCl (wR ad cI cJ cZ (smrm σ v)) H1 → va_S A H0 H1 locs1 → W p l e R s m args below meth c H1 locs1 cells slots Q (F0 m (pc + 3) ls (rest))) : W p l e R s m args below meth c H locs cells slots Q (F0 m (pc) ls (.int (nI (v)) :: .ref (ad 0) :: rest)) := CM.put (T := TX4) (N := 23) (ty := .int) E hP (hD σ) hS 0 rfl rfl inG_X4 tyX4 tyX4_ok nmX4 11 (by decide) hl rfl (by decide +kernel) rfl rfl (Nat.le_of_ble_eq_true rfl) rfl hd (fun H1 l1 h1 _ h3 => kk H1 l1 h1 h3)
theorem gt_X4_classOf (E : Cx p s m args c cc nL own x0 D (t3 cI cJ cZ)) (hl : Cond.fieldLink own idx (TX4 12).1 (TX4 12).2.1 (TX4 12).2.2.1 ∈ G) (hP : va_P D vwCl (wR ad cI cJ cZ σ) H) (hd : decode cc pc = .ok (.getfield idx, 3)) (kk : W p l e R s m args below meth c H locs cells slots Q (F0 m (pc + 3) ls (.ref (ad 9) :: rest))) : W p l e R s m args below meth c H locs cells slots Q (F0 m (pc) ls (.ref (ad 0) :: rest)) := CM.get (T := TX4) (N := 23) (ref := "") E hP 0 rfl rfl inG_X4 12 (by decide) hl rfl hd kk
theorem gt_X4_fieldIs (E : Cx p s m args c cc nL own x0 D (t3 cI cJ cZ)) (hl : Cond.fieldLink own idx (TX4 13).1 (TX4 13).2.1 (TX4 13).2.2.1 ∈ G) (hP : va_P D vwCl (wR ad cI cJ cZ σ) H) (hd : decode cc pc = .ok (.getfield idx, 3)) (kk : W p l e R s m args below meth c H locs cells slots Q (F0 m (pc + 3) ls (.ref (ad 10) :: rest))) : W p l e R s m args below meth c H locs cells slots Q (F0 m (pc) ls (.ref (ad 0) :: rest)) := CM.get (T := TX4) (N := 23) (ref := "") E hP 0 rfl rfl inG_X4 13 (by decide) hl rfl hd kk
theorem gt_X4_field (E : Cx p s m args c cc nL own x0 D (t3 cI cJ cZ)) (hl : Cond.fieldLink own idx (TX4 14).1 (TX4 14).2.1 (TX4 14).2.2.1 ∈ G) (hP : va_P D vwCl (wR ad cI cJ cZ σ) H) (hd : decode cc pc = .ok (.getfield idx, 3)) (kk : W p l e R s m args below meth c H locs cells slots Q (F0 m (pc + 3) ls (.ref (ad 11) :: rest))) : W p l e R s m args below meth c H locs cells slots Q (F0 m (pc) ls (.ref (ad 0) :: rest)) := CM.get (T := TX4) (N := 23) (ref := "") E hP 0 rfl rfl inG_X4 14 (by decide) hl rfl hd kk
theorem gt_X4_frames (E : Cx p s m args c cc nL own x0 D (t3 cI cJ cZ)) (hl : Cond.fieldLink own idx (TX4 15).1 (TX4 15).2.1 (TX4 15).2.2.1 ∈ G) (hP : va_P D vwCl (wR ad cI cJ cZ σ) H) (hd : decode cc pc = .ok (.getfield idx, 3)) (kk : W p l e R s m args below meth c H locs cells slots Q (F0 m (pc + 3) ls (.int (nI (gmfr σ)) :: rest))) : W p l e R s m args below meth c H locs cells slots Q (F0 m (pc) ls (.ref (ad 0) :: rest)) := CM.get (T := TX4) (N := 23) (ref := "") E hP 0 rfl rfl inG_X4 15 (by decide) hl rfl hd kk
theorem pt_X4_frames {v : Nat} (E : Cx p s m args c cc nL own x0 D (t3 cI cJ cZ)) (hl : Cond.fieldLink own idx (TX4 15).1 (TX4 15).2.1 (TX4 15).2.2.1 ∈ G) (hP : va_P D vwCl (wR ad cI cJ cZ σ) H) (hD : ∀ τ, va_D A (wR ad cI cJ cZ τ)) (hS : va_S A H0 H locs) (hd : decode cc pc = .ok (.putfield idx, 3)) (kk : ∀ (H1 : Heap) (locs1 : List Loc), va_P D vwCl (wR ad cI cJ cZ (smfr σ v)) H1 → va_S A H0 H1 locs1 → W p l e R s m args below meth c H1 locs1 cells slots Q (F0 m (pc + 3) ls (rest))) : W p l e R s m args below meth c H locs cells slots Q (F0 m (pc) ls (.int (nI (v)) :: .ref (ad 0) :: rest)) := CM.put (T := TX4) (N := 23) (ty := .int) E hP (hD σ) hS 0 rfl rfl inG_X4 tyX4 tyX4_ok nmX4 15 (by decide) hl rfl (by decide +kernel) rfl rfl (Nat.le_of_ble_eq_true rfl) rfl hd (fun H1 l1 h1 _ h3 => kk H1 l1 h1 h3)
theorem gt_X4_body (E : Cx p s m args c cc nL own x0 D (t3 cI cJ cZ)) (hl : Cond.fieldLink own idx (TX4 16).1 (TX4 16).2.1 (TX4 16).2.2.1 ∈ G) (hP : va_P D vwCl (wR ad cI cJ cZ σ) H) (hd : decode cc pc = .ok (.getfield idx, 3)) (kk : W p l e R s m args below meth c H locs cells slots Q (F0 m (pc + 3) ls (.ref (ad 12) :: rest))) : W p l e R s m args below meth c H locs cells slots Q (F0 m (pc) ls (.ref (ad 0) :: rest)) := CM.get (T := TX4) (N := 23) (ref := "") E hP 0 rfl rfl inG_X4 16 (by decide) hl rfl hd kk
theorem gt_X4_place (E : Cx p s m args c cc nL own x0 D (t3 cI cJ cZ)) (hl : Cond.fieldLink own idx (TX4 17).1 (TX4 17).2.1 (TX4 17).2.2.1 ∈ G) (hP : va_P D vwCl (wR ad cI cJ cZ σ) H) (hd : decode cc pc = .ok (.getfield idx, 3)) (kk : W p l e R s m args below meth c H locs cells slots Q (F0 m (pc + 3) ls (.ref (ad 13) :: rest))) : W p l e R s m args below meth c H locs cells slots Q (F0 m (pc) ls (.ref (ad 0) :: rest)) := CM.get (T := TX4) (N := 23) (ref := "") E hP 0 rfl rfl inG_X4 17 (by decide) hl rfl hd kk
theorem gt_X4_wants (E : Cx p s m args c cc nL own x0 D (t3 cI cJ cZ)) (hl : Cond.fieldLink own idx (TX4 18).1 (TX4 18).2.1 (TX4 18).2.2.1 ∈ G) (hP : va_P D vwCl (wR ad cI cJ cZ σ) H) (hd : decode cc pc = .ok (.getfield idx, 3)) (kk : W p l e R s m args below meth c H locs cells slots Q (F0 m (pc + 3) ls (.ref (ad 14) :: rest))) : W p l e R s m args below meth c H locs cells slots Q (F0 m (pc) ls (.ref (ad 0) :: rest)) := CM.get (T := TX4) (N := 23) (ref := "") E hP 0 rfl rfl inG_X4 18 (by decide) hl rfl hd kk
theorem gt_X4_is (E : Cx p s m args c cc nL own x0 D (t3 cI cJ cZ)) (hl : Cond.fieldLink own idx (TX4 19).1 (TX4 19).2.1 (TX4 19).2.2.1 ∈ G) (hP : va_P D vwCl (wR ad cI cJ cZ σ) H) (hd : decode cc pc = .ok (.getfield idx, 3)) (kk : W p l e R s m args below meth c H locs cells slots Q (F0 m (pc + 3) ls (.ref (ad 15) :: rest))) : W p l e R s m args below meth c H locs cells slots Q (F0 m (pc) ls (.ref (ad 0) :: rest)) := CM.get (T := TX4) (N := 23) (ref := "") E hP 0 rfl rfl inG_X4 19 (by decide) hl rfl hd kk
theorem gt_X4_value (E : Cx p s m args c cc nL own x0 D (t3 cI cJ cZ)) (hl : Cond.fieldLink own idx (TX4 20).1 (TX4 20).2.1 (TX4 20).2.2.1 ∈ G) (hP : va_P D vwCl (wR ad cI cJ cZ σ) H) (hd : decode cc pc = .ok (.getfield idx, 3)) (kk : W p l e R s m args below meth c H locs cells slots Q (F0 m (pc + 3) ls (.ref (ad 16) :: rest))) : W p l e R s m args below meth c H locs cells slots Q (F0 m (pc) ls (.ref (ad 0) :: rest)) := CM.get (T := TX4) (N := 23) (ref := "") E hP 0 rfl rfl inG_X4 20 (by decide) hl rfl hd kk
theorem gt_X4_outs (E : Cx p s m args c cc nL own x0 D (t3 cI cJ cZ)) (hl : Cond.fieldLink own idx (TX4 21).1 (TX4 21).2.1 (TX4 21).2.2.1 ∈ G) (hP : va_P D vwCl (wR ad cI cJ cZ σ) H) (hd : decode cc pc = .ok (.getfield idx, 3)) (kk : W p l e R s m args below meth c H locs cells slots Q (F0 m (pc + 3) ls (.ref (ad 17) :: rest))) : W p l e R s m args below meth c H locs cells slots Q (F0 m (pc) ls (.ref (ad 0) :: rest)) := CM.get (T := TX4) (N := 23) (ref := "") E hP 0 rfl rfl inG_X4 21 (by decide) hl rfl hd kk
theorem gt_X4_counts (E : Cx p s m args c cc nL own x0 D (t3 cI cJ cZ)) (hl : Cond.fieldLink own idx (TX4 22).1 (TX4 22).2.1 (TX4 22).2.2.1 ∈ G) (hP : va_P D vwCl (wR ad cI cJ cZ σ) H) (hd : decode cc pc = .ok (.getfield idx, 3)) (kk : W p l e R s m args below meth c H locs cells slots Q (F0 m (pc + 3) ls (.ref (ad 18) :: rest))) : W p l e R s m args below meth c H locs cells slots Q (F0 m (pc) ls (.ref (ad 0) :: rest)) := CM.get (T := TX4) (N := 23) (ref := "") E hP 0 rfl rfl inG_X4 22 (by decide) hl rfl hd kk
theorem ld_MS_pa {i : Nat} (E : Cx p s m args c cc nL own x0 D (t3 cI cJ cZ)) (hP : va_P D vwCl (wR ad cI cJ cZ σ) H) (hi : i < 6) (hd : decode cc pc = .ok (.iaload, 1)) (kk : W p l e R s m args below meth c H locs cells slots Q (F0 m (pc + 1) ls (.int (oI (gmpa σ i)) :: rest))) : W p l e R s m args below meth c H locs cells slots Q (F0 m (pc) ls (.int (nI i) :: .ref (ad 1) :: rest)) := by
  refine va_iald E.1.1 E.1.2.1 E.2 hP 1 0 rfl rfl (vp_in_nI hi (by decide)) hd ?_
  rw [nI_clamp (Nat.lt_trans hi (by decide))]
  exact kk
theorem as_MS_pa {i : Nat} {v : Option Nat} (E : Cx p s m args c cc nL own x0 D (t3 cI cJ cZ)) (hP : va_P D vwCl (wR ad cI cJ cZ σ) H) (hD : ∀ τ, va_D A (wR ad cI cJ cZ τ)) (hS : va_S A H0 H locs) (hi : i < 6) (hd : decode cc pc = .ok (.iastore, 1)) (kk : ∀ (H1 : Heap) (locs1 : List Loc), va_P D vwCl (wR ad cI cJ cZ (smpa σ (va_up (gmpa σ) i v))) H1 → va_S A H0 H1 locs1 → W p l e R s m args below meth c H1 locs1 cells slots Q (F0 m (pc + 1) ls (rest))) : W p l e R s m args below meth c H locs cells slots Q (F0 m (pc) ls (.int (oI (v)) :: .int (nI i) :: .ref (ad 1) :: rest)) := by
  refine va_iast E.1.1 E.1.2.1 E.2 hP (hD σ) hS 1 0 rfl rfl (vp_in_nI hi (by decide)) hd (fun H1 l1 h1 _ h3 => kk H1 l1 ?_ h3)
  have e9 : upd (fun i => oI (gmpa σ i)) (nI i).toNatClampNeg (oI (v)) = fun j => oI (va_up (gmpa σ) i v j) := by
    funext j
    rw [nI_clamp (Nat.lt_trans hi (by decide))]
    unfold upd va_up
    split <;> rfl
  rw [e9] at h1
  exact h1
theorem ld_MS_my {i : Nat} (E : Cx p s m args c cc nL own x0 D (t3 cI cJ cZ)) (hP : va_P D vwCl (wR ad cI cJ cZ σ) H) (hi : i < 24) (hd : decode cc pc = .ok (.iaload, 1)) (kk : W p l e R s m args below meth c H locs cells slots Q (F0 m (pc + 1) ls (.int (nI (gmmy σ i)) :: rest))) : W p l e R s m args below meth c H locs cells slots Q (F0 m (pc) ls (.int (nI i) :: .ref (ad 2) :: rest)) := by
  refine va_iald E.1.1 E.1.2.1 E.2 hP 2 0 rfl rfl (vp_in_nI hi (by decide)) hd ?_
  rw [nI_clamp (Nat.lt_trans hi (by decide))]
  exact kk
theorem as_MS_my {i : Nat} {v : Nat} (E : Cx p s m args c cc nL own x0 D (t3 cI cJ cZ)) (hP : va_P D vwCl (wR ad cI cJ cZ σ) H) (hD : ∀ τ, va_D A (wR ad cI cJ cZ τ)) (hS : va_S A H0 H locs) (hi : i < 24) (hd : decode cc pc = .ok (.iastore, 1)) (kk : ∀ (H1 : Heap) (locs1 : List Loc), va_P D vwCl (wR ad cI cJ cZ (smmy σ (va_up (gmmy σ) i v))) H1 → va_S A H0 H1 locs1 → W p l e R s m args below meth c H1 locs1 cells slots Q (F0 m (pc + 1) ls (rest))) : W p l e R s m args below meth c H locs cells slots Q (F0 m (pc) ls (.int (nI (v)) :: .int (nI i) :: .ref (ad 2) :: rest)) := by
  refine va_iast E.1.1 E.1.2.1 E.2 hP (hD σ) hS 2 0 rfl rfl (vp_in_nI hi (by decide)) hd (fun H1 l1 h1 _ h3 => kk H1 l1 ?_ h3)
  have e9 : upd (fun i => nI (gmmy σ i)) (nI i).toNatClampNeg (nI (v)) = fun j => nI (va_up (gmmy σ) i v j) := by
    funext j
    rw [nI_clamp (Nat.lt_trans hi (by decide))]
    unfold upd va_up
    split <;> rfl
  rw [e9] at h1
  exact h1
theorem ld_MS_cd {i : Nat} (E : Cx p s m args c cc nL own x0 D (t3 cI cJ cZ)) (hP : va_P D vwCl (wR ad cI cJ cZ σ) H) (hi : i < 960) (hd : decode cc pc = .ok (.iaload, 1)) (kk : W p l e R s m args below meth c H locs cells slots Q (F0 m (pc + 1) ls (.int (gmcd σ i) :: rest))) : W p l e R s m args below meth c H locs cells slots Q (F0 m (pc) ls (.int (nI i) :: .ref (ad 3) :: rest)) := by
  refine va_iald E.1.1 E.1.2.1 E.2 hP 3 0 rfl rfl (vp_in_nI hi (by decide)) hd ?_
  rw [nI_clamp (Nat.lt_trans hi (by decide))]
  exact kk
theorem as_MS_cd {i : Nat} {v : Int32} (E : Cx p s m args c cc nL own x0 D (t3 cI cJ cZ)) (hP : va_P D vwCl (wR ad cI cJ cZ σ) H) (hD : ∀ τ, va_D A (wR ad cI cJ cZ τ)) (hS : va_S A H0 H locs) (hi : i < 960) (hd : decode cc pc = .ok (.iastore, 1)) (kk : ∀ (H1 : Heap) (locs1 : List Loc), va_P D vwCl (wR ad cI cJ cZ (smcd σ (va_up (gmcd σ) i v))) H1 → va_S A H0 H1 locs1 → W p l e R s m args below meth c H1 locs1 cells slots Q (F0 m (pc + 1) ls (rest))) : W p l e R s m args below meth c H locs cells slots Q (F0 m (pc) ls (.int (v) :: .int (nI i) :: .ref (ad 3) :: rest)) := by
  refine va_iast E.1.1 E.1.2.1 E.2 hP (hD σ) hS 3 0 rfl rfl (vp_in_nI hi (by decide)) hd (fun H1 l1 h1 _ h3 => kk H1 l1 ?_ h3)
  have e9 : upd (fun i => gmcd σ i) (nI i).toNatClampNeg (v) = fun j => va_up (gmcd σ) i v j := by
    funext j
    rw [nI_clamp (Nat.lt_trans hi (by decide))]
    unfold upd va_up
    split <;> rfl
  rw [e9] at h1
  exact h1
theorem ld_MS_md {i : Nat} (E : Cx p s m args c cc nL own x0 D (t3 cI cJ cZ)) (hP : va_P D vwCl (wR ad cI cJ cZ σ) H) (hi : i < 6) (hd : decode cc pc = .ok (.baload, 1)) (kk : W p l e R s m args below meth c H locs cells slots Q (F0 m (pc + 1) ls (.int (bI (gmmd σ i)) :: rest))) : W p l e R s m args below meth c H locs cells slots Q (F0 m (pc) ls (.int (nI i) :: .ref (ad 4) :: rest)) := by
  refine va_zald E.1.1 E.1.2.1 E.2 hP 4 2 rfl rfl (vp_in_nI hi (by decide)) hd ?_
  rw [nI_clamp (Nat.lt_trans hi (by decide))]
  exact kk
theorem as_MS_md {i : Nat} {v : Bool} (E : Cx p s m args c cc nL own x0 D (t3 cI cJ cZ)) (hP : va_P D vwCl (wR ad cI cJ cZ σ) H) (hD : ∀ τ, va_D A (wR ad cI cJ cZ τ)) (hS : va_S A H0 H locs) (hi : i < 6) (hd : decode cc pc = .ok (.bastore, 1)) (kk : ∀ (H1 : Heap) (locs1 : List Loc), va_P D vwCl (wR ad cI cJ cZ (smmd σ (va_up (gmmd σ) i v))) H1 → va_S A H0 H1 locs1 → W p l e R s m args below meth c H1 locs1 cells slots Q (F0 m (pc + 1) ls (rest))) : W p l e R s m args below meth c H locs cells slots Q (F0 m (pc) ls (.int (bI (v)) :: .int (nI i) :: .ref (ad 4) :: rest)) := by
  refine va_zast E.1.1 E.1.2.1 E.2 hP (hD σ) hS 4 2 rfl rfl (vp_in_nI hi (by decide)) hd (fun H1 l1 h1 _ h3 => kk H1 l1 ?_ h3)
  have e9 : upd (fun i => bI (gmmd σ i)) (nI i).toNatClampNeg (vp_nar .boolean (bI (v))) = fun j => bI (va_up (gmmd σ) i v j) := by
    funext j
    rw [nI_clamp (Nat.lt_trans hi (by decide)), bI_nar]
    unfold upd va_up
    split <;> rfl
  rw [e9] at h1
  exact h1
theorem ld_MS_rd {i : Nat} (E : Cx p s m args c cc nL own x0 D (t3 cI cJ cZ)) (hP : va_P D vwCl (wR ad cI cJ cZ σ) H) (hi : i < 24) (hd : decode cc pc = .ok (.baload, 1)) (kk : W p l e R s m args below meth c H locs cells slots Q (F0 m (pc + 1) ls (.int (bI (gmrd σ i)) :: rest))) : W p l e R s m args below meth c H locs cells slots Q (F0 m (pc) ls (.int (nI i) :: .ref (ad 5) :: rest)) := by
  refine va_zald E.1.1 E.1.2.1 E.2 hP 5 2 rfl rfl (vp_in_nI hi (by decide)) hd ?_
  rw [nI_clamp (Nat.lt_trans hi (by decide))]
  exact kk
theorem as_MS_rd {i : Nat} {v : Bool} (E : Cx p s m args c cc nL own x0 D (t3 cI cJ cZ)) (hP : va_P D vwCl (wR ad cI cJ cZ σ) H) (hD : ∀ τ, va_D A (wR ad cI cJ cZ τ)) (hS : va_S A H0 H locs) (hi : i < 24) (hd : decode cc pc = .ok (.bastore, 1)) (kk : ∀ (H1 : Heap) (locs1 : List Loc), va_P D vwCl (wR ad cI cJ cZ (smrd σ (va_up (gmrd σ) i v))) H1 → va_S A H0 H1 locs1 → W p l e R s m args below meth c H1 locs1 cells slots Q (F0 m (pc + 1) ls (rest))) : W p l e R s m args below meth c H locs cells slots Q (F0 m (pc) ls (.int (bI (v)) :: .int (nI i) :: .ref (ad 5) :: rest)) := by
  refine va_zast E.1.1 E.1.2.1 E.2 hP (hD σ) hS 5 2 rfl rfl (vp_in_nI hi (by decide)) hd (fun H1 l1 h1 _ h3 => kk H1 l1 ?_ h3)
  have e9 : upd (fun i => bI (gmrd σ i)) (nI i).toNatClampNeg (vp_nar .boolean (bI (v))) = fun j => bI (va_up (gmrd σ) i v j) := by
    funext j
    rw [nI_clamp (Nat.lt_trans hi (by decide)), bI_nar]
    unfold upd va_up
    split <;> rfl
  rw [e9] at h1
  exact h1
theorem ld_MS_ch {i : Nat} (E : Cx p s m args c cc nL own x0 D (t3 cI cJ cZ)) (hP : va_P D vwCl (wR ad cI cJ cZ σ) H) (hi : i < 24) (hd : decode cc pc = .ok (.baload, 1)) (kk : W p l e R s m args below meth c H locs cells slots Q (F0 m (pc + 1) ls (.int (bI (gmch σ i)) :: rest))) : W p l e R s m args below meth c H locs cells slots Q (F0 m (pc) ls (.int (nI i) :: .ref (ad 6) :: rest)) := by
  refine va_zald E.1.1 E.1.2.1 E.2 hP 6 2 rfl rfl (vp_in_nI hi (by decide)) hd ?_
  rw [nI_clamp (Nat.lt_trans hi (by decide))]
  exact kk
theorem as_MS_ch {i : Nat} {v : Bool} (E : Cx p s m args c cc nL own x0 D (t3 cI cJ cZ)) (hP : va_P D vwCl (wR ad cI cJ cZ σ) H) (hD : ∀ τ, va_D A (wR ad cI cJ cZ τ)) (hS : va_S A H0 H locs) (hi : i < 24) (hd : decode cc pc = .ok (.bastore, 1)) (kk : ∀ (H1 : Heap) (locs1 : List Loc), va_P D vwCl (wR ad cI cJ cZ (smch σ (va_up (gmch σ) i v))) H1 → va_S A H0 H1 locs1 → W p l e R s m args below meth c H1 locs1 cells slots Q (F0 m (pc + 1) ls (rest))) : W p l e R s m args below meth c H locs cells slots Q (F0 m (pc) ls (.int (bI (v)) :: .int (nI i) :: .ref (ad 6) :: rest)) := by
  refine va_zast E.1.1 E.1.2.1 E.2 hP (hD σ) hS 6 2 rfl rfl (vp_in_nI hi (by decide)) hd (fun H1 l1 h1 _ h3 => kk H1 l1 ?_ h3)
  have e9 : upd (fun i => bI (gmch σ i)) (nI i).toNatClampNeg (vp_nar .boolean (bI (v))) = fun j => bI (va_up (gmch σ) i v j) := by
    funext j
    rw [nI_clamp (Nat.lt_trans hi (by decide)), bI_nar]
    unfold upd va_up
    split <;> rfl
  rw [e9] at h1
  exact h1
theorem ld_MS_si {i : Nat} (E : Cx p s m args c cc nL own x0 D (t3 cI cJ cZ)) (hP : va_P D vwCl (wR ad cI cJ cZ σ) H) (hi : i < 240) (hd : decode cc pc = .ok (.iaload, 1)) (kk : W p l e R s m args below meth c H locs cells slots Q (F0 m (pc + 1) ls (.int (nI (gmsi σ i)) :: rest))) : W p l e R s m args below meth c H locs cells slots Q (F0 m (pc) ls (.int (nI i) :: .ref (ad 7) :: rest)) := by
  refine va_iald E.1.1 E.1.2.1 E.2 hP 7 0 rfl rfl (vp_in_nI hi (by decide)) hd ?_
  rw [nI_clamp (Nat.lt_trans hi (by decide))]
  exact kk
theorem as_MS_si {i : Nat} {v : Nat} (E : Cx p s m args c cc nL own x0 D (t3 cI cJ cZ)) (hP : va_P D vwCl (wR ad cI cJ cZ σ) H) (hD : ∀ τ, va_D A (wR ad cI cJ cZ τ)) (hS : va_S A H0 H locs) (hi : i < 240) (hd : decode cc pc = .ok (.iastore, 1)) (kk : ∀ (H1 : Heap) (locs1 : List Loc), va_P D vwCl (wR ad cI cJ cZ (smsi σ (va_up (gmsi σ) i v))) H1 → va_S A H0 H1 locs1 → W p l e R s m args below meth c H1 locs1 cells slots Q (F0 m (pc + 1) ls (rest))) : W p l e R s m args below meth c H locs cells slots Q (F0 m (pc) ls (.int (nI (v)) :: .int (nI i) :: .ref (ad 7) :: rest)) := by
  refine va_iast E.1.1 E.1.2.1 E.2 hP (hD σ) hS 7 0 rfl rfl (vp_in_nI hi (by decide)) hd (fun H1 l1 h1 _ h3 => kk H1 l1 ?_ h3)
  have e9 : upd (fun i => nI (gmsi σ i)) (nI i).toNatClampNeg (nI (v)) = fun j => nI (va_up (gmsi σ) i v j) := by
    funext j
    rw [nI_clamp (Nat.lt_trans hi (by decide))]
    unfold upd va_up
    split <;> rfl
  rw [e9] at h1
  exact h1
theorem ld_MS_ho {i : Nat} (E : Cx p s m args c cc nL own x0 D (t3 cI cJ cZ)) (hP : va_P D vwCl (wR ad cI cJ cZ σ) H) (hi : i < 6) (hd : decode cc pc = .ok (.baload, 1)) (kk : W p l e R s m args below meth c H locs cells slots Q (F0 m (pc + 1) ls (.int (bI (gmho σ i)) :: rest))) : W p l e R s m args below meth c H locs cells slots Q (F0 m (pc) ls (.int (nI i) :: .ref (ad 8) :: rest)) := by
  refine va_zald E.1.1 E.1.2.1 E.2 hP 8 2 rfl rfl (vp_in_nI hi (by decide)) hd ?_
  rw [nI_clamp (Nat.lt_trans hi (by decide))]
  exact kk
theorem as_MS_ho {i : Nat} {v : Bool} (E : Cx p s m args c cc nL own x0 D (t3 cI cJ cZ)) (hP : va_P D vwCl (wR ad cI cJ cZ σ) H) (hD : ∀ τ, va_D A (wR ad cI cJ cZ τ)) (hS : va_S A H0 H locs) (hi : i < 6) (hd : decode cc pc = .ok (.bastore, 1)) (kk : ∀ (H1 : Heap) (locs1 : List Loc), va_P D vwCl (wR ad cI cJ cZ (smho σ (va_up (gmho σ) i v))) H1 → va_S A H0 H1 locs1 → W p l e R s m args below meth c H1 locs1 cells slots Q (F0 m (pc + 1) ls (rest))) : W p l e R s m args below meth c H locs cells slots Q (F0 m (pc) ls (.int (bI (v)) :: .int (nI i) :: .ref (ad 8) :: rest)) := by
  refine va_zast E.1.1 E.1.2.1 E.2 hP (hD σ) hS 8 2 rfl rfl (vp_in_nI hi (by decide)) hd (fun H1 l1 h1 _ h3 => kk H1 l1 ?_ h3)
  have e9 : upd (fun i => bI (gmho σ i)) (nI i).toNatClampNeg (vp_nar .boolean (bI (v))) = fun j => bI (va_up (gmho σ) i v j) := by
    funext j
    rw [nI_clamp (Nat.lt_trans hi (by decide)), bI_nar]
    unfold upd va_up
    split <;> rfl
  rw [e9] at h1
  exact h1
theorem ld_MS_cl {i : Nat} (E : Cx p s m args c cc nL own x0 D (t3 cI cJ cZ)) (hP : va_P D vwCl (wR ad cI cJ cZ σ) H) (hi : i < 420) (hd : decode cc pc = .ok (.iaload, 1)) (kk : W p l e R s m args below meth c H locs cells slots Q (F0 m (pc + 1) ls (.int (nI (gmcl σ i)) :: rest))) : W p l e R s m args below meth c H locs cells slots Q (F0 m (pc) ls (.int (nI i) :: .ref (ad 9) :: rest)) := by
  refine va_iald E.1.1 E.1.2.1 E.2 hP 9 0 rfl rfl (vp_in_nI hi (by decide)) hd ?_
  rw [nI_clamp (Nat.lt_trans hi (by decide))]
  exact kk
theorem as_MS_cl {i : Nat} {v : Nat} (E : Cx p s m args c cc nL own x0 D (t3 cI cJ cZ)) (hP : va_P D vwCl (wR ad cI cJ cZ σ) H) (hD : ∀ τ, va_D A (wR ad cI cJ cZ τ)) (hS : va_S A H0 H locs) (hi : i < 420) (hd : decode cc pc = .ok (.iastore, 1)) (kk : ∀ (H1 : Heap) (locs1 : List Loc), va_P D vwCl (wR ad cI cJ cZ (smcl σ (va_up (gmcl σ) i v))) H1 → va_S A H0 H1 locs1 → W p l e R s m args below meth c H1 locs1 cells slots Q (F0 m (pc + 1) ls (rest))) : W p l e R s m args below meth c H locs cells slots Q (F0 m (pc) ls (.int (nI (v)) :: .int (nI i) :: .ref (ad 9) :: rest)) := by
  refine va_iast E.1.1 E.1.2.1 E.2 hP (hD σ) hS 9 0 rfl rfl (vp_in_nI hi (by decide)) hd (fun H1 l1 h1 _ h3 => kk H1 l1 ?_ h3)
  have e9 : upd (fun i => nI (gmcl σ i)) (nI i).toNatClampNeg (nI (v)) = fun j => nI (va_up (gmcl σ) i v j) := by
    funext j
    rw [nI_clamp (Nat.lt_trans hi (by decide))]
    unfold upd va_up
    split <;> rfl
  rw [e9] at h1
  exact h1
theorem ld_MS_fI {i : Nat} (E : Cx p s m args c cc nL own x0 D (t3 cI cJ cZ)) (hP : va_P D vwCl (wR ad cI cJ cZ σ) H) (hi : i < 1260) (hd : decode cc pc = .ok (.baload, 1)) (kk : W p l e R s m args below meth c H locs cells slots Q (F0 m (pc + 1) ls (.int (bI (gmfI σ i)) :: rest))) : W p l e R s m args below meth c H locs cells slots Q (F0 m (pc) ls (.int (nI i) :: .ref (ad 10) :: rest)) := by
  refine va_zald E.1.1 E.1.2.1 E.2 hP 10 2 rfl rfl (vp_in_nI hi (by decide)) hd ?_
  rw [nI_clamp (Nat.lt_trans hi (by decide))]
  exact kk
theorem as_MS_fI {i : Nat} {v : Bool} (E : Cx p s m args c cc nL own x0 D (t3 cI cJ cZ)) (hP : va_P D vwCl (wR ad cI cJ cZ σ) H) (hD : ∀ τ, va_D A (wR ad cI cJ cZ τ)) (hS : va_S A H0 H locs) (hi : i < 1260) (hd : decode cc pc = .ok (.bastore, 1)) (kk : ∀ (H1 : Heap) (locs1 : List Loc), va_P D vwCl (wR ad cI cJ cZ (smfI σ (va_up (gmfI σ) i v))) H1 → va_S A H0 H1 locs1 → W p l e R s m args below meth c H1 locs1 cells slots Q (F0 m (pc + 1) ls (rest))) : W p l e R s m args below meth c H locs cells slots Q (F0 m (pc) ls (.int (bI (v)) :: .int (nI i) :: .ref (ad 10) :: rest)) := by
  refine va_zast E.1.1 E.1.2.1 E.2 hP (hD σ) hS 10 2 rfl rfl (vp_in_nI hi (by decide)) hd (fun H1 l1 h1 _ h3 => kk H1 l1 ?_ h3)
  have e9 : upd (fun i => bI (gmfI σ i)) (nI i).toNatClampNeg (vp_nar .boolean (bI (v))) = fun j => bI (va_up (gmfI σ) i v j) := by
    funext j
    rw [nI_clamp (Nat.lt_trans hi (by decide)), bI_nar]
    unfold upd va_up
    split <;> rfl
  rw [e9] at h1
  exact h1
theorem ld_MS_fV {i : Nat} (E : Cx p s m args c cc nL own x0 D (t3 cI cJ cZ)) (hP : va_P D vwCl (wR ad cI cJ cZ σ) H) (hi : i < 1260) (hd : decode cc pc = .ok (.iaload, 1)) (kk : W p l e R s m args below meth c H locs cells slots Q (F0 m (pc + 1) ls (.int (gmfV σ i) :: rest))) : W p l e R s m args below meth c H locs cells slots Q (F0 m (pc) ls (.int (nI i) :: .ref (ad 11) :: rest)) := by
  refine va_iald E.1.1 E.1.2.1 E.2 hP 11 0 rfl rfl (vp_in_nI hi (by decide)) hd ?_
  rw [nI_clamp (Nat.lt_trans hi (by decide))]
  exact kk
theorem as_MS_fV {i : Nat} {v : Int32} (E : Cx p s m args c cc nL own x0 D (t3 cI cJ cZ)) (hP : va_P D vwCl (wR ad cI cJ cZ σ) H) (hD : ∀ τ, va_D A (wR ad cI cJ cZ τ)) (hS : va_S A H0 H locs) (hi : i < 1260) (hd : decode cc pc = .ok (.iastore, 1)) (kk : ∀ (H1 : Heap) (locs1 : List Loc), va_P D vwCl (wR ad cI cJ cZ (smfV σ (va_up (gmfV σ) i v))) H1 → va_S A H0 H1 locs1 → W p l e R s m args below meth c H1 locs1 cells slots Q (F0 m (pc + 1) ls (rest))) : W p l e R s m args below meth c H locs cells slots Q (F0 m (pc) ls (.int (v) :: .int (nI i) :: .ref (ad 11) :: rest)) := by
  refine va_iast E.1.1 E.1.2.1 E.2 hP (hD σ) hS 11 0 rfl rfl (vp_in_nI hi (by decide)) hd (fun H1 l1 h1 _ h3 => kk H1 l1 ?_ h3)
  have e9 : upd (fun i => gmfV σ i) (nI i).toNatClampNeg (v) = fun j => va_up (gmfV σ) i v j := by
    funext j
    rw [nI_clamp (Nat.lt_trans hi (by decide))]
    unfold upd va_up
    split <;> rfl
  rw [e9] at h1
  exact h1
theorem ld_MS_bo {i : Nat} (E : Cx p s m args c cc nL own x0 D (t3 cI cJ cZ)) (hP : va_P D vwCl (wR ad cI cJ cZ σ) H) (hi : i < 13) (hd : decode cc pc = .ok (.iaload, 1)) (kk : W p l e R s m args below meth c H locs cells slots Q (F0 m (pc + 1) ls (.int (nI (gmbo σ i)) :: rest))) : W p l e R s m args below meth c H locs cells slots Q (F0 m (pc) ls (.int (nI i) :: .ref (ad 12) :: rest)) := by
  refine va_iald E.1.1 E.1.2.1 E.2 hP 12 0 rfl rfl (vp_in_nI hi (by decide)) hd ?_
  rw [nI_clamp (Nat.lt_trans hi (by decide))]
  exact kk
theorem as_MS_bo {i : Nat} {v : Nat} (E : Cx p s m args c cc nL own x0 D (t3 cI cJ cZ)) (hP : va_P D vwCl (wR ad cI cJ cZ σ) H) (hD : ∀ τ, va_D A (wR ad cI cJ cZ τ)) (hS : va_S A H0 H locs) (hi : i < 13) (hd : decode cc pc = .ok (.iastore, 1)) (kk : ∀ (H1 : Heap) (locs1 : List Loc), va_P D vwCl (wR ad cI cJ cZ (smbo σ (va_up (gmbo σ) i v))) H1 → va_S A H0 H1 locs1 → W p l e R s m args below meth c H1 locs1 cells slots Q (F0 m (pc + 1) ls (rest))) : W p l e R s m args below meth c H locs cells slots Q (F0 m (pc) ls (.int (nI (v)) :: .int (nI i) :: .ref (ad 12) :: rest)) := by
  refine va_iast E.1.1 E.1.2.1 E.2 hP (hD σ) hS 12 0 rfl rfl (vp_in_nI hi (by decide)) hd (fun H1 l1 h1 _ h3 => kk H1 l1 ?_ h3)
  have e9 : upd (fun i => nI (gmbo σ i)) (nI i).toNatClampNeg (nI (v)) = fun j => nI (va_up (gmbo σ) i v j) := by
    funext j
    rw [nI_clamp (Nat.lt_trans hi (by decide))]
    unfold upd va_up
    split <;> rfl
  rw [e9] at h1
  exact h1
theorem ld_MS_pl {i : Nat} (E : Cx p s m args c cc nL own x0 D (t3 cI cJ cZ)) (hP : va_P D vwCl (wR ad cI cJ cZ σ) H) (hi : i < 13) (hd : decode cc pc = .ok (.iaload, 1)) (kk : W p l e R s m args below meth c H locs cells slots Q (F0 m (pc + 1) ls (.int (nI (gmpl σ i)) :: rest))) : W p l e R s m args below meth c H locs cells slots Q (F0 m (pc) ls (.int (nI i) :: .ref (ad 13) :: rest)) := by
  refine va_iald E.1.1 E.1.2.1 E.2 hP 13 0 rfl rfl (vp_in_nI hi (by decide)) hd ?_
  rw [nI_clamp (Nat.lt_trans hi (by decide))]
  exact kk
theorem as_MS_pl {i : Nat} {v : Nat} (E : Cx p s m args c cc nL own x0 D (t3 cI cJ cZ)) (hP : va_P D vwCl (wR ad cI cJ cZ σ) H) (hD : ∀ τ, va_D A (wR ad cI cJ cZ τ)) (hS : va_S A H0 H locs) (hi : i < 13) (hd : decode cc pc = .ok (.iastore, 1)) (kk : ∀ (H1 : Heap) (locs1 : List Loc), va_P D vwCl (wR ad cI cJ cZ (smpl σ (va_up (gmpl σ) i v))) H1 → va_S A H0 H1 locs1 → W p l e R s m args below meth c H1 locs1 cells slots Q (F0 m (pc + 1) ls (rest))) : W p l e R s m args below meth c H locs cells slots Q (F0 m (pc) ls (.int (nI (v)) :: .int (nI i) :: .ref (ad 13) :: rest)) := by
  refine va_iast E.1.1 E.1.2.1 E.2 hP (hD σ) hS 13 0 rfl rfl (vp_in_nI hi (by decide)) hd (fun H1 l1 h1 _ h3 => kk H1 l1 ?_ h3)
  have e9 : upd (fun i => nI (gmpl σ i)) (nI i).toNatClampNeg (nI (v)) = fun j => nI (va_up (gmpl σ) i v j) := by
    funext j
    rw [nI_clamp (Nat.lt_trans hi (by decide))]
    unfold upd va_up
    split <;> rfl
  rw [e9] at h1
  exact h1
theorem ld_MS_wa {i : Nat} (E : Cx p s m args c cc nL own x0 D (t3 cI cJ cZ)) (hP : va_P D vwCl (wR ad cI cJ cZ σ) H) (hi : i < 13) (hd : decode cc pc = .ok (.iaload, 1)) (kk : W p l e R s m args below meth c H locs cells slots Q (F0 m (pc + 1) ls (.int (nI (gmwa σ i)) :: rest))) : W p l e R s m args below meth c H locs cells slots Q (F0 m (pc) ls (.int (nI i) :: .ref (ad 14) :: rest)) := by
  refine va_iald E.1.1 E.1.2.1 E.2 hP 14 0 rfl rfl (vp_in_nI hi (by decide)) hd ?_
  rw [nI_clamp (Nat.lt_trans hi (by decide))]
  exact kk
theorem as_MS_wa {i : Nat} {v : Nat} (E : Cx p s m args c cc nL own x0 D (t3 cI cJ cZ)) (hP : va_P D vwCl (wR ad cI cJ cZ σ) H) (hD : ∀ τ, va_D A (wR ad cI cJ cZ τ)) (hS : va_S A H0 H locs) (hi : i < 13) (hd : decode cc pc = .ok (.iastore, 1)) (kk : ∀ (H1 : Heap) (locs1 : List Loc), va_P D vwCl (wR ad cI cJ cZ (smwa σ (va_up (gmwa σ) i v))) H1 → va_S A H0 H1 locs1 → W p l e R s m args below meth c H1 locs1 cells slots Q (F0 m (pc + 1) ls (rest))) : W p l e R s m args below meth c H locs cells slots Q (F0 m (pc) ls (.int (nI (v)) :: .int (nI i) :: .ref (ad 14) :: rest)) := by
  refine va_iast E.1.1 E.1.2.1 E.2 hP (hD σ) hS 14 0 rfl rfl (vp_in_nI hi (by decide)) hd (fun H1 l1 h1 _ h3 => kk H1 l1 ?_ h3)
  have e9 : upd (fun i => nI (gmwa σ i)) (nI i).toNatClampNeg (nI (v)) = fun j => nI (va_up (gmwa σ) i v j) := by
    funext j
    rw [nI_clamp (Nat.lt_trans hi (by decide))]
    unfold upd va_up
    split <;> rfl
  rw [e9] at h1
  exact h1
theorem ld_MS_is {i : Nat} (E : Cx p s m args c cc nL own x0 D (t3 cI cJ cZ)) (hP : va_P D vwCl (wR ad cI cJ cZ σ) H) (hi : i < 78) (hd : decode cc pc = .ok (.baload, 1)) (kk : W p l e R s m args below meth c H locs cells slots Q (F0 m (pc + 1) ls (.int (bI (gmis σ i)) :: rest))) : W p l e R s m args below meth c H locs cells slots Q (F0 m (pc) ls (.int (nI i) :: .ref (ad 15) :: rest)) := by
  refine va_zald E.1.1 E.1.2.1 E.2 hP 15 2 rfl rfl (vp_in_nI hi (by decide)) hd ?_
  rw [nI_clamp (Nat.lt_trans hi (by decide))]
  exact kk
theorem as_MS_is {i : Nat} {v : Bool} (E : Cx p s m args c cc nL own x0 D (t3 cI cJ cZ)) (hP : va_P D vwCl (wR ad cI cJ cZ σ) H) (hD : ∀ τ, va_D A (wR ad cI cJ cZ τ)) (hS : va_S A H0 H locs) (hi : i < 78) (hd : decode cc pc = .ok (.bastore, 1)) (kk : ∀ (H1 : Heap) (locs1 : List Loc), va_P D vwCl (wR ad cI cJ cZ (smis σ (va_up (gmis σ) i v))) H1 → va_S A H0 H1 locs1 → W p l e R s m args below meth c H1 locs1 cells slots Q (F0 m (pc + 1) ls (rest))) : W p l e R s m args below meth c H locs cells slots Q (F0 m (pc) ls (.int (bI (v)) :: .int (nI i) :: .ref (ad 15) :: rest)) := by
  refine va_zast E.1.1 E.1.2.1 E.2 hP (hD σ) hS 15 2 rfl rfl (vp_in_nI hi (by decide)) hd (fun H1 l1 h1 _ h3 => kk H1 l1 ?_ h3)
  have e9 : upd (fun i => bI (gmis σ i)) (nI i).toNatClampNeg (vp_nar .boolean (bI (v))) = fun j => bI (va_up (gmis σ) i v j) := by
    funext j
    rw [nI_clamp (Nat.lt_trans hi (by decide)), bI_nar]
    unfold upd va_up
    split <;> rfl
  rw [e9] at h1
  exact h1
theorem ld_MS_va {i : Nat} (E : Cx p s m args c cc nL own x0 D (t3 cI cJ cZ)) (hP : va_P D vwCl (wR ad cI cJ cZ σ) H) (hi : i < 78) (hd : decode cc pc = .ok (.iaload, 1)) (kk : W p l e R s m args below meth c H locs cells slots Q (F0 m (pc + 1) ls (.int (gmva σ i) :: rest))) : W p l e R s m args below meth c H locs cells slots Q (F0 m (pc) ls (.int (nI i) :: .ref (ad 16) :: rest)) := by
  refine va_iald E.1.1 E.1.2.1 E.2 hP 16 0 rfl rfl (vp_in_nI hi (by decide)) hd ?_
  rw [nI_clamp (Nat.lt_trans hi (by decide))]
  exact kk
theorem as_MS_va {i : Nat} {v : Int32} (E : Cx p s m args c cc nL own x0 D (t3 cI cJ cZ)) (hP : va_P D vwCl (wR ad cI cJ cZ σ) H) (hD : ∀ τ, va_D A (wR ad cI cJ cZ τ)) (hS : va_S A H0 H locs) (hi : i < 78) (hd : decode cc pc = .ok (.iastore, 1)) (kk : ∀ (H1 : Heap) (locs1 : List Loc), va_P D vwCl (wR ad cI cJ cZ (smva σ (va_up (gmva σ) i v))) H1 → va_S A H0 H1 locs1 → W p l e R s m args below meth c H1 locs1 cells slots Q (F0 m (pc + 1) ls (rest))) : W p l e R s m args below meth c H locs cells slots Q (F0 m (pc) ls (.int (v) :: .int (nI i) :: .ref (ad 16) :: rest)) := by
  refine va_iast E.1.1 E.1.2.1 E.2 hP (hD σ) hS 16 0 rfl rfl (vp_in_nI hi (by decide)) hd (fun H1 l1 h1 _ h3 => kk H1 l1 ?_ h3)
  have e9 : upd (fun i => gmva σ i) (nI i).toNatClampNeg (v) = fun j => va_up (gmva σ) i v j := by
    funext j
    rw [nI_clamp (Nat.lt_trans hi (by decide))]
    unfold upd va_up
    split <;> rfl
  rw [e9] at h1
  exact h1
theorem ld_MS_ou {i : Nat} (E : Cx p s m args c cc nL own x0 D (t3 cI cJ cZ)) (hP : va_P D vwCl (wR ad cI cJ cZ σ) H) (hi : i < 40) (hd : decode cc pc = .ok (.iaload, 1)) (kk : W p l e R s m args below meth c H locs cells slots Q (F0 m (pc + 1) ls (.int (gmou σ i) :: rest))) : W p l e R s m args below meth c H locs cells slots Q (F0 m (pc) ls (.int (nI i) :: .ref (ad 17) :: rest)) := by
  refine va_iald E.1.1 E.1.2.1 E.2 hP 17 0 rfl rfl (vp_in_nI hi (by decide)) hd ?_
  rw [nI_clamp (Nat.lt_trans hi (by decide))]
  exact kk
theorem as_MS_ou {i : Nat} {v : Int32} (E : Cx p s m args c cc nL own x0 D (t3 cI cJ cZ)) (hP : va_P D vwCl (wR ad cI cJ cZ σ) H) (hD : ∀ τ, va_D A (wR ad cI cJ cZ τ)) (hS : va_S A H0 H locs) (hi : i < 40) (hd : decode cc pc = .ok (.iastore, 1)) (kk : ∀ (H1 : Heap) (locs1 : List Loc), va_P D vwCl (wR ad cI cJ cZ (smou σ (va_up (gmou σ) i v))) H1 → va_S A H0 H1 locs1 → W p l e R s m args below meth c H1 locs1 cells slots Q (F0 m (pc + 1) ls (rest))) : W p l e R s m args below meth c H locs cells slots Q (F0 m (pc) ls (.int (v) :: .int (nI i) :: .ref (ad 17) :: rest)) := by
  refine va_iast E.1.1 E.1.2.1 E.2 hP (hD σ) hS 17 0 rfl rfl (vp_in_nI hi (by decide)) hd (fun H1 l1 h1 _ h3 => kk H1 l1 ?_ h3)
  have e9 : upd (fun i => gmou σ i) (nI i).toNatClampNeg (v) = fun j => va_up (gmou σ) i v j := by
    funext j
    rw [nI_clamp (Nat.lt_trans hi (by decide))]
    unfold upd va_up
    split <;> rfl
  rw [e9] at h1
  exact h1
theorem ld_MS_ct {i : Nat} (E : Cx p s m args c cc nL own x0 D (t3 cI cJ cZ)) (hP : va_P D vwCl (wR ad cI cJ cZ σ) H) (hi : i < 6) (hd : decode cc pc = .ok (.iaload, 1)) (kk : W p l e R s m args below meth c H locs cells slots Q (F0 m (pc + 1) ls (.int (nI (gmct σ i)) :: rest))) : W p l e R s m args below meth c H locs cells slots Q (F0 m (pc) ls (.int (nI i) :: .ref (ad 18) :: rest)) := by
  refine va_iald E.1.1 E.1.2.1 E.2 hP 18 0 rfl rfl (vp_in_nI hi (by decide)) hd ?_
  rw [nI_clamp (Nat.lt_trans hi (by decide))]
  exact kk
theorem as_MS_ct {i : Nat} {v : Nat} (E : Cx p s m args c cc nL own x0 D (t3 cI cJ cZ)) (hP : va_P D vwCl (wR ad cI cJ cZ σ) H) (hD : ∀ τ, va_D A (wR ad cI cJ cZ τ)) (hS : va_S A H0 H locs) (hi : i < 6) (hd : decode cc pc = .ok (.iastore, 1)) (kk : ∀ (H1 : Heap) (locs1 : List Loc), va_P D vwCl (wR ad cI cJ cZ (smct σ (va_up (gmct σ) i v))) H1 → va_S A H0 H1 locs1 → W p l e R s m args below meth c H1 locs1 cells slots Q (F0 m (pc + 1) ls (rest))) : W p l e R s m args below meth c H locs cells slots Q (F0 m (pc) ls (.int (nI (v)) :: .int (nI i) :: .ref (ad 18) :: rest)) := by
  refine va_iast E.1.1 E.1.2.1 E.2 hP (hD σ) hS 18 0 rfl rfl (vp_in_nI hi (by decide)) hd (fun H1 l1 h1 _ h3 => kk H1 l1 ?_ h3)
  have e9 : upd (fun i => nI (gmct σ i)) (nI i).toNatClampNeg (nI (v)) = fun j => nI (va_up (gmct σ) i v j) := by
    funext j
    rw [nI_clamp (Nat.lt_trans hi (by decide))]
    unfold upd va_up
    split <;> rfl
  rw [e9] at h1
  exact h1
end RMS
end
section
theorem dJ6_bitCount_0f7a4_0 : decode cJ6_bitCount_0f7a4 0 = .ok (.iload_n 0, 1) := by decide +kernel
theorem dJ6_bitCount_0f7a4_1 : decode cJ6_bitCount_0f7a4 1 = .ok (.iload_n 0, 1) := by decide +kernel
theorem dJ6_bitCount_0f7a4_2 : decode cJ6_bitCount_0f7a4 2 = .ok (.iconst 1, 1) := by decide +kernel
theorem dJ6_bitCount_0f7a4_3 : decode cJ6_bitCount_0f7a4 3 = .ok (.iushr, 1) := by decide +kernel
theorem dJ6_bitCount_0f7a4_4 : decode cJ6_bitCount_0f7a4 4 = .ok (.ldc_w 265, 3) := by decide +kernel
theorem dJ6_bitCount_0f7a4_7 : decode cJ6_bitCount_0f7a4 7 = .ok (.iand, 1) := by decide +kernel
theorem dJ6_bitCount_0f7a4_8 : decode cJ6_bitCount_0f7a4 8 = .ok (.isub, 1) := by decide +kernel
theorem dJ6_bitCount_0f7a4_9 : decode cJ6_bitCount_0f7a4 9 = .ok (.istore_n 0, 1) := by decide +kernel
theorem dJ6_bitCount_0f7a4_10 : decode cJ6_bitCount_0f7a4 10 = .ok (.iload_n 0, 1) := by decide +kernel
theorem dJ6_bitCount_0f7a4_11 : decode cJ6_bitCount_0f7a4 11 = .ok (.ldc_w 266, 3) := by decide +kernel
theorem dJ6_bitCount_0f7a4_14 : decode cJ6_bitCount_0f7a4 14 = .ok (.iand, 1) := by decide +kernel
theorem dJ6_bitCount_0f7a4_15 : decode cJ6_bitCount_0f7a4 15 = .ok (.iload_n 0, 1) := by decide +kernel
theorem dJ6_bitCount_0f7a4_16 : decode cJ6_bitCount_0f7a4 16 = .ok (.iconst 2, 1) := by decide +kernel
theorem dJ6_bitCount_0f7a4_17 : decode cJ6_bitCount_0f7a4 17 = .ok (.iushr, 1) := by decide +kernel
theorem dJ6_bitCount_0f7a4_18 : decode cJ6_bitCount_0f7a4 18 = .ok (.ldc_w 266, 3) := by decide +kernel
theorem dJ6_bitCount_0f7a4_21 : decode cJ6_bitCount_0f7a4 21 = .ok (.iand, 1) := by decide +kernel
theorem dJ6_bitCount_0f7a4_22 : decode cJ6_bitCount_0f7a4 22 = .ok (.iadd, 1) := by decide +kernel
theorem dJ6_bitCount_0f7a4_23 : decode cJ6_bitCount_0f7a4 23 = .ok (.istore_n 0, 1) := by decide +kernel
theorem dJ6_bitCount_0f7a4_24 : decode cJ6_bitCount_0f7a4 24 = .ok (.iload_n 0, 1) := by decide +kernel
theorem dJ6_bitCount_0f7a4_25 : decode cJ6_bitCount_0f7a4 25 = .ok (.iload_n 0, 1) := by decide +kernel
theorem dJ6_bitCount_0f7a4_26 : decode cJ6_bitCount_0f7a4 26 = .ok (.iconst 4, 1) := by decide +kernel
theorem dJ6_bitCount_0f7a4_27 : decode cJ6_bitCount_0f7a4 27 = .ok (.iushr, 1) := by decide +kernel
theorem dJ6_bitCount_0f7a4_28 : decode cJ6_bitCount_0f7a4 28 = .ok (.iadd, 1) := by decide +kernel
theorem dJ6_bitCount_0f7a4_29 : decode cJ6_bitCount_0f7a4 29 = .ok (.ldc_w 267, 3) := by decide +kernel
theorem dJ6_bitCount_0f7a4_32 : decode cJ6_bitCount_0f7a4 32 = .ok (.iand, 1) := by decide +kernel
theorem dJ6_bitCount_0f7a4_33 : decode cJ6_bitCount_0f7a4 33 = .ok (.istore_n 0, 1) := by decide +kernel
theorem dJ6_bitCount_0f7a4_34 : decode cJ6_bitCount_0f7a4 34 = .ok (.iload_n 0, 1) := by decide +kernel
theorem dJ6_bitCount_0f7a4_35 : decode cJ6_bitCount_0f7a4 35 = .ok (.iload_n 0, 1) := by decide +kernel
theorem dJ6_bitCount_0f7a4_36 : decode cJ6_bitCount_0f7a4 36 = .ok (.bipush 8, 2) := by decide +kernel
theorem dJ6_bitCount_0f7a4_38 : decode cJ6_bitCount_0f7a4 38 = .ok (.iushr, 1) := by decide +kernel
theorem dJ6_bitCount_0f7a4_39 : decode cJ6_bitCount_0f7a4 39 = .ok (.iadd, 1) := by decide +kernel
theorem dJ6_bitCount_0f7a4_40 : decode cJ6_bitCount_0f7a4 40 = .ok (.istore_n 0, 1) := by decide +kernel
theorem dJ6_bitCount_0f7a4_41 : decode cJ6_bitCount_0f7a4 41 = .ok (.iload_n 0, 1) := by decide +kernel
theorem dJ6_bitCount_0f7a4_42 : decode cJ6_bitCount_0f7a4 42 = .ok (.iload_n 0, 1) := by decide +kernel
theorem dJ6_bitCount_0f7a4_43 : decode cJ6_bitCount_0f7a4 43 = .ok (.bipush 16, 2) := by decide +kernel
theorem dJ6_bitCount_0f7a4_45 : decode cJ6_bitCount_0f7a4 45 = .ok (.iushr, 1) := by decide +kernel
theorem dJ6_bitCount_0f7a4_46 : decode cJ6_bitCount_0f7a4 46 = .ok (.iadd, 1) := by decide +kernel
theorem dJ6_bitCount_0f7a4_47 : decode cJ6_bitCount_0f7a4 47 = .ok (.istore_n 0, 1) := by decide +kernel
theorem dJ6_bitCount_0f7a4_48 : decode cJ6_bitCount_0f7a4 48 = .ok (.iload_n 0, 1) := by decide +kernel
theorem dJ6_bitCount_0f7a4_49 : decode cJ6_bitCount_0f7a4 49 = .ok (.bipush 63, 2) := by decide +kernel
theorem dJ6_bitCount_0f7a4_51 : decode cJ6_bitCount_0f7a4 51 = .ok (.iand, 1) := by decide +kernel
theorem dJ6_bitCount_0f7a4_52 : decode cJ6_bitCount_0f7a4 52 = .ok (.ireturn, 1) := by decide +kernel
theorem dJ7_rangeCheck_23922_0 : decode cJ7_rangeCheck_23922 0 = .ok (.iload_n 1, 1) := by decide +kernel
theorem dJ7_rangeCheck_23922_1 : decode cJ7_rangeCheck_23922 1 = .ok (.iload_n 2, 1) := by decide +kernel
theorem dJ7_rangeCheck_23922_2 : decode cJ7_rangeCheck_23922 2 = .ok (.if_icmp .le 44, 3) := by decide +kernel
theorem dJ7_rangeCheck_23922_5 : decode cJ7_rangeCheck_23922 5 = .ok (.new 43, 3) := by decide +kernel
theorem dJ7_rangeCheck_23922_8 : decode cJ7_rangeCheck_23922 8 = .ok (.dup, 1) := by decide +kernel
theorem dJ7_rangeCheck_23922_9 : decode cJ7_rangeCheck_23922 9 = .ok (.new 45, 3) := by decide +kernel
theorem dJ7_rangeCheck_23922_12 : decode cJ7_rangeCheck_23922 12 = .ok (.dup, 1) := by decide +kernel
theorem dJ7_rangeCheck_23922_13 : decode cJ7_rangeCheck_23922 13 = .ok (.invokespecial 47, 3) := by decide +kernel
theorem dJ7_rangeCheck_23922_16 : decode cJ7_rangeCheck_23922 16 = .ok (.ldc 48, 2) := by decide +kernel
theorem dJ7_rangeCheck_23922_18 : decode cJ7_rangeCheck_23922 18 = .ok (.invokevirtual 50, 3) := by decide +kernel
theorem dJ7_rangeCheck_23922_21 : decode cJ7_rangeCheck_23922 21 = .ok (.iload_n 1, 1) := by decide +kernel
theorem dJ7_rangeCheck_23922_22 : decode cJ7_rangeCheck_23922 22 = .ok (.invokevirtual 54, 3) := by decide +kernel
theorem dJ7_rangeCheck_23922_25 : decode cJ7_rangeCheck_23922 25 = .ok (.ldc 57, 2) := by decide +kernel
theorem dJ7_rangeCheck_23922_27 : decode cJ7_rangeCheck_23922 27 = .ok (.invokevirtual 50, 3) := by decide +kernel
theorem dJ7_rangeCheck_23922_30 : decode cJ7_rangeCheck_23922 30 = .ok (.iload_n 2, 1) := by decide +kernel
theorem dJ7_rangeCheck_23922_31 : decode cJ7_rangeCheck_23922 31 = .ok (.invokevirtual 54, 3) := by decide +kernel
theorem dJ7_rangeCheck_23922_34 : decode cJ7_rangeCheck_23922 34 = .ok (.ldc 59, 2) := by decide +kernel
theorem dJ7_rangeCheck_23922_36 : decode cJ7_rangeCheck_23922 36 = .ok (.invokevirtual 50, 3) := by decide +kernel
theorem dJ7_rangeCheck_23922_39 : decode cJ7_rangeCheck_23922 39 = .ok (.invokevirtual 61, 3) := by decide +kernel
theorem dJ7_rangeCheck_23922_42 : decode cJ7_rangeCheck_23922 42 = .ok (.invokespecial 65, 3) := by decide +kernel
theorem dJ7_rangeCheck_23922_45 : decode cJ7_rangeCheck_23922 45 = .ok (.athrow, 1) := by decide +kernel
theorem dJ7_rangeCheck_23922_46 : decode cJ7_rangeCheck_23922 46 = .ok (.iload_n 1, 1) := by decide +kernel
theorem dJ7_rangeCheck_23922_47 : decode cJ7_rangeCheck_23922 47 = .ok (.ifCond .ge 12, 3) := by decide +kernel
theorem dJ7_rangeCheck_23922_50 : decode cJ7_rangeCheck_23922 50 = .ok (.new 68, 3) := by decide +kernel
theorem dJ7_rangeCheck_23922_53 : decode cJ7_rangeCheck_23922 53 = .ok (.dup, 1) := by decide +kernel
theorem dJ7_rangeCheck_23922_54 : decode cJ7_rangeCheck_23922 54 = .ok (.iload_n 1, 1) := by decide +kernel
theorem dJ7_rangeCheck_23922_55 : decode cJ7_rangeCheck_23922 55 = .ok (.invokespecial 70, 3) := by decide +kernel
theorem dJ7_rangeCheck_23922_58 : decode cJ7_rangeCheck_23922 58 = .ok (.athrow, 1) := by decide +kernel
theorem dJ7_rangeCheck_23922_59 : decode cJ7_rangeCheck_23922 59 = .ok (.iload_n 2, 1) := by decide +kernel
theorem dJ7_rangeCheck_23922_60 : decode cJ7_rangeCheck_23922 60 = .ok (.iload_n 0, 1) := by decide +kernel
theorem dJ7_rangeCheck_23922_61 : decode cJ7_rangeCheck_23922 61 = .ok (.if_icmp .le 12, 3) := by decide +kernel
theorem dJ7_rangeCheck_23922_64 : decode cJ7_rangeCheck_23922 64 = .ok (.new 68, 3) := by decide +kernel
theorem dJ7_rangeCheck_23922_67 : decode cJ7_rangeCheck_23922 67 = .ok (.dup, 1) := by decide +kernel
theorem dJ7_rangeCheck_23922_68 : decode cJ7_rangeCheck_23922 68 = .ok (.iload_n 2, 1) := by decide +kernel
theorem dJ7_rangeCheck_23922_69 : decode cJ7_rangeCheck_23922 69 = .ok (.invokespecial 70, 3) := by decide +kernel
theorem dJ7_rangeCheck_23922_72 : decode cJ7_rangeCheck_23922 72 = .ok (.athrow, 1) := by decide +kernel
theorem dJ7_rangeCheck_23922_73 : decode cJ7_rangeCheck_23922 73 = .ok (.return_, 1) := by decide +kernel
theorem dJ7_fill_bad5a_0 : decode cJ7_fill_bad5a 0 = .ok (.aload_n 0, 1) := by decide +kernel
theorem dJ7_fill_bad5a_1 : decode cJ7_fill_bad5a 1 = .ok (.arraylength, 1) := by decide +kernel
theorem dJ7_fill_bad5a_2 : decode cJ7_fill_bad5a 2 = .ok (.iload_n 1, 1) := by decide +kernel
theorem dJ7_fill_bad5a_3 : decode cJ7_fill_bad5a 3 = .ok (.iload_n 2, 1) := by decide +kernel
theorem dJ7_fill_bad5a_4 : decode cJ7_fill_bad5a 4 = .ok (.invokestatic 13, 3) := by decide +kernel
theorem dJ7_fill_bad5a_7 : decode cJ7_fill_bad5a 7 = .ok (.iload_n 1, 1) := by decide +kernel
theorem dJ7_fill_bad5a_8 : decode cJ7_fill_bad5a 8 = .ok (.istore 5, 2) := by decide +kernel
theorem dJ7_fill_bad5a_10 : decode cJ7_fill_bad5a 10 = .ok (.iload 5, 2) := by decide +kernel
theorem dJ7_fill_bad5a_12 : decode cJ7_fill_bad5a 12 = .ok (.iload_n 2, 1) := by decide +kernel
theorem dJ7_fill_bad5a_13 : decode cJ7_fill_bad5a 13 = .ok (.if_icmp .ge 14, 3) := by decide +kernel
theorem dJ7_fill_bad5a_16 : decode cJ7_fill_bad5a 16 = .ok (.aload_n 0, 1) := by decide +kernel
theorem dJ7_fill_bad5a_17 : decode cJ7_fill_bad5a 17 = .ok (.iload 5, 2) := by decide +kernel
theorem dJ7_fill_bad5a_19 : decode cJ7_fill_bad5a 19 = .ok (.lload_n 3, 1) := by decide +kernel
theorem dJ7_fill_bad5a_20 : decode cJ7_fill_bad5a 20 = .ok (.lastore, 1) := by decide +kernel
theorem dJ7_fill_bad5a_21 : decode cJ7_fill_bad5a 21 = .ok (.iinc 5 1, 3) := by decide +kernel
theorem dJ7_fill_bad5a_24 : decode cJ7_fill_bad5a 24 = .ok (.goto (-14), 3) := by decide +kernel
theorem dJ7_fill_bad5a_27 : decode cJ7_fill_bad5a 27 = .ok (.return_, 1) := by decide +kernel
theorem dJ7_fill_53178_0 : decode cJ7_fill_53178 0 = .ok (.iconst 0, 1) := by decide +kernel
theorem dJ7_fill_53178_1 : decode cJ7_fill_53178 1 = .ok (.istore_n 2, 1) := by decide +kernel
theorem dJ7_fill_53178_2 : decode cJ7_fill_53178 2 = .ok (.aload_n 0, 1) := by decide +kernel
theorem dJ7_fill_53178_3 : decode cJ7_fill_53178 3 = .ok (.arraylength, 1) := by decide +kernel
theorem dJ7_fill_53178_4 : decode cJ7_fill_53178 4 = .ok (.istore_n 3, 1) := by decide +kernel
theorem dJ7_fill_53178_5 : decode cJ7_fill_53178 5 = .ok (.iload_n 2, 1) := by decide +kernel
theorem dJ7_fill_53178_6 : decode cJ7_fill_53178 6 = .ok (.iload_n 3, 1) := by decide +kernel
theorem dJ7_fill_53178_7 : decode cJ7_fill_53178 7 = .ok (.if_icmp .ge 13, 3) := by decide +kernel
theorem dJ7_fill_53178_10 : decode cJ7_fill_53178 10 = .ok (.aload_n 0, 1) := by decide +kernel
theorem dJ7_fill_53178_11 : decode cJ7_fill_53178 11 = .ok (.iload_n 2, 1) := by decide +kernel
theorem dJ7_fill_53178_12 : decode cJ7_fill_53178 12 = .ok (.iload_n 1, 1) := by decide +kernel
theorem dJ7_fill_53178_13 : decode cJ7_fill_53178 13 = .ok (.iastore, 1) := by decide +kernel
theorem dJ7_fill_53178_14 : decode cJ7_fill_53178 14 = .ok (.iinc 2 1, 3) := by decide +kernel
theorem dJ7_fill_53178_17 : decode cJ7_fill_53178 17 = .ok (.goto (-12), 3) := by decide +kernel
theorem dJ7_fill_53178_20 : decode cJ7_fill_53178 20 = .ok (.return_, 1) := by decide +kernel
theorem dJ7_fill_fda19_0 : decode cJ7_fill_fda19 0 = .ok (.aload_n 0, 1) := by decide +kernel
theorem dJ7_fill_fda19_1 : decode cJ7_fill_fda19 1 = .ok (.arraylength, 1) := by decide +kernel
theorem dJ7_fill_fda19_2 : decode cJ7_fill_fda19 2 = .ok (.iload_n 1, 1) := by decide +kernel
theorem dJ7_fill_fda19_3 : decode cJ7_fill_fda19 3 = .ok (.iload_n 2, 1) := by decide +kernel
theorem dJ7_fill_fda19_4 : decode cJ7_fill_fda19 4 = .ok (.invokestatic 13, 3) := by decide +kernel
theorem dJ7_fill_fda19_7 : decode cJ7_fill_fda19 7 = .ok (.iload_n 1, 1) := by decide +kernel
theorem dJ7_fill_fda19_8 : decode cJ7_fill_fda19 8 = .ok (.istore 4, 2) := by decide +kernel
theorem dJ7_fill_fda19_10 : decode cJ7_fill_fda19 10 = .ok (.iload 4, 2) := by decide +kernel
theorem dJ7_fill_fda19_12 : decode cJ7_fill_fda19 12 = .ok (.iload_n 2, 1) := by decide +kernel
theorem dJ7_fill_fda19_13 : decode cJ7_fill_fda19 13 = .ok (.if_icmp .ge 14, 3) := by decide +kernel
theorem dJ7_fill_fda19_16 : decode cJ7_fill_fda19 16 = .ok (.aload_n 0, 1) := by decide +kernel
theorem dJ7_fill_fda19_17 : decode cJ7_fill_fda19 17 = .ok (.iload 4, 2) := by decide +kernel
theorem dJ7_fill_fda19_19 : decode cJ7_fill_fda19 19 = .ok (.iload_n 3, 1) := by decide +kernel
theorem dJ7_fill_fda19_20 : decode cJ7_fill_fda19 20 = .ok (.iastore, 1) := by decide +kernel
theorem dJ7_fill_fda19_21 : decode cJ7_fill_fda19 21 = .ok (.iinc 4 1, 3) := by decide +kernel
theorem dJ7_fill_fda19_24 : decode cJ7_fill_fda19 24 = .ok (.goto (-14), 3) := by decide +kernel
theorem dJ7_fill_fda19_27 : decode cJ7_fill_fda19 27 = .ok (.return_, 1) := by decide +kernel
theorem dX1_init_0 : decode cX1_init 0 = .ok (.aload_n 0, 1) := by decide +kernel
theorem dX1_init_1 : decode cX1_init 1 = .ok (.invokespecial 3, 3) := by decide +kernel
theorem dX1_init_4 : decode cX1_init 4 = .ok (.aload_n 0, 1) := by decide +kernel
theorem dX1_init_5 : decode cX1_init 5 = .ok (.bipush 6, 2) := by decide +kernel
theorem dX1_init_7 : decode cX1_init 7 = .ok (.newarray .int, 2) := by decide +kernel
theorem dX1_init_9 : decode cX1_init 9 = .ok (.putfield 9, 3) := by decide +kernel
theorem dX1_init_12 : decode cX1_init 12 = .ok (.aload_n 0, 1) := by decide +kernel
theorem dX1_init_13 : decode cX1_init 13 = .ok (.bipush 24, 2) := by decide +kernel
theorem dX1_init_15 : decode cX1_init 15 = .ok (.newarray .int, 2) := by decide +kernel
theorem dX1_init_17 : decode cX1_init 17 = .ok (.putfield 15, 3) := by decide +kernel
theorem dX1_init_20 : decode cX1_init 20 = .ok (.aload_n 0, 1) := by decide +kernel
theorem dX1_init_21 : decode cX1_init 21 = .ok (.sipush 240, 3) := by decide +kernel
theorem dX1_init_24 : decode cX1_init 24 = .ok (.newarray .int, 2) := by decide +kernel
theorem dX1_init_26 : decode cX1_init 26 = .ok (.putfield 18, 3) := by decide +kernel
theorem dX1_init_29 : decode cX1_init 29 = .ok (.aload_n 0, 1) := by decide +kernel
theorem dX1_init_30 : decode cX1_init 30 = .ok (.sipush 240, 3) := by decide +kernel
theorem dX1_init_33 : decode cX1_init 33 = .ok (.newarray .int, 2) := by decide +kernel
theorem dX1_init_35 : decode cX1_init 35 = .ok (.putfield 21, 3) := by decide +kernel
theorem dX1_init_38 : decode cX1_init 38 = .ok (.aload_n 0, 1) := by decide +kernel
theorem dX1_init_39 : decode cX1_init 39 = .ok (.sipush 240, 3) := by decide +kernel
theorem dX1_init_42 : decode cX1_init 42 = .ok (.newarray .int, 2) := by decide +kernel
theorem dX1_init_44 : decode cX1_init 44 = .ok (.putfield 24, 3) := by decide +kernel
theorem dX1_init_47 : decode cX1_init 47 = .ok (.aload_n 0, 1) := by decide +kernel
theorem dX1_init_48 : decode cX1_init 48 = .ok (.sipush 240, 3) := by decide +kernel
theorem dX1_init_51 : decode cX1_init 51 = .ok (.newarray .int, 2) := by decide +kernel
theorem dX1_init_53 : decode cX1_init 53 = .ok (.putfield 27, 3) := by decide +kernel
theorem dX1_init_56 : decode cX1_init 56 = .ok (.aload_n 0, 1) := by decide +kernel
theorem dX1_init_57 : decode cX1_init 57 = .ok (.getfield 9, 3) := by decide +kernel
theorem dX1_init_60 : decode cX1_init 60 = .ok (.iconst (-1), 1) := by decide +kernel
theorem dX1_init_61 : decode cX1_init 61 = .ok (.invokestatic 30, 3) := by decide +kernel
theorem dX1_init_64 : decode cX1_init 64 = .ok (.aload_n 0, 1) := by decide +kernel
theorem dX1_init_65 : decode cX1_init 65 = .ok (.iconst 1, 1) := by decide +kernel
theorem dX1_init_66 : decode cX1_init 66 = .ok (.putfield 36, 3) := by decide +kernel
theorem dX1_init_69 : decode cX1_init 69 = .ok (.return_, 1) := by decide +kernel
theorem dX1_bodyOf_0 : decode cX1_bodyOf 0 = .ok (.iload_n 0, 1) := by decide +kernel
theorem dX1_bodyOf_1 : decode cX1_bodyOf 1 = .ok (.iconst 4, 1) := by decide +kernel
theorem dX1_bodyOf_2 : decode cX1_bodyOf 2 = .ok (.imul, 1) := by decide +kernel
theorem dX1_bodyOf_3 : decode cX1_bodyOf 3 = .ok (.iload_n 1, 1) := by decide +kernel
theorem dX1_bodyOf_4 : decode cX1_bodyOf 4 = .ok (.iadd, 1) := by decide +kernel
theorem dX1_bodyOf_5 : decode cX1_bodyOf 5 = .ok (.ireturn, 1) := by decide +kernel
theorem dX1_placeOf_0 : decode cX1_placeOf 0 = .ok (.iload_n 0, 1) := by decide +kernel
theorem dX1_placeOf_1 : decode cX1_placeOf 1 = .ok (.bipush 10, 2) := by decide +kernel
theorem dX1_placeOf_3 : decode cX1_placeOf 3 = .ok (.imul, 1) := by decide +kernel
theorem dX1_placeOf_4 : decode cX1_placeOf 4 = .ok (.iload_n 1, 1) := by decide +kernel
theorem dX1_placeOf_5 : decode cX1_placeOf 5 = .ok (.iadd, 1) := by decide +kernel
theorem dX1_placeOf_6 : decode cX1_placeOf 6 = .ok (.ireturn, 1) := by decide +kernel
theorem dX1_isWellFormed_0 : decode cX1_isWellFormed 0 = .ok (.iload_n 1, 1) := by decide +kernel
theorem dX1_isWellFormed_1 : decode cX1_isWellFormed 1 = .ok (.bipush 6, 2) := by decide +kernel
theorem dX1_isWellFormed_3 : decode cX1_isWellFormed 3 = .ok (.invokestatic 40, 3) := by decide +kernel
theorem dX1_isWellFormed_6 : decode cX1_isWellFormed 6 = .ok (.ifCond .ne 5, 3) := by decide +kernel
theorem dX1_isWellFormed_9 : decode cX1_isWellFormed 9 = .ok (.iconst 0, 1) := by decide +kernel
theorem dX1_isWellFormed_10 : decode cX1_isWellFormed 10 = .ok (.ireturn, 1) := by decide +kernel
theorem dX1_isWellFormed_11 : decode cX1_isWellFormed 11 = .ok (.iload_n 0, 1) := by decide +kernel
theorem dX1_isWellFormed_12 : decode cX1_isWellFormed 12 = .ok (.tableswitch 157 0 11 #[64, 66, 73, 73, 97, 104, 104, 127, 64, 150, 97, 64], 64) := by decide +kernel
theorem dX1_isWellFormed_76 : decode cX1_isWellFormed 76 = .ok (.iconst 1, 1) := by decide +kernel
theorem dX1_isWellFormed_77 : decode cX1_isWellFormed 77 = .ok (.ireturn, 1) := by decide +kernel
theorem dX1_isWellFormed_78 : decode cX1_isWellFormed 78 = .ok (.iload_n 2, 1) := by decide +kernel
theorem dX1_isWellFormed_79 : decode cX1_isWellFormed 79 = .ok (.bipush 6, 2) := by decide +kernel
theorem dX1_isWellFormed_81 : decode cX1_isWellFormed 81 = .ok (.invokestatic 40, 3) := by decide +kernel
theorem dX1_isWellFormed_84 : decode cX1_isWellFormed 84 = .ok (.ireturn, 1) := by decide +kernel
theorem dX1_isWellFormed_85 : decode cX1_isWellFormed 85 = .ok (.iload_n 2, 1) := by decide +kernel
theorem dX1_isWellFormed_86 : decode cX1_isWellFormed 86 = .ok (.bipush 6, 2) := by decide +kernel
theorem dX1_isWellFormed_88 : decode cX1_isWellFormed 88 = .ok (.invokestatic 40, 3) := by decide +kernel
theorem dX1_isWellFormed_91 : decode cX1_isWellFormed 91 = .ok (.ifCond .eq 16, 3) := by decide +kernel
theorem dX1_isWellFormed_94 : decode cX1_isWellFormed 94 = .ok (.iload_n 3, 1) := by decide +kernel
theorem dX1_isWellFormed_95 : decode cX1_isWellFormed 95 = .ok (.bipush 6, 2) := by decide +kernel
theorem dX1_isWellFormed_97 : decode cX1_isWellFormed 97 = .ok (.invokestatic 40, 3) := by decide +kernel
theorem dX1_isWellFormed_100 : decode cX1_isWellFormed 100 = .ok (.ifCond .eq 7, 3) := by decide +kernel
theorem dX1_isWellFormed_103 : decode cX1_isWellFormed 103 = .ok (.iconst 1, 1) := by decide +kernel
theorem dX1_isWellFormed_104 : decode cX1_isWellFormed 104 = .ok (.goto 4, 3) := by decide +kernel
theorem dX1_isWellFormed_107 : decode cX1_isWellFormed 107 = .ok (.iconst 0, 1) := by decide +kernel
theorem dX1_isWellFormed_108 : decode cX1_isWellFormed 108 = .ok (.ireturn, 1) := by decide +kernel
theorem dX1_isWellFormed_109 : decode cX1_isWellFormed 109 = .ok (.iload_n 2, 1) := by decide +kernel
theorem dX1_isWellFormed_110 : decode cX1_isWellFormed 110 = .ok (.bipush 6, 2) := by decide +kernel
theorem dX1_isWellFormed_112 : decode cX1_isWellFormed 112 = .ok (.invokestatic 40, 3) := by decide +kernel
theorem dX1_isWellFormed_115 : decode cX1_isWellFormed 115 = .ok (.ireturn, 1) := by decide +kernel
theorem dX1_isWellFormed_116 : decode cX1_isWellFormed 116 = .ok (.iload_n 2, 1) := by decide +kernel
theorem dX1_isWellFormed_117 : decode cX1_isWellFormed 117 = .ok (.bipush 6, 2) := by decide +kernel
theorem dX1_isWellFormed_119 : decode cX1_isWellFormed 119 = .ok (.invokestatic 40, 3) := by decide +kernel
theorem dX1_isWellFormed_122 : decode cX1_isWellFormed 122 = .ok (.ifCond .eq 15, 3) := by decide +kernel
theorem dX1_isWellFormed_125 : decode cX1_isWellFormed 125 = .ok (.iload_n 3, 1) := by decide +kernel
theorem dX1_isWellFormed_126 : decode cX1_isWellFormed 126 = .ok (.iconst 3, 1) := by decide +kernel
theorem dX1_isWellFormed_127 : decode cX1_isWellFormed 127 = .ok (.invokestatic 40, 3) := by decide +kernel
theorem dX1_isWellFormed_130 : decode cX1_isWellFormed 130 = .ok (.ifCond .eq 7, 3) := by decide +kernel
theorem dX1_isWellFormed_133 : decode cX1_isWellFormed 133 = .ok (.iconst 1, 1) := by decide +kernel
theorem dX1_isWellFormed_134 : decode cX1_isWellFormed 134 = .ok (.goto 4, 3) := by decide +kernel
theorem dX1_isWellFormed_137 : decode cX1_isWellFormed 137 = .ok (.iconst 0, 1) := by decide +kernel
theorem dX1_isWellFormed_138 : decode cX1_isWellFormed 138 = .ok (.ireturn, 1) := by decide +kernel
theorem dX1_isWellFormed_139 : decode cX1_isWellFormed 139 = .ok (.iload_n 2, 1) := by decide +kernel
theorem dX1_isWellFormed_140 : decode cX1_isWellFormed 140 = .ok (.bipush 6, 2) := by decide +kernel
theorem dX1_isWellFormed_142 : decode cX1_isWellFormed 142 = .ok (.invokestatic 40, 3) := by decide +kernel
theorem dX1_isWellFormed_145 : decode cX1_isWellFormed 145 = .ok (.ifCond .eq 15, 3) := by decide +kernel
theorem dX1_isWellFormed_148 : decode cX1_isWellFormed 148 = .ok (.iload_n 3, 1) := by decide +kernel
theorem dX1_isWellFormed_149 : decode cX1_isWellFormed 149 = .ok (.iconst 4, 1) := by decide +kernel
theorem dX1_isWellFormed_150 : decode cX1_isWellFormed 150 = .ok (.invokestatic 40, 3) := by decide +kernel
theorem dX1_isWellFormed_153 : decode cX1_isWellFormed 153 = .ok (.ifCond .eq 7, 3) := by decide +kernel
theorem dX1_isWellFormed_156 : decode cX1_isWellFormed 156 = .ok (.iconst 1, 1) := by decide +kernel
theorem dX1_isWellFormed_157 : decode cX1_isWellFormed 157 = .ok (.goto 4, 3) := by decide +kernel
theorem dX1_isWellFormed_160 : decode cX1_isWellFormed 160 = .ok (.iconst 0, 1) := by decide +kernel
theorem dX1_isWellFormed_161 : decode cX1_isWellFormed 161 = .ok (.ireturn, 1) := by decide +kernel
theorem dX1_isWellFormed_162 : decode cX1_isWellFormed 162 = .ok (.iload_n 2, 1) := by decide +kernel
theorem dX1_isWellFormed_163 : decode cX1_isWellFormed 163 = .ok (.bipush 10, 2) := by decide +kernel
theorem dX1_isWellFormed_165 : decode cX1_isWellFormed 165 = .ok (.invokestatic 40, 3) := by decide +kernel
theorem dX1_isWellFormed_168 : decode cX1_isWellFormed 168 = .ok (.ireturn, 1) := by decide +kernel
theorem dX1_isWellFormed_169 : decode cX1_isWellFormed 169 = .ok (.iconst 0, 1) := by decide +kernel
theorem dX1_isWellFormed_170 : decode cX1_isWellFormed 170 = .ok (.ireturn, 1) := by decide +kernel
theorem dX1_isWithin_0 : decode cX1_isWithin 0 = .ok (.iload_n 0, 1) := by decide +kernel
theorem dX1_isWithin_1 : decode cX1_isWithin 1 = .ok (.ifCond .lt 12, 3) := by decide +kernel
theorem dX1_isWithin_4 : decode cX1_isWithin 4 = .ok (.iload_n 0, 1) := by decide +kernel
theorem dX1_isWithin_5 : decode cX1_isWithin 5 = .ok (.iload_n 1, 1) := by decide +kernel
theorem dX1_isWithin_6 : decode cX1_isWithin 6 = .ok (.if_icmp .ge 7, 3) := by decide +kernel
theorem dX1_isWithin_9 : decode cX1_isWithin 9 = .ok (.iconst 1, 1) := by decide +kernel
theorem dX1_isWithin_10 : decode cX1_isWithin 10 = .ok (.goto 4, 3) := by decide +kernel
theorem dX1_isWithin_13 : decode cX1_isWithin 13 = .ok (.iconst 0, 1) := by decide +kernel
theorem dX1_isWithin_14 : decode cX1_isWithin 14 = .ok (.ireturn, 1) := by decide +kernel
theorem dX1_hasClass_0 : decode cX1_hasClass 0 = .ok (.iload_n 1, 1) := by decide +kernel
theorem dX1_hasClass_1 : decode cX1_hasClass 1 = .ok (.aload_n 0, 1) := by decide +kernel
theorem dX1_hasClass_2 : decode cX1_hasClass 2 = .ok (.getfield 36, 3) := by decide +kernel
theorem dX1_hasClass_5 : decode cX1_hasClass 5 = .ok (.invokestatic 40, 3) := by decide +kernel
theorem dX1_hasClass_8 : decode cX1_hasClass 8 = .ok (.ireturn, 1) := by decide +kernel
theorem dX1_hasPlaceFor_0 : decode cX1_hasPlaceFor 0 = .ok (.aload_n 0, 1) := by decide +kernel
theorem dX1_hasPlaceFor_1 : decode cX1_hasPlaceFor 1 = .ok (.iload_n 1, 1) := by decide +kernel
theorem dX1_hasPlaceFor_2 : decode cX1_hasPlaceFor 2 = .ok (.invokevirtual 44, 3) := by decide +kernel
theorem dX1_hasPlaceFor_5 : decode cX1_hasPlaceFor 5 = .ok (.ifCond .eq 15, 3) := by decide +kernel
theorem dX1_hasPlaceFor_8 : decode cX1_hasPlaceFor 8 = .ok (.iload_n 2, 1) := by decide +kernel
theorem dX1_hasPlaceFor_9 : decode cX1_hasPlaceFor 9 = .ok (.iconst 4, 1) := by decide +kernel
theorem dX1_hasPlaceFor_10 : decode cX1_hasPlaceFor 10 = .ok (.invokestatic 40, 3) := by decide +kernel
theorem dX1_hasPlaceFor_13 : decode cX1_hasPlaceFor 13 = .ok (.ifCond .eq 7, 3) := by decide +kernel
theorem dX1_hasPlaceFor_16 : decode cX1_hasPlaceFor 16 = .ok (.iconst 1, 1) := by decide +kernel
theorem dX1_hasPlaceFor_17 : decode cX1_hasPlaceFor 17 = .ok (.goto 4, 3) := by decide +kernel
theorem dX1_hasPlaceFor_20 : decode cX1_hasPlaceFor 20 = .ok (.iconst 0, 1) := by decide +kernel
theorem dX1_hasPlaceFor_21 : decode cX1_hasPlaceFor 21 = .ok (.ireturn, 1) := by decide +kernel
theorem dX1_isFullOfClasses_0 : decode cX1_isFullOfClasses 0 = .ok (.aload_n 0, 1) := by decide +kernel
theorem dX1_isFullOfClasses_1 : decode cX1_isFullOfClasses 1 = .ok (.getfield 36, 3) := by decide +kernel
theorem dX1_isFullOfClasses_4 : decode cX1_isFullOfClasses 4 = .ok (.bipush 6, 2) := by decide +kernel
theorem dX1_isFullOfClasses_6 : decode cX1_isFullOfClasses 6 = .ok (.if_icmp .lt 7, 3) := by decide +kernel
theorem dX1_isFullOfClasses_9 : decode cX1_isFullOfClasses 9 = .ok (.iconst 1, 1) := by decide +kernel
theorem dX1_isFullOfClasses_10 : decode cX1_isFullOfClasses 10 = .ok (.goto 4, 3) := by decide +kernel
theorem dX1_isFullOfClasses_13 : decode cX1_isFullOfClasses 13 = .ok (.iconst 0, 1) := by decide +kernel
theorem dX1_isFullOfClasses_14 : decode cX1_isFullOfClasses 14 = .ok (.ireturn, 1) := by decide +kernel
theorem dX1_addClass_0 : decode cX1_addClass 0 = .ok (.aload_n 0, 1) := by decide +kernel
theorem dX1_addClass_1 : decode cX1_addClass 1 = .ok (.getfield 36, 3) := by decide +kernel
theorem dX1_addClass_4 : decode cX1_addClass 4 = .ok (.istore_n 2, 1) := by decide +kernel
theorem dX1_addClass_5 : decode cX1_addClass 5 = .ok (.aload_n 0, 1) := by decide +kernel
theorem dX1_addClass_6 : decode cX1_addClass 6 = .ok (.getfield 9, 3) := by decide +kernel
theorem dX1_addClass_9 : decode cX1_addClass 9 = .ok (.iload_n 2, 1) := by decide +kernel
theorem dX1_addClass_10 : decode cX1_addClass 10 = .ok (.iload_n 1, 1) := by decide +kernel
theorem dX1_addClass_11 : decode cX1_addClass 11 = .ok (.iastore, 1) := by decide +kernel
theorem dX1_addClass_12 : decode cX1_addClass 12 = .ok (.aload_n 0, 1) := by decide +kernel
theorem dX1_addClass_13 : decode cX1_addClass 13 = .ok (.dup, 1) := by decide +kernel
theorem dX1_addClass_14 : decode cX1_addClass 14 = .ok (.getfield 36, 3) := by decide +kernel
theorem dX1_addClass_17 : decode cX1_addClass 17 = .ok (.iconst 1, 1) := by decide +kernel
theorem dX1_addClass_18 : decode cX1_addClass 18 = .ok (.iadd, 1) := by decide +kernel
theorem dX1_addClass_19 : decode cX1_addClass 19 = .ok (.putfield 36, 3) := by decide +kernel
theorem dX1_addClass_22 : decode cX1_addClass 22 = .ok (.iload_n 2, 1) := by decide +kernel
theorem dX1_addClass_23 : decode cX1_addClass 23 = .ok (.ireturn, 1) := by decide +kernel
theorem dX1_isFull_0 : decode cX1_isFull 0 = .ok (.aload_n 0, 1) := by decide +kernel
theorem dX1_isFull_1 : decode cX1_isFull 1 = .ok (.getfield 15, 3) := by decide +kernel
theorem dX1_isFull_4 : decode cX1_isFull 4 = .ok (.iload_n 1, 1) := by decide +kernel
theorem dX1_isFull_5 : decode cX1_isFull 5 = .ok (.iaload, 1) := by decide +kernel
theorem dX1_isFull_6 : decode cX1_isFull 6 = .ok (.bipush 10, 2) := by decide +kernel
theorem dX1_isFull_8 : decode cX1_isFull 8 = .ok (.if_icmp .lt 7, 3) := by decide +kernel
theorem dX1_isFull_11 : decode cX1_isFull 11 = .ok (.iconst 1, 1) := by decide +kernel
theorem dX1_isFull_12 : decode cX1_isFull 12 = .ok (.goto 4, 3) := by decide +kernel
theorem dX1_isFull_15 : decode cX1_isFull 15 = .ok (.iconst 0, 1) := by decide +kernel
theorem dX1_isFull_16 : decode cX1_isFull 16 = .ok (.ireturn, 1) := by decide +kernel
theorem dX1_append_0 : decode cX1_append 0 = .ok (.iload_n 1, 1) := by decide +kernel
theorem dX1_append_1 : decode cX1_append 1 = .ok (.aload_n 0, 1) := by decide +kernel
theorem dX1_append_2 : decode cX1_append 2 = .ok (.getfield 15, 3) := by decide +kernel
theorem dX1_append_5 : decode cX1_append 5 = .ok (.iload_n 1, 1) := by decide +kernel
theorem dX1_append_6 : decode cX1_append 6 = .ok (.iaload, 1) := by decide +kernel
theorem dX1_append_7 : decode cX1_append 7 = .ok (.invokestatic 48, 3) := by decide +kernel
theorem dX1_append_10 : decode cX1_append 10 = .ok (.istore 6, 2) := by decide +kernel
theorem dX1_append_12 : decode cX1_append 12 = .ok (.aload_n 0, 1) := by decide +kernel
theorem dX1_append_13 : decode cX1_append 13 = .ok (.getfield 18, 3) := by decide +kernel
theorem dX1_append_16 : decode cX1_append 16 = .ok (.iload 6, 2) := by decide +kernel
theorem dX1_append_18 : decode cX1_append 18 = .ok (.iload_n 2, 1) := by decide +kernel
theorem dX1_append_19 : decode cX1_append 19 = .ok (.iastore, 1) := by decide +kernel
theorem dX1_append_20 : decode cX1_append 20 = .ok (.aload_n 0, 1) := by decide +kernel
theorem dX1_append_21 : decode cX1_append 21 = .ok (.getfield 21, 3) := by decide +kernel
theorem dX1_append_24 : decode cX1_append 24 = .ok (.iload 6, 2) := by decide +kernel
theorem dX1_append_26 : decode cX1_append 26 = .ok (.iload_n 3, 1) := by decide +kernel
theorem dX1_append_27 : decode cX1_append 27 = .ok (.iastore, 1) := by decide +kernel
theorem dX1_append_28 : decode cX1_append 28 = .ok (.aload_n 0, 1) := by decide +kernel
theorem dX1_append_29 : decode cX1_append 29 = .ok (.getfield 24, 3) := by decide +kernel
theorem dX1_append_32 : decode cX1_append 32 = .ok (.iload 6, 2) := by decide +kernel
theorem dX1_append_34 : decode cX1_append 34 = .ok (.iload 4, 2) := by decide +kernel
theorem dX1_append_36 : decode cX1_append 36 = .ok (.iastore, 1) := by decide +kernel
theorem dX1_append_37 : decode cX1_append 37 = .ok (.aload_n 0, 1) := by decide +kernel
theorem dX1_append_38 : decode cX1_append 38 = .ok (.getfield 27, 3) := by decide +kernel
theorem dX1_append_41 : decode cX1_append 41 = .ok (.iload 6, 2) := by decide +kernel
theorem dX1_append_43 : decode cX1_append 43 = .ok (.iload 5, 2) := by decide +kernel
theorem dX1_append_45 : decode cX1_append 45 = .ok (.iastore, 1) := by decide +kernel
theorem dX1_append_46 : decode cX1_append 46 = .ok (.aload_n 0, 1) := by decide +kernel
theorem dX1_append_47 : decode cX1_append 47 = .ok (.getfield 15, 3) := by decide +kernel
theorem dX1_append_50 : decode cX1_append 50 = .ok (.iload_n 1, 1) := by decide +kernel
theorem dX1_append_51 : decode cX1_append 51 = .ok (.dup2, 1) := by decide +kernel
theorem dX1_append_52 : decode cX1_append 52 = .ok (.iaload, 1) := by decide +kernel
theorem dX1_append_53 : decode cX1_append 53 = .ok (.iconst 1, 1) := by decide +kernel
theorem dX1_append_54 : decode cX1_append 54 = .ok (.iadd, 1) := by decide +kernel
theorem dX1_append_55 : decode cX1_append 55 = .ok (.iastore, 1) := by decide +kernel
theorem dX1_append_56 : decode cX1_append 56 = .ok (.aload_n 0, 1) := by decide +kernel
theorem dX1_append_57 : decode cX1_append 57 = .ok (.getfield 15, 3) := by decide +kernel
theorem dX1_append_60 : decode cX1_append 60 = .ok (.iload_n 1, 1) := by decide +kernel
theorem dX1_append_61 : decode cX1_append 61 = .ok (.iaload, 1) := by decide +kernel
theorem dX1_append_62 : decode cX1_append 62 = .ok (.ireturn, 1) := by decide +kernel
theorem dX1_empty_0 : decode cX1_empty 0 = .ok (.aload_n 0, 1) := by decide +kernel
theorem dX1_empty_1 : decode cX1_empty 1 = .ok (.getfield 15, 3) := by decide +kernel
theorem dX1_empty_4 : decode cX1_empty 4 = .ok (.iload_n 1, 1) := by decide +kernel
theorem dX1_empty_5 : decode cX1_empty 5 = .ok (.iaload, 1) := by decide +kernel
theorem dX1_empty_6 : decode cX1_empty 6 = .ok (.istore_n 2, 1) := by decide +kernel
theorem dX1_empty_7 : decode cX1_empty 7 = .ok (.aload_n 0, 1) := by decide +kernel
theorem dX1_empty_8 : decode cX1_empty 8 = .ok (.getfield 15, 3) := by decide +kernel
theorem dX1_empty_11 : decode cX1_empty 11 = .ok (.iload_n 1, 1) := by decide +kernel
theorem dX1_empty_12 : decode cX1_empty 12 = .ok (.iconst 0, 1) := by decide +kernel
theorem dX1_empty_13 : decode cX1_empty 13 = .ok (.iastore, 1) := by decide +kernel
theorem dX1_empty_14 : decode cX1_empty 14 = .ok (.iload_n 2, 1) := by decide +kernel
theorem dX1_empty_15 : decode cX1_empty 15 = .ok (.ireturn, 1) := by decide +kernel
theorem dX1_length_0 : decode cX1_length 0 = .ok (.aload_n 0, 1) := by decide +kernel
theorem dX1_length_1 : decode cX1_length 1 = .ok (.getfield 15, 3) := by decide +kernel
theorem dX1_length_4 : decode cX1_length 4 = .ok (.iload_n 1, 1) := by decide +kernel
theorem dX1_length_5 : decode cX1_length 5 = .ok (.iaload, 1) := by decide +kernel
theorem dX1_length_6 : decode cX1_length 6 = .ok (.ireturn, 1) := by decide +kernel
theorem dX1_kind_0 : decode cX1_kind 0 = .ok (.aload_n 0, 1) := by decide +kernel
theorem dX1_kind_1 : decode cX1_kind 1 = .ok (.getfield 18, 3) := by decide +kernel
theorem dX1_kind_4 : decode cX1_kind 4 = .ok (.iload_n 1, 1) := by decide +kernel
theorem dX1_kind_5 : decode cX1_kind 5 = .ok (.iaload, 1) := by decide +kernel
theorem dX1_kind_6 : decode cX1_kind 6 = .ok (.ireturn, 1) := by decide +kernel
theorem dX1_x_0 : decode cX1_x 0 = .ok (.aload_n 0, 1) := by decide +kernel
theorem dX1_x_1 : decode cX1_x 1 = .ok (.getfield 21, 3) := by decide +kernel
theorem dX1_x_4 : decode cX1_x 4 = .ok (.iload_n 1, 1) := by decide +kernel
theorem dX1_x_5 : decode cX1_x 5 = .ok (.iaload, 1) := by decide +kernel
theorem dX1_x_6 : decode cX1_x 6 = .ok (.ireturn, 1) := by decide +kernel
theorem dX1_y_0 : decode cX1_y 0 = .ok (.aload_n 0, 1) := by decide +kernel
theorem dX1_y_1 : decode cX1_y 1 = .ok (.getfield 24, 3) := by decide +kernel
theorem dX1_y_4 : decode cX1_y 4 = .ok (.iload_n 1, 1) := by decide +kernel
theorem dX1_y_5 : decode cX1_y 5 = .ok (.iaload, 1) := by decide +kernel
theorem dX1_y_6 : decode cX1_y 6 = .ok (.ireturn, 1) := by decide +kernel
theorem dX1_z_0 : decode cX1_z 0 = .ok (.aload_n 0, 1) := by decide +kernel
theorem dX1_z_1 : decode cX1_z 1 = .ok (.getfield 27, 3) := by decide +kernel
theorem dX1_z_4 : decode cX1_z 4 = .ok (.iload_n 1, 1) := by decide +kernel
theorem dX1_z_5 : decode cX1_z 5 = .ok (.iaload, 1) := by decide +kernel
theorem dX1_z_6 : decode cX1_z 6 = .ok (.ireturn, 1) := by decide +kernel
theorem dX1_target_0 : decode cX1_target 0 = .ok (.iload_n 1, 1) := by decide +kernel
theorem dX1_target_1 : decode cX1_target 1 = .ok (.istore_n 3, 1) := by decide +kernel
theorem dX1_target_2 : decode cX1_target 2 = .ok (.bipush 6, 2) := by decide +kernel
theorem dX1_target_4 : decode cX1_target 4 = .ok (.istore 4, 2) := by decide +kernel
theorem dX1_target_6 : decode cX1_target 6 = .ok (.iload 4, 2) := by decide +kernel
theorem dX1_target_8 : decode cX1_target 8 = .ok (.ifCond .le 41, 3) := by decide +kernel
theorem dX1_target_11 : decode cX1_target 11 = .ok (.iload_n 3, 1) := by decide +kernel
theorem dX1_target_12 : decode cX1_target 12 = .ok (.iconst (-1), 1) := by decide +kernel
theorem dX1_target_13 : decode cX1_target 13 = .ok (.if_icmp .eq 36, 3) := by decide +kernel
theorem dX1_target_16 : decode cX1_target 16 = .ok (.iload_n 3, 1) := by decide +kernel
theorem dX1_target_17 : decode cX1_target 17 = .ok (.iload_n 2, 1) := by decide +kernel
theorem dX1_target_18 : decode cX1_target 18 = .ok (.invokestatic 52, 3) := by decide +kernel
theorem dX1_target_21 : decode cX1_target 21 = .ok (.istore 5, 2) := by decide +kernel
theorem dX1_target_23 : decode cX1_target 23 = .ok (.aload_n 0, 1) := by decide +kernel
theorem dX1_target_24 : decode cX1_target 24 = .ok (.getfield 15, 3) := by decide +kernel
theorem dX1_target_27 : decode cX1_target 27 = .ok (.iload 5, 2) := by decide +kernel
theorem dX1_target_29 : decode cX1_target 29 = .ok (.iaload, 1) := by decide +kernel
theorem dX1_target_30 : decode cX1_target 30 = .ok (.ifCond .le 6, 3) := by decide +kernel
theorem dX1_target_33 : decode cX1_target 33 = .ok (.iload 5, 2) := by decide +kernel
theorem dX1_target_35 : decode cX1_target 35 = .ok (.ireturn, 1) := by decide +kernel
theorem dX1_target_36 : decode cX1_target 36 = .ok (.aload_n 0, 1) := by decide +kernel
theorem dX1_target_37 : decode cX1_target 37 = .ok (.getfield 9, 3) := by decide +kernel
theorem dX1_target_40 : decode cX1_target 40 = .ok (.iload_n 3, 1) := by decide +kernel
theorem dX1_target_41 : decode cX1_target 41 = .ok (.iaload, 1) := by decide +kernel
theorem dX1_target_42 : decode cX1_target 42 = .ok (.istore_n 3, 1) := by decide +kernel
theorem dX1_target_43 : decode cX1_target 43 = .ok (.iinc 4 (-1), 3) := by decide +kernel
theorem dX1_target_46 : decode cX1_target 46 = .ok (.goto (-40), 3) := by decide +kernel
theorem dX1_target_49 : decode cX1_target 49 = .ok (.iconst (-1), 1) := by decide +kernel
theorem dX1_target_50 : decode cX1_target 50 = .ok (.ireturn, 1) := by decide +kernel
theorem dX1_classIs_0 : decode cX1_classIs 0 = .ok (.iload_n 1, 1) := by decide +kernel
theorem dX1_classIs_1 : decode cX1_classIs 1 = .ok (.istore_n 3, 1) := by decide +kernel
theorem dX1_classIs_2 : decode cX1_classIs 2 = .ok (.bipush 6, 2) := by decide +kernel
theorem dX1_classIs_4 : decode cX1_classIs 4 = .ok (.istore 4, 2) := by decide +kernel
theorem dX1_classIs_6 : decode cX1_classIs 6 = .ok (.iload 4, 2) := by decide +kernel
theorem dX1_classIs_8 : decode cX1_classIs 8 = .ok (.ifCond .le 28, 3) := by decide +kernel
theorem dX1_classIs_11 : decode cX1_classIs 11 = .ok (.iload_n 3, 1) := by decide +kernel
theorem dX1_classIs_12 : decode cX1_classIs 12 = .ok (.iconst (-1), 1) := by decide +kernel
theorem dX1_classIs_13 : decode cX1_classIs 13 = .ok (.if_icmp .eq 23, 3) := by decide +kernel
theorem dX1_classIs_16 : decode cX1_classIs 16 = .ok (.iload_n 3, 1) := by decide +kernel
theorem dX1_classIs_17 : decode cX1_classIs 17 = .ok (.iload_n 2, 1) := by decide +kernel
theorem dX1_classIs_18 : decode cX1_classIs 18 = .ok (.if_icmp .ne 5, 3) := by decide +kernel
theorem dX1_classIs_21 : decode cX1_classIs 21 = .ok (.iconst 1, 1) := by decide +kernel
theorem dX1_classIs_22 : decode cX1_classIs 22 = .ok (.ireturn, 1) := by decide +kernel
theorem dX1_classIs_23 : decode cX1_classIs 23 = .ok (.aload_n 0, 1) := by decide +kernel
theorem dX1_classIs_24 : decode cX1_classIs 24 = .ok (.getfield 9, 3) := by decide +kernel
theorem dX1_classIs_27 : decode cX1_classIs 27 = .ok (.iload_n 3, 1) := by decide +kernel
theorem dX1_classIs_28 : decode cX1_classIs 28 = .ok (.iaload, 1) := by decide +kernel
theorem dX1_classIs_29 : decode cX1_classIs 29 = .ok (.istore_n 3, 1) := by decide +kernel
theorem dX1_classIs_30 : decode cX1_classIs 30 = .ok (.iinc 4 (-1), 3) := by decide +kernel
theorem dX1_classIs_33 : decode cX1_classIs 33 = .ok (.goto (-27), 3) := by decide +kernel
theorem dX1_classIs_36 : decode cX1_classIs 36 = .ok (.iconst 0, 1) := by decide +kernel
theorem dX1_classIs_37 : decode cX1_classIs 37 = .ok (.ireturn, 1) := by decide +kernel
theorem dX1_fitsInPlace_0 : decode cX1_fitsInPlace 0 = .ok (.aload_n 0, 1) := by decide +kernel
theorem dX1_fitsInPlace_1 : decode cX1_fitsInPlace 1 = .ok (.getfield 15, 3) := by decide +kernel
theorem dX1_fitsInPlace_4 : decode cX1_fitsInPlace 4 = .ok (.iload_n 1, 1) := by decide +kernel
theorem dX1_fitsInPlace_5 : decode cX1_fitsInPlace 5 = .ok (.iaload, 1) := by decide +kernel
theorem dX1_fitsInPlace_6 : decode cX1_fitsInPlace 6 = .ok (.iconst 3, 1) := by decide +kernel
theorem dX1_fitsInPlace_7 : decode cX1_fitsInPlace 7 = .ok (.if_icmp .le 5, 3) := by decide +kernel
theorem dX1_fitsInPlace_10 : decode cX1_fitsInPlace 10 = .ok (.iconst 0, 1) := by decide +kernel
theorem dX1_fitsInPlace_11 : decode cX1_fitsInPlace 11 = .ok (.ireturn, 1) := by decide +kernel
theorem dX1_fitsInPlace_12 : decode cX1_fitsInPlace 12 = .ok (.iconst 0, 1) := by decide +kernel
theorem dX1_fitsInPlace_13 : decode cX1_fitsInPlace 13 = .ok (.istore_n 2, 1) := by decide +kernel
theorem dX1_fitsInPlace_14 : decode cX1_fitsInPlace 14 = .ok (.iload_n 2, 1) := by decide +kernel
theorem dX1_fitsInPlace_15 : decode cX1_fitsInPlace 15 = .ok (.aload_n 0, 1) := by decide +kernel
theorem dX1_fitsInPlace_16 : decode cX1_fitsInPlace 16 = .ok (.getfield 15, 3) := by decide +kernel
theorem dX1_fitsInPlace_19 : decode cX1_fitsInPlace 19 = .ok (.iload_n 1, 1) := by decide +kernel
theorem dX1_fitsInPlace_20 : decode cX1_fitsInPlace 20 = .ok (.iaload, 1) := by decide +kernel
theorem dX1_fitsInPlace_21 : decode cX1_fitsInPlace 21 = .ok (.if_icmp .ge 34, 3) := by decide +kernel
theorem dX1_fitsInPlace_24 : decode cX1_fitsInPlace 24 = .ok (.aload_n 0, 1) := by decide +kernel
theorem dX1_fitsInPlace_25 : decode cX1_fitsInPlace 25 = .ok (.getfield 18, 3) := by decide +kernel
theorem dX1_fitsInPlace_28 : decode cX1_fitsInPlace 28 = .ok (.iload_n 1, 1) := by decide +kernel
theorem dX1_fitsInPlace_29 : decode cX1_fitsInPlace 29 = .ok (.iload_n 2, 1) := by decide +kernel
theorem dX1_fitsInPlace_30 : decode cX1_fitsInPlace 30 = .ok (.invokestatic 48, 3) := by decide +kernel
theorem dX1_fitsInPlace_33 : decode cX1_fitsInPlace 33 = .ok (.iaload, 1) := by decide +kernel
theorem dX1_fitsInPlace_34 : decode cX1_fitsInPlace 34 = .ok (.istore_n 3, 1) := by decide +kernel
theorem dX1_fitsInPlace_35 : decode cX1_fitsInPlace 35 = .ok (.iload_n 3, 1) := by decide +kernel
theorem dX1_fitsInPlace_36 : decode cX1_fitsInPlace 36 = .ok (.bipush 7, 2) := by decide +kernel
theorem dX1_fitsInPlace_38 : decode cX1_fitsInPlace 38 = .ok (.if_icmp .eq 9, 3) := by decide +kernel
theorem dX1_fitsInPlace_41 : decode cX1_fitsInPlace 41 = .ok (.iload_n 3, 1) := by decide +kernel
end
section
theorem dX1_fitsInPlace_42 : decode cX1_fitsInPlace 42 = .ok (.bipush 9, 2) := by decide +kernel
theorem dX1_fitsInPlace_44 : decode cX1_fitsInPlace 44 = .ok (.if_icmp .ne 5, 3) := by decide +kernel
theorem dX1_fitsInPlace_47 : decode cX1_fitsInPlace 47 = .ok (.iconst 0, 1) := by decide +kernel
theorem dX1_fitsInPlace_48 : decode cX1_fitsInPlace 48 = .ok (.ireturn, 1) := by decide +kernel
theorem dX1_fitsInPlace_49 : decode cX1_fitsInPlace 49 = .ok (.iinc 2 1, 3) := by decide +kernel
theorem dX1_fitsInPlace_52 : decode cX1_fitsInPlace 52 = .ok (.goto (-38), 3) := by decide +kernel
theorem dX1_fitsInPlace_55 : decode cX1_fitsInPlace 55 = .ok (.iconst 1, 1) := by decide +kernel
theorem dX1_fitsInPlace_56 : decode cX1_fitsInPlace 56 = .ok (.ireturn, 1) := by decide +kernel
theorem dX2_init_0 : decode cX2_init 0 = .ok (.aload_n 0, 1) := by decide +kernel
theorem dX2_init_1 : decode cX2_init 1 = .ok (.invokespecial 3, 3) := by decide +kernel
theorem dX2_init_4 : decode cX2_init 4 = .ok (.aload_n 0, 1) := by decide +kernel
theorem dX2_init_5 : decode cX2_init 5 = .ok (.sipush 240, 3) := by decide +kernel
theorem dX2_init_8 : decode cX2_init 8 = .ok (.newarray .int, 2) := by decide +kernel
theorem dX2_init_10 : decode cX2_init 10 = .ok (.putfield 9, 3) := by decide +kernel
theorem dX2_init_13 : decode cX2_init 13 = .ok (.aload_n 0, 1) := by decide +kernel
theorem dX2_init_14 : decode cX2_init 14 = .ok (.iconst 4, 1) := by decide +kernel
theorem dX2_init_15 : decode cX2_init 15 = .ok (.newarray .int, 2) := by decide +kernel
theorem dX2_init_17 : decode cX2_init 17 = .ok (.putfield 15, 3) := by decide +kernel
theorem dX2_init_20 : decode cX2_init 20 = .ok (.aload_n 0, 1) := by decide +kernel
theorem dX2_init_21 : decode cX2_init 21 = .ok (.aload_n 1, 1) := by decide +kernel
theorem dX2_init_22 : decode cX2_init 22 = .ok (.putfield 18, 3) := by decide +kernel
theorem dX2_init_25 : decode cX2_init 25 = .ok (.return_, 1) := by decide +kernel
theorem dX2_isIn_0 : decode cX2_isIn 0 = .ok (.iload_n 0, 1) := by decide +kernel
theorem dX2_isIn_1 : decode cX2_isIn 1 = .ok (.iload_n 1, 1) := by decide +kernel
theorem dX2_isIn_2 : decode cX2_isIn 2 = .ok (.iushr, 1) := by decide +kernel
theorem dX2_isIn_3 : decode cX2_isIn 3 = .ok (.iconst 1, 1) := by decide +kernel
theorem dX2_isIn_4 : decode cX2_isIn 4 = .ok (.iand, 1) := by decide +kernel
theorem dX2_isIn_5 : decode cX2_isIn 5 = .ok (.ifCond .eq 7, 3) := by decide +kernel
theorem dX2_isIn_8 : decode cX2_isIn 8 = .ok (.iconst 1, 1) := by decide +kernel
theorem dX2_isIn_9 : decode cX2_isIn 9 = .ok (.goto 4, 3) := by decide +kernel
theorem dX2_isIn_12 : decode cX2_isIn 12 = .ok (.iconst 0, 1) := by decide +kernel
theorem dX2_isIn_13 : decode cX2_isIn 13 = .ok (.ireturn, 1) := by decide +kernel
theorem dX2_bits_0 : decode cX2_bits 0 = .ok (.aload_n 0, 1) := by decide +kernel
theorem dX2_bits_1 : decode cX2_bits 1 = .ok (.getfield 22, 3) := by decide +kernel
theorem dX2_bits_4 : decode cX2_bits 4 = .ok (.aload_n 0, 1) := by decide +kernel
theorem dX2_bits_5 : decode cX2_bits 5 = .ok (.getfield 26, 3) := by decide +kernel
theorem dX2_bits_8 : decode cX2_bits 8 = .ok (.bipush 8, 2) := by decide +kernel
theorem dX2_bits_10 : decode cX2_bits 10 = .ok (.ishl, 1) := by decide +kernel
theorem dX2_bits_11 : decode cX2_bits 11 = .ok (.ior, 1) := by decide +kernel
theorem dX2_bits_12 : decode cX2_bits 12 = .ok (.ireturn, 1) := by decide +kernel
theorem dX2_verdictAt_0 : decode cX2_verdictAt 0 = .ok (.aload_n 0, 1) := by decide +kernel
theorem dX2_verdictAt_1 : decode cX2_verdictAt 1 = .ok (.getfield 9, 3) := by decide +kernel
theorem dX2_verdictAt_4 : decode cX2_verdictAt 4 = .ok (.iload_n 1, 1) := by decide +kernel
theorem dX2_verdictAt_5 : decode cX2_verdictAt 5 = .ok (.iaload, 1) := by decide +kernel
theorem dX2_verdictAt_6 : decode cX2_verdictAt 6 = .ok (.ireturn, 1) := by decide +kernel
theorem dX2_forget_0 : decode cX2_forget 0 = .ok (.iload_n 1, 1) := by decide +kernel
theorem dX2_forget_1 : decode cX2_forget 1 = .ok (.iconst 0, 1) := by decide +kernel
theorem dX2_forget_2 : decode cX2_forget 2 = .ok (.invokestatic 29, 3) := by decide +kernel
theorem dX2_forget_5 : decode cX2_forget 5 = .ok (.istore_n 2, 1) := by decide +kernel
theorem dX2_forget_6 : decode cX2_forget 6 = .ok (.aload_n 0, 1) := by decide +kernel
theorem dX2_forget_7 : decode cX2_forget 7 = .ok (.getfield 9, 3) := by decide +kernel
theorem dX2_forget_10 : decode cX2_forget 10 = .ok (.iload_n 2, 1) := by decide +kernel
theorem dX2_forget_11 : decode cX2_forget 11 = .ok (.iload_n 2, 1) := by decide +kernel
theorem dX2_forget_12 : decode cX2_forget 12 = .ok (.bipush 10, 2) := by decide +kernel
theorem dX2_forget_14 : decode cX2_forget 14 = .ok (.iadd, 1) := by decide +kernel
theorem dX2_forget_15 : decode cX2_forget 15 = .ok (.iconst 0, 1) := by decide +kernel
theorem dX2_forget_16 : decode cX2_forget 16 = .ok (.invokestatic 35, 3) := by decide +kernel
theorem dX2_forget_19 : decode cX2_forget 19 = .ok (.return_, 1) := by decide +kernel
theorem dX2_renew_0 : decode cX2_renew 0 = .ok (.aload_n 0, 1) := by decide +kernel
theorem dX2_renew_1 : decode cX2_renew 1 = .ok (.getfield 9, 3) := by decide +kernel
theorem dX2_renew_4 : decode cX2_renew 4 = .ok (.iconst 0, 1) := by decide +kernel
theorem dX2_renew_5 : decode cX2_renew 5 = .ok (.invokestatic 41, 3) := by decide +kernel
theorem dX2_renew_8 : decode cX2_renew 8 = .ok (.aload_n 0, 1) := by decide +kernel
theorem dX2_renew_9 : decode cX2_renew 9 = .ok (.invokevirtual 44, 3) := by decide +kernel
theorem dX2_renew_12 : decode cX2_renew 12 = .ok (.iconst 0, 1) := by decide +kernel
theorem dX2_renew_13 : decode cX2_renew 13 = .ok (.istore_n 1, 1) := by decide +kernel
theorem dX2_renew_14 : decode cX2_renew 14 = .ok (.iload_n 1, 1) := by decide +kernel
theorem dX2_renew_15 : decode cX2_renew 15 = .ok (.iconst 4, 1) := by decide +kernel
theorem dX2_renew_16 : decode cX2_renew 16 = .ok (.if_icmp .ge 20, 3) := by decide +kernel
theorem dX2_renew_19 : decode cX2_renew 19 = .ok (.aload_n 0, 1) := by decide +kernel
theorem dX2_renew_20 : decode cX2_renew 20 = .ok (.getfield 15, 3) := by decide +kernel
theorem dX2_renew_23 : decode cX2_renew 23 = .ok (.iload_n 1, 1) := by decide +kernel
theorem dX2_renew_24 : decode cX2_renew 24 = .ok (.aload_n 0, 1) := by decide +kernel
theorem dX2_renew_25 : decode cX2_renew 25 = .ok (.iload_n 1, 1) := by decide +kernel
theorem dX2_renew_26 : decode cX2_renew 26 = .ok (.invokevirtual 47, 3) := by decide +kernel
theorem dX2_renew_29 : decode cX2_renew 29 = .ok (.iastore, 1) := by decide +kernel
theorem dX2_renew_30 : decode cX2_renew 30 = .ok (.iinc 1 1, 3) := by decide +kernel
theorem dX2_renew_33 : decode cX2_renew 33 = .ok (.goto (-19), 3) := by decide +kernel
theorem dX2_renew_36 : decode cX2_renew 36 = .ok (.iconst 0, 1) := by decide +kernel
theorem dX2_renew_37 : decode cX2_renew 37 = .ok (.istore_n 1, 1) := by decide +kernel
theorem dX2_renew_38 : decode cX2_renew 38 = .ok (.iload_n 1, 1) := by decide +kernel
theorem dX2_renew_39 : decode cX2_renew 39 = .ok (.bipush 24, 2) := by decide +kernel
theorem dX2_renew_41 : decode cX2_renew 41 = .ok (.if_icmp .ge 25, 3) := by decide +kernel
theorem dX2_renew_44 : decode cX2_renew 44 = .ok (.aload_n 0, 1) := by decide +kernel
theorem dX2_renew_45 : decode cX2_renew 45 = .ok (.getfield 26, 3) := by decide +kernel
theorem dX2_renew_48 : decode cX2_renew 48 = .ok (.iload_n 1, 1) := by decide +kernel
theorem dX2_renew_49 : decode cX2_renew 49 = .ok (.invokestatic 51, 3) := by decide +kernel
theorem dX2_renew_52 : decode cX2_renew 52 = .ok (.ifCond .eq 8, 3) := by decide +kernel
theorem dX2_renew_55 : decode cX2_renew 55 = .ok (.aload_n 0, 1) := by decide +kernel
theorem dX2_renew_56 : decode cX2_renew 56 = .ok (.iload_n 1, 1) := by decide +kernel
theorem dX2_renew_57 : decode cX2_renew 57 = .ok (.invokevirtual 55, 3) := by decide +kernel
theorem dX2_renew_60 : decode cX2_renew 60 = .ok (.iinc 1 1, 3) := by decide +kernel
theorem dX2_renew_63 : decode cX2_renew 63 = .ok (.goto (-25), 3) := by decide +kernel
theorem dX2_renew_66 : decode cX2_renew 66 = .ok (.aload_n 0, 1) := by decide +kernel
theorem dX2_renew_67 : decode cX2_renew 67 = .ok (.getfield 26, 3) := by decide +kernel
theorem dX2_renew_70 : decode cX2_renew 70 = .ok (.invokestatic 59, 3) := by decide +kernel
theorem dX2_renew_73 : decode cX2_renew 73 = .ok (.ireturn, 1) := by decide +kernel
theorem dX2_findReached_0 : decode cX2_findReached 0 = .ok (.aload_n 0, 1) := by decide +kernel
theorem dX2_findReached_1 : decode cX2_findReached 1 = .ok (.iconst 1, 1) := by decide +kernel
theorem dX2_findReached_2 : decode cX2_findReached 2 = .ok (.putfield 22, 3) := by decide +kernel
theorem dX2_findReached_5 : decode cX2_findReached 5 = .ok (.aload_n 0, 1) := by decide +kernel
theorem dX2_findReached_6 : decode cX2_findReached 6 = .ok (.iconst 0, 1) := by decide +kernel
theorem dX2_findReached_7 : decode cX2_findReached 7 = .ok (.putfield 64, 3) := by decide +kernel
theorem dX2_findReached_10 : decode cX2_findReached 10 = .ok (.aload_n 0, 1) := by decide +kernel
theorem dX2_findReached_11 : decode cX2_findReached 11 = .ok (.aload_n 0, 1) := by decide +kernel
theorem dX2_findReached_12 : decode cX2_findReached 12 = .ok (.iconst 0, 1) := by decide +kernel
theorem dX2_findReached_13 : decode cX2_findReached 13 = .ok (.iconst 0, 1) := by decide +kernel
theorem dX2_findReached_14 : decode cX2_findReached 14 = .ok (.invokevirtual 67, 3) := by decide +kernel
theorem dX2_findReached_17 : decode cX2_findReached 17 = .ok (.putfield 26, 3) := by decide +kernel
theorem dX2_findReached_20 : decode cX2_findReached 20 = .ok (.iconst 0, 1) := by decide +kernel
theorem dX2_findReached_21 : decode cX2_findReached 21 = .ok (.istore_n 1, 1) := by decide +kernel
theorem dX2_findReached_22 : decode cX2_findReached 22 = .ok (.iconst 0, 1) := by decide +kernel
theorem dX2_findReached_23 : decode cX2_findReached 23 = .ok (.istore_n 2, 1) := by decide +kernel
theorem dX2_findReached_24 : decode cX2_findReached 24 = .ok (.iload_n 2, 1) := by decide +kernel
theorem dX2_findReached_25 : decode cX2_findReached 25 = .ok (.bipush 24, 2) := by decide +kernel
theorem dX2_findReached_27 : decode cX2_findReached 27 = .ok (.if_icmp .ge 40, 3) := by decide +kernel
theorem dX2_findReached_30 : decode cX2_findReached 30 = .ok (.iload_n 1, 1) := by decide +kernel
theorem dX2_findReached_31 : decode cX2_findReached 31 = .ok (.aload_n 0, 1) := by decide +kernel
theorem dX2_findReached_32 : decode cX2_findReached 32 = .ok (.getfield 26, 3) := by decide +kernel
theorem dX2_findReached_35 : decode cX2_findReached 35 = .ok (.if_icmp .eq 32, 3) := by decide +kernel
theorem dX2_findReached_38 : decode cX2_findReached 38 = .ok (.aload_n 0, 1) := by decide +kernel
theorem dX2_findReached_39 : decode cX2_findReached 39 = .ok (.getfield 26, 3) := by decide +kernel
theorem dX2_findReached_42 : decode cX2_findReached 42 = .ok (.iload_n 1, 1) := by decide +kernel
theorem dX2_findReached_43 : decode cX2_findReached 43 = .ok (.iconst (-1), 1) := by decide +kernel
theorem dX2_findReached_44 : decode cX2_findReached 44 = .ok (.ixor, 1) := by decide +kernel
theorem dX2_findReached_45 : decode cX2_findReached 45 = .ok (.iand, 1) := by decide +kernel
theorem dX2_findReached_46 : decode cX2_findReached 46 = .ok (.istore_n 3, 1) := by decide +kernel
theorem dX2_findReached_47 : decode cX2_findReached 47 = .ok (.aload_n 0, 1) := by decide +kernel
theorem dX2_findReached_48 : decode cX2_findReached 48 = .ok (.getfield 26, 3) := by decide +kernel
theorem dX2_findReached_51 : decode cX2_findReached 51 = .ok (.istore_n 1, 1) := by decide +kernel
theorem dX2_findReached_52 : decode cX2_findReached 52 = .ok (.aload_n 0, 1) := by decide +kernel
theorem dX2_findReached_53 : decode cX2_findReached 53 = .ok (.iload_n 3, 1) := by decide +kernel
theorem dX2_findReached_54 : decode cX2_findReached 54 = .ok (.invokevirtual 70, 3) := by decide +kernel
theorem dX2_findReached_57 : decode cX2_findReached 57 = .ok (.aload_n 0, 1) := by decide +kernel
theorem dX2_findReached_58 : decode cX2_findReached 58 = .ok (.invokevirtual 73, 3) := by decide +kernel
theorem dX2_findReached_61 : decode cX2_findReached 61 = .ok (.iinc 2 1, 3) := by decide +kernel
theorem dX2_findReached_64 : decode cX2_findReached 64 = .ok (.goto (-40), 3) := by decide +kernel
theorem dX2_findReached_67 : decode cX2_findReached 67 = .ok (.return_, 1) := by decide +kernel
theorem dX2_targetSet_0 : decode cX2_targetSet 0 = .ok (.aload_n 0, 1) := by decide +kernel
theorem dX2_targetSet_1 : decode cX2_targetSet 1 = .ok (.getfield 18, 3) := by decide +kernel
theorem dX2_targetSet_4 : decode cX2_targetSet 4 = .ok (.iload_n 1, 1) := by decide +kernel
theorem dX2_targetSet_5 : decode cX2_targetSet 5 = .ok (.iload_n 2, 1) := by decide +kernel
theorem dX2_targetSet_6 : decode cX2_targetSet 6 = .ok (.invokevirtual 76, 3) := by decide +kernel
theorem dX2_targetSet_9 : decode cX2_targetSet 9 = .ok (.istore_n 3, 1) := by decide +kernel
theorem dX2_targetSet_10 : decode cX2_targetSet 10 = .ok (.iload_n 3, 1) := by decide +kernel
theorem dX2_targetSet_11 : decode cX2_targetSet 11 = .ok (.iconst (-1), 1) := by decide +kernel
theorem dX2_targetSet_12 : decode cX2_targetSet 12 = .ok (.if_icmp .ne 7, 3) := by decide +kernel
theorem dX2_targetSet_15 : decode cX2_targetSet 15 = .ok (.iconst 0, 1) := by decide +kernel
theorem dX2_targetSet_16 : decode cX2_targetSet 16 = .ok (.goto 6, 3) := by decide +kernel
theorem dX2_targetSet_19 : decode cX2_targetSet 19 = .ok (.iconst 1, 1) := by decide +kernel
theorem dX2_targetSet_20 : decode cX2_targetSet 20 = .ok (.iload_n 3, 1) := by decide +kernel
theorem dX2_targetSet_21 : decode cX2_targetSet 21 = .ok (.ishl, 1) := by decide +kernel
theorem dX2_targetSet_22 : decode cX2_targetSet 22 = .ok (.ireturn, 1) := by decide +kernel
theorem dX2_readBodies_0 : decode cX2_readBodies 0 = .ok (.iconst 0, 1) := by decide +kernel
theorem dX2_readBodies_1 : decode cX2_readBodies 1 = .ok (.istore_n 2, 1) := by decide +kernel
theorem dX2_readBodies_2 : decode cX2_readBodies 2 = .ok (.iload_n 2, 1) := by decide +kernel
theorem dX2_readBodies_3 : decode cX2_readBodies 3 = .ok (.bipush 24, 2) := by decide +kernel
theorem dX2_readBodies_5 : decode cX2_readBodies 5 = .ok (.if_icmp .ge 22, 3) := by decide +kernel
theorem dX2_readBodies_8 : decode cX2_readBodies 8 = .ok (.iload_n 1, 1) := by decide +kernel
theorem dX2_readBodies_9 : decode cX2_readBodies 9 = .ok (.iload_n 2, 1) := by decide +kernel
theorem dX2_readBodies_10 : decode cX2_readBodies 10 = .ok (.invokestatic 51, 3) := by decide +kernel
theorem dX2_readBodies_13 : decode cX2_readBodies 13 = .ok (.ifCond .eq 8, 3) := by decide +kernel
theorem dX2_readBodies_16 : decode cX2_readBodies 16 = .ok (.aload_n 0, 1) := by decide +kernel
theorem dX2_readBodies_17 : decode cX2_readBodies 17 = .ok (.iload_n 2, 1) := by decide +kernel
theorem dX2_readBodies_18 : decode cX2_readBodies 18 = .ok (.invokevirtual 79, 3) := by decide +kernel
theorem dX2_readBodies_21 : decode cX2_readBodies 21 = .ok (.iinc 2 1, 3) := by decide +kernel
theorem dX2_readBodies_24 : decode cX2_readBodies 24 = .ok (.goto (-22), 3) := by decide +kernel
theorem dX2_readBodies_27 : decode cX2_readBodies 27 = .ok (.return_, 1) := by decide +kernel
theorem dX2_readBody_0 : decode cX2_readBody 0 = .ok (.iconst 0, 1) := by decide +kernel
theorem dX2_readBody_1 : decode cX2_readBody 1 = .ok (.istore_n 2, 1) := by decide +kernel
theorem dX2_readBody_2 : decode cX2_readBody 2 = .ok (.iload_n 2, 1) := by decide +kernel
theorem dX2_readBody_3 : decode cX2_readBody 3 = .ok (.aload_n 0, 1) := by decide +kernel
theorem dX2_readBody_4 : decode cX2_readBody 4 = .ok (.getfield 18, 3) := by decide +kernel
theorem dX2_readBody_7 : decode cX2_readBody 7 = .ok (.iload_n 1, 1) := by decide +kernel
theorem dX2_readBody_8 : decode cX2_readBody 8 = .ok (.invokevirtual 82, 3) := by decide +kernel
theorem dX2_readBody_11 : decode cX2_readBody 11 = .ok (.if_icmp .ge 81, 3) := by decide +kernel
theorem dX2_readBody_14 : decode cX2_readBody 14 = .ok (.iload_n 1, 1) := by decide +kernel
theorem dX2_readBody_15 : decode cX2_readBody 15 = .ok (.iload_n 2, 1) := by decide +kernel
theorem dX2_readBody_16 : decode cX2_readBody 16 = .ok (.invokestatic 29, 3) := by decide +kernel
theorem dX2_readBody_19 : decode cX2_readBody 19 = .ok (.istore_n 3, 1) := by decide +kernel
theorem dX2_readBody_20 : decode cX2_readBody 20 = .ok (.aload_n 0, 1) := by decide +kernel
theorem dX2_readBody_21 : decode cX2_readBody 21 = .ok (.getfield 18, 3) := by decide +kernel
theorem dX2_readBody_24 : decode cX2_readBody 24 = .ok (.iload_n 3, 1) := by decide +kernel
theorem dX2_readBody_25 : decode cX2_readBody 25 = .ok (.invokevirtual 85, 3) := by decide +kernel
theorem dX2_readBody_28 : decode cX2_readBody 28 = .ok (.iconst 4, 1) := by decide +kernel
theorem dX2_readBody_29 : decode cX2_readBody 29 = .ok (.if_icmp .ne 25, 3) := by decide +kernel
theorem dX2_readBody_32 : decode cX2_readBody 32 = .ok (.aload_n 0, 1) := by decide +kernel
theorem dX2_readBody_33 : decode cX2_readBody 33 = .ok (.dup, 1) := by decide +kernel
theorem dX2_readBody_34 : decode cX2_readBody 34 = .ok (.getfield 22, 3) := by decide +kernel
theorem dX2_readBody_37 : decode cX2_readBody 37 = .ok (.iconst 1, 1) := by decide +kernel
theorem dX2_readBody_38 : decode cX2_readBody 38 = .ok (.aload_n 0, 1) := by decide +kernel
theorem dX2_readBody_39 : decode cX2_readBody 39 = .ok (.getfield 18, 3) := by decide +kernel
theorem dX2_readBody_42 : decode cX2_readBody 42 = .ok (.iload_n 3, 1) := by decide +kernel
theorem dX2_readBody_43 : decode cX2_readBody 43 = .ok (.invokevirtual 88, 3) := by decide +kernel
theorem dX2_readBody_46 : decode cX2_readBody 46 = .ok (.ishl, 1) := by decide +kernel
theorem dX2_readBody_47 : decode cX2_readBody 47 = .ok (.ior, 1) := by decide +kernel
theorem dX2_readBody_48 : decode cX2_readBody 48 = .ok (.putfield 22, 3) := by decide +kernel
theorem dX2_readBody_51 : decode cX2_readBody 51 = .ok (.goto 35, 3) := by decide +kernel
theorem dX2_readBody_54 : decode cX2_readBody 54 = .ok (.aload_n 0, 1) := by decide +kernel
theorem dX2_readBody_55 : decode cX2_readBody 55 = .ok (.getfield 18, 3) := by decide +kernel
theorem dX2_readBody_58 : decode cX2_readBody 58 = .ok (.iload_n 3, 1) := by decide +kernel
theorem dX2_readBody_59 : decode cX2_readBody 59 = .ok (.invokevirtual 85, 3) := by decide +kernel
theorem dX2_readBody_62 : decode cX2_readBody 62 = .ok (.bipush 7, 2) := by decide +kernel
theorem dX2_readBody_64 : decode cX2_readBody 64 = .ok (.if_icmp .ne 22, 3) := by decide +kernel
theorem dX2_readBody_67 : decode cX2_readBody 67 = .ok (.aload_n 0, 1) := by decide +kernel
theorem dX2_readBody_68 : decode cX2_readBody 68 = .ok (.dup, 1) := by decide +kernel
theorem dX2_readBody_69 : decode cX2_readBody 69 = .ok (.getfield 64, 3) := by decide +kernel
theorem dX2_readBody_72 : decode cX2_readBody 72 = .ok (.iconst 1, 1) := by decide +kernel
theorem dX2_readBody_73 : decode cX2_readBody 73 = .ok (.aload_n 0, 1) := by decide +kernel
theorem dX2_readBody_74 : decode cX2_readBody 74 = .ok (.getfield 18, 3) := by decide +kernel
theorem dX2_readBody_77 : decode cX2_readBody 77 = .ok (.iload_n 3, 1) := by decide +kernel
theorem dX2_readBody_78 : decode cX2_readBody 78 = .ok (.invokevirtual 91, 3) := by decide +kernel
theorem dX2_readBody_81 : decode cX2_readBody 81 = .ok (.ishl, 1) := by decide +kernel
theorem dX2_readBody_82 : decode cX2_readBody 82 = .ok (.ior, 1) := by decide +kernel
theorem dX2_readBody_83 : decode cX2_readBody 83 = .ok (.putfield 64, 3) := by decide +kernel
theorem dX2_readBody_86 : decode cX2_readBody 86 = .ok (.iinc 2 1, 3) := by decide +kernel
theorem dX2_readBody_89 : decode cX2_readBody 89 = .ok (.goto (-87), 3) := by decide +kernel
theorem dX2_readBody_92 : decode cX2_readBody 92 = .ok (.return_, 1) := by decide +kernel
theorem dX2_reachTargets_0 : decode cX2_reachTargets 0 = .ok (.iconst 0, 1) := by decide +kernel
theorem dX2_reachTargets_1 : decode cX2_reachTargets 1 = .ok (.istore_n 1, 1) := by decide +kernel
theorem dX2_reachTargets_2 : decode cX2_reachTargets 2 = .ok (.iload_n 1, 1) := by decide +kernel
theorem dX2_reachTargets_3 : decode cX2_reachTargets 3 = .ok (.bipush 6, 2) := by decide +kernel
theorem dX2_reachTargets_5 : decode cX2_reachTargets 5 = .ok (.if_icmp .ge 59, 3) := by decide +kernel
theorem dX2_reachTargets_8 : decode cX2_reachTargets 8 = .ok (.iconst 0, 1) := by decide +kernel
theorem dX2_reachTargets_9 : decode cX2_reachTargets 9 = .ok (.istore_n 2, 1) := by decide +kernel
theorem dX2_reachTargets_10 : decode cX2_reachTargets 10 = .ok (.iload_n 2, 1) := by decide +kernel
theorem dX2_reachTargets_11 : decode cX2_reachTargets 11 = .ok (.iconst 4, 1) := by decide +kernel
theorem dX2_reachTargets_12 : decode cX2_reachTargets 12 = .ok (.if_icmp .ge 46, 3) := by decide +kernel
theorem dX2_reachTargets_15 : decode cX2_reachTargets 15 = .ok (.aload_n 0, 1) := by decide +kernel
theorem dX2_reachTargets_16 : decode cX2_reachTargets 16 = .ok (.getfield 22, 3) := by decide +kernel
theorem dX2_reachTargets_19 : decode cX2_reachTargets 19 = .ok (.iload_n 1, 1) := by decide +kernel
theorem dX2_reachTargets_20 : decode cX2_reachTargets 20 = .ok (.invokestatic 51, 3) := by decide +kernel
theorem dX2_reachTargets_23 : decode cX2_reachTargets 23 = .ok (.ifCond .eq 29, 3) := by decide +kernel
theorem dX2_reachTargets_26 : decode cX2_reachTargets 26 = .ok (.aload_n 0, 1) := by decide +kernel
theorem dX2_reachTargets_27 : decode cX2_reachTargets 27 = .ok (.getfield 64, 3) := by decide +kernel
theorem dX2_reachTargets_30 : decode cX2_reachTargets 30 = .ok (.iload_n 2, 1) := by decide +kernel
theorem dX2_reachTargets_31 : decode cX2_reachTargets 31 = .ok (.invokestatic 51, 3) := by decide +kernel
theorem dX2_reachTargets_34 : decode cX2_reachTargets 34 = .ok (.ifCond .eq 18, 3) := by decide +kernel
theorem dX2_reachTargets_37 : decode cX2_reachTargets 37 = .ok (.aload_n 0, 1) := by decide +kernel
theorem dX2_reachTargets_38 : decode cX2_reachTargets 38 = .ok (.dup, 1) := by decide +kernel
theorem dX2_reachTargets_39 : decode cX2_reachTargets 39 = .ok (.getfield 26, 3) := by decide +kernel
theorem dX2_reachTargets_42 : decode cX2_reachTargets 42 = .ok (.aload_n 0, 1) := by decide +kernel
theorem dX2_reachTargets_43 : decode cX2_reachTargets 43 = .ok (.iload_n 1, 1) := by decide +kernel
theorem dX2_reachTargets_44 : decode cX2_reachTargets 44 = .ok (.iload_n 2, 1) := by decide +kernel
theorem dX2_reachTargets_45 : decode cX2_reachTargets 45 = .ok (.invokevirtual 67, 3) := by decide +kernel
theorem dX2_reachTargets_48 : decode cX2_reachTargets 48 = .ok (.ior, 1) := by decide +kernel
theorem dX2_reachTargets_49 : decode cX2_reachTargets 49 = .ok (.putfield 26, 3) := by decide +kernel
theorem dX2_reachTargets_52 : decode cX2_reachTargets 52 = .ok (.iinc 2 1, 3) := by decide +kernel
theorem dX2_reachTargets_55 : decode cX2_reachTargets 55 = .ok (.goto (-45), 3) := by decide +kernel
theorem dX2_reachTargets_58 : decode cX2_reachTargets 58 = .ok (.iinc 1 1, 3) := by decide +kernel
theorem dX2_reachTargets_61 : decode cX2_reachTargets 61 = .ok (.goto (-59), 3) := by decide +kernel
theorem dX2_reachTargets_64 : decode cX2_reachTargets 64 = .ok (.return_, 1) := by decide +kernel
theorem dX2_verdictOfCalls_0 : decode cX2_verdictOfCalls 0 = .ok (.iconst (-1), 1) := by decide +kernel
theorem dX2_verdictOfCalls_1 : decode cX2_verdictOfCalls 1 = .ok (.istore_n 2, 1) := by decide +kernel
theorem dX2_verdictOfCalls_2 : decode cX2_verdictOfCalls 2 = .ok (.iconst 0, 1) := by decide +kernel
theorem dX2_verdictOfCalls_3 : decode cX2_verdictOfCalls 3 = .ok (.istore_n 3, 1) := by decide +kernel
theorem dX2_verdictOfCalls_4 : decode cX2_verdictOfCalls 4 = .ok (.iload_n 3, 1) := by decide +kernel
theorem dX2_verdictOfCalls_5 : decode cX2_verdictOfCalls 5 = .ok (.bipush 6, 2) := by decide +kernel
theorem dX2_verdictOfCalls_7 : decode cX2_verdictOfCalls 7 = .ok (.if_icmp .ge 57, 3) := by decide +kernel
theorem dX2_verdictOfCalls_10 : decode cX2_verdictOfCalls 10 = .ok (.aload_n 0, 1) := by decide +kernel
theorem dX2_verdictOfCalls_11 : decode cX2_verdictOfCalls 11 = .ok (.getfield 22, 3) := by decide +kernel
theorem dX2_verdictOfCalls_14 : decode cX2_verdictOfCalls 14 = .ok (.iload_n 3, 1) := by decide +kernel
theorem dX2_verdictOfCalls_15 : decode cX2_verdictOfCalls 15 = .ok (.invokestatic 51, 3) := by decide +kernel
theorem dX2_verdictOfCalls_18 : decode cX2_verdictOfCalls 18 = .ok (.ifCond .eq 15, 3) := by decide +kernel
theorem dX2_verdictOfCalls_21 : decode cX2_verdictOfCalls 21 = .ok (.aload_n 0, 1) := by decide +kernel
theorem dX2_verdictOfCalls_22 : decode cX2_verdictOfCalls 22 = .ok (.getfield 18, 3) := by decide +kernel
theorem dX2_verdictOfCalls_25 : decode cX2_verdictOfCalls 25 = .ok (.iload_n 3, 1) := by decide +kernel
theorem dX2_verdictOfCalls_26 : decode cX2_verdictOfCalls 26 = .ok (.iload_n 1, 1) := by decide +kernel
theorem dX2_verdictOfCalls_27 : decode cX2_verdictOfCalls 27 = .ok (.invokevirtual 76, 3) := by decide +kernel
theorem dX2_verdictOfCalls_30 : decode cX2_verdictOfCalls 30 = .ok (.goto 4, 3) := by decide +kernel
theorem dX2_verdictOfCalls_33 : decode cX2_verdictOfCalls 33 = .ok (.iconst (-1), 1) := by decide +kernel
theorem dX2_verdictOfCalls_34 : decode cX2_verdictOfCalls 34 = .ok (.istore 4, 2) := by decide +kernel
theorem dX2_verdictOfCalls_36 : decode cX2_verdictOfCalls 36 = .ok (.iload 4, 2) := by decide +kernel
theorem dX2_verdictOfCalls_38 : decode cX2_verdictOfCalls 38 = .ok (.iconst (-1), 1) := by decide +kernel
theorem dX2_verdictOfCalls_39 : decode cX2_verdictOfCalls 39 = .ok (.if_icmp .eq 19, 3) := by decide +kernel
theorem dX2_verdictOfCalls_42 : decode cX2_verdictOfCalls 42 = .ok (.iload_n 2, 1) := by decide +kernel
theorem dX2_verdictOfCalls_43 : decode cX2_verdictOfCalls 43 = .ok (.iconst (-1), 1) := by decide +kernel
theorem dX2_verdictOfCalls_44 : decode cX2_verdictOfCalls 44 = .ok (.if_icmp .eq 11, 3) := by decide +kernel
theorem dX2_verdictOfCalls_47 : decode cX2_verdictOfCalls 47 = .ok (.iload_n 2, 1) := by decide +kernel
theorem dX2_verdictOfCalls_48 : decode cX2_verdictOfCalls 48 = .ok (.iload 4, 2) := by decide +kernel
theorem dX2_verdictOfCalls_50 : decode cX2_verdictOfCalls 50 = .ok (.if_icmp .eq 5, 3) := by decide +kernel
theorem dX2_verdictOfCalls_53 : decode cX2_verdictOfCalls 53 = .ok (.iconst 1, 1) := by decide +kernel
theorem dX2_verdictOfCalls_54 : decode cX2_verdictOfCalls 54 = .ok (.ireturn, 1) := by decide +kernel
theorem dX2_verdictOfCalls_55 : decode cX2_verdictOfCalls 55 = .ok (.iload 4, 2) := by decide +kernel
theorem dX2_verdictOfCalls_57 : decode cX2_verdictOfCalls 57 = .ok (.istore_n 2, 1) := by decide +kernel
theorem dX2_verdictOfCalls_58 : decode cX2_verdictOfCalls 58 = .ok (.iinc 3 1, 3) := by decide +kernel
theorem dX2_verdictOfCalls_61 : decode cX2_verdictOfCalls 61 = .ok (.goto (-57), 3) := by decide +kernel
theorem dX2_verdictOfCalls_64 : decode cX2_verdictOfCalls 64 = .ok (.iload_n 2, 1) := by decide +kernel
theorem dX2_verdictOfCalls_65 : decode cX2_verdictOfCalls 65 = .ok (.iconst (-1), 1) := by decide +kernel
theorem dX2_verdictOfCalls_66 : decode cX2_verdictOfCalls 66 = .ok (.if_icmp .ne 5, 3) := by decide +kernel
theorem dX2_verdictOfCalls_69 : decode cX2_verdictOfCalls 69 = .ok (.iconst 4, 1) := by decide +kernel
theorem dX2_verdictOfCalls_70 : decode cX2_verdictOfCalls 70 = .ok (.ireturn, 1) := by decide +kernel
theorem dX2_verdictOfCalls_71 : decode cX2_verdictOfCalls 71 = .ok (.aload_n 0, 1) := by decide +kernel
theorem dX2_verdictOfCalls_72 : decode cX2_verdictOfCalls 72 = .ok (.getfield 18, 3) := by decide +kernel
theorem dX2_verdictOfCalls_75 : decode cX2_verdictOfCalls 75 = .ok (.iload_n 2, 1) := by decide +kernel
theorem dX2_verdictOfCalls_76 : decode cX2_verdictOfCalls 76 = .ok (.invokevirtual 94, 3) := by decide +kernel
theorem dX2_verdictOfCalls_79 : decode cX2_verdictOfCalls 79 = .ok (.ifCond .eq 7, 3) := by decide +kernel
theorem dX2_verdictOfCalls_82 : decode cX2_verdictOfCalls 82 = .ok (.iconst 3, 1) := by decide +kernel
theorem dX2_verdictOfCalls_83 : decode cX2_verdictOfCalls 83 = .ok (.goto 4, 3) := by decide +kernel
theorem dX2_verdictOfCalls_86 : decode cX2_verdictOfCalls 86 = .ok (.iconst 2, 1) := by decide +kernel
theorem dX2_verdictOfCalls_87 : decode cX2_verdictOfCalls 87 = .ok (.ireturn, 1) := by decide +kernel
theorem dX2_judge_0 : decode cX2_judge 0 = .ok (.aload_n 0, 1) := by decide +kernel
theorem dX2_judge_1 : decode cX2_judge 1 = .ok (.iload_n 1, 1) := by decide +kernel
theorem dX2_judge_2 : decode cX2_judge 2 = .ok (.invokevirtual 98, 3) := by decide +kernel
theorem dX2_judge_5 : decode cX2_judge 5 = .ok (.istore_n 2, 1) := by decide +kernel
theorem dX2_judge_6 : decode cX2_judge 6 = .ok (.iconst 0, 1) := by decide +kernel
theorem dX2_judge_7 : decode cX2_judge 7 = .ok (.istore_n 3, 1) := by decide +kernel
theorem dX2_judge_8 : decode cX2_judge 8 = .ok (.iload_n 3, 1) := by decide +kernel
theorem dX2_judge_9 : decode cX2_judge 9 = .ok (.aload_n 0, 1) := by decide +kernel
theorem dX2_judge_10 : decode cX2_judge 10 = .ok (.getfield 18, 3) := by decide +kernel
theorem dX2_judge_13 : decode cX2_judge 13 = .ok (.iload_n 1, 1) := by decide +kernel
theorem dX2_judge_14 : decode cX2_judge 14 = .ok (.invokevirtual 82, 3) := by decide +kernel
theorem dX2_judge_17 : decode cX2_judge 17 = .ok (.if_icmp .ge 111, 3) := by decide +kernel
theorem dX2_judge_20 : decode cX2_judge 20 = .ok (.iload_n 1, 1) := by decide +kernel
theorem dX2_judge_21 : decode cX2_judge 21 = .ok (.iload_n 3, 1) := by decide +kernel
theorem dX2_judge_22 : decode cX2_judge 22 = .ok (.invokestatic 29, 3) := by decide +kernel
theorem dX2_judge_25 : decode cX2_judge 25 = .ok (.istore 4, 2) := by decide +kernel
theorem dX2_judge_27 : decode cX2_judge 27 = .ok (.aload_n 0, 1) := by decide +kernel
theorem dX2_judge_28 : decode cX2_judge 28 = .ok (.getfield 18, 3) := by decide +kernel
theorem dX2_judge_31 : decode cX2_judge 31 = .ok (.iload 4, 2) := by decide +kernel
theorem dX2_judge_33 : decode cX2_judge 33 = .ok (.invokevirtual 85, 3) := by decide +kernel
theorem dX2_judge_36 : decode cX2_judge 36 = .ok (.bipush 7, 2) := by decide +kernel
theorem dX2_judge_38 : decode cX2_judge 38 = .ok (.if_icmp .ne 27, 3) := by decide +kernel
theorem dX2_judge_41 : decode cX2_judge 41 = .ok (.aload_n 0, 1) := by decide +kernel
theorem dX2_judge_42 : decode cX2_judge 42 = .ok (.getfield 9, 3) := by decide +kernel
theorem dX2_judge_45 : decode cX2_judge 45 = .ok (.iload 4, 2) := by decide +kernel
theorem dX2_judge_47 : decode cX2_judge 47 = .ok (.aload_n 0, 1) := by decide +kernel
theorem dX2_judge_48 : decode cX2_judge 48 = .ok (.getfield 15, 3) := by decide +kernel
theorem dX2_judge_51 : decode cX2_judge 51 = .ok (.aload_n 0, 1) := by decide +kernel
theorem dX2_judge_52 : decode cX2_judge 52 = .ok (.getfield 18, 3) := by decide +kernel
theorem dX2_judge_55 : decode cX2_judge 55 = .ok (.iload 4, 2) := by decide +kernel
theorem dX2_judge_57 : decode cX2_judge 57 = .ok (.invokevirtual 91, 3) := by decide +kernel
theorem dX2_judge_60 : decode cX2_judge 60 = .ok (.iaload, 1) := by decide +kernel
theorem dX2_judge_61 : decode cX2_judge 61 = .ok (.iastore, 1) := by decide +kernel
theorem dX2_judge_62 : decode cX2_judge 62 = .ok (.goto 60, 3) := by decide +kernel
theorem dX2_judge_65 : decode cX2_judge 65 = .ok (.aload_n 0, 1) := by decide +kernel
theorem dX2_judge_66 : decode cX2_judge 66 = .ok (.getfield 18, 3) := by decide +kernel
theorem dX2_judge_69 : decode cX2_judge 69 = .ok (.iload 4, 2) := by decide +kernel
theorem dX2_judge_71 : decode cX2_judge 71 = .ok (.invokevirtual 85, 3) := by decide +kernel
theorem dX2_judge_74 : decode cX2_judge 74 = .ok (.iconst 4, 1) := by decide +kernel
theorem dX2_judge_75 : decode cX2_judge 75 = .ok (.if_icmp .ne 47, 3) := by decide +kernel
theorem dX2_judge_78 : decode cX2_judge 78 = .ok (.aload_n 0, 1) := by decide +kernel
theorem dX2_judge_79 : decode cX2_judge 79 = .ok (.iload_n 1, 1) := by decide +kernel
theorem dX2_judge_80 : decode cX2_judge 80 = .ok (.aload_n 0, 1) := by decide +kernel
theorem dX2_judge_81 : decode cX2_judge 81 = .ok (.getfield 18, 3) := by decide +kernel
theorem dX2_judge_84 : decode cX2_judge 84 = .ok (.iload 4, 2) := by decide +kernel
theorem dX2_judge_86 : decode cX2_judge 86 = .ok (.invokevirtual 101, 3) := by decide +kernel
theorem dX2_judge_89 : decode cX2_judge 89 = .ok (.invokevirtual 104, 3) := by decide +kernel
theorem dX2_judge_92 : decode cX2_judge 92 = .ok (.iload_n 2, 1) := by decide +kernel
theorem dX2_judge_93 : decode cX2_judge 93 = .ok (.iand, 1) := by decide +kernel
theorem dX2_judge_94 : decode cX2_judge 94 = .ok (.ifCond .eq 7, 3) := by decide +kernel
theorem dX2_judge_97 : decode cX2_judge 97 = .ok (.iconst 1, 1) := by decide +kernel
theorem dX2_judge_98 : decode cX2_judge 98 = .ok (.goto 4, 3) := by decide +kernel
theorem dX2_judge_101 : decode cX2_judge 101 = .ok (.iconst 0, 1) := by decide +kernel
theorem dX2_judge_102 : decode cX2_judge 102 = .ok (.istore 5, 2) := by decide +kernel
theorem dX2_judge_104 : decode cX2_judge 104 = .ok (.aload_n 0, 1) := by decide +kernel
theorem dX2_judge_105 : decode cX2_judge 105 = .ok (.getfield 9, 3) := by decide +kernel
theorem dX2_judge_108 : decode cX2_judge 108 = .ok (.iload 4, 2) := by decide +kernel
theorem dX2_judge_110 : decode cX2_judge 110 = .ok (.iload 5, 2) := by decide +kernel
theorem dX2_judge_112 : decode cX2_judge 112 = .ok (.ifCond .eq 8, 3) := by decide +kernel
theorem dX2_judge_115 : decode cX2_judge 115 = .ok (.bipush 6, 2) := by decide +kernel
theorem dX2_judge_117 : decode cX2_judge 117 = .ok (.goto 4, 3) := by decide +kernel
theorem dX2_judge_120 : decode cX2_judge 120 = .ok (.iconst 5, 1) := by decide +kernel
theorem dX2_judge_121 : decode cX2_judge 121 = .ok (.iastore, 1) := by decide +kernel
theorem dX2_judge_122 : decode cX2_judge 122 = .ok (.iinc 3 1, 3) := by decide +kernel
theorem dX2_judge_125 : decode cX2_judge 125 = .ok (.goto (-117), 3) := by decide +kernel
theorem dX2_judge_128 : decode cX2_judge 128 = .ok (.return_, 1) := by decide +kernel
theorem dX2_waysOut_0 : decode cX2_waysOut 0 = .ok (.iconst 0, 1) := by decide +kernel
theorem dX2_waysOut_1 : decode cX2_waysOut 1 = .ok (.istore_n 2, 1) := by decide +kernel
theorem dX2_waysOut_2 : decode cX2_waysOut 2 = .ok (.iconst 0, 1) := by decide +kernel
theorem dX2_waysOut_3 : decode cX2_waysOut 3 = .ok (.istore_n 3, 1) := by decide +kernel
theorem dX2_waysOut_4 : decode cX2_waysOut 4 = .ok (.iload_n 3, 1) := by decide +kernel
theorem dX2_waysOut_5 : decode cX2_waysOut 5 = .ok (.aload_n 0, 1) := by decide +kernel
theorem dX2_waysOut_6 : decode cX2_waysOut 6 = .ok (.getfield 18, 3) := by decide +kernel
theorem dX2_waysOut_9 : decode cX2_waysOut 9 = .ok (.iload_n 1, 1) := by decide +kernel
theorem dX2_waysOut_10 : decode cX2_waysOut 10 = .ok (.invokevirtual 82, 3) := by decide +kernel
theorem dX2_waysOut_13 : decode cX2_waysOut 13 = .ok (.if_icmp .ge 99, 3) := by decide +kernel
theorem dX2_waysOut_16 : decode cX2_waysOut 16 = .ok (.iload_n 1, 1) := by decide +kernel
theorem dX2_waysOut_17 : decode cX2_waysOut 17 = .ok (.iload_n 3, 1) := by decide +kernel
theorem dX2_waysOut_18 : decode cX2_waysOut 18 = .ok (.invokestatic 29, 3) := by decide +kernel
theorem dX2_waysOut_21 : decode cX2_waysOut 21 = .ok (.istore 4, 2) := by decide +kernel
theorem dX2_waysOut_23 : decode cX2_waysOut 23 = .ok (.aload_n 0, 1) := by decide +kernel
theorem dX2_waysOut_24 : decode cX2_waysOut 24 = .ok (.getfield 18, 3) := by decide +kernel
theorem dX2_waysOut_27 : decode cX2_waysOut 27 = .ok (.iload 4, 2) := by decide +kernel
theorem dX2_waysOut_29 : decode cX2_waysOut 29 = .ok (.invokevirtual 85, 3) := by decide +kernel
theorem dX2_waysOut_32 : decode cX2_waysOut 32 = .ok (.istore 5, 2) := by decide +kernel
theorem dX2_waysOut_34 : decode cX2_waysOut 34 = .ok (.iload 5, 2) := by decide +kernel
theorem dX2_waysOut_36 : decode cX2_waysOut 36 = .ok (.bipush 6, 2) := by decide +kernel
theorem dX2_waysOut_38 : decode cX2_waysOut 38 = .ok (.if_icmp .ne 20, 3) := by decide +kernel
theorem dX2_waysOut_41 : decode cX2_waysOut 41 = .ok (.iload_n 2, 1) := by decide +kernel
theorem dX2_waysOut_42 : decode cX2_waysOut 42 = .ok (.iconst 1, 1) := by decide +kernel
theorem dX2_waysOut_43 : decode cX2_waysOut 43 = .ok (.aload_n 0, 1) := by decide +kernel
theorem dX2_waysOut_44 : decode cX2_waysOut 44 = .ok (.getfield 18, 3) := by decide +kernel
theorem dX2_waysOut_47 : decode cX2_waysOut 47 = .ok (.iload 4, 2) := by decide +kernel
theorem dX2_waysOut_49 : decode cX2_waysOut 49 = .ok (.invokevirtual 88, 3) := by decide +kernel
theorem dX2_waysOut_52 : decode cX2_waysOut 52 = .ok (.ishl, 1) := by decide +kernel
theorem dX2_waysOut_53 : decode cX2_waysOut 53 = .ok (.ior, 1) := by decide +kernel
theorem dX2_waysOut_54 : decode cX2_waysOut 54 = .ok (.istore_n 2, 1) := by decide +kernel
theorem dX2_waysOut_55 : decode cX2_waysOut 55 = .ok (.goto 51, 3) := by decide +kernel
theorem dX2_waysOut_58 : decode cX2_waysOut 58 = .ok (.iload 5, 2) := by decide +kernel
theorem dX2_waysOut_60 : decode cX2_waysOut 60 = .ok (.bipush 7, 2) := by decide +kernel
theorem dX2_waysOut_62 : decode cX2_waysOut 62 = .ok (.if_icmp .ne 23, 3) := by decide +kernel
theorem dX2_waysOut_65 : decode cX2_waysOut 65 = .ok (.iload_n 2, 1) := by decide +kernel
theorem dX2_waysOut_66 : decode cX2_waysOut 66 = .ok (.iconst 1, 1) := by decide +kernel
theorem dX2_waysOut_67 : decode cX2_waysOut 67 = .ok (.aload_n 0, 1) := by decide +kernel
theorem dX2_waysOut_68 : decode cX2_waysOut 68 = .ok (.getfield 18, 3) := by decide +kernel
theorem dX2_waysOut_71 : decode cX2_waysOut 71 = .ok (.iload 4, 2) := by decide +kernel
theorem dX2_waysOut_73 : decode cX2_waysOut 73 = .ok (.invokevirtual 88, 3) := by decide +kernel
theorem dX2_waysOut_76 : decode cX2_waysOut 76 = .ok (.ishl, 1) := by decide +kernel
theorem dX2_waysOut_77 : decode cX2_waysOut 77 = .ok (.bipush 32, 2) := by decide +kernel
theorem dX2_waysOut_79 : decode cX2_waysOut 79 = .ok (.ior, 1) := by decide +kernel
theorem dX2_waysOut_80 : decode cX2_waysOut 80 = .ok (.ior, 1) := by decide +kernel
theorem dX2_waysOut_81 : decode cX2_waysOut 81 = .ok (.istore_n 2, 1) := by decide +kernel
theorem dX2_waysOut_82 : decode cX2_waysOut 82 = .ok (.goto 24, 3) := by decide +kernel
theorem dX2_waysOut_85 : decode cX2_waysOut 85 = .ok (.iload 5, 2) := by decide +kernel
theorem dX2_waysOut_87 : decode cX2_waysOut 87 = .ok (.bipush 11, 2) := by decide +kernel
theorem dX2_waysOut_89 : decode cX2_waysOut 89 = .ok (.if_icmp .ne 17, 3) := by decide +kernel
theorem dX2_waysOut_92 : decode cX2_waysOut 92 = .ok (.iload_n 2, 1) := by decide +kernel
theorem dX2_waysOut_93 : decode cX2_waysOut 93 = .ok (.iconst 1, 1) := by decide +kernel
theorem dX2_waysOut_94 : decode cX2_waysOut 94 = .ok (.aload_n 0, 1) := by decide +kernel
theorem dX2_waysOut_95 : decode cX2_waysOut 95 = .ok (.getfield 18, 3) := by decide +kernel
theorem dX2_waysOut_98 : decode cX2_waysOut 98 = .ok (.iload 4, 2) := by decide +kernel
theorem dX2_waysOut_100 : decode cX2_waysOut 100 = .ok (.invokevirtual 101, 3) := by decide +kernel
theorem dX2_waysOut_103 : decode cX2_waysOut 103 = .ok (.ishl, 1) := by decide +kernel
theorem dX2_waysOut_104 : decode cX2_waysOut 104 = .ok (.ior, 1) := by decide +kernel
theorem dX2_waysOut_105 : decode cX2_waysOut 105 = .ok (.istore_n 2, 1) := by decide +kernel
theorem dX2_waysOut_106 : decode cX2_waysOut 106 = .ok (.iinc 3 1, 3) := by decide +kernel
theorem dX2_waysOut_109 : decode cX2_waysOut 109 = .ok (.goto (-105), 3) := by decide +kernel
theorem dX2_waysOut_112 : decode cX2_waysOut 112 = .ok (.iload_n 2, 1) := by decide +kernel
theorem dX2_waysOut_113 : decode cX2_waysOut 113 = .ok (.ireturn, 1) := by decide +kernel
theorem dX2_holders_0 : decode cX2_holders 0 = .ok (.iconst 1, 1) := by decide +kernel
theorem dX2_holders_1 : decode cX2_holders 1 = .ok (.iload_n 2, 1) := by decide +kernel
theorem dX2_holders_2 : decode cX2_holders 2 = .ok (.ishl, 1) := by decide +kernel
theorem dX2_holders_3 : decode cX2_holders 3 = .ok (.istore_n 3, 1) := by decide +kernel
theorem dX2_holders_4 : decode cX2_holders 4 = .ok (.iconst 1, 1) := by decide +kernel
theorem dX2_holders_5 : decode cX2_holders 5 = .ok (.istore 4, 2) := by decide +kernel
theorem dX2_holders_7 : decode cX2_holders 7 = .ok (.iload 4, 2) := by decide +kernel
theorem dX2_holders_9 : decode cX2_holders 9 = .ok (.bipush 6, 2) := by decide +kernel
theorem dX2_holders_11 : decode cX2_holders 11 = .ok (.if_icmp .ge 82, 3) := by decide +kernel
theorem dX2_holders_14 : decode cX2_holders 14 = .ok (.iconst 0, 1) := by decide +kernel
theorem dX2_holders_15 : decode cX2_holders 15 = .ok (.istore 5, 2) := by decide +kernel
theorem dX2_holders_17 : decode cX2_holders 17 = .ok (.iload 5, 2) := by decide +kernel
theorem dX2_holders_19 : decode cX2_holders 19 = .ok (.aload_n 0, 1) := by decide +kernel
theorem dX2_holders_20 : decode cX2_holders 20 = .ok (.getfield 18, 3) := by decide +kernel
theorem dX2_holders_23 : decode cX2_holders 23 = .ok (.iload_n 1, 1) := by decide +kernel
theorem dX2_holders_24 : decode cX2_holders 24 = .ok (.invokevirtual 82, 3) := by decide +kernel
theorem dX2_holders_27 : decode cX2_holders 27 = .ok (.if_icmp .ge 60, 3) := by decide +kernel
theorem dX2_holders_30 : decode cX2_holders 30 = .ok (.iload_n 1, 1) := by decide +kernel
theorem dX2_holders_31 : decode cX2_holders 31 = .ok (.iload 5, 2) := by decide +kernel
theorem dX2_holders_33 : decode cX2_holders 33 = .ok (.invokestatic 29, 3) := by decide +kernel
end
section
theorem dX2_holders_36 : decode cX2_holders 36 = .ok (.istore 6, 2) := by decide +kernel
theorem dX2_holders_38 : decode cX2_holders 38 = .ok (.aload_n 0, 1) := by decide +kernel
theorem dX2_holders_39 : decode cX2_holders 39 = .ok (.getfield 18, 3) := by decide +kernel
theorem dX2_holders_42 : decode cX2_holders 42 = .ok (.iload 6, 2) := by decide +kernel
theorem dX2_holders_44 : decode cX2_holders 44 = .ok (.invokevirtual 85, 3) := by decide +kernel
theorem dX2_holders_47 : decode cX2_holders 47 = .ok (.iconst 1, 1) := by decide +kernel
theorem dX2_holders_48 : decode cX2_holders 48 = .ok (.if_icmp .ne 33, 3) := by decide +kernel
theorem dX2_holders_51 : decode cX2_holders 51 = .ok (.iload_n 3, 1) := by decide +kernel
theorem dX2_holders_52 : decode cX2_holders 52 = .ok (.aload_n 0, 1) := by decide +kernel
theorem dX2_holders_53 : decode cX2_holders 53 = .ok (.getfield 18, 3) := by decide +kernel
theorem dX2_holders_56 : decode cX2_holders 56 = .ok (.iload 6, 2) := by decide +kernel
theorem dX2_holders_58 : decode cX2_holders 58 = .ok (.invokevirtual 88, 3) := by decide +kernel
theorem dX2_holders_61 : decode cX2_holders 61 = .ok (.invokestatic 51, 3) := by decide +kernel
theorem dX2_holders_64 : decode cX2_holders 64 = .ok (.ifCond .eq 17, 3) := by decide +kernel
theorem dX2_holders_67 : decode cX2_holders 67 = .ok (.iload_n 3, 1) := by decide +kernel
theorem dX2_holders_68 : decode cX2_holders 68 = .ok (.iconst 1, 1) := by decide +kernel
theorem dX2_holders_69 : decode cX2_holders 69 = .ok (.aload_n 0, 1) := by decide +kernel
theorem dX2_holders_70 : decode cX2_holders 70 = .ok (.getfield 18, 3) := by decide +kernel
theorem dX2_holders_73 : decode cX2_holders 73 = .ok (.iload 6, 2) := by decide +kernel
theorem dX2_holders_75 : decode cX2_holders 75 = .ok (.invokevirtual 101, 3) := by decide +kernel
theorem dX2_holders_78 : decode cX2_holders 78 = .ok (.ishl, 1) := by decide +kernel
theorem dX2_holders_79 : decode cX2_holders 79 = .ok (.ior, 1) := by decide +kernel
theorem dX2_holders_80 : decode cX2_holders 80 = .ok (.istore_n 3, 1) := by decide +kernel
theorem dX2_holders_81 : decode cX2_holders 81 = .ok (.iinc 5 1, 3) := by decide +kernel
theorem dX2_holders_84 : decode cX2_holders 84 = .ok (.goto (-67), 3) := by decide +kernel
theorem dX2_holders_87 : decode cX2_holders 87 = .ok (.iinc 4 1, 3) := by decide +kernel
theorem dX2_holders_90 : decode cX2_holders 90 = .ok (.goto (-83), 3) := by decide +kernel
theorem dX2_holders_93 : decode cX2_holders 93 = .ok (.iload_n 3, 1) := by decide +kernel
theorem dX2_holders_94 : decode cX2_holders 94 = .ok (.ireturn, 1) := by decide +kernel
theorem dX3_init_0 : decode cX3_init 0 = .ok (.aload_n 0, 1) := by decide +kernel
theorem dX3_init_1 : decode cX3_init 1 = .ok (.invokespecial 3, 3) := by decide +kernel
theorem dX3_init_4 : decode cX3_init 4 = .ok (.aload_n 0, 1) := by decide +kernel
theorem dX3_init_5 : decode cX3_init 5 = .ok (.new 9, 3) := by decide +kernel
theorem dX3_init_8 : decode cX3_init 8 = .ok (.dup, 1) := by decide +kernel
theorem dX3_init_9 : decode cX3_init 9 = .ok (.invokespecial 11, 3) := by decide +kernel
theorem dX3_init_12 : decode cX3_init 12 = .ok (.putfield 12, 3) := by decide +kernel
theorem dX3_init_15 : decode cX3_init 15 = .ok (.aload_n 0, 1) := by decide +kernel
theorem dX3_init_16 : decode cX3_init 16 = .ok (.new 16, 3) := by decide +kernel
theorem dX3_init_19 : decode cX3_init 19 = .ok (.dup, 1) := by decide +kernel
theorem dX3_init_20 : decode cX3_init 20 = .ok (.aload_n 0, 1) := by decide +kernel
theorem dX3_init_21 : decode cX3_init 21 = .ok (.getfield 12, 3) := by decide +kernel
theorem dX3_init_24 : decode cX3_init 24 = .ok (.invokespecial 18, 3) := by decide +kernel
theorem dX3_init_27 : decode cX3_init 27 = .ok (.putfield 21, 3) := by decide +kernel
theorem dX3_init_30 : decode cX3_init 30 = .ok (.aload_n 0, 1) := by decide +kernel
theorem dX3_init_31 : decode cX3_init 31 = .ok (.new 25, 3) := by decide +kernel
theorem dX3_init_34 : decode cX3_init 34 = .ok (.dup, 1) := by decide +kernel
theorem dX3_init_35 : decode cX3_init 35 = .ok (.aload_n 0, 1) := by decide +kernel
theorem dX3_init_36 : decode cX3_init 36 = .ok (.getfield 12, 3) := by decide +kernel
theorem dX3_init_39 : decode cX3_init 39 = .ok (.aload_n 0, 1) := by decide +kernel
theorem dX3_init_40 : decode cX3_init 40 = .ok (.getfield 21, 3) := by decide +kernel
theorem dX3_init_43 : decode cX3_init 43 = .ok (.invokespecial 27, 3) := by decide +kernel
theorem dX3_init_46 : decode cX3_init 46 = .ok (.putfield 30, 3) := by decide +kernel
theorem dX3_init_49 : decode cX3_init 49 = .ok (.return_, 1) := by decide +kernel
theorem dX3_type_0 : decode cX3_type 0 = .ok (.iload_n 1, 1) := by decide +kernel
theorem dX3_type_1 : decode cX3_type 1 = .ok (.iconst (-1), 1) := by decide +kernel
theorem dX3_type_2 : decode cX3_type 2 = .ok (.if_icmp .eq 24, 3) := by decide +kernel
theorem dX3_type_5 : decode cX3_type 5 = .ok (.aload_n 0, 1) := by decide +kernel
theorem dX3_type_6 : decode cX3_type 6 = .ok (.getfield 12, 3) := by decide +kernel
theorem dX3_type_9 : decode cX3_type 9 = .ok (.iload_n 1, 1) := by decide +kernel
theorem dX3_type_10 : decode cX3_type 10 = .ok (.invokevirtual 34, 3) := by decide +kernel
theorem dX3_type_13 : decode cX3_type 13 = .ok (.ifCond .ne 13, 3) := by decide +kernel
theorem dX3_type_16 : decode cX3_type 16 = .ok (.new 38, 3) := by decide +kernel
theorem dX3_type_19 : decode cX3_type 19 = .ok (.dup, 1) := by decide +kernel
theorem dX3_type_20 : decode cX3_type 20 = .ok (.ldc 40, 2) := by decide +kernel
theorem dX3_type_22 : decode cX3_type 22 = .ok (.invokespecial 42, 3) := by decide +kernel
theorem dX3_type_25 : decode cX3_type 25 = .ok (.athrow, 1) := by decide +kernel
theorem dX3_type_26 : decode cX3_type 26 = .ok (.aload_n 0, 1) := by decide +kernel
theorem dX3_type_27 : decode cX3_type 27 = .ok (.getfield 12, 3) := by decide +kernel
theorem dX3_type_30 : decode cX3_type 30 = .ok (.invokevirtual 45, 3) := by decide +kernel
theorem dX3_type_33 : decode cX3_type 33 = .ok (.ifCond .eq 13, 3) := by decide +kernel
theorem dX3_type_36 : decode cX3_type 36 = .ok (.new 49, 3) := by decide +kernel
theorem dX3_type_39 : decode cX3_type 39 = .ok (.dup, 1) := by decide +kernel
theorem dX3_type_40 : decode cX3_type 40 = .ok (.ldc 51, 2) := by decide +kernel
theorem dX3_type_42 : decode cX3_type 42 = .ok (.invokespecial 53, 3) := by decide +kernel
theorem dX3_type_45 : decode cX3_type 45 = .ok (.athrow, 1) := by decide +kernel
theorem dX3_type_46 : decode cX3_type 46 = .ok (.aload_n 0, 1) := by decide +kernel
theorem dX3_type_47 : decode cX3_type 47 = .ok (.getfield 12, 3) := by decide +kernel
theorem dX3_type_50 : decode cX3_type 50 = .ok (.iload_n 1, 1) := by decide +kernel
theorem dX3_type_51 : decode cX3_type 51 = .ok (.invokevirtual 54, 3) := by decide +kernel
theorem dX3_type_54 : decode cX3_type 54 = .ok (.ireturn, 1) := by decide +kernel
theorem dX3_operation_0 : decode cX3_operation 0 = .ok (.aload_n 0, 1) := by decide +kernel
theorem dX3_operation_1 : decode cX3_operation 1 = .ok (.getfield 12, 3) := by decide +kernel
theorem dX3_operation_4 : decode cX3_operation 4 = .ok (.iload_n 1, 1) := by decide +kernel
theorem dX3_operation_5 : decode cX3_operation 5 = .ok (.iload_n 2, 1) := by decide +kernel
theorem dX3_operation_6 : decode cX3_operation 6 = .ok (.invokevirtual 58, 3) := by decide +kernel
theorem dX3_operation_9 : decode cX3_operation 9 = .ok (.ifCond .ne 13, 3) := by decide +kernel
theorem dX3_operation_12 : decode cX3_operation 12 = .ok (.new 38, 3) := by decide +kernel
theorem dX3_operation_15 : decode cX3_operation 15 = .ok (.dup, 1) := by decide +kernel
theorem dX3_operation_16 : decode cX3_operation 16 = .ok (.ldc 62, 2) := by decide +kernel
theorem dX3_operation_18 : decode cX3_operation 18 = .ok (.invokespecial 42, 3) := by decide +kernel
theorem dX3_operation_21 : decode cX3_operation 21 = .ok (.athrow, 1) := by decide +kernel
theorem dX3_operation_22 : decode cX3_operation 22 = .ok (.iload_n 3, 1) := by decide +kernel
theorem dX3_operation_23 : decode cX3_operation 23 = .ok (.iload 4, 2) := by decide +kernel
theorem dX3_operation_25 : decode cX3_operation 25 = .ok (.iload 5, 2) := by decide +kernel
theorem dX3_operation_27 : decode cX3_operation 27 = .ok (.iload 6, 2) := by decide +kernel
theorem dX3_operation_29 : decode cX3_operation 29 = .ok (.invokestatic 64, 3) := by decide +kernel
theorem dX3_operation_32 : decode cX3_operation 32 = .ok (.ifCond .ne 13, 3) := by decide +kernel
theorem dX3_operation_35 : decode cX3_operation 35 = .ok (.new 38, 3) := by decide +kernel
theorem dX3_operation_38 : decode cX3_operation 38 = .ok (.dup, 1) := by decide +kernel
theorem dX3_operation_39 : decode cX3_operation 39 = .ok (.ldc 68, 2) := by decide +kernel
theorem dX3_operation_41 : decode cX3_operation 41 = .ok (.invokespecial 42, 3) := by decide +kernel
theorem dX3_operation_44 : decode cX3_operation 44 = .ok (.athrow, 1) := by decide +kernel
theorem dX3_operation_45 : decode cX3_operation 45 = .ok (.iload_n 1, 1) := by decide +kernel
theorem dX3_operation_46 : decode cX3_operation 46 = .ok (.iload_n 2, 1) := by decide +kernel
theorem dX3_operation_47 : decode cX3_operation 47 = .ok (.invokestatic 70, 3) := by decide +kernel
theorem dX3_operation_50 : decode cX3_operation 50 = .ok (.istore 7, 2) := by decide +kernel
theorem dX3_operation_52 : decode cX3_operation 52 = .ok (.aload_n 0, 1) := by decide +kernel
theorem dX3_operation_53 : decode cX3_operation 53 = .ok (.getfield 12, 3) := by decide +kernel
theorem dX3_operation_56 : decode cX3_operation 56 = .ok (.iload 7, 2) := by decide +kernel
theorem dX3_operation_58 : decode cX3_operation 58 = .ok (.invokevirtual 74, 3) := by decide +kernel
theorem dX3_operation_61 : decode cX3_operation 61 = .ok (.ifCond .eq 13, 3) := by decide +kernel
theorem dX3_operation_64 : decode cX3_operation 64 = .ok (.new 49, 3) := by decide +kernel
theorem dX3_operation_67 : decode cX3_operation 67 = .ok (.dup, 1) := by decide +kernel
theorem dX3_operation_68 : decode cX3_operation 68 = .ok (.ldc 77, 2) := by decide +kernel
theorem dX3_operation_70 : decode cX3_operation 70 = .ok (.invokespecial 53, 3) := by decide +kernel
theorem dX3_operation_73 : decode cX3_operation 73 = .ok (.athrow, 1) := by decide +kernel
theorem dX3_operation_74 : decode cX3_operation 74 = .ok (.aload_n 0, 1) := by decide +kernel
theorem dX3_operation_75 : decode cX3_operation 75 = .ok (.getfield 21, 3) := by decide +kernel
theorem dX3_operation_78 : decode cX3_operation 78 = .ok (.iload 7, 2) := by decide +kernel
theorem dX3_operation_80 : decode cX3_operation 80 = .ok (.invokevirtual 79, 3) := by decide +kernel
theorem dX3_operation_83 : decode cX3_operation 83 = .ok (.aload_n 0, 1) := by decide +kernel
theorem dX3_operation_84 : decode cX3_operation 84 = .ok (.getfield 12, 3) := by decide +kernel
theorem dX3_operation_87 : decode cX3_operation 87 = .ok (.iload 7, 2) := by decide +kernel
theorem dX3_operation_89 : decode cX3_operation 89 = .ok (.iload_n 3, 1) := by decide +kernel
theorem dX3_operation_90 : decode cX3_operation 90 = .ok (.iload 4, 2) := by decide +kernel
theorem dX3_operation_92 : decode cX3_operation 92 = .ok (.iload 5, 2) := by decide +kernel
theorem dX3_operation_94 : decode cX3_operation 94 = .ok (.iload 6, 2) := by decide +kernel
theorem dX3_operation_96 : decode cX3_operation 96 = .ok (.invokevirtual 83, 3) := by decide +kernel
theorem dX3_operation_99 : decode cX3_operation 99 = .ok (.ireturn, 1) := by decide +kernel
theorem dX3_strip_0 : decode cX3_strip 0 = .ok (.aload_n 0, 1) := by decide +kernel
theorem dX3_strip_1 : decode cX3_strip 1 = .ok (.getfield 12, 3) := by decide +kernel
theorem dX3_strip_4 : decode cX3_strip 4 = .ok (.iload_n 1, 1) := by decide +kernel
theorem dX3_strip_5 : decode cX3_strip 5 = .ok (.iload_n 2, 1) := by decide +kernel
theorem dX3_strip_6 : decode cX3_strip 6 = .ok (.invokevirtual 58, 3) := by decide +kernel
theorem dX3_strip_9 : decode cX3_strip 9 = .ok (.ifCond .ne 13, 3) := by decide +kernel
theorem dX3_strip_12 : decode cX3_strip 12 = .ok (.new 38, 3) := by decide +kernel
theorem dX3_strip_15 : decode cX3_strip 15 = .ok (.dup, 1) := by decide +kernel
theorem dX3_strip_16 : decode cX3_strip 16 = .ok (.ldc 62, 2) := by decide +kernel
theorem dX3_strip_18 : decode cX3_strip 18 = .ok (.invokespecial 42, 3) := by decide +kernel
theorem dX3_strip_21 : decode cX3_strip 21 = .ok (.athrow, 1) := by decide +kernel
theorem dX3_strip_22 : decode cX3_strip 22 = .ok (.iload_n 1, 1) := by decide +kernel
theorem dX3_strip_23 : decode cX3_strip 23 = .ok (.iload_n 2, 1) := by decide +kernel
theorem dX3_strip_24 : decode cX3_strip 24 = .ok (.invokestatic 70, 3) := by decide +kernel
theorem dX3_strip_27 : decode cX3_strip 27 = .ok (.istore_n 3, 1) := by decide +kernel
theorem dX3_strip_28 : decode cX3_strip 28 = .ok (.aload_n 0, 1) := by decide +kernel
theorem dX3_strip_29 : decode cX3_strip 29 = .ok (.getfield 21, 3) := by decide +kernel
theorem dX3_strip_32 : decode cX3_strip 32 = .ok (.iload_n 3, 1) := by decide +kernel
theorem dX3_strip_33 : decode cX3_strip 33 = .ok (.invokevirtual 79, 3) := by decide +kernel
theorem dX3_strip_36 : decode cX3_strip 36 = .ok (.aload_n 0, 1) := by decide +kernel
theorem dX3_strip_37 : decode cX3_strip 37 = .ok (.getfield 12, 3) := by decide +kernel
theorem dX3_strip_40 : decode cX3_strip 40 = .ok (.iload_n 3, 1) := by decide +kernel
theorem dX3_strip_41 : decode cX3_strip 41 = .ok (.invokevirtual 87, 3) := by decide +kernel
theorem dX3_strip_44 : decode cX3_strip 44 = .ok (.ireturn, 1) := by decide +kernel
theorem dX3_shape_0 : decode cX3_shape 0 = .ok (.aload_n 0, 1) := by decide +kernel
theorem dX3_shape_1 : decode cX3_shape 1 = .ok (.getfield 21, 3) := by decide +kernel
theorem dX3_shape_4 : decode cX3_shape 4 = .ok (.invokevirtual 90, 3) := by decide +kernel
theorem dX3_shape_7 : decode cX3_shape 7 = .ok (.ireturn, 1) := by decide +kernel
theorem dX3_reach_0 : decode cX3_reach 0 = .ok (.aload_n 0, 1) := by decide +kernel
theorem dX3_reach_1 : decode cX3_reach 1 = .ok (.getfield 21, 3) := by decide +kernel
theorem dX3_reach_4 : decode cX3_reach 4 = .ok (.invokevirtual 94, 3) := by decide +kernel
theorem dX3_reach_7 : decode cX3_reach 7 = .ok (.ireturn, 1) := by decide +kernel
theorem dX3_site_0 : decode cX3_site 0 = .ok (.aload_n 0, 1) := by decide +kernel
theorem dX3_site_1 : decode cX3_site 1 = .ok (.getfield 12, 3) := by decide +kernel
theorem dX3_site_4 : decode cX3_site 4 = .ok (.iload_n 1, 1) := by decide +kernel
theorem dX3_site_5 : decode cX3_site 5 = .ok (.iload_n 2, 1) := by decide +kernel
theorem dX3_site_6 : decode cX3_site 6 = .ok (.invokevirtual 58, 3) := by decide +kernel
theorem dX3_site_9 : decode cX3_site 9 = .ok (.ifCond .ne 13, 3) := by decide +kernel
theorem dX3_site_12 : decode cX3_site 12 = .ok (.new 97, 3) := by decide +kernel
theorem dX3_site_15 : decode cX3_site 15 = .ok (.dup, 1) := by decide +kernel
theorem dX3_site_16 : decode cX3_site 16 = .ok (.ldc 62, 2) := by decide +kernel
theorem dX3_site_18 : decode cX3_site 18 = .ok (.invokespecial 99, 3) := by decide +kernel
theorem dX3_site_21 : decode cX3_site 21 = .ok (.athrow, 1) := by decide +kernel
theorem dX3_site_22 : decode cX3_site 22 = .ok (.iload_n 1, 1) := by decide +kernel
theorem dX3_site_23 : decode cX3_site 23 = .ok (.iload_n 2, 1) := by decide +kernel
theorem dX3_site_24 : decode cX3_site 24 = .ok (.invokestatic 70, 3) := by decide +kernel
theorem dX3_site_27 : decode cX3_site 27 = .ok (.istore 4, 2) := by decide +kernel
theorem dX3_site_29 : decode cX3_site 29 = .ok (.iload_n 3, 1) := by decide +kernel
theorem dX3_site_30 : decode cX3_site 30 = .ok (.ifCond .lt 16, 3) := by decide +kernel
theorem dX3_site_33 : decode cX3_site 33 = .ok (.iload_n 3, 1) := by decide +kernel
theorem dX3_site_34 : decode cX3_site 34 = .ok (.aload_n 0, 1) := by decide +kernel
theorem dX3_site_35 : decode cX3_site 35 = .ok (.getfield 12, 3) := by decide +kernel
theorem dX3_site_38 : decode cX3_site 38 = .ok (.iload 4, 2) := by decide +kernel
theorem dX3_site_40 : decode cX3_site 40 = .ok (.invokevirtual 100, 3) := by decide +kernel
theorem dX3_site_43 : decode cX3_site 43 = .ok (.if_icmp .lt 13, 3) := by decide +kernel
theorem dX3_site_46 : decode cX3_site 46 = .ok (.new 97, 3) := by decide +kernel
theorem dX3_site_49 : decode cX3_site 49 = .ok (.dup, 1) := by decide +kernel
theorem dX3_site_50 : decode cX3_site 50 = .ok (.ldc 103, 2) := by decide +kernel
theorem dX3_site_52 : decode cX3_site 52 = .ok (.invokespecial 99, 3) := by decide +kernel
theorem dX3_site_55 : decode cX3_site 55 = .ok (.athrow, 1) := by decide +kernel
theorem dX3_site_56 : decode cX3_site 56 = .ok (.aload_n 0, 1) := by decide +kernel
theorem dX3_site_57 : decode cX3_site 57 = .ok (.getfield 21, 3) := by decide +kernel
theorem dX3_site_60 : decode cX3_site 60 = .ok (.iload 4, 2) := by decide +kernel
theorem dX3_site_62 : decode cX3_site 62 = .ok (.iload_n 3, 1) := by decide +kernel
theorem dX3_site_63 : decode cX3_site 63 = .ok (.invokestatic 105, 3) := by decide +kernel
theorem dX3_site_66 : decode cX3_site 66 = .ok (.invokevirtual 108, 3) := by decide +kernel
theorem dX3_site_69 : decode cX3_site 69 = .ok (.ireturn, 1) := by decide +kernel
theorem dX3_run_0 : decode cX3_run 0 = .ok (.iload_n 2, 1) := by decide +kernel
theorem dX3_run_1 : decode cX3_run 1 = .ok (.ifCond .lt 9, 3) := by decide +kernel
theorem dX3_run_4 : decode cX3_run 4 = .ok (.iload_n 2, 1) := by decide +kernel
theorem dX3_run_5 : decode cX3_run 5 = .ok (.bipush 60, 2) := by decide +kernel
theorem dX3_run_7 : decode cX3_run 7 = .ok (.if_icmp .le 13, 3) := by decide +kernel
theorem dX3_run_10 : decode cX3_run 10 = .ok (.new 38, 3) := by decide +kernel
theorem dX3_run_13 : decode cX3_run 13 = .ok (.dup, 1) := by decide +kernel
theorem dX3_run_14 : decode cX3_run 14 = .ok (.ldc 111, 2) := by decide +kernel
theorem dX3_run_16 : decode cX3_run 16 = .ok (.invokespecial 42, 3) := by decide +kernel
theorem dX3_run_19 : decode cX3_run 19 = .ok (.athrow, 1) := by decide +kernel
theorem dX3_run_20 : decode cX3_run 20 = .ok (.aload_n 0, 1) := by decide +kernel
theorem dX3_run_21 : decode cX3_run 21 = .ok (.getfield 30, 3) := by decide +kernel
theorem dX3_run_24 : decode cX3_run 24 = .ok (.iload_n 1, 1) := by decide +kernel
theorem dX3_run_25 : decode cX3_run 25 = .ok (.iload_n 2, 1) := by decide +kernel
theorem dX3_run_26 : decode cX3_run 26 = .ok (.invokevirtual 113, 3) := by decide +kernel
theorem dX3_run_29 : decode cX3_run 29 = .ok (.ireturn, 1) := by decide +kernel
theorem dX3_count_0 : decode cX3_count 0 = .ok (.iload_n 1, 1) := by decide +kernel
theorem dX3_count_1 : decode cX3_count 1 = .ok (.ifCond .lt 9, 3) := by decide +kernel
theorem dX3_count_4 : decode cX3_count 4 = .ok (.iload_n 1, 1) := by decide +kernel
theorem dX3_count_5 : decode cX3_count 5 = .ok (.bipush 6, 2) := by decide +kernel
theorem dX3_count_7 : decode cX3_count 7 = .ok (.if_icmp .lt 13, 3) := by decide +kernel
theorem dX3_count_10 : decode cX3_count 10 = .ok (.new 97, 3) := by decide +kernel
theorem dX3_count_13 : decode cX3_count 13 = .ok (.dup, 1) := by decide +kernel
theorem dX3_count_14 : decode cX3_count 14 = .ok (.ldc 117, 2) := by decide +kernel
theorem dX3_count_16 : decode cX3_count 16 = .ok (.invokespecial 99, 3) := by decide +kernel
theorem dX3_count_19 : decode cX3_count 19 = .ok (.athrow, 1) := by decide +kernel
theorem dX3_count_20 : decode cX3_count 20 = .ok (.aload_n 0, 1) := by decide +kernel
theorem dX3_count_21 : decode cX3_count 21 = .ok (.getfield 30, 3) := by decide +kernel
theorem dX3_count_24 : decode cX3_count 24 = .ok (.iload_n 1, 1) := by decide +kernel
theorem dX3_count_25 : decode cX3_count 25 = .ok (.invokevirtual 119, 3) := by decide +kernel
theorem dX3_count_28 : decode cX3_count 28 = .ok (.ireturn, 1) := by decide +kernel
theorem dX3_out_0 : decode cX3_out 0 = .ok (.iload_n 1, 1) := by decide +kernel
theorem dX3_out_1 : decode cX3_out 1 = .ok (.ifCond .lt 15, 3) := by decide +kernel
theorem dX3_out_4 : decode cX3_out 4 = .ok (.iload_n 1, 1) := by decide +kernel
theorem dX3_out_5 : decode cX3_out 5 = .ok (.aload_n 0, 1) := by decide +kernel
theorem dX3_out_6 : decode cX3_out 6 = .ok (.getfield 30, 3) := by decide +kernel
theorem dX3_out_9 : decode cX3_out 9 = .ok (.iconst 0, 1) := by decide +kernel
theorem dX3_out_10 : decode cX3_out 10 = .ok (.invokevirtual 119, 3) := by decide +kernel
theorem dX3_out_13 : decode cX3_out 13 = .ok (.if_icmp .lt 13, 3) := by decide +kernel
theorem dX3_out_16 : decode cX3_out 16 = .ok (.new 97, 3) := by decide +kernel
theorem dX3_out_19 : decode cX3_out 19 = .ok (.dup, 1) := by decide +kernel
theorem dX3_out_20 : decode cX3_out 20 = .ok (.ldc 122, 2) := by decide +kernel
theorem dX3_out_22 : decode cX3_out 22 = .ok (.invokespecial 99, 3) := by decide +kernel
theorem dX3_out_25 : decode cX3_out 25 = .ok (.athrow, 1) := by decide +kernel
theorem dX3_out_26 : decode cX3_out 26 = .ok (.aload_n 0, 1) := by decide +kernel
theorem dX3_out_27 : decode cX3_out 27 = .ok (.getfield 30, 3) := by decide +kernel
theorem dX3_out_30 : decode cX3_out 30 = .ok (.iload_n 1, 1) := by decide +kernel
theorem dX3_out_31 : decode cX3_out 31 = .ok (.invokevirtual 124, 3) := by decide +kernel
theorem dX3_out_34 : decode cX3_out 34 = .ok (.ireturn, 1) := by decide +kernel
theorem dX0_init_0 : decode cX0_init 0 = .ok (.aload_n 0, 1) := by decide +kernel
theorem dX0_init_1 : decode cX0_init 1 = .ok (.invokespecial 3, 3) := by decide +kernel
theorem dX0_init_4 : decode cX0_init 4 = .ok (.aload_n 0, 1) := by decide +kernel
theorem dX0_init_5 : decode cX0_init 5 = .ok (.bipush 72, 2) := by decide +kernel
theorem dX0_init_7 : decode cX0_init 7 = .ok (.newarray .long, 2) := by decide +kernel
theorem dX0_init_9 : decode cX0_init 9 = .ok (.putfield 9, 3) := by decide +kernel
theorem dX0_init_12 : decode cX0_init 12 = .ok (.aload_n 0, 1) := by decide +kernel
theorem dX0_init_13 : decode cX0_init 13 = .ok (.bipush 12, 2) := by decide +kernel
theorem dX0_init_15 : decode cX0_init 15 = .ok (.newarray .int, 2) := by decide +kernel
theorem dX0_init_17 : decode cX0_init 17 = .ok (.putfield 15, 3) := by decide +kernel
theorem dX0_init_20 : decode cX0_init 20 = .ok (.aload_n 0, 1) := by decide +kernel
theorem dX0_init_21 : decode cX0_init 21 = .ok (.bipush 12, 2) := by decide +kernel
theorem dX0_init_23 : decode cX0_init 23 = .ok (.newarray .int, 2) := by decide +kernel
theorem dX0_init_25 : decode cX0_init 25 = .ok (.putfield 19, 3) := by decide +kernel
theorem dX0_init_28 : decode cX0_init 28 = .ok (.aload_n 0, 1) := by decide +kernel
theorem dX0_init_29 : decode cX0_init 29 = .ok (.bipush 12, 2) := by decide +kernel
theorem dX0_init_31 : decode cX0_init 31 = .ok (.newarray .int, 2) := by decide +kernel
theorem dX0_init_33 : decode cX0_init 33 = .ok (.putfield 22, 3) := by decide +kernel
theorem dX0_init_36 : decode cX0_init 36 = .ok (.aload_n 0, 1) := by decide +kernel
theorem dX0_init_37 : decode cX0_init 37 = .ok (.sipush 401, 3) := by decide +kernel
theorem dX0_init_40 : decode cX0_init 40 = .ok (.newarray .int, 2) := by decide +kernel
theorem dX0_init_42 : decode cX0_init 42 = .ok (.putfield 25, 3) := by decide +kernel
theorem dX0_init_45 : decode cX0_init 45 = .ok (.aload_n 0, 1) := by decide +kernel
theorem dX0_init_46 : decode cX0_init 46 = .ok (.sipush 1203, 3) := by decide +kernel
theorem dX0_init_49 : decode cX0_init 49 = .ok (.newarray .long, 2) := by decide +kernel
theorem dX0_init_51 : decode cX0_init 51 = .ok (.putfield 28, 3) := by decide +kernel
theorem dX0_init_54 : decode cX0_init 54 = .ok (.aload_n 0, 1) := by decide +kernel
theorem dX0_init_55 : decode cX0_init 55 = .ok (.bipush 40, 2) := by decide +kernel
theorem dX0_init_57 : decode cX0_init 57 = .ok (.newarray .int, 2) := by decide +kernel
theorem dX0_init_59 : decode cX0_init 59 = .ok (.putfield 31, 3) := by decide +kernel
theorem dX0_init_62 : decode cX0_init 62 = .ok (.aload_n 0, 1) := by decide +kernel
theorem dX0_init_63 : decode cX0_init 63 = .ok (.bipush 6, 2) := by decide +kernel
theorem dX0_init_65 : decode cX0_init 65 = .ok (.newarray .int, 2) := by decide +kernel
theorem dX0_init_67 : decode cX0_init 67 = .ok (.putfield 34, 3) := by decide +kernel
theorem dX0_init_70 : decode cX0_init 70 = .ok (.aload_n 0, 1) := by decide +kernel
theorem dX0_init_71 : decode cX0_init 71 = .ok (.aload_n 1, 1) := by decide +kernel
theorem dX0_init_72 : decode cX0_init 72 = .ok (.putfield 37, 3) := by decide +kernel
theorem dX0_init_75 : decode cX0_init 75 = .ok (.aload_n 0, 1) := by decide +kernel
theorem dX0_init_76 : decode cX0_init 76 = .ok (.aload_n 2, 1) := by decide +kernel
theorem dX0_init_77 : decode cX0_init 77 = .ok (.putfield 41, 3) := by decide +kernel
theorem dX0_init_80 : decode cX0_init 80 = .ok (.return_, 1) := by decide +kernel
theorem dX0_tally_0 : decode cX0_tally 0 = .ok (.aload_n 0, 1) := by decide +kernel
theorem dX0_tally_1 : decode cX0_tally 1 = .ok (.getfield 34, 3) := by decide +kernel
theorem dX0_tally_4 : decode cX0_tally 4 = .ok (.iload_n 1, 1) := by decide +kernel
theorem dX0_tally_5 : decode cX0_tally 5 = .ok (.iaload, 1) := by decide +kernel
theorem dX0_tally_6 : decode cX0_tally 6 = .ok (.ireturn, 1) := by decide +kernel
theorem dX0_valuePutOut_0 : decode cX0_valuePutOut 0 = .ok (.aload_n 0, 1) := by decide +kernel
theorem dX0_valuePutOut_1 : decode cX0_valuePutOut 1 = .ok (.getfield 31, 3) := by decide +kernel
theorem dX0_valuePutOut_4 : decode cX0_valuePutOut 4 = .ok (.iload_n 1, 1) := by decide +kernel
theorem dX0_valuePutOut_5 : decode cX0_valuePutOut 5 = .ok (.iaload, 1) := by decide +kernel
theorem dX0_valuePutOut_6 : decode cX0_valuePutOut 6 = .ok (.ireturn, 1) := by decide +kernel
theorem dX0_execute_0 : decode cX0_execute 0 = .ok (.aload_n 0, 1) := by decide +kernel
theorem dX0_execute_1 : decode cX0_execute 1 = .ok (.iload_n 1, 1) := by decide +kernel
theorem dX0_execute_2 : decode cX0_execute 2 = .ok (.putfield 45, 3) := by decide +kernel
theorem dX0_execute_5 : decode cX0_execute 5 = .ok (.aload_n 0, 1) := by decide +kernel
theorem dX0_execute_6 : decode cX0_execute 6 = .ok (.iload_n 2, 1) := by decide +kernel
theorem dX0_execute_7 : decode cX0_execute 7 = .ok (.putfield 49, 3) := by decide +kernel
theorem dX0_execute_10 : decode cX0_execute 10 = .ok (.aload_n 0, 1) := by decide +kernel
theorem dX0_execute_11 : decode cX0_execute 11 = .ok (.iconst 0, 1) := by decide +kernel
theorem dX0_execute_12 : decode cX0_execute 12 = .ok (.putfield 53, 3) := by decide +kernel
theorem dX0_execute_15 : decode cX0_execute 15 = .ok (.aload_n 0, 1) := by decide +kernel
theorem dX0_execute_16 : decode cX0_execute 16 = .ok (.iconst 0, 1) := by decide +kernel
theorem dX0_execute_17 : decode cX0_execute 17 = .ok (.putfield 56, 3) := by decide +kernel
theorem dX0_execute_20 : decode cX0_execute 20 = .ok (.aload_n 0, 1) := by decide +kernel
theorem dX0_execute_21 : decode cX0_execute 21 = .ok (.iconst 0, 1) := by decide +kernel
theorem dX0_execute_22 : decode cX0_execute 22 = .ok (.putfield 59, 3) := by decide +kernel
theorem dX0_execute_25 : decode cX0_execute 25 = .ok (.aload_n 0, 1) := by decide +kernel
theorem dX0_execute_26 : decode cX0_execute 26 = .ok (.getfield 34, 3) := by decide +kernel
theorem dX0_execute_29 : decode cX0_execute 29 = .ok (.iconst 0, 1) := by decide +kernel
theorem dX0_execute_30 : decode cX0_execute 30 = .ok (.invokestatic 62, 3) := by decide +kernel
theorem dX0_execute_33 : decode cX0_execute 33 = .ok (.aload_n 0, 1) := by decide +kernel
theorem dX0_execute_34 : decode cX0_execute 34 = .ok (.invokevirtual 68, 3) := by decide +kernel
theorem dX0_execute_37 : decode cX0_execute 37 = .ok (.iconst 0, 1) := by decide +kernel
theorem dX0_execute_38 : decode cX0_execute 38 = .ok (.istore_n 3, 1) := by decide +kernel
theorem dX0_execute_39 : decode cX0_execute 39 = .ok (.iload_n 3, 1) := by decide +kernel
theorem dX0_execute_40 : decode cX0_execute 40 = .ok (.sipush 400, 3) := by decide +kernel
theorem dX0_execute_43 : decode cX0_execute 43 = .ok (.if_icmp .gt 20, 3) := by decide +kernel
theorem dX0_execute_46 : decode cX0_execute 46 = .ok (.aload_n 0, 1) := by decide +kernel
theorem dX0_execute_47 : decode cX0_execute 47 = .ok (.invokevirtual 71, 3) := by decide +kernel
theorem dX0_execute_50 : decode cX0_execute 50 = .ok (.ifCond .eq 13, 3) := by decide +kernel
theorem dX0_execute_53 : decode cX0_execute 53 = .ok (.aload_n 0, 1) := by decide +kernel
theorem dX0_execute_54 : decode cX0_execute 54 = .ok (.invokevirtual 75, 3) := by decide +kernel
theorem dX0_execute_57 : decode cX0_execute 57 = .ok (.iinc 3 1, 3) := by decide +kernel
theorem dX0_execute_60 : decode cX0_execute 60 = .ok (.goto (-21), 3) := by decide +kernel
theorem dX0_execute_63 : decode cX0_execute 63 = .ok (.aload_n 0, 1) := by decide +kernel
theorem dX0_execute_64 : decode cX0_execute 64 = .ok (.getfield 59, 3) := by decide +kernel
theorem dX0_execute_67 : decode cX0_execute 67 = .ok (.ireturn, 1) := by decide +kernel
theorem dX0_begin_0 : decode cX0_begin 0 = .ok (.aload_n 0, 1) := by decide +kernel
theorem dX0_begin_1 : decode cX0_begin 1 = .ok (.getfield 49, 3) := by decide +kernel
theorem dX0_begin_4 : decode cX0_begin 4 = .ok (.iconst 1, 1) := by decide +kernel
theorem dX0_begin_5 : decode cX0_begin 5 = .ok (.if_icmp .ge 9, 3) := by decide +kernel
theorem dX0_begin_8 : decode cX0_begin 8 = .ok (.aload_n 0, 1) := by decide +kernel
theorem dX0_begin_9 : decode cX0_begin 9 = .ok (.iconst 3, 1) := by decide +kernel
theorem dX0_begin_10 : decode cX0_begin 10 = .ok (.putfield 59, 3) := by decide +kernel
theorem dX0_begin_13 : decode cX0_begin 13 = .ok (.return_, 1) := by decide +kernel
theorem dX0_begin_14 : decode cX0_begin 14 = .ok (.aload_n 0, 1) := by decide +kernel
theorem dX0_begin_15 : decode cX0_begin 15 = .ok (.iconst 0, 1) := by decide +kernel
theorem dX0_begin_16 : decode cX0_begin 16 = .ok (.invokevirtual 78, 3) := by decide +kernel
theorem dX0_begin_19 : decode cX0_begin 19 = .ok (.lstore_n 1, 1) := by decide +kernel
theorem dX0_begin_20 : decode cX0_begin 20 = .ok (.aload_n 0, 1) := by decide +kernel
theorem dX0_begin_21 : decode cX0_begin 21 = .ok (.getfield 34, 3) := by decide +kernel
theorem dX0_begin_24 : decode cX0_begin 24 = .ok (.iconst 1, 1) := by decide +kernel
theorem dX0_begin_25 : decode cX0_begin 25 = .ok (.dup2, 1) := by decide +kernel
theorem dX0_begin_26 : decode cX0_begin 26 = .ok (.iaload, 1) := by decide +kernel
theorem dX0_begin_27 : decode cX0_begin 27 = .ok (.iconst 1, 1) := by decide +kernel
theorem dX0_begin_28 : decode cX0_begin 28 = .ok (.iadd, 1) := by decide +kernel
theorem dX0_begin_29 : decode cX0_begin 29 = .ok (.iastore, 1) := by decide +kernel
theorem dX0_begin_30 : decode cX0_begin 30 = .ok (.aload_n 0, 1) := by decide +kernel
theorem dX0_begin_31 : decode cX0_begin 31 = .ok (.getfield 37, 3) := by decide +kernel
theorem dX0_begin_34 : decode cX0_begin 34 = .ok (.iconst 0, 1) := by decide +kernel
theorem dX0_begin_35 : decode cX0_begin 35 = .ok (.iconst 0, 1) := by decide +kernel
theorem dX0_begin_36 : decode cX0_begin 36 = .ok (.invokevirtual 82, 3) := by decide +kernel
theorem dX0_begin_39 : decode cX0_begin 39 = .ok (.istore_n 3, 1) := by decide +kernel
theorem dX0_begin_40 : decode cX0_begin 40 = .ok (.iload_n 3, 1) := by decide +kernel
theorem dX0_begin_41 : decode cX0_begin 41 = .ok (.iconst (-1), 1) := by decide +kernel
theorem dX0_begin_42 : decode cX0_begin 42 = .ok (.if_icmp .ne 10, 3) := by decide +kernel
theorem dX0_begin_45 : decode cX0_begin 45 = .ok (.aload_n 0, 1) := by decide +kernel
theorem dX0_begin_46 : decode cX0_begin 46 = .ok (.bipush 6, 2) := by decide +kernel
theorem dX0_begin_48 : decode cX0_begin 48 = .ok (.putfield 59, 3) := by decide +kernel
theorem dX0_begin_51 : decode cX0_begin 51 = .ok (.return_, 1) := by decide +kernel
theorem dX0_begin_52 : decode cX0_begin 52 = .ok (.aload_n 0, 1) := by decide +kernel
theorem dX0_begin_53 : decode cX0_begin 53 = .ok (.getfield 34, 3) := by decide +kernel
theorem dX0_begin_56 : decode cX0_begin 56 = .ok (.iconst 3, 1) := by decide +kernel
theorem dX0_begin_57 : decode cX0_begin 57 = .ok (.dup2, 1) := by decide +kernel
theorem dX0_begin_58 : decode cX0_begin 58 = .ok (.iaload, 1) := by decide +kernel
theorem dX0_begin_59 : decode cX0_begin 59 = .ok (.iconst 1, 1) := by decide +kernel
theorem dX0_begin_60 : decode cX0_begin 60 = .ok (.iadd, 1) := by decide +kernel
theorem dX0_begin_61 : decode cX0_begin 61 = .ok (.iastore, 1) := by decide +kernel
theorem dX0_begin_62 : decode cX0_begin 62 = .ok (.aload_n 0, 1) := by decide +kernel
theorem dX0_begin_63 : decode cX0_begin 63 = .ok (.iload_n 3, 1) := by decide +kernel
theorem dX0_begin_64 : decode cX0_begin 64 = .ok (.lload_n 1, 1) := by decide +kernel
theorem dX0_begin_65 : decode cX0_begin 65 = .ok (.lconst 0, 1) := by decide +kernel
theorem dX0_begin_66 : decode cX0_begin 66 = .ok (.invokevirtual 88, 3) := by decide +kernel
theorem dX0_begin_69 : decode cX0_begin 69 = .ok (.return_, 1) := by decide +kernel
theorem dX0_isGoing_0 : decode cX0_isGoing 0 = .ok (.aload_n 0, 1) := by decide +kernel
theorem dX0_isGoing_1 : decode cX0_isGoing 1 = .ok (.getfield 53, 3) := by decide +kernel
theorem dX0_isGoing_4 : decode cX0_isGoing 4 = .ok (.istore_n 1, 1) := by decide +kernel
theorem dX0_isGoing_5 : decode cX0_isGoing 5 = .ok (.iload_n 1, 1) := by decide +kernel
theorem dX0_isGoing_6 : decode cX0_isGoing 6 = .ok (.ifCond .le 31, 3) := by decide +kernel
theorem dX0_isGoing_9 : decode cX0_isGoing 9 = .ok (.aload_n 0, 1) := by decide +kernel
theorem dX0_isGoing_10 : decode cX0_isGoing 10 = .ok (.getfield 59, 3) := by decide +kernel
theorem dX0_isGoing_13 : decode cX0_isGoing 13 = .ok (.ifCond .ne 24, 3) := by decide +kernel
theorem dX0_isGoing_16 : decode cX0_isGoing 16 = .ok (.aload_n 0, 1) := by decide +kernel
theorem dX0_isGoing_17 : decode cX0_isGoing 17 = .ok (.iload_n 1, 1) := by decide +kernel
theorem dX0_isGoing_18 : decode cX0_isGoing 18 = .ok (.iconst 1, 1) := by decide +kernel
theorem dX0_isGoing_19 : decode cX0_isGoing 19 = .ok (.isub, 1) := by decide +kernel
theorem dX0_isGoing_20 : decode cX0_isGoing 20 = .ok (.invokevirtual 92, 3) := by decide +kernel
theorem dX0_isGoing_23 : decode cX0_isGoing 23 = .ok (.ifCond .eq 14, 3) := by decide +kernel
theorem dX0_isGoing_26 : decode cX0_isGoing 26 = .ok (.aload_n 0, 1) := by decide +kernel
theorem dX0_isGoing_27 : decode cX0_isGoing 27 = .ok (.lconst 0, 1) := by decide +kernel
theorem dX0_isGoing_28 : decode cX0_isGoing 28 = .ok (.invokevirtual 96, 3) := by decide +kernel
theorem dX0_isGoing_31 : decode cX0_isGoing 31 = .ok (.iinc 1 (-1), 3) := by decide +kernel
theorem dX0_isGoing_34 : decode cX0_isGoing 34 = .ok (.goto (-29), 3) := by decide +kernel
theorem dX0_isGoing_37 : decode cX0_isGoing 37 = .ok (.aload_n 0, 1) := by decide +kernel
theorem dX0_isGoing_38 : decode cX0_isGoing 38 = .ok (.getfield 59, 3) := by decide +kernel
theorem dX0_isGoing_41 : decode cX0_isGoing 41 = .ok (.ifCond .ne 14, 3) := by decide +kernel
theorem dX0_isGoing_44 : decode cX0_isGoing 44 = .ok (.aload_n 0, 1) := by decide +kernel
theorem dX0_isGoing_45 : decode cX0_isGoing 45 = .ok (.getfield 53, 3) := by decide +kernel
theorem dX0_isGoing_48 : decode cX0_isGoing 48 = .ok (.ifCond .le 7, 3) := by decide +kernel
theorem dX0_isGoing_51 : decode cX0_isGoing 51 = .ok (.iconst 1, 1) := by decide +kernel
theorem dX0_isGoing_52 : decode cX0_isGoing 52 = .ok (.goto 4, 3) := by decide +kernel
theorem dX0_isGoing_55 : decode cX0_isGoing 55 = .ok (.iconst 0, 1) := by decide +kernel
theorem dX0_isGoing_56 : decode cX0_isGoing 56 = .ok (.ireturn, 1) := by decide +kernel
theorem dX0_isBehindLast_0 : decode cX0_isBehindLast 0 = .ok (.aload_n 0, 1) := by decide +kernel
theorem dX0_isBehindLast_1 : decode cX0_isBehindLast 1 = .ok (.getfield 19, 3) := by decide +kernel
theorem dX0_isBehindLast_4 : decode cX0_isBehindLast 4 = .ok (.iload_n 1, 1) := by decide +kernel
theorem dX0_isBehindLast_5 : decode cX0_isBehindLast 5 = .ok (.iaload, 1) := by decide +kernel
theorem dX0_isBehindLast_6 : decode cX0_isBehindLast 6 = .ok (.aload_n 0, 1) := by decide +kernel
theorem dX0_isBehindLast_7 : decode cX0_isBehindLast 7 = .ok (.getfield 37, 3) := by decide +kernel
theorem dX0_isBehindLast_10 : decode cX0_isBehindLast 10 = .ok (.aload_n 0, 1) := by decide +kernel
theorem dX0_isBehindLast_11 : decode cX0_isBehindLast 11 = .ok (.getfield 15, 3) := by decide +kernel
theorem dX0_isBehindLast_14 : decode cX0_isBehindLast 14 = .ok (.iload_n 1, 1) := by decide +kernel
theorem dX0_isBehindLast_15 : decode cX0_isBehindLast 15 = .ok (.iaload, 1) := by decide +kernel
theorem dX0_isBehindLast_16 : decode cX0_isBehindLast 16 = .ok (.invokevirtual 100, 3) := by decide +kernel
theorem dX0_isBehindLast_19 : decode cX0_isBehindLast 19 = .ok (.if_icmp .lt 7, 3) := by decide +kernel
theorem dX0_isBehindLast_22 : decode cX0_isBehindLast 22 = .ok (.iconst 1, 1) := by decide +kernel
theorem dX0_isBehindLast_23 : decode cX0_isBehindLast 23 = .ok (.goto 4, 3) := by decide +kernel
theorem dX0_isBehindLast_26 : decode cX0_isBehindLast 26 = .ok (.iconst 0, 1) := by decide +kernel
theorem dX0_isBehindLast_27 : decode cX0_isBehindLast 27 = .ok (.ireturn, 1) := by decide +kernel
theorem dX0_step_0 : decode cX0_step 0 = .ok (.aload_n 0, 1) := by decide +kernel
theorem dX0_step_1 : decode cX0_step 1 = .ok (.getfield 34, 3) := by decide +kernel
theorem dX0_step_4 : decode cX0_step 4 = .ok (.iconst 4, 1) := by decide +kernel
theorem dX0_step_5 : decode cX0_step 5 = .ok (.iaload, 1) := by decide +kernel
theorem dX0_step_6 : decode cX0_step 6 = .ok (.sipush 400, 3) := by decide +kernel
theorem dX0_step_9 : decode cX0_step 9 = .ok (.if_icmp .lt 9, 3) := by decide +kernel
theorem dX0_step_12 : decode cX0_step 12 = .ok (.aload_n 0, 1) := by decide +kernel
theorem dX0_step_13 : decode cX0_step 13 = .ok (.iconst 5, 1) := by decide +kernel
theorem dX0_step_14 : decode cX0_step 14 = .ok (.putfield 59, 3) := by decide +kernel
theorem dX0_step_17 : decode cX0_step 17 = .ok (.return_, 1) := by decide +kernel
theorem dX0_step_18 : decode cX0_step 18 = .ok (.aload_n 0, 1) := by decide +kernel
theorem dX0_step_19 : decode cX0_step 19 = .ok (.getfield 34, 3) := by decide +kernel
theorem dX0_step_22 : decode cX0_step 22 = .ok (.iconst 4, 1) := by decide +kernel
theorem dX0_step_23 : decode cX0_step 23 = .ok (.dup2, 1) := by decide +kernel
theorem dX0_step_24 : decode cX0_step 24 = .ok (.iaload, 1) := by decide +kernel
theorem dX0_step_25 : decode cX0_step 25 = .ok (.iconst 1, 1) := by decide +kernel
theorem dX0_step_26 : decode cX0_step 26 = .ok (.iadd, 1) := by decide +kernel
theorem dX0_step_27 : decode cX0_step 27 = .ok (.iastore, 1) := by decide +kernel
theorem dX0_step_28 : decode cX0_step 28 = .ok (.aload_n 0, 1) := by decide +kernel
theorem dX0_step_29 : decode cX0_step 29 = .ok (.getfield 53, 3) := by decide +kernel
theorem dX0_step_32 : decode cX0_step 32 = .ok (.iconst 1, 1) := by decide +kernel
theorem dX0_step_33 : decode cX0_step 33 = .ok (.isub, 1) := by decide +kernel
theorem dX0_step_34 : decode cX0_step 34 = .ok (.istore_n 1, 1) := by decide +kernel
theorem dX0_step_35 : decode cX0_step 35 = .ok (.aload_n 0, 1) := by decide +kernel
theorem dX0_step_36 : decode cX0_step 36 = .ok (.getfield 15, 3) := by decide +kernel
theorem dX0_step_39 : decode cX0_step 39 = .ok (.iload_n 1, 1) := by decide +kernel
end
section
theorem dX0_step_40 : decode cX0_step 40 = .ok (.iaload, 1) := by decide +kernel
theorem dX0_step_41 : decode cX0_step 41 = .ok (.aload_n 0, 1) := by decide +kernel
theorem dX0_step_42 : decode cX0_step 42 = .ok (.getfield 19, 3) := by decide +kernel
theorem dX0_step_45 : decode cX0_step 45 = .ok (.iload_n 1, 1) := by decide +kernel
theorem dX0_step_46 : decode cX0_step 46 = .ok (.iaload, 1) := by decide +kernel
theorem dX0_step_47 : decode cX0_step 47 = .ok (.invokestatic 104, 3) := by decide +kernel
theorem dX0_step_50 : decode cX0_step 50 = .ok (.istore_n 2, 1) := by decide +kernel
theorem dX0_step_51 : decode cX0_step 51 = .ok (.aload_n 0, 1) := by decide +kernel
theorem dX0_step_52 : decode cX0_step 52 = .ok (.getfield 19, 3) := by decide +kernel
theorem dX0_step_55 : decode cX0_step 55 = .ok (.iload_n 1, 1) := by decide +kernel
theorem dX0_step_56 : decode cX0_step 56 = .ok (.dup2, 1) := by decide +kernel
theorem dX0_step_57 : decode cX0_step 57 = .ok (.iaload, 1) := by decide +kernel
theorem dX0_step_58 : decode cX0_step 58 = .ok (.iconst 1, 1) := by decide +kernel
theorem dX0_step_59 : decode cX0_step 59 = .ok (.iadd, 1) := by decide +kernel
theorem dX0_step_60 : decode cX0_step 60 = .ok (.iastore, 1) := by decide +kernel
theorem dX0_step_61 : decode cX0_step 61 = .ok (.aload_n 0, 1) := by decide +kernel
theorem dX0_step_62 : decode cX0_step 62 = .ok (.iload_n 2, 1) := by decide +kernel
theorem dX0_step_63 : decode cX0_step 63 = .ok (.iload_n 1, 1) := by decide +kernel
theorem dX0_step_64 : decode cX0_step 64 = .ok (.bipush 6, 2) := by decide +kernel
theorem dX0_step_66 : decode cX0_step 66 = .ok (.imul, 1) := by decide +kernel
theorem dX0_step_67 : decode cX0_step 67 = .ok (.invokevirtual 107, 3) := by decide +kernel
theorem dX0_step_70 : decode cX0_step 70 = .ok (.return_, 1) := by decide +kernel
theorem dX0_perform_0 : decode cX0_perform 0 = .ok (.iload_n 2, 1) := by decide +kernel
theorem dX0_perform_1 : decode cX0_perform 1 = .ok (.aload_n 0, 1) := by decide +kernel
theorem dX0_perform_2 : decode cX0_perform 2 = .ok (.getfield 37, 3) := by decide +kernel
theorem dX0_perform_5 : decode cX0_perform 5 = .ok (.iload_n 1, 1) := by decide +kernel
theorem dX0_perform_6 : decode cX0_perform 6 = .ok (.invokevirtual 111, 3) := by decide +kernel
theorem dX0_perform_9 : decode cX0_perform 9 = .ok (.iadd, 1) := by decide +kernel
theorem dX0_perform_10 : decode cX0_perform 10 = .ok (.istore_n 3, 1) := by decide +kernel
theorem dX0_perform_11 : decode cX0_perform 11 = .ok (.aload_n 0, 1) := by decide +kernel
theorem dX0_perform_12 : decode cX0_perform 12 = .ok (.getfield 37, 3) := by decide +kernel
theorem dX0_perform_15 : decode cX0_perform 15 = .ok (.iload_n 1, 1) := by decide +kernel
theorem dX0_perform_16 : decode cX0_perform 16 = .ok (.invokevirtual 114, 3) := by decide +kernel
theorem dX0_perform_19 : decode cX0_perform 19 = .ok (.tableswitch 214 0 10 #[57, 75, 99, 99, 108, 117, 126, 135, 144, 157, 193], 57) := by decide +kernel
theorem dX0_perform_76 : decode cX0_perform 76 = .ok (.aload_n 0, 1) := by decide +kernel
theorem dX0_perform_77 : decode cX0_perform 77 = .ok (.getfield 9, 3) := by decide +kernel
theorem dX0_perform_80 : decode cX0_perform 80 = .ok (.iload_n 3, 1) := by decide +kernel
theorem dX0_perform_81 : decode cX0_perform 81 = .ok (.aload_n 0, 1) := by decide +kernel
theorem dX0_perform_82 : decode cX0_perform 82 = .ok (.getfield 37, 3) := by decide +kernel
theorem dX0_perform_85 : decode cX0_perform 85 = .ok (.iload_n 1, 1) := by decide +kernel
theorem dX0_perform_86 : decode cX0_perform 86 = .ok (.invokevirtual 117, 3) := by decide +kernel
theorem dX0_perform_89 : decode cX0_perform 89 = .ok (.i2l, 1) := by decide +kernel
theorem dX0_perform_90 : decode cX0_perform 90 = .ok (.lastore, 1) := by decide +kernel
theorem dX0_perform_91 : decode cX0_perform 91 = .ok (.goto 152, 3) := by decide +kernel
theorem dX0_perform_94 : decode cX0_perform 94 = .ok (.aload_n 0, 1) := by decide +kernel
theorem dX0_perform_95 : decode cX0_perform 95 = .ok (.getfield 9, 3) := by decide +kernel
theorem dX0_perform_98 : decode cX0_perform 98 = .ok (.iload_n 3, 1) := by decide +kernel
theorem dX0_perform_99 : decode cX0_perform 99 = .ok (.aload_n 0, 1) := by decide +kernel
theorem dX0_perform_100 : decode cX0_perform 100 = .ok (.getfield 9, 3) := by decide +kernel
theorem dX0_perform_103 : decode cX0_perform 103 = .ok (.iload_n 2, 1) := by decide +kernel
theorem dX0_perform_104 : decode cX0_perform 104 = .ok (.aload_n 0, 1) := by decide +kernel
theorem dX0_perform_105 : decode cX0_perform 105 = .ok (.getfield 37, 3) := by decide +kernel
theorem dX0_perform_108 : decode cX0_perform 108 = .ok (.iload_n 1, 1) := by decide +kernel
theorem dX0_perform_109 : decode cX0_perform 109 = .ok (.invokevirtual 117, 3) := by decide +kernel
theorem dX0_perform_112 : decode cX0_perform 112 = .ok (.iadd, 1) := by decide +kernel
theorem dX0_perform_113 : decode cX0_perform 113 = .ok (.laload, 1) := by decide +kernel
theorem dX0_perform_114 : decode cX0_perform 114 = .ok (.lastore, 1) := by decide +kernel
theorem dX0_perform_115 : decode cX0_perform 115 = .ok (.goto 128, 3) := by decide +kernel
theorem dX0_perform_118 : decode cX0_perform 118 = .ok (.aload_n 0, 1) := by decide +kernel
theorem dX0_perform_119 : decode cX0_perform 119 = .ok (.iload_n 1, 1) := by decide +kernel
theorem dX0_perform_120 : decode cX0_perform 120 = .ok (.iload_n 2, 1) := by decide +kernel
theorem dX0_perform_121 : decode cX0_perform 121 = .ok (.invokevirtual 120, 3) := by decide +kernel
theorem dX0_perform_124 : decode cX0_perform 124 = .ok (.goto 119, 3) := by decide +kernel
theorem dX0_perform_127 : decode cX0_perform 127 = .ok (.aload_n 0, 1) := by decide +kernel
theorem dX0_perform_128 : decode cX0_perform 128 = .ok (.iload_n 1, 1) := by decide +kernel
theorem dX0_perform_129 : decode cX0_perform 129 = .ok (.iload_n 3, 1) := by decide +kernel
theorem dX0_perform_130 : decode cX0_perform 130 = .ok (.invokevirtual 123, 3) := by decide +kernel
theorem dX0_perform_133 : decode cX0_perform 133 = .ok (.goto 110, 3) := by decide +kernel
theorem dX0_perform_136 : decode cX0_perform 136 = .ok (.aload_n 0, 1) := by decide +kernel
theorem dX0_perform_137 : decode cX0_perform 137 = .ok (.iload_n 1, 1) := by decide +kernel
theorem dX0_perform_138 : decode cX0_perform 138 = .ok (.iload_n 2, 1) := by decide +kernel
theorem dX0_perform_139 : decode cX0_perform 139 = .ok (.invokevirtual 126, 3) := by decide +kernel
theorem dX0_perform_142 : decode cX0_perform 142 = .ok (.goto 101, 3) := by decide +kernel
theorem dX0_perform_145 : decode cX0_perform 145 = .ok (.aload_n 0, 1) := by decide +kernel
theorem dX0_perform_146 : decode cX0_perform 146 = .ok (.iload_n 1, 1) := by decide +kernel
theorem dX0_perform_147 : decode cX0_perform 147 = .ok (.iload_n 2, 1) := by decide +kernel
theorem dX0_perform_148 : decode cX0_perform 148 = .ok (.invokevirtual 129, 3) := by decide +kernel
theorem dX0_perform_151 : decode cX0_perform 151 = .ok (.goto 92, 3) := by decide +kernel
theorem dX0_perform_154 : decode cX0_perform 154 = .ok (.aload_n 0, 1) := by decide +kernel
theorem dX0_perform_155 : decode cX0_perform 155 = .ok (.iload_n 1, 1) := by decide +kernel
theorem dX0_perform_156 : decode cX0_perform 156 = .ok (.iload_n 2, 1) := by decide +kernel
theorem dX0_perform_157 : decode cX0_perform 157 = .ok (.invokevirtual 132, 3) := by decide +kernel
theorem dX0_perform_160 : decode cX0_perform 160 = .ok (.goto 83, 3) := by decide +kernel
theorem dX0_perform_163 : decode cX0_perform 163 = .ok (.aload_n 0, 1) := by decide +kernel
theorem dX0_perform_164 : decode cX0_perform 164 = .ok (.aload_n 0, 1) := by decide +kernel
theorem dX0_perform_165 : decode cX0_perform 165 = .ok (.getfield 9, 3) := by decide +kernel
theorem dX0_perform_168 : decode cX0_perform 168 = .ok (.iload_n 3, 1) := by decide +kernel
theorem dX0_perform_169 : decode cX0_perform 169 = .ok (.laload, 1) := by decide +kernel
theorem dX0_perform_170 : decode cX0_perform 170 = .ok (.invokevirtual 135, 3) := by decide +kernel
theorem dX0_perform_173 : decode cX0_perform 173 = .ok (.goto 70, 3) := by decide +kernel
theorem dX0_perform_176 : decode cX0_perform 176 = .ok (.aload_n 0, 1) := by decide +kernel
theorem dX0_perform_177 : decode cX0_perform 177 = .ok (.getfield 9, 3) := by decide +kernel
theorem dX0_perform_180 : decode cX0_perform 180 = .ok (.iload_n 3, 1) := by decide +kernel
theorem dX0_perform_181 : decode cX0_perform 181 = .ok (.laload, 1) := by decide +kernel
theorem dX0_perform_182 : decode cX0_perform 182 = .ok (.lconst 0, 1) := by decide +kernel
theorem dX0_perform_183 : decode cX0_perform 183 = .ok (.lcmp, 1) := by decide +kernel
theorem dX0_perform_184 : decode cX0_perform 184 = .ok (.ifCond .ne 59, 3) := by decide +kernel
theorem dX0_perform_187 : decode cX0_perform 187 = .ok (.aload_n 0, 1) := by decide +kernel
theorem dX0_perform_188 : decode cX0_perform 188 = .ok (.getfield 19, 3) := by decide +kernel
theorem dX0_perform_191 : decode cX0_perform 191 = .ok (.aload_n 0, 1) := by decide +kernel
theorem dX0_perform_192 : decode cX0_perform 192 = .ok (.getfield 53, 3) := by decide +kernel
theorem dX0_perform_195 : decode cX0_perform 195 = .ok (.iconst 1, 1) := by decide +kernel
theorem dX0_perform_196 : decode cX0_perform 196 = .ok (.isub, 1) := by decide +kernel
theorem dX0_perform_197 : decode cX0_perform 197 = .ok (.dup2, 1) := by decide +kernel
theorem dX0_perform_198 : decode cX0_perform 198 = .ok (.iaload, 1) := by decide +kernel
theorem dX0_perform_199 : decode cX0_perform 199 = .ok (.aload_n 0, 1) := by decide +kernel
theorem dX0_perform_200 : decode cX0_perform 200 = .ok (.getfield 37, 3) := by decide +kernel
theorem dX0_perform_203 : decode cX0_perform 203 = .ok (.iload_n 1, 1) := by decide +kernel
theorem dX0_perform_204 : decode cX0_perform 204 = .ok (.invokevirtual 117, 3) := by decide +kernel
theorem dX0_perform_207 : decode cX0_perform 207 = .ok (.iadd, 1) := by decide +kernel
theorem dX0_perform_208 : decode cX0_perform 208 = .ok (.iastore, 1) := by decide +kernel
theorem dX0_perform_209 : decode cX0_perform 209 = .ok (.goto 34, 3) := by decide +kernel
theorem dX0_perform_212 : decode cX0_perform 212 = .ok (.aload_n 0, 1) := by decide +kernel
theorem dX0_perform_213 : decode cX0_perform 213 = .ok (.aload_n 0, 1) := by decide +kernel
theorem dX0_perform_214 : decode cX0_perform 214 = .ok (.getfield 9, 3) := by decide +kernel
theorem dX0_perform_217 : decode cX0_perform 217 = .ok (.iload_n 3, 1) := by decide +kernel
theorem dX0_perform_218 : decode cX0_perform 218 = .ok (.laload, 1) := by decide +kernel
theorem dX0_perform_219 : decode cX0_perform 219 = .ok (.aload_n 0, 1) := by decide +kernel
theorem dX0_perform_220 : decode cX0_perform 220 = .ok (.getfield 37, 3) := by decide +kernel
theorem dX0_perform_223 : decode cX0_perform 223 = .ok (.iload_n 1, 1) := by decide +kernel
theorem dX0_perform_224 : decode cX0_perform 224 = .ok (.invokevirtual 117, 3) := by decide +kernel
theorem dX0_perform_227 : decode cX0_perform 227 = .ok (.invokevirtual 138, 3) := by decide +kernel
theorem dX0_perform_230 : decode cX0_perform 230 = .ok (.goto 13, 3) := by decide +kernel
theorem dX0_perform_233 : decode cX0_perform 233 = .ok (.aload_n 0, 1) := by decide +kernel
theorem dX0_perform_234 : decode cX0_perform 234 = .ok (.aload_n 0, 1) := by decide +kernel
theorem dX0_perform_235 : decode cX0_perform 235 = .ok (.getfield 9, 3) := by decide +kernel
theorem dX0_perform_238 : decode cX0_perform 238 = .ok (.iload_n 3, 1) := by decide +kernel
theorem dX0_perform_239 : decode cX0_perform 239 = .ok (.laload, 1) := by decide +kernel
theorem dX0_perform_240 : decode cX0_perform 240 = .ok (.invokevirtual 96, 3) := by decide +kernel
theorem dX0_perform_243 : decode cX0_perform 243 = .ok (.return_, 1) := by decide +kernel
theorem dX0_isObject_0 : decode cX0_isObject 0 = .ok (.lload_n 0, 1) := by decide +kernel
theorem dX0_isObject_1 : decode cX0_isObject 1 = .ok (.ldc2_w 142, 3) := by decide +kernel
theorem dX0_isObject_4 : decode cX0_isObject 4 = .ok (.lcmp, 1) := by decide +kernel
theorem dX0_isObject_5 : decode cX0_isObject 5 = .ok (.ifCond .lt 7, 3) := by decide +kernel
theorem dX0_isObject_8 : decode cX0_isObject 8 = .ok (.iconst 1, 1) := by decide +kernel
theorem dX0_isObject_9 : decode cX0_isObject 9 = .ok (.goto 4, 3) := by decide +kernel
theorem dX0_isObject_12 : decode cX0_isObject 12 = .ok (.iconst 0, 1) := by decide +kernel
theorem dX0_isObject_13 : decode cX0_isObject 13 = .ok (.ireturn, 1) := by decide +kernel
theorem dX0_objectOf_0 : decode cX0_objectOf 0 = .ok (.lload_n 0, 1) := by decide +kernel
theorem dX0_objectOf_1 : decode cX0_objectOf 1 = .ok (.ldc2_w 142, 3) := by decide +kernel
theorem dX0_objectOf_4 : decode cX0_objectOf 4 = .ok (.lsub, 1) := by decide +kernel
theorem dX0_objectOf_5 : decode cX0_objectOf 5 = .ok (.l2i, 1) := by decide +kernel
theorem dX0_objectOf_6 : decode cX0_objectOf 6 = .ok (.ireturn, 1) := by decide +kernel
theorem dX0_reckon_0 : decode cX0_reckon 0 = .ok (.aload_n 0, 1) := by decide +kernel
theorem dX0_reckon_1 : decode cX0_reckon 1 = .ok (.getfield 9, 3) := by decide +kernel
theorem dX0_reckon_4 : decode cX0_reckon 4 = .ok (.iload_n 2, 1) := by decide +kernel
theorem dX0_reckon_5 : decode cX0_reckon 5 = .ok (.aload_n 0, 1) := by decide +kernel
theorem dX0_reckon_6 : decode cX0_reckon 6 = .ok (.getfield 37, 3) := by decide +kernel
theorem dX0_reckon_9 : decode cX0_reckon 9 = .ok (.iload_n 1, 1) := by decide +kernel
theorem dX0_reckon_10 : decode cX0_reckon 10 = .ok (.invokevirtual 117, 3) := by decide +kernel
theorem dX0_reckon_13 : decode cX0_reckon 13 = .ok (.iadd, 1) := by decide +kernel
theorem dX0_reckon_14 : decode cX0_reckon 14 = .ok (.laload, 1) := by decide +kernel
theorem dX0_reckon_15 : decode cX0_reckon 15 = .ok (.lstore_n 3, 1) := by decide +kernel
theorem dX0_reckon_16 : decode cX0_reckon 16 = .ok (.aload_n 0, 1) := by decide +kernel
theorem dX0_reckon_17 : decode cX0_reckon 17 = .ok (.getfield 9, 3) := by decide +kernel
theorem dX0_reckon_20 : decode cX0_reckon 20 = .ok (.iload_n 2, 1) := by decide +kernel
theorem dX0_reckon_21 : decode cX0_reckon 21 = .ok (.aload_n 0, 1) := by decide +kernel
theorem dX0_reckon_22 : decode cX0_reckon 22 = .ok (.getfield 37, 3) := by decide +kernel
theorem dX0_reckon_25 : decode cX0_reckon 25 = .ok (.iload_n 1, 1) := by decide +kernel
theorem dX0_reckon_26 : decode cX0_reckon 26 = .ok (.invokevirtual 144, 3) := by decide +kernel
theorem dX0_reckon_29 : decode cX0_reckon 29 = .ok (.iadd, 1) := by decide +kernel
theorem dX0_reckon_30 : decode cX0_reckon 30 = .ok (.laload, 1) := by decide +kernel
theorem dX0_reckon_31 : decode cX0_reckon 31 = .ok (.lstore 5, 2) := by decide +kernel
theorem dX0_reckon_33 : decode cX0_reckon 33 = .ok (.lload_n 3, 1) := by decide +kernel
theorem dX0_reckon_34 : decode cX0_reckon 34 = .ok (.invokestatic 147, 3) := by decide +kernel
theorem dX0_reckon_37 : decode cX0_reckon 37 = .ok (.ifCond .ne 11, 3) := by decide +kernel
theorem dX0_reckon_40 : decode cX0_reckon 40 = .ok (.lload 5, 2) := by decide +kernel
theorem dX0_reckon_42 : decode cX0_reckon 42 = .ok (.invokestatic 147, 3) := by decide +kernel
theorem dX0_reckon_45 : decode cX0_reckon 45 = .ok (.ifCond .eq 11, 3) := by decide +kernel
theorem dX0_reckon_48 : decode cX0_reckon 48 = .ok (.aload_n 0, 1) := by decide +kernel
theorem dX0_reckon_49 : decode cX0_reckon 49 = .ok (.iconst 1, 1) := by decide +kernel
theorem dX0_reckon_50 : decode cX0_reckon 50 = .ok (.putfield 59, 3) := by decide +kernel
theorem dX0_reckon_53 : decode cX0_reckon 53 = .ok (.goto 67, 3) := by decide +kernel
theorem dX0_reckon_56 : decode cX0_reckon 56 = .ok (.aload_n 0, 1) := by decide +kernel
theorem dX0_reckon_57 : decode cX0_reckon 57 = .ok (.getfield 37, 3) := by decide +kernel
theorem dX0_reckon_60 : decode cX0_reckon 60 = .ok (.iload_n 1, 1) := by decide +kernel
theorem dX0_reckon_61 : decode cX0_reckon 61 = .ok (.invokevirtual 114, 3) := by decide +kernel
theorem dX0_reckon_64 : decode cX0_reckon 64 = .ok (.iconst 2, 1) := by decide +kernel
theorem dX0_reckon_65 : decode cX0_reckon 65 = .ok (.if_icmp .ne 28, 3) := by decide +kernel
theorem dX0_reckon_68 : decode cX0_reckon 68 = .ok (.aload_n 0, 1) := by decide +kernel
theorem dX0_reckon_69 : decode cX0_reckon 69 = .ok (.getfield 9, 3) := by decide +kernel
theorem dX0_reckon_72 : decode cX0_reckon 72 = .ok (.iload_n 2, 1) := by decide +kernel
theorem dX0_reckon_73 : decode cX0_reckon 73 = .ok (.aload_n 0, 1) := by decide +kernel
theorem dX0_reckon_74 : decode cX0_reckon 74 = .ok (.getfield 37, 3) := by decide +kernel
theorem dX0_reckon_77 : decode cX0_reckon 77 = .ok (.iload_n 1, 1) := by decide +kernel
theorem dX0_reckon_78 : decode cX0_reckon 78 = .ok (.invokevirtual 111, 3) := by decide +kernel
theorem dX0_reckon_81 : decode cX0_reckon 81 = .ok (.iadd, 1) := by decide +kernel
theorem dX0_reckon_82 : decode cX0_reckon 82 = .ok (.lload_n 3, 1) := by decide +kernel
theorem dX0_reckon_83 : decode cX0_reckon 83 = .ok (.l2i, 1) := by decide +kernel
theorem dX0_reckon_84 : decode cX0_reckon 84 = .ok (.lload 5, 2) := by decide +kernel
theorem dX0_reckon_86 : decode cX0_reckon 86 = .ok (.l2i, 1) := by decide +kernel
theorem dX0_reckon_87 : decode cX0_reckon 87 = .ok (.iadd, 1) := by decide +kernel
theorem dX0_reckon_88 : decode cX0_reckon 88 = .ok (.i2l, 1) := by decide +kernel
theorem dX0_reckon_89 : decode cX0_reckon 89 = .ok (.lastore, 1) := by decide +kernel
theorem dX0_reckon_90 : decode cX0_reckon 90 = .ok (.goto 30, 3) := by decide +kernel
theorem dX0_reckon_93 : decode cX0_reckon 93 = .ok (.aload_n 0, 1) := by decide +kernel
theorem dX0_reckon_94 : decode cX0_reckon 94 = .ok (.getfield 9, 3) := by decide +kernel
theorem dX0_reckon_97 : decode cX0_reckon 97 = .ok (.iload_n 2, 1) := by decide +kernel
theorem dX0_reckon_98 : decode cX0_reckon 98 = .ok (.aload_n 0, 1) := by decide +kernel
theorem dX0_reckon_99 : decode cX0_reckon 99 = .ok (.getfield 37, 3) := by decide +kernel
theorem dX0_reckon_102 : decode cX0_reckon 102 = .ok (.iload_n 1, 1) := by decide +kernel
theorem dX0_reckon_103 : decode cX0_reckon 103 = .ok (.invokevirtual 111, 3) := by decide +kernel
theorem dX0_reckon_106 : decode cX0_reckon 106 = .ok (.iadd, 1) := by decide +kernel
theorem dX0_reckon_107 : decode cX0_reckon 107 = .ok (.lload_n 3, 1) := by decide +kernel
theorem dX0_reckon_108 : decode cX0_reckon 108 = .ok (.lload 5, 2) := by decide +kernel
theorem dX0_reckon_110 : decode cX0_reckon 110 = .ok (.lcmp, 1) := by decide +kernel
theorem dX0_reckon_111 : decode cX0_reckon 111 = .ok (.ifCond .ge 7, 3) := by decide +kernel
theorem dX0_reckon_114 : decode cX0_reckon 114 = .ok (.lconst 1, 1) := by decide +kernel
theorem dX0_reckon_115 : decode cX0_reckon 115 = .ok (.goto 4, 3) := by decide +kernel
theorem dX0_reckon_118 : decode cX0_reckon 118 = .ok (.lconst 0, 1) := by decide +kernel
theorem dX0_reckon_119 : decode cX0_reckon 119 = .ok (.lastore, 1) := by decide +kernel
theorem dX0_reckon_120 : decode cX0_reckon 120 = .ok (.return_, 1) := by decide +kernel
theorem dX0_make_0 : decode cX0_make 0 = .ok (.aload_n 0, 1) := by decide +kernel
theorem dX0_make_1 : decode cX0_make 1 = .ok (.getfield 45, 3) := by decide +kernel
theorem dX0_make_4 : decode cX0_make 4 = .ok (.ifCond .eq 19, 3) := by decide +kernel
theorem dX0_make_7 : decode cX0_make 7 = .ok (.aload_n 0, 1) := by decide +kernel
theorem dX0_make_8 : decode cX0_make 8 = .ok (.getfield 41, 3) := by decide +kernel
theorem dX0_make_11 : decode cX0_make 11 = .ok (.iload_n 1, 1) := by decide +kernel
theorem dX0_make_12 : decode cX0_make 12 = .ok (.invokevirtual 151, 3) := by decide +kernel
theorem dX0_make_15 : decode cX0_make 15 = .ok (.iconst 5, 1) := by decide +kernel
theorem dX0_make_16 : decode cX0_make 16 = .ok (.if_icmp .ne 7, 3) := by decide +kernel
theorem dX0_make_19 : decode cX0_make 19 = .ok (.iconst 1, 1) := by decide +kernel
theorem dX0_make_20 : decode cX0_make 20 = .ok (.goto 4, 3) := by decide +kernel
theorem dX0_make_23 : decode cX0_make 23 = .ok (.iconst 0, 1) := by decide +kernel
theorem dX0_make_24 : decode cX0_make 24 = .ok (.istore_n 3, 1) := by decide +kernel
theorem dX0_make_25 : decode cX0_make 25 = .ok (.iload_n 3, 1) := by decide +kernel
theorem dX0_make_26 : decode cX0_make 26 = .ok (.ifCond .ne 22, 3) := by decide +kernel
theorem dX0_make_29 : decode cX0_make 29 = .ok (.aload_n 0, 1) := by decide +kernel
theorem dX0_make_30 : decode cX0_make 30 = .ok (.getfield 34, 3) := by decide +kernel
theorem dX0_make_33 : decode cX0_make 33 = .ok (.iconst 1, 1) := by decide +kernel
theorem dX0_make_34 : decode cX0_make 34 = .ok (.iaload, 1) := by decide +kernel
theorem dX0_make_35 : decode cX0_make 35 = .ok (.aload_n 0, 1) := by decide +kernel
theorem dX0_make_36 : decode cX0_make 36 = .ok (.getfield 49, 3) := by decide +kernel
theorem dX0_make_39 : decode cX0_make 39 = .ok (.if_icmp .lt 9, 3) := by decide +kernel
theorem dX0_make_42 : decode cX0_make 42 = .ok (.aload_n 0, 1) := by decide +kernel
theorem dX0_make_43 : decode cX0_make 43 = .ok (.iconst 3, 1) := by decide +kernel
theorem dX0_make_44 : decode cX0_make 44 = .ok (.putfield 59, 3) := by decide +kernel
theorem dX0_make_47 : decode cX0_make 47 = .ok (.return_, 1) := by decide +kernel
theorem dX0_make_48 : decode cX0_make 48 = .ok (.iload_n 3, 1) := by decide +kernel
theorem dX0_make_49 : decode cX0_make 49 = .ok (.ifCond .ne 13, 3) := by decide +kernel
theorem dX0_make_52 : decode cX0_make 52 = .ok (.aload_n 0, 1) := by decide +kernel
theorem dX0_make_53 : decode cX0_make 53 = .ok (.getfield 34, 3) := by decide +kernel
theorem dX0_make_56 : decode cX0_make 56 = .ok (.iconst 1, 1) := by decide +kernel
theorem dX0_make_57 : decode cX0_make 57 = .ok (.dup2, 1) := by decide +kernel
theorem dX0_make_58 : decode cX0_make 58 = .ok (.iaload, 1) := by decide +kernel
theorem dX0_make_59 : decode cX0_make 59 = .ok (.iconst 1, 1) := by decide +kernel
theorem dX0_make_60 : decode cX0_make 60 = .ok (.iadd, 1) := by decide +kernel
theorem dX0_make_61 : decode cX0_make 61 = .ok (.iastore, 1) := by decide +kernel
theorem dX0_make_62 : decode cX0_make 62 = .ok (.aload_n 0, 1) := by decide +kernel
theorem dX0_make_63 : decode cX0_make 63 = .ok (.getfield 9, 3) := by decide +kernel
theorem dX0_make_66 : decode cX0_make 66 = .ok (.iload_n 2, 1) := by decide +kernel
theorem dX0_make_67 : decode cX0_make 67 = .ok (.aload_n 0, 1) := by decide +kernel
theorem dX0_make_68 : decode cX0_make 68 = .ok (.aload_n 0, 1) := by decide +kernel
theorem dX0_make_69 : decode cX0_make 69 = .ok (.getfield 37, 3) := by decide +kernel
theorem dX0_make_72 : decode cX0_make 72 = .ok (.iload_n 1, 1) := by decide +kernel
theorem dX0_make_73 : decode cX0_make 73 = .ok (.invokevirtual 117, 3) := by decide +kernel
theorem dX0_make_76 : decode cX0_make 76 = .ok (.invokevirtual 78, 3) := by decide +kernel
theorem dX0_make_79 : decode cX0_make 79 = .ok (.lastore, 1) := by decide +kernel
theorem dX0_make_80 : decode cX0_make 80 = .ok (.return_, 1) := by decide +kernel
theorem dX0_newObject_0 : decode cX0_newObject 0 = .ok (.aload_n 0, 1) := by decide +kernel
theorem dX0_newObject_1 : decode cX0_newObject 1 = .ok (.getfield 56, 3) := by decide +kernel
theorem dX0_newObject_4 : decode cX0_newObject 4 = .ok (.istore_n 2, 1) := by decide +kernel
theorem dX0_newObject_5 : decode cX0_newObject 5 = .ok (.aload_n 0, 1) := by decide +kernel
theorem dX0_newObject_6 : decode cX0_newObject 6 = .ok (.dup, 1) := by decide +kernel
theorem dX0_newObject_7 : decode cX0_newObject 7 = .ok (.getfield 56, 3) := by decide +kernel
theorem dX0_newObject_10 : decode cX0_newObject 10 = .ok (.iconst 1, 1) := by decide +kernel
theorem dX0_newObject_11 : decode cX0_newObject 11 = .ok (.iadd, 1) := by decide +kernel
theorem dX0_newObject_12 : decode cX0_newObject 12 = .ok (.putfield 56, 3) := by decide +kernel
theorem dX0_newObject_15 : decode cX0_newObject 15 = .ok (.aload_n 0, 1) := by decide +kernel
theorem dX0_newObject_16 : decode cX0_newObject 16 = .ok (.getfield 25, 3) := by decide +kernel
theorem dX0_newObject_19 : decode cX0_newObject 19 = .ok (.iload_n 2, 1) := by decide +kernel
theorem dX0_newObject_20 : decode cX0_newObject 20 = .ok (.iload_n 1, 1) := by decide +kernel
theorem dX0_newObject_21 : decode cX0_newObject 21 = .ok (.iastore, 1) := by decide +kernel
theorem dX0_newObject_22 : decode cX0_newObject 22 = .ok (.iload_n 2, 1) := by decide +kernel
theorem dX0_newObject_23 : decode cX0_newObject 23 = .ok (.iconst 3, 1) := by decide +kernel
theorem dX0_newObject_24 : decode cX0_newObject 24 = .ok (.imul, 1) := by decide +kernel
theorem dX0_newObject_25 : decode cX0_newObject 25 = .ok (.istore_n 3, 1) := by decide +kernel
theorem dX0_newObject_26 : decode cX0_newObject 26 = .ok (.aload_n 0, 1) := by decide +kernel
theorem dX0_newObject_27 : decode cX0_newObject 27 = .ok (.getfield 28, 3) := by decide +kernel
theorem dX0_newObject_30 : decode cX0_newObject 30 = .ok (.iload_n 3, 1) := by decide +kernel
theorem dX0_newObject_31 : decode cX0_newObject 31 = .ok (.iload_n 3, 1) := by decide +kernel
theorem dX0_newObject_32 : decode cX0_newObject 32 = .ok (.iconst 3, 1) := by decide +kernel
theorem dX0_newObject_33 : decode cX0_newObject 33 = .ok (.iadd, 1) := by decide +kernel
theorem dX0_newObject_34 : decode cX0_newObject 34 = .ok (.lconst 0, 1) := by decide +kernel
theorem dX0_newObject_35 : decode cX0_newObject 35 = .ok (.invokestatic 156, 3) := by decide +kernel
theorem dX0_newObject_38 : decode cX0_newObject 38 = .ok (.ldc2_w 142, 3) := by decide +kernel
theorem dX0_newObject_41 : decode cX0_newObject 41 = .ok (.iload_n 2, 1) := by decide +kernel
theorem dX0_newObject_42 : decode cX0_newObject 42 = .ok (.i2l, 1) := by decide +kernel
theorem dX0_newObject_43 : decode cX0_newObject 43 = .ok (.ladd, 1) := by decide +kernel
theorem dX0_newObject_44 : decode cX0_newObject 44 = .ok (.lreturn, 1) := by decide +kernel
theorem dX0_readField_0 : decode cX0_readField 0 = .ok (.aload_n 0, 1) := by decide +kernel
theorem dX0_readField_1 : decode cX0_readField 1 = .ok (.getfield 9, 3) := by decide +kernel
theorem dX0_readField_4 : decode cX0_readField 4 = .ok (.iload_n 2, 1) := by decide +kernel
theorem dX0_readField_5 : decode cX0_readField 5 = .ok (.aload_n 0, 1) := by decide +kernel
theorem dX0_readField_6 : decode cX0_readField 6 = .ok (.getfield 37, 3) := by decide +kernel
theorem dX0_readField_9 : decode cX0_readField 9 = .ok (.iload_n 1, 1) := by decide +kernel
theorem dX0_readField_10 : decode cX0_readField 10 = .ok (.invokevirtual 117, 3) := by decide +kernel
theorem dX0_readField_13 : decode cX0_readField 13 = .ok (.iadd, 1) := by decide +kernel
theorem dX0_readField_14 : decode cX0_readField 14 = .ok (.laload, 1) := by decide +kernel
theorem dX0_readField_15 : decode cX0_readField 15 = .ok (.lstore_n 3, 1) := by decide +kernel
theorem dX0_readField_16 : decode cX0_readField 16 = .ok (.lload_n 3, 1) := by decide +kernel
theorem dX0_readField_17 : decode cX0_readField 17 = .ok (.invokestatic 147, 3) := by decide +kernel
theorem dX0_readField_20 : decode cX0_readField 20 = .ok (.ifCond .eq 41, 3) := by decide +kernel
theorem dX0_readField_23 : decode cX0_readField 23 = .ok (.aload_n 0, 1) := by decide +kernel
theorem dX0_readField_24 : decode cX0_readField 24 = .ok (.getfield 9, 3) := by decide +kernel
theorem dX0_readField_27 : decode cX0_readField 27 = .ok (.iload_n 2, 1) := by decide +kernel
theorem dX0_readField_28 : decode cX0_readField 28 = .ok (.aload_n 0, 1) := by decide +kernel
theorem dX0_readField_29 : decode cX0_readField 29 = .ok (.getfield 37, 3) := by decide +kernel
theorem dX0_readField_32 : decode cX0_readField 32 = .ok (.iload_n 1, 1) := by decide +kernel
theorem dX0_readField_33 : decode cX0_readField 33 = .ok (.invokevirtual 111, 3) := by decide +kernel
theorem dX0_readField_36 : decode cX0_readField 36 = .ok (.iadd, 1) := by decide +kernel
theorem dX0_readField_37 : decode cX0_readField 37 = .ok (.aload_n 0, 1) := by decide +kernel
theorem dX0_readField_38 : decode cX0_readField 38 = .ok (.getfield 28, 3) := by decide +kernel
theorem dX0_readField_41 : decode cX0_readField 41 = .ok (.lload_n 3, 1) := by decide +kernel
theorem dX0_readField_42 : decode cX0_readField 42 = .ok (.invokestatic 159, 3) := by decide +kernel
theorem dX0_readField_45 : decode cX0_readField 45 = .ok (.iconst 3, 1) := by decide +kernel
theorem dX0_readField_46 : decode cX0_readField 46 = .ok (.imul, 1) := by decide +kernel
theorem dX0_readField_47 : decode cX0_readField 47 = .ok (.aload_n 0, 1) := by decide +kernel
theorem dX0_readField_48 : decode cX0_readField 48 = .ok (.getfield 37, 3) := by decide +kernel
theorem dX0_readField_51 : decode cX0_readField 51 = .ok (.iload_n 1, 1) := by decide +kernel
theorem dX0_readField_52 : decode cX0_readField 52 = .ok (.invokevirtual 144, 3) := by decide +kernel
theorem dX0_readField_55 : decode cX0_readField 55 = .ok (.iadd, 1) := by decide +kernel
theorem dX0_readField_56 : decode cX0_readField 56 = .ok (.laload, 1) := by decide +kernel
theorem dX0_readField_57 : decode cX0_readField 57 = .ok (.lastore, 1) := by decide +kernel
theorem dX0_readField_58 : decode cX0_readField 58 = .ok (.goto 8, 3) := by decide +kernel
theorem dX0_readField_61 : decode cX0_readField 61 = .ok (.aload_n 0, 1) := by decide +kernel
theorem dX0_readField_62 : decode cX0_readField 62 = .ok (.iconst 1, 1) := by decide +kernel
theorem dX0_readField_63 : decode cX0_readField 63 = .ok (.putfield 59, 3) := by decide +kernel
theorem dX0_readField_66 : decode cX0_readField 66 = .ok (.return_, 1) := by decide +kernel
theorem dX0_writeField_0 : decode cX0_writeField 0 = .ok (.aload_n 0, 1) := by decide +kernel
theorem dX0_writeField_1 : decode cX0_writeField 1 = .ok (.getfield 9, 3) := by decide +kernel
theorem dX0_writeField_4 : decode cX0_writeField 4 = .ok (.iload_n 2, 1) := by decide +kernel
theorem dX0_writeField_5 : decode cX0_writeField 5 = .ok (.aload_n 0, 1) := by decide +kernel
theorem dX0_writeField_6 : decode cX0_writeField 6 = .ok (.getfield 37, 3) := by decide +kernel
theorem dX0_writeField_9 : decode cX0_writeField 9 = .ok (.iload_n 1, 1) := by decide +kernel
theorem dX0_writeField_10 : decode cX0_writeField 10 = .ok (.invokevirtual 111, 3) := by decide +kernel
theorem dX0_writeField_13 : decode cX0_writeField 13 = .ok (.iadd, 1) := by decide +kernel
theorem dX0_writeField_14 : decode cX0_writeField 14 = .ok (.laload, 1) := by decide +kernel
theorem dX0_writeField_15 : decode cX0_writeField 15 = .ok (.lstore_n 3, 1) := by decide +kernel
theorem dX0_writeField_16 : decode cX0_writeField 16 = .ok (.lload_n 3, 1) := by decide +kernel
theorem dX0_writeField_17 : decode cX0_writeField 17 = .ok (.invokestatic 147, 3) := by decide +kernel
theorem dX0_writeField_20 : decode cX0_writeField 20 = .ok (.ifCond .eq 41, 3) := by decide +kernel
theorem dX0_writeField_23 : decode cX0_writeField 23 = .ok (.aload_n 0, 1) := by decide +kernel
theorem dX0_writeField_24 : decode cX0_writeField 24 = .ok (.getfield 28, 3) := by decide +kernel
theorem dX0_writeField_27 : decode cX0_writeField 27 = .ok (.lload_n 3, 1) := by decide +kernel
theorem dX0_writeField_28 : decode cX0_writeField 28 = .ok (.invokestatic 159, 3) := by decide +kernel
theorem dX0_writeField_31 : decode cX0_writeField 31 = .ok (.iconst 3, 1) := by decide +kernel
theorem dX0_writeField_32 : decode cX0_writeField 32 = .ok (.imul, 1) := by decide +kernel
theorem dX0_writeField_33 : decode cX0_writeField 33 = .ok (.aload_n 0, 1) := by decide +kernel
theorem dX0_writeField_34 : decode cX0_writeField 34 = .ok (.getfield 37, 3) := by decide +kernel
theorem dX0_writeField_37 : decode cX0_writeField 37 = .ok (.iload_n 1, 1) := by decide +kernel
theorem dX0_writeField_38 : decode cX0_writeField 38 = .ok (.invokevirtual 144, 3) := by decide +kernel
theorem dX0_writeField_41 : decode cX0_writeField 41 = .ok (.iadd, 1) := by decide +kernel
theorem dX0_writeField_42 : decode cX0_writeField 42 = .ok (.aload_n 0, 1) := by decide +kernel
theorem dX0_writeField_43 : decode cX0_writeField 43 = .ok (.getfield 9, 3) := by decide +kernel
theorem dX0_writeField_46 : decode cX0_writeField 46 = .ok (.iload_n 2, 1) := by decide +kernel
theorem dX0_writeField_47 : decode cX0_writeField 47 = .ok (.aload_n 0, 1) := by decide +kernel
theorem dX0_writeField_48 : decode cX0_writeField 48 = .ok (.getfield 37, 3) := by decide +kernel
theorem dX0_writeField_51 : decode cX0_writeField 51 = .ok (.iload_n 1, 1) := by decide +kernel
theorem dX0_writeField_52 : decode cX0_writeField 52 = .ok (.invokevirtual 117, 3) := by decide +kernel
theorem dX0_writeField_55 : decode cX0_writeField 55 = .ok (.iadd, 1) := by decide +kernel
theorem dX0_writeField_56 : decode cX0_writeField 56 = .ok (.laload, 1) := by decide +kernel
theorem dX0_writeField_57 : decode cX0_writeField 57 = .ok (.lastore, 1) := by decide +kernel
theorem dX0_writeField_58 : decode cX0_writeField 58 = .ok (.goto 8, 3) := by decide +kernel
theorem dX0_writeField_61 : decode cX0_writeField 61 = .ok (.aload_n 0, 1) := by decide +kernel
theorem dX0_writeField_62 : decode cX0_writeField 62 = .ok (.iconst 1, 1) := by decide +kernel
theorem dX0_writeField_63 : decode cX0_writeField 63 = .ok (.putfield 59, 3) := by decide +kernel
theorem dX0_writeField_66 : decode cX0_writeField 66 = .ok (.return_, 1) := by decide +kernel
theorem dX0_send_0 : decode cX0_send 0 = .ok (.aload_n 0, 1) := by decide +kernel
theorem dX0_send_1 : decode cX0_send 1 = .ok (.getfield 9, 3) := by decide +kernel
theorem dX0_send_4 : decode cX0_send 4 = .ok (.iload_n 2, 1) := by decide +kernel
theorem dX0_send_5 : decode cX0_send 5 = .ok (.aload_n 0, 1) := by decide +kernel
theorem dX0_send_6 : decode cX0_send 6 = .ok (.getfield 37, 3) := by decide +kernel
theorem dX0_send_9 : decode cX0_send 9 = .ok (.iload_n 1, 1) := by decide +kernel
theorem dX0_send_10 : decode cX0_send 10 = .ok (.invokevirtual 117, 3) := by decide +kernel
theorem dX0_send_13 : decode cX0_send 13 = .ok (.iadd, 1) := by decide +kernel
theorem dX0_send_14 : decode cX0_send 14 = .ok (.laload, 1) := by decide +kernel
theorem dX0_send_15 : decode cX0_send 15 = .ok (.lstore_n 3, 1) := by decide +kernel
theorem dX0_send_16 : decode cX0_send 16 = .ok (.lload_n 3, 1) := by decide +kernel
theorem dX0_send_17 : decode cX0_send 17 = .ok (.invokestatic 147, 3) := by decide +kernel
theorem dX0_send_20 : decode cX0_send 20 = .ok (.ifCond .ne 9, 3) := by decide +kernel
theorem dX0_send_23 : decode cX0_send 23 = .ok (.aload_n 0, 1) := by decide +kernel
theorem dX0_send_24 : decode cX0_send 24 = .ok (.iconst 1, 1) := by decide +kernel
theorem dX0_send_25 : decode cX0_send 25 = .ok (.putfield 59, 3) := by decide +kernel
theorem dX0_send_28 : decode cX0_send 28 = .ok (.return_, 1) := by decide +kernel
theorem dX0_send_29 : decode cX0_send 29 = .ok (.aload_n 0, 1) := by decide +kernel
theorem dX0_send_30 : decode cX0_send 30 = .ok (.getfield 37, 3) := by decide +kernel
theorem dX0_send_33 : decode cX0_send 33 = .ok (.aload_n 0, 1) := by decide +kernel
theorem dX0_send_34 : decode cX0_send 34 = .ok (.getfield 25, 3) := by decide +kernel
theorem dX0_send_37 : decode cX0_send 37 = .ok (.lload_n 3, 1) := by decide +kernel
theorem dX0_send_38 : decode cX0_send 38 = .ok (.invokestatic 159, 3) := by decide +kernel
theorem dX0_send_41 : decode cX0_send 41 = .ok (.iaload, 1) := by decide +kernel
theorem dX0_send_42 : decode cX0_send 42 = .ok (.aload_n 0, 1) := by decide +kernel
theorem dX0_send_43 : decode cX0_send 43 = .ok (.getfield 37, 3) := by decide +kernel
theorem dX0_send_46 : decode cX0_send 46 = .ok (.iload_n 1, 1) := by decide +kernel
theorem dX0_send_47 : decode cX0_send 47 = .ok (.invokevirtual 144, 3) := by decide +kernel
theorem dX0_send_50 : decode cX0_send 50 = .ok (.invokevirtual 82, 3) := by decide +kernel
theorem dX0_send_53 : decode cX0_send 53 = .ok (.istore 5, 2) := by decide +kernel
theorem dX0_send_55 : decode cX0_send 55 = .ok (.iload 5, 2) := by decide +kernel
theorem dX0_send_57 : decode cX0_send 57 = .ok (.iconst (-1), 1) := by decide +kernel
theorem dX0_send_58 : decode cX0_send 58 = .ok (.if_icmp .ne 10, 3) := by decide +kernel
theorem dX0_send_61 : decode cX0_send 61 = .ok (.aload_n 0, 1) := by decide +kernel
theorem dX0_send_62 : decode cX0_send 62 = .ok (.bipush 6, 2) := by decide +kernel
theorem dX0_send_64 : decode cX0_send 64 = .ok (.putfield 59, 3) := by decide +kernel
theorem dX0_send_67 : decode cX0_send 67 = .ok (.return_, 1) := by decide +kernel
theorem dX0_send_68 : decode cX0_send 68 = .ok (.aload_n 0, 1) := by decide +kernel
theorem dX0_send_69 : decode cX0_send 69 = .ok (.getfield 53, 3) := by decide +kernel
theorem dX0_send_72 : decode cX0_send 72 = .ok (.bipush 12, 2) := by decide +kernel
theorem dX0_send_74 : decode cX0_send 74 = .ok (.if_icmp .lt 9, 3) := by decide +kernel
theorem dX0_send_77 : decode cX0_send 77 = .ok (.aload_n 0, 1) := by decide +kernel
theorem dX0_send_78 : decode cX0_send 78 = .ok (.iconst 4, 1) := by decide +kernel
theorem dX0_send_79 : decode cX0_send 79 = .ok (.putfield 59, 3) := by decide +kernel
theorem dX0_send_82 : decode cX0_send 82 = .ok (.return_, 1) := by decide +kernel
theorem dX0_send_83 : decode cX0_send 83 = .ok (.aload_n 0, 1) := by decide +kernel
theorem dX0_send_84 : decode cX0_send 84 = .ok (.aload_n 0, 1) := by decide +kernel
theorem dX0_send_85 : decode cX0_send 85 = .ok (.getfield 45, 3) := by decide +kernel
theorem dX0_send_88 : decode cX0_send 88 = .ok (.ifCond .eq 14, 3) := by decide +kernel
theorem dX0_send_91 : decode cX0_send 91 = .ok (.aload_n 0, 1) := by decide +kernel
theorem dX0_send_92 : decode cX0_send 92 = .ok (.getfield 41, 3) := by decide +kernel
theorem dX0_send_95 : decode cX0_send 95 = .ok (.iload_n 1, 1) := by decide +kernel
theorem dX0_send_96 : decode cX0_send 96 = .ok (.invokevirtual 151, 3) := by decide +kernel
theorem dX0_send_99 : decode cX0_send 99 = .ok (.goto 4, 3) := by decide +kernel
theorem dX0_send_102 : decode cX0_send 102 = .ok (.iconst 0, 1) := by decide +kernel
theorem dX0_send_103 : decode cX0_send 103 = .ok (.invokevirtual 163, 3) := by decide +kernel
theorem dX0_send_106 : decode cX0_send 106 = .ok (.aload_n 0, 1) := by decide +kernel
theorem dX0_send_107 : decode cX0_send 107 = .ok (.getfield 22, 3) := by decide +kernel
theorem dX0_send_110 : decode cX0_send 110 = .ok (.aload_n 0, 1) := by decide +kernel
theorem dX0_send_111 : decode cX0_send 111 = .ok (.getfield 53, 3) := by decide +kernel
theorem dX0_send_114 : decode cX0_send 114 = .ok (.iload_n 2, 1) := by decide +kernel
theorem dX0_send_115 : decode cX0_send 115 = .ok (.aload_n 0, 1) := by decide +kernel
theorem dX0_send_116 : decode cX0_send 116 = .ok (.getfield 37, 3) := by decide +kernel
theorem dX0_send_119 : decode cX0_send 119 = .ok (.iload_n 1, 1) := by decide +kernel
theorem dX0_send_120 : decode cX0_send 120 = .ok (.invokevirtual 111, 3) := by decide +kernel
theorem dX0_send_123 : decode cX0_send 123 = .ok (.iadd, 1) := by decide +kernel
theorem dX0_send_124 : decode cX0_send 124 = .ok (.iastore, 1) := by decide +kernel
theorem dX0_send_125 : decode cX0_send 125 = .ok (.aload_n 0, 1) := by decide +kernel
theorem dX0_send_126 : decode cX0_send 126 = .ok (.iload 5, 2) := by decide +kernel
theorem dX0_send_128 : decode cX0_send 128 = .ok (.lload_n 3, 1) := by decide +kernel
theorem dX0_send_129 : decode cX0_send 129 = .ok (.aload_n 0, 1) := by decide +kernel
theorem dX0_send_130 : decode cX0_send 130 = .ok (.getfield 9, 3) := by decide +kernel
theorem dX0_send_133 : decode cX0_send 133 = .ok (.iload_n 2, 1) := by decide +kernel
theorem dX0_send_134 : decode cX0_send 134 = .ok (.iconst 5, 1) := by decide +kernel
theorem dX0_send_135 : decode cX0_send 135 = .ok (.iadd, 1) := by decide +kernel
theorem dX0_send_136 : decode cX0_send 136 = .ok (.laload, 1) := by decide +kernel
theorem dX0_send_137 : decode cX0_send 137 = .ok (.invokevirtual 88, 3) := by decide +kernel
theorem dX0_send_140 : decode cX0_send 140 = .ok (.return_, 1) := by decide +kernel
theorem dX0_countCall_0 : decode cX0_countCall 0 = .ok (.iload_n 1, 1) := by decide +kernel
theorem dX0_countCall_1 : decode cX0_countCall 1 = .ok (.iconst 2, 1) := by decide +kernel
theorem dX0_countCall_2 : decode cX0_countCall 2 = .ok (.if_icmp .eq 18, 3) := by decide +kernel
theorem dX0_countCall_5 : decode cX0_countCall 5 = .ok (.iload_n 1, 1) := by decide +kernel
end
section
theorem dX0_countCall_6 : decode cX0_countCall 6 = .ok (.iconst 3, 1) := by decide +kernel
theorem dX0_countCall_7 : decode cX0_countCall 7 = .ok (.if_icmp .eq 13, 3) := by decide +kernel
theorem dX0_countCall_10 : decode cX0_countCall 10 = .ok (.aload_n 0, 1) := by decide +kernel
theorem dX0_countCall_11 : decode cX0_countCall 11 = .ok (.getfield 34, 3) := by decide +kernel
theorem dX0_countCall_14 : decode cX0_countCall 14 = .ok (.iconst 2, 1) := by decide +kernel
theorem dX0_countCall_15 : decode cX0_countCall 15 = .ok (.dup2, 1) := by decide +kernel
theorem dX0_countCall_16 : decode cX0_countCall 16 = .ok (.iaload, 1) := by decide +kernel
theorem dX0_countCall_17 : decode cX0_countCall 17 = .ok (.iconst 1, 1) := by decide +kernel
theorem dX0_countCall_18 : decode cX0_countCall 18 = .ok (.iadd, 1) := by decide +kernel
theorem dX0_countCall_19 : decode cX0_countCall 19 = .ok (.iastore, 1) := by decide +kernel
theorem dX0_countCall_20 : decode cX0_countCall 20 = .ok (.iload_n 1, 1) := by decide +kernel
theorem dX0_countCall_21 : decode cX0_countCall 21 = .ok (.iconst 3, 1) := by decide +kernel
theorem dX0_countCall_22 : decode cX0_countCall 22 = .ok (.if_icmp .eq 13, 3) := by decide +kernel
theorem dX0_countCall_25 : decode cX0_countCall 25 = .ok (.aload_n 0, 1) := by decide +kernel
theorem dX0_countCall_26 : decode cX0_countCall 26 = .ok (.getfield 34, 3) := by decide +kernel
theorem dX0_countCall_29 : decode cX0_countCall 29 = .ok (.iconst 3, 1) := by decide +kernel
theorem dX0_countCall_30 : decode cX0_countCall 30 = .ok (.dup2, 1) := by decide +kernel
theorem dX0_countCall_31 : decode cX0_countCall 31 = .ok (.iaload, 1) := by decide +kernel
theorem dX0_countCall_32 : decode cX0_countCall 32 = .ok (.iconst 1, 1) := by decide +kernel
theorem dX0_countCall_33 : decode cX0_countCall 33 = .ok (.iadd, 1) := by decide +kernel
theorem dX0_countCall_34 : decode cX0_countCall 34 = .ok (.iastore, 1) := by decide +kernel
theorem dX0_countCall_35 : decode cX0_countCall 35 = .ok (.return_, 1) := by decide +kernel
theorem dX0_enter_0 : decode cX0_enter 0 = .ok (.aload_n 0, 1) := by decide +kernel
theorem dX0_enter_1 : decode cX0_enter 1 = .ok (.getfield 53, 3) := by decide +kernel
theorem dX0_enter_4 : decode cX0_enter 4 = .ok (.bipush 6, 2) := by decide +kernel
theorem dX0_enter_6 : decode cX0_enter 6 = .ok (.imul, 1) := by decide +kernel
theorem dX0_enter_7 : decode cX0_enter 7 = .ok (.istore 6, 2) := by decide +kernel
theorem dX0_enter_9 : decode cX0_enter 9 = .ok (.aload_n 0, 1) := by decide +kernel
theorem dX0_enter_10 : decode cX0_enter 10 = .ok (.getfield 9, 3) := by decide +kernel
theorem dX0_enter_13 : decode cX0_enter 13 = .ok (.iload 6, 2) := by decide +kernel
theorem dX0_enter_15 : decode cX0_enter 15 = .ok (.iload 6, 2) := by decide +kernel
theorem dX0_enter_17 : decode cX0_enter 17 = .ok (.bipush 6, 2) := by decide +kernel
theorem dX0_enter_19 : decode cX0_enter 19 = .ok (.iadd, 1) := by decide +kernel
theorem dX0_enter_20 : decode cX0_enter 20 = .ok (.lconst 0, 1) := by decide +kernel
theorem dX0_enter_21 : decode cX0_enter 21 = .ok (.invokestatic 156, 3) := by decide +kernel
theorem dX0_enter_24 : decode cX0_enter 24 = .ok (.aload_n 0, 1) := by decide +kernel
theorem dX0_enter_25 : decode cX0_enter 25 = .ok (.getfield 9, 3) := by decide +kernel
theorem dX0_enter_28 : decode cX0_enter 28 = .ok (.iload 6, 2) := by decide +kernel
theorem dX0_enter_30 : decode cX0_enter 30 = .ok (.lload_n 2, 1) := by decide +kernel
theorem dX0_enter_31 : decode cX0_enter 31 = .ok (.lastore, 1) := by decide +kernel
theorem dX0_enter_32 : decode cX0_enter 32 = .ok (.aload_n 0, 1) := by decide +kernel
theorem dX0_enter_33 : decode cX0_enter 33 = .ok (.getfield 9, 3) := by decide +kernel
theorem dX0_enter_36 : decode cX0_enter 36 = .ok (.iload 6, 2) := by decide +kernel
theorem dX0_enter_38 : decode cX0_enter 38 = .ok (.iconst 1, 1) := by decide +kernel
theorem dX0_enter_39 : decode cX0_enter 39 = .ok (.iadd, 1) := by decide +kernel
theorem dX0_enter_40 : decode cX0_enter 40 = .ok (.lload 4, 2) := by decide +kernel
theorem dX0_enter_42 : decode cX0_enter 42 = .ok (.lastore, 1) := by decide +kernel
theorem dX0_enter_43 : decode cX0_enter 43 = .ok (.aload_n 0, 1) := by decide +kernel
theorem dX0_enter_44 : decode cX0_enter 44 = .ok (.getfield 15, 3) := by decide +kernel
theorem dX0_enter_47 : decode cX0_enter 47 = .ok (.aload_n 0, 1) := by decide +kernel
theorem dX0_enter_48 : decode cX0_enter 48 = .ok (.getfield 53, 3) := by decide +kernel
theorem dX0_enter_51 : decode cX0_enter 51 = .ok (.iload_n 1, 1) := by decide +kernel
theorem dX0_enter_52 : decode cX0_enter 52 = .ok (.iastore, 1) := by decide +kernel
theorem dX0_enter_53 : decode cX0_enter 53 = .ok (.aload_n 0, 1) := by decide +kernel
theorem dX0_enter_54 : decode cX0_enter 54 = .ok (.getfield 19, 3) := by decide +kernel
theorem dX0_enter_57 : decode cX0_enter 57 = .ok (.aload_n 0, 1) := by decide +kernel
theorem dX0_enter_58 : decode cX0_enter 58 = .ok (.getfield 53, 3) := by decide +kernel
theorem dX0_enter_61 : decode cX0_enter 61 = .ok (.iconst 0, 1) := by decide +kernel
theorem dX0_enter_62 : decode cX0_enter 62 = .ok (.iastore, 1) := by decide +kernel
theorem dX0_enter_63 : decode cX0_enter 63 = .ok (.aload_n 0, 1) := by decide +kernel
theorem dX0_enter_64 : decode cX0_enter 64 = .ok (.dup, 1) := by decide +kernel
theorem dX0_enter_65 : decode cX0_enter 65 = .ok (.getfield 53, 3) := by decide +kernel
theorem dX0_enter_68 : decode cX0_enter 68 = .ok (.iconst 1, 1) := by decide +kernel
theorem dX0_enter_69 : decode cX0_enter 69 = .ok (.iadd, 1) := by decide +kernel
theorem dX0_enter_70 : decode cX0_enter 70 = .ok (.putfield 53, 3) := by decide +kernel
theorem dX0_enter_73 : decode cX0_enter 73 = .ok (.aload_n 0, 1) := by decide +kernel
theorem dX0_enter_74 : decode cX0_enter 74 = .ok (.getfield 34, 3) := by decide +kernel
theorem dX0_enter_77 : decode cX0_enter 77 = .ok (.iconst 5, 1) := by decide +kernel
theorem dX0_enter_78 : decode cX0_enter 78 = .ok (.aload_n 0, 1) := by decide +kernel
theorem dX0_enter_79 : decode cX0_enter 79 = .ok (.getfield 34, 3) := by decide +kernel
theorem dX0_enter_82 : decode cX0_enter 82 = .ok (.iconst 5, 1) := by decide +kernel
theorem dX0_enter_83 : decode cX0_enter 83 = .ok (.iaload, 1) := by decide +kernel
theorem dX0_enter_84 : decode cX0_enter 84 = .ok (.aload_n 0, 1) := by decide +kernel
theorem dX0_enter_85 : decode cX0_enter 85 = .ok (.getfield 53, 3) := by decide +kernel
theorem dX0_enter_88 : decode cX0_enter 88 = .ok (.invokestatic 167, 3) := by decide +kernel
theorem dX0_enter_91 : decode cX0_enter 91 = .ok (.iastore, 1) := by decide +kernel
theorem dX0_enter_92 : decode cX0_enter 92 = .ok (.return_, 1) := by decide +kernel
theorem dX0_answer_0 : decode cX0_answer 0 = .ok (.aload_n 0, 1) := by decide +kernel
theorem dX0_answer_1 : decode cX0_answer 1 = .ok (.dup, 1) := by decide +kernel
theorem dX0_answer_2 : decode cX0_answer 2 = .ok (.getfield 53, 3) := by decide +kernel
theorem dX0_answer_5 : decode cX0_answer 5 = .ok (.iconst 1, 1) := by decide +kernel
theorem dX0_answer_6 : decode cX0_answer 6 = .ok (.isub, 1) := by decide +kernel
theorem dX0_answer_7 : decode cX0_answer 7 = .ok (.putfield 53, 3) := by decide +kernel
theorem dX0_answer_10 : decode cX0_answer 10 = .ok (.aload_n 0, 1) := by decide +kernel
theorem dX0_answer_11 : decode cX0_answer 11 = .ok (.getfield 53, 3) := by decide +kernel
theorem dX0_answer_14 : decode cX0_answer 14 = .ok (.ifCond .le 18, 3) := by decide +kernel
theorem dX0_answer_17 : decode cX0_answer 17 = .ok (.aload_n 0, 1) := by decide +kernel
theorem dX0_answer_18 : decode cX0_answer 18 = .ok (.getfield 9, 3) := by decide +kernel
theorem dX0_answer_21 : decode cX0_answer 21 = .ok (.aload_n 0, 1) := by decide +kernel
theorem dX0_answer_22 : decode cX0_answer 22 = .ok (.getfield 22, 3) := by decide +kernel
theorem dX0_answer_25 : decode cX0_answer 25 = .ok (.aload_n 0, 1) := by decide +kernel
theorem dX0_answer_26 : decode cX0_answer 26 = .ok (.getfield 53, 3) := by decide +kernel
theorem dX0_answer_29 : decode cX0_answer 29 = .ok (.iaload, 1) := by decide +kernel
theorem dX0_answer_30 : decode cX0_answer 30 = .ok (.lload_n 1, 1) := by decide +kernel
theorem dX0_answer_31 : decode cX0_answer 31 = .ok (.lastore, 1) := by decide +kernel
theorem dX0_answer_32 : decode cX0_answer 32 = .ok (.return_, 1) := by decide +kernel
theorem dX0_print_0 : decode cX0_print 0 = .ok (.aload_n 0, 1) := by decide +kernel
theorem dX0_print_1 : decode cX0_print 1 = .ok (.getfield 34, 3) := by decide +kernel
theorem dX0_print_4 : decode cX0_print 4 = .ok (.iconst 0, 1) := by decide +kernel
theorem dX0_print_5 : decode cX0_print 5 = .ok (.iaload, 1) := by decide +kernel
theorem dX0_print_6 : decode cX0_print 6 = .ok (.istore_n 3, 1) := by decide +kernel
theorem dX0_print_7 : decode cX0_print 7 = .ok (.iload_n 3, 1) := by decide +kernel
theorem dX0_print_8 : decode cX0_print 8 = .ok (.bipush 40, 2) := by decide +kernel
theorem dX0_print_10 : decode cX0_print 10 = .ok (.if_icmp .lt 10, 3) := by decide +kernel
theorem dX0_print_13 : decode cX0_print 13 = .ok (.aload_n 0, 1) := by decide +kernel
theorem dX0_print_14 : decode cX0_print 14 = .ok (.bipush 7, 2) := by decide +kernel
theorem dX0_print_16 : decode cX0_print 16 = .ok (.putfield 59, 3) := by decide +kernel
theorem dX0_print_19 : decode cX0_print 19 = .ok (.return_, 1) := by decide +kernel
theorem dX0_print_20 : decode cX0_print 20 = .ok (.aload_n 0, 1) := by decide +kernel
theorem dX0_print_21 : decode cX0_print 21 = .ok (.getfield 31, 3) := by decide +kernel
theorem dX0_print_24 : decode cX0_print 24 = .ok (.iload_n 3, 1) := by decide +kernel
theorem dX0_print_25 : decode cX0_print 25 = .ok (.lload_n 1, 1) := by decide +kernel
theorem dX0_print_26 : decode cX0_print 26 = .ok (.invokestatic 147, 3) := by decide +kernel
theorem dX0_print_29 : decode cX0_print 29 = .ok (.ifCond .eq 19, 3) := by decide +kernel
theorem dX0_print_32 : decode cX0_print 32 = .ok (.sipush 1000, 3) := by decide +kernel
theorem dX0_print_35 : decode cX0_print 35 = .ok (.aload_n 0, 1) := by decide +kernel
theorem dX0_print_36 : decode cX0_print 36 = .ok (.getfield 25, 3) := by decide +kernel
theorem dX0_print_39 : decode cX0_print 39 = .ok (.lload_n 1, 1) := by decide +kernel
theorem dX0_print_40 : decode cX0_print 40 = .ok (.invokestatic 159, 3) := by decide +kernel
theorem dX0_print_43 : decode cX0_print 43 = .ok (.iaload, 1) := by decide +kernel
theorem dX0_print_44 : decode cX0_print 44 = .ok (.iadd, 1) := by decide +kernel
theorem dX0_print_45 : decode cX0_print 45 = .ok (.goto 5, 3) := by decide +kernel
theorem dX0_print_48 : decode cX0_print 48 = .ok (.lload_n 1, 1) := by decide +kernel
theorem dX0_print_49 : decode cX0_print 49 = .ok (.l2i, 1) := by decide +kernel
theorem dX0_print_50 : decode cX0_print 50 = .ok (.iastore, 1) := by decide +kernel
theorem dX0_print_51 : decode cX0_print 51 = .ok (.aload_n 0, 1) := by decide +kernel
theorem dX0_print_52 : decode cX0_print 52 = .ok (.getfield 34, 3) := by decide +kernel
theorem dX0_print_55 : decode cX0_print 55 = .ok (.iconst 0, 1) := by decide +kernel
theorem dX0_print_56 : decode cX0_print 56 = .ok (.iload_n 3, 1) := by decide +kernel
theorem dX0_print_57 : decode cX0_print 57 = .ok (.iconst 1, 1) := by decide +kernel
theorem dX0_print_58 : decode cX0_print 58 = .ok (.iadd, 1) := by decide +kernel
theorem dX0_print_59 : decode cX0_print 59 = .ok (.iastore, 1) := by decide +kernel
theorem dX0_print_60 : decode cX0_print 60 = .ok (.return_, 1) := by decide +kernel
theorem dX0_checkClass_0 : decode cX0_checkClass 0 = .ok (.lload_n 1, 1) := by decide +kernel
theorem dX0_checkClass_1 : decode cX0_checkClass 1 = .ok (.invokestatic 147, 3) := by decide +kernel
theorem dX0_checkClass_4 : decode cX0_checkClass 4 = .ok (.ifCond .ne 11, 3) := by decide +kernel
theorem dX0_checkClass_7 : decode cX0_checkClass 7 = .ok (.aload_n 0, 1) := by decide +kernel
theorem dX0_checkClass_8 : decode cX0_checkClass 8 = .ok (.iconst 1, 1) := by decide +kernel
theorem dX0_checkClass_9 : decode cX0_checkClass 9 = .ok (.putfield 59, 3) := by decide +kernel
theorem dX0_checkClass_12 : decode cX0_checkClass 12 = .ok (.goto 28, 3) := by decide +kernel
theorem dX0_checkClass_15 : decode cX0_checkClass 15 = .ok (.aload_n 0, 1) := by decide +kernel
theorem dX0_checkClass_16 : decode cX0_checkClass 16 = .ok (.getfield 37, 3) := by decide +kernel
theorem dX0_checkClass_19 : decode cX0_checkClass 19 = .ok (.aload_n 0, 1) := by decide +kernel
theorem dX0_checkClass_20 : decode cX0_checkClass 20 = .ok (.getfield 25, 3) := by decide +kernel
theorem dX0_checkClass_23 : decode cX0_checkClass 23 = .ok (.lload_n 1, 1) := by decide +kernel
theorem dX0_checkClass_24 : decode cX0_checkClass 24 = .ok (.invokestatic 159, 3) := by decide +kernel
theorem dX0_checkClass_27 : decode cX0_checkClass 27 = .ok (.iaload, 1) := by decide +kernel
theorem dX0_checkClass_28 : decode cX0_checkClass 28 = .ok (.iload_n 3, 1) := by decide +kernel
theorem dX0_checkClass_29 : decode cX0_checkClass 29 = .ok (.invokevirtual 172, 3) := by decide +kernel
theorem dX0_checkClass_32 : decode cX0_checkClass 32 = .ok (.ifCond .ne 8, 3) := by decide +kernel
theorem dX0_checkClass_35 : decode cX0_checkClass 35 = .ok (.aload_n 0, 1) := by decide +kernel
theorem dX0_checkClass_36 : decode cX0_checkClass 36 = .ok (.iconst 2, 1) := by decide +kernel
theorem dX0_checkClass_37 : decode cX0_checkClass 37 = .ok (.putfield 59, 3) := by decide +kernel
theorem dX0_checkClass_40 : decode cX0_checkClass 40 = .ok (.return_, 1) := by decide +kernel
theorem dX4_init_0 : decode cX4_init 0 = .ok (.aload_n 0, 1) := by decide +kernel
theorem dX4_init_1 : decode cX4_init 1 = .ok (.invokespecial 1, 3) := by decide +kernel
theorem dX4_init_4 : decode cX4_init 4 = .ok (.aload_n 0, 1) := by decide +kernel
theorem dX4_init_5 : decode cX4_init 5 = .ok (.iconst 1, 1) := by decide +kernel
theorem dX4_init_6 : decode cX4_init 6 = .ok (.putfield 7, 3) := by decide +kernel
theorem dX4_init_9 : decode cX4_init 9 = .ok (.aload_n 0, 1) := by decide +kernel
theorem dX4_init_10 : decode cX4_init 10 = .ok (.bipush 6, 2) := by decide +kernel
theorem dX4_init_12 : decode cX4_init 12 = .ok (.newarray .int, 2) := by decide +kernel
theorem dX4_init_14 : decode cX4_init 14 = .ok (.dup, 1) := by decide +kernel
theorem dX4_init_15 : decode cX4_init 15 = .ok (.iconst 0, 1) := by decide +kernel
theorem dX4_init_16 : decode cX4_init 16 = .ok (.iconst (-1), 1) := by decide +kernel
theorem dX4_init_17 : decode cX4_init 17 = .ok (.iastore, 1) := by decide +kernel
theorem dX4_init_18 : decode cX4_init 18 = .ok (.dup, 1) := by decide +kernel
theorem dX4_init_19 : decode cX4_init 19 = .ok (.iconst 1, 1) := by decide +kernel
theorem dX4_init_20 : decode cX4_init 20 = .ok (.iconst 0, 1) := by decide +kernel
theorem dX4_init_21 : decode cX4_init 21 = .ok (.iastore, 1) := by decide +kernel
theorem dX4_init_22 : decode cX4_init 22 = .ok (.dup, 1) := by decide +kernel
theorem dX4_init_23 : decode cX4_init 23 = .ok (.iconst 2, 1) := by decide +kernel
theorem dX4_init_24 : decode cX4_init 24 = .ok (.iconst 0, 1) := by decide +kernel
theorem dX4_init_25 : decode cX4_init 25 = .ok (.iastore, 1) := by decide +kernel
theorem dX4_init_26 : decode cX4_init 26 = .ok (.dup, 1) := by decide +kernel
theorem dX4_init_27 : decode cX4_init 27 = .ok (.iconst 3, 1) := by decide +kernel
theorem dX4_init_28 : decode cX4_init 28 = .ok (.iconst 0, 1) := by decide +kernel
theorem dX4_init_29 : decode cX4_init 29 = .ok (.iastore, 1) := by decide +kernel
theorem dX4_init_30 : decode cX4_init 30 = .ok (.dup, 1) := by decide +kernel
theorem dX4_init_31 : decode cX4_init 31 = .ok (.iconst 4, 1) := by decide +kernel
theorem dX4_init_32 : decode cX4_init 32 = .ok (.iconst 0, 1) := by decide +kernel
theorem dX4_init_33 : decode cX4_init 33 = .ok (.iastore, 1) := by decide +kernel
theorem dX4_init_34 : decode cX4_init 34 = .ok (.dup, 1) := by decide +kernel
theorem dX4_init_35 : decode cX4_init 35 = .ok (.iconst 5, 1) := by decide +kernel
theorem dX4_init_36 : decode cX4_init 36 = .ok (.iconst 0, 1) := by decide +kernel
theorem dX4_init_37 : decode cX4_init 37 = .ok (.iastore, 1) := by decide +kernel
theorem dX4_init_38 : decode cX4_init 38 = .ok (.putfield 13, 3) := by decide +kernel
theorem dX4_init_41 : decode cX4_init 41 = .ok (.aload_n 0, 1) := by decide +kernel
theorem dX4_init_42 : decode cX4_init 42 = .ok (.bipush 24, 2) := by decide +kernel
theorem dX4_init_44 : decode cX4_init 44 = .ok (.newarray .int, 2) := by decide +kernel
theorem dX4_init_46 : decode cX4_init 46 = .ok (.putfield 17, 3) := by decide +kernel
theorem dX4_init_49 : decode cX4_init 49 = .ok (.aload_n 0, 1) := by decide +kernel
theorem dX4_init_50 : decode cX4_init 50 = .ok (.sipush 960, 3) := by decide +kernel
theorem dX4_init_53 : decode cX4_init 53 = .ok (.newarray .int, 2) := by decide +kernel
theorem dX4_init_55 : decode cX4_init 55 = .ok (.putfield 20, 3) := by decide +kernel
theorem dX4_init_58 : decode cX4_init 58 = .ok (.aload_n 0, 1) := by decide +kernel
theorem dX4_init_59 : decode cX4_init 59 = .ok (.bipush 6, 2) := by decide +kernel
theorem dX4_init_61 : decode cX4_init 61 = .ok (.newarray .boolean, 2) := by decide +kernel
theorem dX4_init_63 : decode cX4_init 63 = .ok (.putfield 23, 3) := by decide +kernel
theorem dX4_init_66 : decode cX4_init 66 = .ok (.aload_n 0, 1) := by decide +kernel
theorem dX4_init_67 : decode cX4_init 67 = .ok (.bipush 24, 2) := by decide +kernel
theorem dX4_init_69 : decode cX4_init 69 = .ok (.newarray .boolean, 2) := by decide +kernel
theorem dX4_init_71 : decode cX4_init 71 = .ok (.putfield 27, 3) := by decide +kernel
theorem dX4_init_74 : decode cX4_init 74 = .ok (.aload_n 0, 1) := by decide +kernel
theorem dX4_init_75 : decode cX4_init 75 = .ok (.bipush 24, 2) := by decide +kernel
theorem dX4_init_77 : decode cX4_init 77 = .ok (.newarray .boolean, 2) := by decide +kernel
theorem dX4_init_79 : decode cX4_init 79 = .ok (.putfield 30, 3) := by decide +kernel
theorem dX4_init_82 : decode cX4_init 82 = .ok (.aload_n 0, 1) := by decide +kernel
theorem dX4_init_83 : decode cX4_init 83 = .ok (.sipush 240, 3) := by decide +kernel
theorem dX4_init_86 : decode cX4_init 86 = .ok (.newarray .int, 2) := by decide +kernel
theorem dX4_init_88 : decode cX4_init 88 = .ok (.putfield 33, 3) := by decide +kernel
theorem dX4_init_91 : decode cX4_init 91 = .ok (.aload_n 0, 1) := by decide +kernel
theorem dX4_init_92 : decode cX4_init 92 = .ok (.bipush 6, 2) := by decide +kernel
theorem dX4_init_94 : decode cX4_init 94 = .ok (.newarray .boolean, 2) := by decide +kernel
theorem dX4_init_96 : decode cX4_init 96 = .ok (.putfield 36, 3) := by decide +kernel
theorem dX4_init_99 : decode cX4_init 99 = .ok (.aload_n 0, 1) := by decide +kernel
theorem dX4_init_100 : decode cX4_init 100 = .ok (.sipush 420, 3) := by decide +kernel
theorem dX4_init_103 : decode cX4_init 103 = .ok (.newarray .int, 2) := by decide +kernel
theorem dX4_init_105 : decode cX4_init 105 = .ok (.putfield 39, 3) := by decide +kernel
theorem dX4_init_108 : decode cX4_init 108 = .ok (.aload_n 0, 1) := by decide +kernel
theorem dX4_init_109 : decode cX4_init 109 = .ok (.sipush 1260, 3) := by decide +kernel
theorem dX4_init_112 : decode cX4_init 112 = .ok (.newarray .boolean, 2) := by decide +kernel
theorem dX4_init_114 : decode cX4_init 114 = .ok (.putfield 42, 3) := by decide +kernel
theorem dX4_init_117 : decode cX4_init 117 = .ok (.aload_n 0, 1) := by decide +kernel
theorem dX4_init_118 : decode cX4_init 118 = .ok (.sipush 1260, 3) := by decide +kernel
theorem dX4_init_121 : decode cX4_init 121 = .ok (.newarray .int, 2) := by decide +kernel
theorem dX4_init_123 : decode cX4_init 123 = .ok (.putfield 45, 3) := by decide +kernel
theorem dX4_init_126 : decode cX4_init 126 = .ok (.aload_n 0, 1) := by decide +kernel
theorem dX4_init_127 : decode cX4_init 127 = .ok (.bipush 13, 2) := by decide +kernel
theorem dX4_init_129 : decode cX4_init 129 = .ok (.newarray .int, 2) := by decide +kernel
theorem dX4_init_131 : decode cX4_init 131 = .ok (.putfield 48, 3) := by decide +kernel
theorem dX4_init_134 : decode cX4_init 134 = .ok (.aload_n 0, 1) := by decide +kernel
theorem dX4_init_135 : decode cX4_init 135 = .ok (.bipush 13, 2) := by decide +kernel
theorem dX4_init_137 : decode cX4_init 137 = .ok (.newarray .int, 2) := by decide +kernel
theorem dX4_init_139 : decode cX4_init 139 = .ok (.putfield 51, 3) := by decide +kernel
theorem dX4_init_142 : decode cX4_init 142 = .ok (.aload_n 0, 1) := by decide +kernel
theorem dX4_init_143 : decode cX4_init 143 = .ok (.bipush 13, 2) := by decide +kernel
theorem dX4_init_145 : decode cX4_init 145 = .ok (.newarray .int, 2) := by decide +kernel
theorem dX4_init_147 : decode cX4_init 147 = .ok (.putfield 54, 3) := by decide +kernel
theorem dX4_init_150 : decode cX4_init 150 = .ok (.aload_n 0, 1) := by decide +kernel
theorem dX4_init_151 : decode cX4_init 151 = .ok (.bipush 78, 2) := by decide +kernel
theorem dX4_init_153 : decode cX4_init 153 = .ok (.newarray .boolean, 2) := by decide +kernel
theorem dX4_init_155 : decode cX4_init 155 = .ok (.putfield 57, 3) := by decide +kernel
theorem dX4_init_158 : decode cX4_init 158 = .ok (.aload_n 0, 1) := by decide +kernel
theorem dX4_init_159 : decode cX4_init 159 = .ok (.bipush 78, 2) := by decide +kernel
theorem dX4_init_161 : decode cX4_init 161 = .ok (.newarray .int, 2) := by decide +kernel
theorem dX4_init_163 : decode cX4_init 163 = .ok (.putfield 60, 3) := by decide +kernel
theorem dX4_init_166 : decode cX4_init 166 = .ok (.aload_n 0, 1) := by decide +kernel
theorem dX4_init_167 : decode cX4_init 167 = .ok (.bipush 40, 2) := by decide +kernel
theorem dX4_init_169 : decode cX4_init 169 = .ok (.newarray .int, 2) := by decide +kernel
theorem dX4_init_171 : decode cX4_init 171 = .ok (.putfield 63, 3) := by decide +kernel
theorem dX4_init_174 : decode cX4_init 174 = .ok (.aload_n 0, 1) := by decide +kernel
theorem dX4_init_175 : decode cX4_init 175 = .ok (.bipush 6, 2) := by decide +kernel
theorem dX4_init_177 : decode cX4_init 177 = .ok (.newarray .int, 2) := by decide +kernel
theorem dX4_init_179 : decode cX4_init 179 = .ok (.putfield 66, 3) := by decide +kernel
theorem dX4_init_182 : decode cX4_init 182 = .ok (.return_, 1) := by decide +kernel
theorem dX4_thrown_0 : decode cX4_thrown 0 = .ok (.aload_n 0, 1) := by decide +kernel
theorem dX4_thrown_1 : decode cX4_thrown 1 = .ok (.getfield 69, 3) := by decide +kernel
theorem dX4_thrown_4 : decode cX4_thrown 4 = .ok (.ireturn, 1) := by decide +kernel
theorem dX4_fails_0 : decode cX4_fails 0 = .ok (.aload_n 0, 1) := by decide +kernel
theorem dX4_fails_1 : decode cX4_fails 1 = .ok (.iload_n 1, 1) := by decide +kernel
theorem dX4_fails_2 : decode cX4_fails 2 = .ok (.ifCond .eq 7, 3) := by decide +kernel
theorem dX4_fails_5 : decode cX4_fails 5 = .ok (.iconst 1, 1) := by decide +kernel
theorem dX4_fails_6 : decode cX4_fails 6 = .ok (.goto 12, 3) := by decide +kernel
theorem dX4_fails_9 : decode cX4_fails 9 = .ok (.iload_n 2, 1) := by decide +kernel
theorem dX4_fails_10 : decode cX4_fails 10 = .ok (.ifCond .eq 7, 3) := by decide +kernel
theorem dX4_fails_13 : decode cX4_fails 13 = .ok (.iconst 2, 1) := by decide +kernel
theorem dX4_fails_14 : decode cX4_fails 14 = .ok (.goto 4, 3) := by decide +kernel
theorem dX4_fails_17 : decode cX4_fails 17 = .ok (.iconst 0, 1) := by decide +kernel
theorem dX4_fails_18 : decode cX4_fails 18 = .ok (.putfield 69, 3) := by decide +kernel
theorem dX4_fails_21 : decode cX4_fails 21 = .ok (.aload_n 0, 1) := by decide +kernel
theorem dX4_fails_22 : decode cX4_fails 22 = .ok (.getfield 69, 3) := by decide +kernel
theorem dX4_fails_25 : decode cX4_fails 25 = .ok (.ifCond .le 7, 3) := by decide +kernel
theorem dX4_fails_28 : decode cX4_fails 28 = .ok (.iconst 1, 1) := by decide +kernel
theorem dX4_fails_29 : decode cX4_fails 29 = .ok (.goto 4, 3) := by decide +kernel
theorem dX4_fails_32 : decode cX4_fails 32 = .ok (.iconst 0, 1) := by decide +kernel
theorem dX4_fails_33 : decode cX4_fails 33 = .ok (.ireturn, 1) := by decide +kernel
theorem dX4_outside_0 : decode cX4_outside 0 = .ok (.iload_n 0, 1) := by decide +kernel
theorem dX4_outside_1 : decode cX4_outside 1 = .ok (.iload_n 1, 1) := by decide +kernel
theorem dX4_outside_2 : decode cX4_outside 2 = .ok (.if_icmp .lt 8, 3) := by decide +kernel
theorem dX4_outside_5 : decode cX4_outside 5 = .ok (.iload_n 0, 1) := by decide +kernel
theorem dX4_outside_6 : decode cX4_outside 6 = .ok (.iload_n 2, 1) := by decide +kernel
theorem dX4_outside_7 : decode cX4_outside 7 = .ok (.if_icmp .le 7, 3) := by decide +kernel
theorem dX4_outside_10 : decode cX4_outside 10 = .ok (.iconst 1, 1) := by decide +kernel
theorem dX4_outside_11 : decode cX4_outside 11 = .ok (.goto 4, 3) := by decide +kernel
theorem dX4_outside_14 : decode cX4_outside 14 = .ok (.iconst 0, 1) := by decide +kernel
theorem dX4_outside_15 : decode cX4_outside 15 = .ok (.ireturn, 1) := by decide +kernel
theorem dX4_type_0 : decode cX4_type 0 = .ok (.aload_n 0, 1) := by decide +kernel
theorem dX4_type_1 : decode cX4_type 1 = .ok (.iload_n 1, 1) := by decide +kernel
theorem dX4_type_2 : decode cX4_type 2 = .ok (.iconst (-1), 1) := by decide +kernel
theorem dX4_type_3 : decode cX4_type 3 = .ok (.aload_n 0, 1) := by decide +kernel
theorem dX4_type_4 : decode cX4_type 4 = .ok (.getfield 7, 3) := by decide +kernel
theorem dX4_type_7 : decode cX4_type 7 = .ok (.iconst 1, 1) := by decide +kernel
theorem dX4_type_8 : decode cX4_type 8 = .ok (.isub, 1) := by decide +kernel
theorem dX4_type_9 : decode cX4_type 9 = .ok (.invokestatic 72, 3) := by decide +kernel
theorem dX4_type_12 : decode cX4_type 12 = .ok (.aload_n 0, 1) := by decide +kernel
theorem dX4_type_13 : decode cX4_type 13 = .ok (.getfield 7, 3) := by decide +kernel
theorem dX4_type_16 : decode cX4_type 16 = .ok (.bipush 6, 2) := by decide +kernel
theorem dX4_type_18 : decode cX4_type 18 = .ok (.if_icmp .ne 7, 3) := by decide +kernel
theorem dX4_type_21 : decode cX4_type 21 = .ok (.iconst 1, 1) := by decide +kernel
theorem dX4_type_22 : decode cX4_type 22 = .ok (.goto 4, 3) := by decide +kernel
theorem dX4_type_25 : decode cX4_type 25 = .ok (.iconst 0, 1) := by decide +kernel
theorem dX4_type_26 : decode cX4_type 26 = .ok (.invokevirtual 76, 3) := by decide +kernel
theorem dX4_type_29 : decode cX4_type 29 = .ok (.ifCond .eq 5, 3) := by decide +kernel
theorem dX4_type_32 : decode cX4_type 32 = .ok (.iconst 0, 1) := by decide +kernel
theorem dX4_type_33 : decode cX4_type 33 = .ok (.ireturn, 1) := by decide +kernel
theorem dX4_type_34 : decode cX4_type 34 = .ok (.aload_n 0, 1) := by decide +kernel
theorem dX4_type_35 : decode cX4_type 35 = .ok (.getfield 13, 3) := by decide +kernel
theorem dX4_type_38 : decode cX4_type 38 = .ok (.aload_n 0, 1) := by decide +kernel
theorem dX4_type_39 : decode cX4_type 39 = .ok (.getfield 7, 3) := by decide +kernel
theorem dX4_type_42 : decode cX4_type 42 = .ok (.iload_n 1, 1) := by decide +kernel
theorem dX4_type_43 : decode cX4_type 43 = .ok (.iastore, 1) := by decide +kernel
theorem dX4_type_44 : decode cX4_type 44 = .ok (.aload_n 0, 1) := by decide +kernel
theorem dX4_type_45 : decode cX4_type 45 = .ok (.dup, 1) := by decide +kernel
theorem dX4_type_46 : decode cX4_type 46 = .ok (.getfield 7, 3) := by decide +kernel
theorem dX4_type_49 : decode cX4_type 49 = .ok (.iconst 1, 1) := by decide +kernel
theorem dX4_type_50 : decode cX4_type 50 = .ok (.iadd, 1) := by decide +kernel
theorem dX4_type_51 : decode cX4_type 51 = .ok (.putfield 7, 3) := by decide +kernel
theorem dX4_type_54 : decode cX4_type 54 = .ok (.aload_n 0, 1) := by decide +kernel
theorem dX4_type_55 : decode cX4_type 55 = .ok (.getfield 7, 3) := by decide +kernel
theorem dX4_type_58 : decode cX4_type 58 = .ok (.iconst 1, 1) := by decide +kernel
theorem dX4_type_59 : decode cX4_type 59 = .ok (.isub, 1) := by decide +kernel
theorem dX4_type_60 : decode cX4_type 60 = .ok (.ireturn, 1) := by decide +kernel
theorem dX4_isRegister_0 : decode cX4_isRegister 0 = .ok (.iload_n 0, 1) := by decide +kernel
theorem dX4_isRegister_1 : decode cX4_isRegister 1 = .ok (.ifCond .lt 12, 3) := by decide +kernel
theorem dX4_isRegister_4 : decode cX4_isRegister 4 = .ok (.iload_n 0, 1) := by decide +kernel
theorem dX4_isRegister_5 : decode cX4_isRegister 5 = .ok (.iconst 5, 1) := by decide +kernel
theorem dX4_isRegister_6 : decode cX4_isRegister 6 = .ok (.if_icmp .gt 7, 3) := by decide +kernel
theorem dX4_isRegister_9 : decode cX4_isRegister 9 = .ok (.iconst 1, 1) := by decide +kernel
theorem dX4_isRegister_10 : decode cX4_isRegister 10 = .ok (.goto 4, 3) := by decide +kernel
theorem dX4_isRegister_13 : decode cX4_isRegister 13 = .ok (.iconst 0, 1) := by decide +kernel
theorem dX4_isRegister_14 : decode cX4_isRegister 14 = .ok (.ireturn, 1) := by decide +kernel
theorem dX4_isField_0 : decode cX4_isField 0 = .ok (.iload_n 0, 1) := by decide +kernel
theorem dX4_isField_1 : decode cX4_isField 1 = .ok (.ifCond .lt 12, 3) := by decide +kernel
theorem dX4_isField_4 : decode cX4_isField 4 = .ok (.iload_n 0, 1) := by decide +kernel
theorem dX4_isField_5 : decode cX4_isField 5 = .ok (.iconst 2, 1) := by decide +kernel
theorem dX4_isField_6 : decode cX4_isField 6 = .ok (.if_icmp .gt 7, 3) := by decide +kernel
theorem dX4_isField_9 : decode cX4_isField 9 = .ok (.iconst 1, 1) := by decide +kernel
theorem dX4_isField_10 : decode cX4_isField 10 = .ok (.goto 4, 3) := by decide +kernel
theorem dX4_isField_13 : decode cX4_isField 13 = .ok (.iconst 0, 1) := by decide +kernel
theorem dX4_isField_14 : decode cX4_isField 14 = .ok (.ireturn, 1) := by decide +kernel
theorem dX4_isGood_0 : decode cX4_isGood 0 = .ok (.iload_n 0, 1) := by decide +kernel
theorem dX4_isGood_1 : decode cX4_isGood 1 = .ok (.iconst 0, 1) := by decide +kernel
theorem dX4_isGood_2 : decode cX4_isGood 2 = .ok (.bipush 11, 2) := by decide +kernel
theorem dX4_isGood_4 : decode cX4_isGood 4 = .ok (.invokestatic 72, 3) := by decide +kernel
theorem dX4_isGood_7 : decode cX4_isGood 7 = .ok (.ifCond .ne 10, 3) := by decide +kernel
theorem dX4_isGood_10 : decode cX4_isGood 10 = .ok (.iload_n 1, 1) := by decide +kernel
theorem dX4_isGood_11 : decode cX4_isGood 11 = .ok (.invokestatic 80, 3) := by decide +kernel
theorem dX4_isGood_14 : decode cX4_isGood 14 = .ok (.ifCond .ne 5, 3) := by decide +kernel
theorem dX4_isGood_17 : decode cX4_isGood 17 = .ok (.iconst 0, 1) := by decide +kernel
theorem dX4_isGood_18 : decode cX4_isGood 18 = .ok (.ireturn, 1) := by decide +kernel
theorem dX4_isGood_19 : decode cX4_isGood 19 = .ok (.iload_n 0, 1) := by decide +kernel
theorem dX4_isGood_20 : decode cX4_isGood 20 = .ok (.tableswitch 154 1 10 #[56, 61, 61, 81, 96, 96, 116, 154, 138, 81], 56) := by decide +kernel
theorem dX4_isGood_76 : decode cX4_isGood 76 = .ok (.iload_n 2, 1) := by decide +kernel
theorem dX4_isGood_77 : decode cX4_isGood 77 = .ok (.invokestatic 80, 3) := by decide +kernel
theorem dX4_isGood_80 : decode cX4_isGood 80 = .ok (.ireturn, 1) := by decide +kernel
theorem dX4_isGood_81 : decode cX4_isGood 81 = .ok (.iload_n 2, 1) := by decide +kernel
theorem dX4_isGood_82 : decode cX4_isGood 82 = .ok (.invokestatic 80, 3) := by decide +kernel
theorem dX4_isGood_85 : decode cX4_isGood 85 = .ok (.ifCond .eq 14, 3) := by decide +kernel
theorem dX4_isGood_88 : decode cX4_isGood 88 = .ok (.iload_n 3, 1) := by decide +kernel
theorem dX4_isGood_89 : decode cX4_isGood 89 = .ok (.invokestatic 80, 3) := by decide +kernel
theorem dX4_isGood_92 : decode cX4_isGood 92 = .ok (.ifCond .eq 7, 3) := by decide +kernel
theorem dX4_isGood_95 : decode cX4_isGood 95 = .ok (.iconst 1, 1) := by decide +kernel
theorem dX4_isGood_96 : decode cX4_isGood 96 = .ok (.goto 4, 3) := by decide +kernel
theorem dX4_isGood_99 : decode cX4_isGood 99 = .ok (.iconst 0, 1) := by decide +kernel
theorem dX4_isGood_100 : decode cX4_isGood 100 = .ok (.ireturn, 1) := by decide +kernel
theorem dX4_isGood_101 : decode cX4_isGood 101 = .ok (.iload_n 2, 1) := by decide +kernel
theorem dX4_isGood_102 : decode cX4_isGood 102 = .ok (.iconst 0, 1) := by decide +kernel
theorem dX4_isGood_103 : decode cX4_isGood 103 = .ok (.iconst 5, 1) := by decide +kernel
theorem dX4_isGood_104 : decode cX4_isGood 104 = .ok (.invokestatic 72, 3) := by decide +kernel
theorem dX4_isGood_107 : decode cX4_isGood 107 = .ok (.ifCond .ne 7, 3) := by decide +kernel
theorem dX4_isGood_110 : decode cX4_isGood 110 = .ok (.iconst 1, 1) := by decide +kernel
theorem dX4_isGood_111 : decode cX4_isGood 111 = .ok (.goto 4, 3) := by decide +kernel
theorem dX4_isGood_114 : decode cX4_isGood 114 = .ok (.iconst 0, 1) := by decide +kernel
theorem dX4_isGood_115 : decode cX4_isGood 115 = .ok (.ireturn, 1) := by decide +kernel
theorem dX4_isGood_116 : decode cX4_isGood 116 = .ok (.iload_n 2, 1) := by decide +kernel
theorem dX4_isGood_117 : decode cX4_isGood 117 = .ok (.invokestatic 80, 3) := by decide +kernel
theorem dX4_isGood_120 : decode cX4_isGood 120 = .ok (.ifCond .eq 14, 3) := by decide +kernel
theorem dX4_isGood_123 : decode cX4_isGood 123 = .ok (.iload_n 3, 1) := by decide +kernel
theorem dX4_isGood_124 : decode cX4_isGood 124 = .ok (.invokestatic 84, 3) := by decide +kernel
theorem dX4_isGood_127 : decode cX4_isGood 127 = .ok (.ifCond .eq 7, 3) := by decide +kernel
theorem dX4_isGood_130 : decode cX4_isGood 130 = .ok (.iconst 1, 1) := by decide +kernel
theorem dX4_isGood_131 : decode cX4_isGood 131 = .ok (.goto 4, 3) := by decide +kernel
theorem dX4_isGood_134 : decode cX4_isGood 134 = .ok (.iconst 0, 1) := by decide +kernel
theorem dX4_isGood_135 : decode cX4_isGood 135 = .ok (.ireturn, 1) := by decide +kernel
theorem dX4_isGood_136 : decode cX4_isGood 136 = .ok (.iload_n 2, 1) := by decide +kernel
theorem dX4_isGood_137 : decode cX4_isGood 137 = .ok (.invokestatic 80, 3) := by decide +kernel
theorem dX4_isGood_140 : decode cX4_isGood 140 = .ok (.ifCond .eq 16, 3) := by decide +kernel
theorem dX4_isGood_143 : decode cX4_isGood 143 = .ok (.iload_n 3, 1) := by decide +kernel
theorem dX4_isGood_144 : decode cX4_isGood 144 = .ok (.iconst 0, 1) := by decide +kernel
theorem dX4_isGood_145 : decode cX4_isGood 145 = .ok (.iconst 3, 1) := by decide +kernel
theorem dX4_isGood_146 : decode cX4_isGood 146 = .ok (.invokestatic 72, 3) := by decide +kernel
theorem dX4_isGood_149 : decode cX4_isGood 149 = .ok (.ifCond .ne 7, 3) := by decide +kernel
theorem dX4_isGood_152 : decode cX4_isGood 152 = .ok (.iconst 1, 1) := by decide +kernel
theorem dX4_isGood_153 : decode cX4_isGood 153 = .ok (.goto 4, 3) := by decide +kernel
theorem dX4_isGood_156 : decode cX4_isGood 156 = .ok (.iconst 0, 1) := by decide +kernel
theorem dX4_isGood_157 : decode cX4_isGood 157 = .ok (.ireturn, 1) := by decide +kernel
theorem dX4_isGood_158 : decode cX4_isGood 158 = .ok (.iload_n 2, 1) := by decide +kernel
theorem dX4_isGood_159 : decode cX4_isGood 159 = .ok (.iconst 0, 1) := by decide +kernel
theorem dX4_isGood_160 : decode cX4_isGood 160 = .ok (.bipush 9, 2) := by decide +kernel
theorem dX4_isGood_162 : decode cX4_isGood 162 = .ok (.invokestatic 72, 3) := by decide +kernel
theorem dX4_isGood_165 : decode cX4_isGood 165 = .ok (.ifCond .ne 7, 3) := by decide +kernel
theorem dX4_isGood_168 : decode cX4_isGood 168 = .ok (.iconst 1, 1) := by decide +kernel
theorem dX4_isGood_169 : decode cX4_isGood 169 = .ok (.goto 4, 3) := by decide +kernel
theorem dX4_isGood_172 : decode cX4_isGood 172 = .ok (.iconst 0, 1) := by decide +kernel
theorem dX4_isGood_173 : decode cX4_isGood 173 = .ok (.ireturn, 1) := by decide +kernel
theorem dX4_isGood_174 : decode cX4_isGood 174 = .ok (.iconst 1, 1) := by decide +kernel
theorem dX4_isGood_175 : decode cX4_isGood 175 = .ok (.ireturn, 1) := by decide +kernel
theorem dX4_isBody_0 : decode cX4_isBody 0 = .ok (.iload_n 1, 1) := by decide +kernel
theorem dX4_isBody_1 : decode cX4_isBody 1 = .ok (.ifCond .lt 24, 3) := by decide +kernel
theorem dX4_isBody_4 : decode cX4_isBody 4 = .ok (.iload_n 1, 1) := by decide +kernel
theorem dX4_isBody_5 : decode cX4_isBody 5 = .ok (.aload_n 0, 1) := by decide +kernel
theorem dX4_isBody_6 : decode cX4_isBody 6 = .ok (.getfield 7, 3) := by decide +kernel
theorem dX4_isBody_9 : decode cX4_isBody 9 = .ok (.if_icmp .ge 16, 3) := by decide +kernel
theorem dX4_isBody_12 : decode cX4_isBody 12 = .ok (.iload_n 2, 1) := by decide +kernel
theorem dX4_isBody_13 : decode cX4_isBody 13 = .ok (.ifCond .lt 12, 3) := by decide +kernel
theorem dX4_isBody_16 : decode cX4_isBody 16 = .ok (.iload_n 2, 1) := by decide +kernel
theorem dX4_isBody_17 : decode cX4_isBody 17 = .ok (.iconst 3, 1) := by decide +kernel
theorem dX4_isBody_18 : decode cX4_isBody 18 = .ok (.if_icmp .gt 7, 3) := by decide +kernel
theorem dX4_isBody_21 : decode cX4_isBody 21 = .ok (.iconst 1, 1) := by decide +kernel
theorem dX4_isBody_22 : decode cX4_isBody 22 = .ok (.goto 4, 3) := by decide +kernel
theorem dX4_isBody_25 : decode cX4_isBody 25 = .ok (.iconst 0, 1) := by decide +kernel
theorem dX4_isBody_26 : decode cX4_isBody 26 = .ok (.ireturn, 1) := by decide +kernel
theorem dX4_operation_0 : decode cX4_operation 0 = .ok (.aload_n 0, 1) := by decide +kernel
theorem dX4_operation_1 : decode cX4_operation 1 = .ok (.iload_n 1, 1) := by decide +kernel
theorem dX4_operation_2 : decode cX4_operation 2 = .ok (.iload_n 2, 1) := by decide +kernel
theorem dX4_operation_3 : decode cX4_operation 3 = .ok (.invokevirtual 87, 3) := by decide +kernel
theorem dX4_operation_6 : decode cX4_operation 6 = .ok (.ifCond .eq 20, 3) := by decide +kernel
theorem dX4_operation_9 : decode cX4_operation 9 = .ok (.iload_n 3, 1) := by decide +kernel
theorem dX4_operation_10 : decode cX4_operation 10 = .ok (.iload 4, 2) := by decide +kernel
theorem dX4_operation_12 : decode cX4_operation 12 = .ok (.iload 5, 2) := by decide +kernel
theorem dX4_operation_14 : decode cX4_operation 14 = .ok (.iload 6, 2) := by decide +kernel
theorem dX4_operation_16 : decode cX4_operation 16 = .ok (.invokestatic 91, 3) := by decide +kernel
theorem dX4_operation_19 : decode cX4_operation 19 = .ok (.ifCond .eq 7, 3) := by decide +kernel
theorem dX4_operation_22 : decode cX4_operation 22 = .ok (.iconst 1, 1) := by decide +kernel
theorem dX4_operation_23 : decode cX4_operation 23 = .ok (.goto 4, 3) := by decide +kernel
theorem dX4_operation_26 : decode cX4_operation 26 = .ok (.iconst 0, 1) := by decide +kernel
theorem dX4_operation_27 : decode cX4_operation 27 = .ok (.istore 7, 2) := by decide +kernel
theorem dX4_operation_29 : decode cX4_operation 29 = .ok (.iload 7, 2) := by decide +kernel
theorem dX4_operation_31 : decode cX4_operation 31 = .ok (.ifCond .eq 11, 3) := by decide +kernel
theorem dX4_operation_34 : decode cX4_operation 34 = .ok (.iconst 4, 1) := by decide +kernel
theorem dX4_operation_35 : decode cX4_operation 35 = .ok (.iload_n 1, 1) := by decide +kernel
theorem dX4_operation_36 : decode cX4_operation 36 = .ok (.imul, 1) := by decide +kernel
theorem dX4_operation_37 : decode cX4_operation 37 = .ok (.iload_n 2, 1) := by decide +kernel
theorem dX4_operation_38 : decode cX4_operation 38 = .ok (.iadd, 1) := by decide +kernel
theorem dX4_operation_39 : decode cX4_operation 39 = .ok (.goto 4, 3) := by decide +kernel
theorem dX4_operation_42 : decode cX4_operation 42 = .ok (.iconst 0, 1) := by decide +kernel
theorem dX4_operation_43 : decode cX4_operation 43 = .ok (.istore 8, 2) := by decide +kernel
theorem dX4_operation_45 : decode cX4_operation 45 = .ok (.aload_n 0, 1) := by decide +kernel
theorem dX4_operation_46 : decode cX4_operation 46 = .ok (.iload 7, 2) := by decide +kernel
end
section
theorem dX4_operation_48 : decode cX4_operation 48 = .ok (.ifCond .ne 7, 3) := by decide +kernel
theorem dX4_operation_51 : decode cX4_operation 51 = .ok (.iconst 1, 1) := by decide +kernel
theorem dX4_operation_52 : decode cX4_operation 52 = .ok (.goto 4, 3) := by decide +kernel
theorem dX4_operation_55 : decode cX4_operation 55 = .ok (.iconst 0, 1) := by decide +kernel
theorem dX4_operation_56 : decode cX4_operation 56 = .ok (.iload 7, 2) := by decide +kernel
theorem dX4_operation_58 : decode cX4_operation 58 = .ok (.ifCond .eq 19, 3) := by decide +kernel
theorem dX4_operation_61 : decode cX4_operation 61 = .ok (.aload_n 0, 1) := by decide +kernel
theorem dX4_operation_62 : decode cX4_operation 62 = .ok (.getfield 17, 3) := by decide +kernel
theorem dX4_operation_65 : decode cX4_operation 65 = .ok (.iload 8, 2) := by decide +kernel
theorem dX4_operation_67 : decode cX4_operation 67 = .ok (.iaload, 1) := by decide +kernel
theorem dX4_operation_68 : decode cX4_operation 68 = .ok (.bipush 10, 2) := by decide +kernel
theorem dX4_operation_70 : decode cX4_operation 70 = .ok (.if_icmp .ne 7, 3) := by decide +kernel
theorem dX4_operation_73 : decode cX4_operation 73 = .ok (.iconst 1, 1) := by decide +kernel
theorem dX4_operation_74 : decode cX4_operation 74 = .ok (.goto 4, 3) := by decide +kernel
theorem dX4_operation_77 : decode cX4_operation 77 = .ok (.iconst 0, 1) := by decide +kernel
theorem dX4_operation_78 : decode cX4_operation 78 = .ok (.invokevirtual 76, 3) := by decide +kernel
theorem dX4_operation_81 : decode cX4_operation 81 = .ok (.ifCond .eq 5, 3) := by decide +kernel
theorem dX4_operation_84 : decode cX4_operation 84 = .ok (.iconst 0, 1) := by decide +kernel
theorem dX4_operation_85 : decode cX4_operation 85 = .ok (.ireturn, 1) := by decide +kernel
theorem dX4_operation_86 : decode cX4_operation 86 = .ok (.bipush 40, 2) := by decide +kernel
theorem dX4_operation_88 : decode cX4_operation 88 = .ok (.iload 8, 2) := by decide +kernel
theorem dX4_operation_90 : decode cX4_operation 90 = .ok (.imul, 1) := by decide +kernel
theorem dX4_operation_91 : decode cX4_operation 91 = .ok (.iconst 4, 1) := by decide +kernel
theorem dX4_operation_92 : decode cX4_operation 92 = .ok (.aload_n 0, 1) := by decide +kernel
theorem dX4_operation_93 : decode cX4_operation 93 = .ok (.getfield 17, 3) := by decide +kernel
theorem dX4_operation_96 : decode cX4_operation 96 = .ok (.iload 8, 2) := by decide +kernel
theorem dX4_operation_98 : decode cX4_operation 98 = .ok (.iaload, 1) := by decide +kernel
theorem dX4_operation_99 : decode cX4_operation 99 = .ok (.imul, 1) := by decide +kernel
theorem dX4_operation_100 : decode cX4_operation 100 = .ok (.iadd, 1) := by decide +kernel
theorem dX4_operation_101 : decode cX4_operation 101 = .ok (.istore 9, 2) := by decide +kernel
theorem dX4_operation_103 : decode cX4_operation 103 = .ok (.aload_n 0, 1) := by decide +kernel
theorem dX4_operation_104 : decode cX4_operation 104 = .ok (.getfield 20, 3) := by decide +kernel
theorem dX4_operation_107 : decode cX4_operation 107 = .ok (.iload 9, 2) := by decide +kernel
theorem dX4_operation_109 : decode cX4_operation 109 = .ok (.iload_n 3, 1) := by decide +kernel
theorem dX4_operation_110 : decode cX4_operation 110 = .ok (.iastore, 1) := by decide +kernel
theorem dX4_operation_111 : decode cX4_operation 111 = .ok (.aload_n 0, 1) := by decide +kernel
theorem dX4_operation_112 : decode cX4_operation 112 = .ok (.getfield 20, 3) := by decide +kernel
theorem dX4_operation_115 : decode cX4_operation 115 = .ok (.iload 9, 2) := by decide +kernel
theorem dX4_operation_117 : decode cX4_operation 117 = .ok (.iconst 1, 1) := by decide +kernel
theorem dX4_operation_118 : decode cX4_operation 118 = .ok (.iadd, 1) := by decide +kernel
theorem dX4_operation_119 : decode cX4_operation 119 = .ok (.iload 4, 2) := by decide +kernel
theorem dX4_operation_121 : decode cX4_operation 121 = .ok (.iastore, 1) := by decide +kernel
theorem dX4_operation_122 : decode cX4_operation 122 = .ok (.aload_n 0, 1) := by decide +kernel
theorem dX4_operation_123 : decode cX4_operation 123 = .ok (.getfield 20, 3) := by decide +kernel
theorem dX4_operation_126 : decode cX4_operation 126 = .ok (.iload 9, 2) := by decide +kernel
theorem dX4_operation_128 : decode cX4_operation 128 = .ok (.iconst 2, 1) := by decide +kernel
theorem dX4_operation_129 : decode cX4_operation 129 = .ok (.iadd, 1) := by decide +kernel
theorem dX4_operation_130 : decode cX4_operation 130 = .ok (.iload 5, 2) := by decide +kernel
theorem dX4_operation_132 : decode cX4_operation 132 = .ok (.iastore, 1) := by decide +kernel
theorem dX4_operation_133 : decode cX4_operation 133 = .ok (.aload_n 0, 1) := by decide +kernel
theorem dX4_operation_134 : decode cX4_operation 134 = .ok (.getfield 20, 3) := by decide +kernel
theorem dX4_operation_137 : decode cX4_operation 137 = .ok (.iload 9, 2) := by decide +kernel
theorem dX4_operation_139 : decode cX4_operation 139 = .ok (.iconst 3, 1) := by decide +kernel
theorem dX4_operation_140 : decode cX4_operation 140 = .ok (.iadd, 1) := by decide +kernel
theorem dX4_operation_141 : decode cX4_operation 141 = .ok (.iload 6, 2) := by decide +kernel
theorem dX4_operation_143 : decode cX4_operation 143 = .ok (.iastore, 1) := by decide +kernel
theorem dX4_operation_144 : decode cX4_operation 144 = .ok (.aload_n 0, 1) := by decide +kernel
theorem dX4_operation_145 : decode cX4_operation 145 = .ok (.getfield 17, 3) := by decide +kernel
theorem dX4_operation_148 : decode cX4_operation 148 = .ok (.iload 8, 2) := by decide +kernel
theorem dX4_operation_150 : decode cX4_operation 150 = .ok (.dup2, 1) := by decide +kernel
theorem dX4_operation_151 : decode cX4_operation 151 = .ok (.iaload, 1) := by decide +kernel
theorem dX4_operation_152 : decode cX4_operation 152 = .ok (.iconst 1, 1) := by decide +kernel
theorem dX4_operation_153 : decode cX4_operation 153 = .ok (.iadd, 1) := by decide +kernel
theorem dX4_operation_154 : decode cX4_operation 154 = .ok (.iastore, 1) := by decide +kernel
theorem dX4_operation_155 : decode cX4_operation 155 = .ok (.aload_n 0, 1) := by decide +kernel
theorem dX4_operation_156 : decode cX4_operation 156 = .ok (.getfield 30, 3) := by decide +kernel
theorem dX4_operation_159 : decode cX4_operation 159 = .ok (.iload 8, 2) := by decide +kernel
theorem dX4_operation_161 : decode cX4_operation 161 = .ok (.iconst 1, 1) := by decide +kernel
theorem dX4_operation_162 : decode cX4_operation 162 = .ok (.bastore, 1) := by decide +kernel
theorem dX4_operation_163 : decode cX4_operation 163 = .ok (.aload_n 0, 1) := by decide +kernel
theorem dX4_operation_164 : decode cX4_operation 164 = .ok (.getfield 17, 3) := by decide +kernel
theorem dX4_operation_167 : decode cX4_operation 167 = .ok (.iload 8, 2) := by decide +kernel
theorem dX4_operation_169 : decode cX4_operation 169 = .ok (.iaload, 1) := by decide +kernel
theorem dX4_operation_170 : decode cX4_operation 170 = .ok (.ireturn, 1) := by decide +kernel
theorem dX4_strip_0 : decode cX4_strip 0 = .ok (.aload_n 0, 1) := by decide +kernel
theorem dX4_strip_1 : decode cX4_strip 1 = .ok (.aload_n 0, 1) := by decide +kernel
theorem dX4_strip_2 : decode cX4_strip 2 = .ok (.iload_n 1, 1) := by decide +kernel
theorem dX4_strip_3 : decode cX4_strip 3 = .ok (.iload_n 2, 1) := by decide +kernel
theorem dX4_strip_4 : decode cX4_strip 4 = .ok (.invokevirtual 87, 3) := by decide +kernel
theorem dX4_strip_7 : decode cX4_strip 7 = .ok (.ifCond .ne 7, 3) := by decide +kernel
theorem dX4_strip_10 : decode cX4_strip 10 = .ok (.iconst 1, 1) := by decide +kernel
theorem dX4_strip_11 : decode cX4_strip 11 = .ok (.goto 4, 3) := by decide +kernel
theorem dX4_strip_14 : decode cX4_strip 14 = .ok (.iconst 0, 1) := by decide +kernel
theorem dX4_strip_15 : decode cX4_strip 15 = .ok (.iconst 0, 1) := by decide +kernel
theorem dX4_strip_16 : decode cX4_strip 16 = .ok (.invokevirtual 76, 3) := by decide +kernel
theorem dX4_strip_19 : decode cX4_strip 19 = .ok (.ifCond .eq 5, 3) := by decide +kernel
theorem dX4_strip_22 : decode cX4_strip 22 = .ok (.iconst 0, 1) := by decide +kernel
theorem dX4_strip_23 : decode cX4_strip 23 = .ok (.ireturn, 1) := by decide +kernel
theorem dX4_strip_24 : decode cX4_strip 24 = .ok (.iconst 4, 1) := by decide +kernel
theorem dX4_strip_25 : decode cX4_strip 25 = .ok (.iload_n 1, 1) := by decide +kernel
theorem dX4_strip_26 : decode cX4_strip 26 = .ok (.imul, 1) := by decide +kernel
theorem dX4_strip_27 : decode cX4_strip 27 = .ok (.iload_n 2, 1) := by decide +kernel
theorem dX4_strip_28 : decode cX4_strip 28 = .ok (.iadd, 1) := by decide +kernel
theorem dX4_strip_29 : decode cX4_strip 29 = .ok (.istore_n 3, 1) := by decide +kernel
theorem dX4_strip_30 : decode cX4_strip 30 = .ok (.aload_n 0, 1) := by decide +kernel
theorem dX4_strip_31 : decode cX4_strip 31 = .ok (.getfield 17, 3) := by decide +kernel
theorem dX4_strip_34 : decode cX4_strip 34 = .ok (.iload_n 3, 1) := by decide +kernel
theorem dX4_strip_35 : decode cX4_strip 35 = .ok (.iaload, 1) := by decide +kernel
theorem dX4_strip_36 : decode cX4_strip 36 = .ok (.istore 4, 2) := by decide +kernel
theorem dX4_strip_38 : decode cX4_strip 38 = .ok (.aload_n 0, 1) := by decide +kernel
theorem dX4_strip_39 : decode cX4_strip 39 = .ok (.getfield 17, 3) := by decide +kernel
theorem dX4_strip_42 : decode cX4_strip 42 = .ok (.iload_n 3, 1) := by decide +kernel
theorem dX4_strip_43 : decode cX4_strip 43 = .ok (.iconst 0, 1) := by decide +kernel
theorem dX4_strip_44 : decode cX4_strip 44 = .ok (.iastore, 1) := by decide +kernel
theorem dX4_strip_45 : decode cX4_strip 45 = .ok (.aload_n 0, 1) := by decide +kernel
theorem dX4_strip_46 : decode cX4_strip 46 = .ok (.getfield 30, 3) := by decide +kernel
theorem dX4_strip_49 : decode cX4_strip 49 = .ok (.iload_n 3, 1) := by decide +kernel
theorem dX4_strip_50 : decode cX4_strip 50 = .ok (.aload_n 0, 1) := by decide +kernel
theorem dX4_strip_51 : decode cX4_strip 51 = .ok (.getfield 30, 3) := by decide +kernel
theorem dX4_strip_54 : decode cX4_strip 54 = .ok (.iload_n 3, 1) := by decide +kernel
theorem dX4_strip_55 : decode cX4_strip 55 = .ok (.baload, 1) := by decide +kernel
theorem dX4_strip_56 : decode cX4_strip 56 = .ok (.ifCond .ne 8, 3) := by decide +kernel
theorem dX4_strip_59 : decode cX4_strip 59 = .ok (.iload 4, 2) := by decide +kernel
theorem dX4_strip_61 : decode cX4_strip 61 = .ok (.ifCond .le 7, 3) := by decide +kernel
theorem dX4_strip_64 : decode cX4_strip 64 = .ok (.iconst 1, 1) := by decide +kernel
theorem dX4_strip_65 : decode cX4_strip 65 = .ok (.goto 4, 3) := by decide +kernel
theorem dX4_strip_68 : decode cX4_strip 68 = .ok (.iconst 0, 1) := by decide +kernel
theorem dX4_strip_69 : decode cX4_strip 69 = .ok (.bastore, 1) := by decide +kernel
theorem dX4_strip_70 : decode cX4_strip 70 = .ok (.iload 4, 2) := by decide +kernel
theorem dX4_strip_72 : decode cX4_strip 72 = .ok (.ireturn, 1) := by decide +kernel
theorem dX4_target_0 : decode cX4_target 0 = .ok (.iload_n 1, 1) := by decide +kernel
theorem dX4_target_1 : decode cX4_target 1 = .ok (.aload_n 0, 1) := by decide +kernel
theorem dX4_target_2 : decode cX4_target 2 = .ok (.getfield 7, 3) := by decide +kernel
theorem dX4_target_5 : decode cX4_target 5 = .ok (.if_icmp .ge 7, 3) := by decide +kernel
theorem dX4_target_8 : decode cX4_target 8 = .ok (.iload_n 1, 1) := by decide +kernel
theorem dX4_target_9 : decode cX4_target 9 = .ok (.goto 4, 3) := by decide +kernel
theorem dX4_target_12 : decode cX4_target 12 = .ok (.iconst (-1), 1) := by decide +kernel
theorem dX4_target_13 : decode cX4_target 13 = .ok (.istore_n 3, 1) := by decide +kernel
theorem dX4_target_14 : decode cX4_target 14 = .ok (.iload_n 3, 1) := by decide +kernel
theorem dX4_target_15 : decode cX4_target 15 = .ok (.ifCond .lt 26, 3) := by decide +kernel
theorem dX4_target_18 : decode cX4_target 18 = .ok (.aload_n 0, 1) := by decide +kernel
theorem dX4_target_19 : decode cX4_target 19 = .ok (.getfield 17, 3) := by decide +kernel
theorem dX4_target_22 : decode cX4_target 22 = .ok (.iconst 4, 1) := by decide +kernel
theorem dX4_target_23 : decode cX4_target 23 = .ok (.iload_n 3, 1) := by decide +kernel
theorem dX4_target_24 : decode cX4_target 24 = .ok (.imul, 1) := by decide +kernel
theorem dX4_target_25 : decode cX4_target 25 = .ok (.iload_n 2, 1) := by decide +kernel
theorem dX4_target_26 : decode cX4_target 26 = .ok (.iadd, 1) := by decide +kernel
theorem dX4_target_27 : decode cX4_target 27 = .ok (.iaload, 1) := by decide +kernel
theorem dX4_target_28 : decode cX4_target 28 = .ok (.ifCond .ne 13, 3) := by decide +kernel
theorem dX4_target_31 : decode cX4_target 31 = .ok (.aload_n 0, 1) := by decide +kernel
theorem dX4_target_32 : decode cX4_target 32 = .ok (.getfield 13, 3) := by decide +kernel
theorem dX4_target_35 : decode cX4_target 35 = .ok (.iload_n 3, 1) := by decide +kernel
theorem dX4_target_36 : decode cX4_target 36 = .ok (.iaload, 1) := by decide +kernel
theorem dX4_target_37 : decode cX4_target 37 = .ok (.istore_n 3, 1) := by decide +kernel
theorem dX4_target_38 : decode cX4_target 38 = .ok (.goto (-24), 3) := by decide +kernel
theorem dX4_target_41 : decode cX4_target 41 = .ok (.iload_n 3, 1) := by decide +kernel
theorem dX4_target_42 : decode cX4_target 42 = .ok (.ifCond .ge 7, 3) := by decide +kernel
theorem dX4_target_45 : decode cX4_target 45 = .ok (.iconst (-1), 1) := by decide +kernel
theorem dX4_target_46 : decode cX4_target 46 = .ok (.goto 8, 3) := by decide +kernel
theorem dX4_target_49 : decode cX4_target 49 = .ok (.iconst 4, 1) := by decide +kernel
theorem dX4_target_50 : decode cX4_target 50 = .ok (.iload_n 3, 1) := by decide +kernel
theorem dX4_target_51 : decode cX4_target 51 = .ok (.imul, 1) := by decide +kernel
theorem dX4_target_52 : decode cX4_target 52 = .ok (.iload_n 2, 1) := by decide +kernel
theorem dX4_target_53 : decode cX4_target 53 = .ok (.iadd, 1) := by decide +kernel
theorem dX4_target_54 : decode cX4_target 54 = .ok (.ireturn, 1) := by decide +kernel
theorem dX4_at_0 : decode cX4_at 0 = .ok (.aload_n 0, 1) := by decide +kernel
theorem dX4_at_1 : decode cX4_at 1 = .ok (.getfield 20, 3) := by decide +kernel
theorem dX4_at_4 : decode cX4_at 4 = .ok (.bipush 40, 2) := by decide +kernel
theorem dX4_at_6 : decode cX4_at 6 = .ok (.iload_n 1, 1) := by decide +kernel
theorem dX4_at_7 : decode cX4_at 7 = .ok (.imul, 1) := by decide +kernel
theorem dX4_at_8 : decode cX4_at 8 = .ok (.iconst 4, 1) := by decide +kernel
theorem dX4_at_9 : decode cX4_at 9 = .ok (.iload_n 2, 1) := by decide +kernel
theorem dX4_at_10 : decode cX4_at 10 = .ok (.imul, 1) := by decide +kernel
theorem dX4_at_11 : decode cX4_at 11 = .ok (.iadd, 1) := by decide +kernel
theorem dX4_at_12 : decode cX4_at 12 = .ok (.iload_n 3, 1) := by decide +kernel
theorem dX4_at_13 : decode cX4_at 13 = .ok (.iadd, 1) := by decide +kernel
theorem dX4_at_14 : decode cX4_at 14 = .ok (.iaload, 1) := by decide +kernel
theorem dX4_at_15 : decode cX4_at 15 = .ok (.ireturn, 1) := by decide +kernel
theorem dX4_reachAll_0 : decode cX4_reachAll 0 = .ok (.iconst 0, 1) := by decide +kernel
theorem dX4_reachAll_1 : decode cX4_reachAll 1 = .ok (.istore_n 2, 1) := by decide +kernel
theorem dX4_reachAll_2 : decode cX4_reachAll 2 = .ok (.iconst 0, 1) := by decide +kernel
theorem dX4_reachAll_3 : decode cX4_reachAll 3 = .ok (.istore_n 3, 1) := by decide +kernel
theorem dX4_reachAll_4 : decode cX4_reachAll 4 = .ok (.iload_n 3, 1) := by decide +kernel
theorem dX4_reachAll_5 : decode cX4_reachAll 5 = .ok (.bipush 6, 2) := by decide +kernel
theorem dX4_reachAll_7 : decode cX4_reachAll 7 = .ok (.if_icmp .ge 55, 3) := by decide +kernel
theorem dX4_reachAll_10 : decode cX4_reachAll 10 = .ok (.aload_n 0, 1) := by decide +kernel
theorem dX4_reachAll_11 : decode cX4_reachAll 11 = .ok (.getfield 23, 3) := by decide +kernel
theorem dX4_reachAll_14 : decode cX4_reachAll 14 = .ok (.iload_n 3, 1) := by decide +kernel
theorem dX4_reachAll_15 : decode cX4_reachAll 15 = .ok (.baload, 1) := by decide +kernel
theorem dX4_reachAll_16 : decode cX4_reachAll 16 = .ok (.ifCond .eq 12, 3) := by decide +kernel
theorem dX4_reachAll_19 : decode cX4_reachAll 19 = .ok (.aload_n 0, 1) := by decide +kernel
theorem dX4_reachAll_20 : decode cX4_reachAll 20 = .ok (.iload_n 3, 1) := by decide +kernel
theorem dX4_reachAll_21 : decode cX4_reachAll 21 = .ok (.iload_n 1, 1) := by decide +kernel
theorem dX4_reachAll_22 : decode cX4_reachAll 22 = .ok (.invokevirtual 95, 3) := by decide +kernel
theorem dX4_reachAll_25 : decode cX4_reachAll 25 = .ok (.goto 4, 3) := by decide +kernel
theorem dX4_reachAll_28 : decode cX4_reachAll 28 = .ok (.iconst (-1), 1) := by decide +kernel
theorem dX4_reachAll_29 : decode cX4_reachAll 29 = .ok (.istore 4, 2) := by decide +kernel
theorem dX4_reachAll_31 : decode cX4_reachAll 31 = .ok (.iload 4, 2) := by decide +kernel
theorem dX4_reachAll_33 : decode cX4_reachAll 33 = .ok (.ifCond .lt 23, 3) := by decide +kernel
theorem dX4_reachAll_36 : decode cX4_reachAll 36 = .ok (.aload_n 0, 1) := by decide +kernel
theorem dX4_reachAll_37 : decode cX4_reachAll 37 = .ok (.getfield 27, 3) := by decide +kernel
theorem dX4_reachAll_40 : decode cX4_reachAll 40 = .ok (.iload 4, 2) := by decide +kernel
theorem dX4_reachAll_42 : decode cX4_reachAll 42 = .ok (.baload, 1) := by decide +kernel
theorem dX4_reachAll_43 : decode cX4_reachAll 43 = .ok (.ifCond .ne 13, 3) := by decide +kernel
theorem dX4_reachAll_46 : decode cX4_reachAll 46 = .ok (.aload_n 0, 1) := by decide +kernel
theorem dX4_reachAll_47 : decode cX4_reachAll 47 = .ok (.getfield 27, 3) := by decide +kernel
theorem dX4_reachAll_50 : decode cX4_reachAll 50 = .ok (.iload 4, 2) := by decide +kernel
theorem dX4_reachAll_52 : decode cX4_reachAll 52 = .ok (.iconst 1, 1) := by decide +kernel
theorem dX4_reachAll_53 : decode cX4_reachAll 53 = .ok (.bastore, 1) := by decide +kernel
theorem dX4_reachAll_54 : decode cX4_reachAll 54 = .ok (.iconst 1, 1) := by decide +kernel
theorem dX4_reachAll_55 : decode cX4_reachAll 55 = .ok (.istore_n 2, 1) := by decide +kernel
theorem dX4_reachAll_56 : decode cX4_reachAll 56 = .ok (.iinc 3 1, 3) := by decide +kernel
theorem dX4_reachAll_59 : decode cX4_reachAll 59 = .ok (.goto (-55), 3) := by decide +kernel
theorem dX4_reachAll_62 : decode cX4_reachAll 62 = .ok (.iload_n 2, 1) := by decide +kernel
theorem dX4_reachAll_63 : decode cX4_reachAll 63 = .ok (.ireturn, 1) := by decide +kernel
theorem dX4_grows_0 : decode cX4_grows 0 = .ok (.iconst 0, 1) := by decide +kernel
theorem dX4_grows_1 : decode cX4_grows 1 = .ok (.istore_n 2, 1) := by decide +kernel
theorem dX4_grows_2 : decode cX4_grows 2 = .ok (.iconst 0, 1) := by decide +kernel
theorem dX4_grows_3 : decode cX4_grows 3 = .ok (.istore_n 3, 1) := by decide +kernel
theorem dX4_grows_4 : decode cX4_grows 4 = .ok (.iload_n 3, 1) := by decide +kernel
theorem dX4_grows_5 : decode cX4_grows 5 = .ok (.aload_n 0, 1) := by decide +kernel
theorem dX4_grows_6 : decode cX4_grows 6 = .ok (.getfield 17, 3) := by decide +kernel
theorem dX4_grows_9 : decode cX4_grows 9 = .ok (.iload_n 1, 1) := by decide +kernel
theorem dX4_grows_10 : decode cX4_grows 10 = .ok (.iaload, 1) := by decide +kernel
theorem dX4_grows_11 : decode cX4_grows 11 = .ok (.if_icmp .ge 86, 3) := by decide +kernel
theorem dX4_grows_14 : decode cX4_grows 14 = .ok (.aload_n 0, 1) := by decide +kernel
theorem dX4_grows_15 : decode cX4_grows 15 = .ok (.iload_n 1, 1) := by decide +kernel
theorem dX4_grows_16 : decode cX4_grows 16 = .ok (.iload_n 3, 1) := by decide +kernel
theorem dX4_grows_17 : decode cX4_grows 17 = .ok (.iconst 0, 1) := by decide +kernel
theorem dX4_grows_18 : decode cX4_grows 18 = .ok (.invokevirtual 99, 3) := by decide +kernel
theorem dX4_grows_21 : decode cX4_grows 21 = .ok (.iconst 4, 1) := by decide +kernel
theorem dX4_grows_22 : decode cX4_grows 22 = .ok (.if_icmp .ne 33, 3) := by decide +kernel
theorem dX4_grows_25 : decode cX4_grows 25 = .ok (.aload_n 0, 1) := by decide +kernel
theorem dX4_grows_26 : decode cX4_grows 26 = .ok (.getfield 23, 3) := by decide +kernel
theorem dX4_grows_29 : decode cX4_grows 29 = .ok (.aload_n 0, 1) := by decide +kernel
theorem dX4_grows_30 : decode cX4_grows 30 = .ok (.iload_n 1, 1) := by decide +kernel
theorem dX4_grows_31 : decode cX4_grows 31 = .ok (.iload_n 3, 1) := by decide +kernel
theorem dX4_grows_32 : decode cX4_grows 32 = .ok (.iconst 2, 1) := by decide +kernel
theorem dX4_grows_33 : decode cX4_grows 33 = .ok (.invokevirtual 99, 3) := by decide +kernel
theorem dX4_grows_36 : decode cX4_grows 36 = .ok (.baload, 1) := by decide +kernel
theorem dX4_grows_37 : decode cX4_grows 37 = .ok (.ifCond .ne 18, 3) := by decide +kernel
theorem dX4_grows_40 : decode cX4_grows 40 = .ok (.aload_n 0, 1) := by decide +kernel
theorem dX4_grows_41 : decode cX4_grows 41 = .ok (.getfield 23, 3) := by decide +kernel
theorem dX4_grows_44 : decode cX4_grows 44 = .ok (.aload_n 0, 1) := by decide +kernel
theorem dX4_grows_45 : decode cX4_grows 45 = .ok (.iload_n 1, 1) := by decide +kernel
theorem dX4_grows_46 : decode cX4_grows 46 = .ok (.iload_n 3, 1) := by decide +kernel
theorem dX4_grows_47 : decode cX4_grows 47 = .ok (.iconst 2, 1) := by decide +kernel
theorem dX4_grows_48 : decode cX4_grows 48 = .ok (.invokevirtual 99, 3) := by decide +kernel
theorem dX4_grows_51 : decode cX4_grows 51 = .ok (.iconst 1, 1) := by decide +kernel
theorem dX4_grows_52 : decode cX4_grows 52 = .ok (.bastore, 1) := by decide +kernel
theorem dX4_grows_53 : decode cX4_grows 53 = .ok (.iconst 1, 1) := by decide +kernel
theorem dX4_grows_54 : decode cX4_grows 54 = .ok (.istore_n 2, 1) := by decide +kernel
theorem dX4_grows_55 : decode cX4_grows 55 = .ok (.aload_n 0, 1) := by decide +kernel
theorem dX4_grows_56 : decode cX4_grows 56 = .ok (.iload_n 1, 1) := by decide +kernel
theorem dX4_grows_57 : decode cX4_grows 57 = .ok (.iload_n 3, 1) := by decide +kernel
theorem dX4_grows_58 : decode cX4_grows 58 = .ok (.iconst 0, 1) := by decide +kernel
theorem dX4_grows_59 : decode cX4_grows 59 = .ok (.invokevirtual 99, 3) := by decide +kernel
theorem dX4_grows_62 : decode cX4_grows 62 = .ok (.bipush 7, 2) := by decide +kernel
theorem dX4_grows_64 : decode cX4_grows 64 = .ok (.if_icmp .ne 27, 3) := by decide +kernel
theorem dX4_grows_67 : decode cX4_grows 67 = .ok (.aload_n 0, 1) := by decide +kernel
theorem dX4_grows_68 : decode cX4_grows 68 = .ok (.aload_n 0, 1) := by decide +kernel
theorem dX4_grows_69 : decode cX4_grows 69 = .ok (.iload_n 1, 1) := by decide +kernel
theorem dX4_grows_70 : decode cX4_grows 70 = .ok (.iload_n 3, 1) := by decide +kernel
theorem dX4_grows_71 : decode cX4_grows 71 = .ok (.iconst 3, 1) := by decide +kernel
theorem dX4_grows_72 : decode cX4_grows 72 = .ok (.invokevirtual 99, 3) := by decide +kernel
theorem dX4_grows_75 : decode cX4_grows 75 = .ok (.invokevirtual 103, 3) := by decide +kernel
theorem dX4_grows_78 : decode cX4_grows 78 = .ok (.ifCond .ne 7, 3) := by decide +kernel
theorem dX4_grows_81 : decode cX4_grows 81 = .ok (.iload_n 2, 1) := by decide +kernel
theorem dX4_grows_82 : decode cX4_grows 82 = .ok (.ifCond .eq 7, 3) := by decide +kernel
theorem dX4_grows_85 : decode cX4_grows 85 = .ok (.iconst 1, 1) := by decide +kernel
theorem dX4_grows_86 : decode cX4_grows 86 = .ok (.goto 4, 3) := by decide +kernel
theorem dX4_grows_89 : decode cX4_grows 89 = .ok (.iconst 0, 1) := by decide +kernel
theorem dX4_grows_90 : decode cX4_grows 90 = .ok (.istore_n 2, 1) := by decide +kernel
theorem dX4_grows_91 : decode cX4_grows 91 = .ok (.iinc 3 1, 3) := by decide +kernel
theorem dX4_grows_94 : decode cX4_grows 94 = .ok (.goto (-90), 3) := by decide +kernel
theorem dX4_grows_97 : decode cX4_grows 97 = .ok (.iload_n 2, 1) := by decide +kernel
theorem dX4_grows_98 : decode cX4_grows 98 = .ok (.ireturn, 1) := by decide +kernel
theorem dX4_call_0 : decode cX4_call 0 = .ok (.iconst (-1), 1) := by decide +kernel
theorem dX4_call_1 : decode cX4_call 1 = .ok (.istore_n 2, 1) := by decide +kernel
theorem dX4_call_2 : decode cX4_call 2 = .ok (.iconst 1, 1) := by decide +kernel
theorem dX4_call_3 : decode cX4_call 3 = .ok (.istore_n 3, 1) := by decide +kernel
theorem dX4_call_4 : decode cX4_call 4 = .ok (.iconst 0, 1) := by decide +kernel
theorem dX4_call_5 : decode cX4_call 5 = .ok (.istore 4, 2) := by decide +kernel
theorem dX4_call_7 : decode cX4_call 7 = .ok (.iload 4, 2) := by decide +kernel
theorem dX4_call_9 : decode cX4_call 9 = .ok (.bipush 6, 2) := by decide +kernel
theorem dX4_call_11 : decode cX4_call 11 = .ok (.if_icmp .ge 69, 3) := by decide +kernel
theorem dX4_call_14 : decode cX4_call 14 = .ok (.aload_n 0, 1) := by decide +kernel
theorem dX4_call_15 : decode cX4_call 15 = .ok (.getfield 23, 3) := by decide +kernel
theorem dX4_call_18 : decode cX4_call 18 = .ok (.iload 4, 2) := by decide +kernel
theorem dX4_call_20 : decode cX4_call 20 = .ok (.baload, 1) := by decide +kernel
theorem dX4_call_21 : decode cX4_call 21 = .ok (.ifCond .eq 13, 3) := by decide +kernel
theorem dX4_call_24 : decode cX4_call 24 = .ok (.aload_n 0, 1) := by decide +kernel
theorem dX4_call_25 : decode cX4_call 25 = .ok (.iload 4, 2) := by decide +kernel
theorem dX4_call_27 : decode cX4_call 27 = .ok (.iload_n 1, 1) := by decide +kernel
theorem dX4_call_28 : decode cX4_call 28 = .ok (.invokevirtual 95, 3) := by decide +kernel
theorem dX4_call_31 : decode cX4_call 31 = .ok (.goto 4, 3) := by decide +kernel
theorem dX4_call_34 : decode cX4_call 34 = .ok (.iconst (-1), 1) := by decide +kernel
theorem dX4_call_35 : decode cX4_call 35 = .ok (.istore 5, 2) := by decide +kernel
theorem dX4_call_37 : decode cX4_call 37 = .ok (.iload_n 3, 1) := by decide +kernel
theorem dX4_call_38 : decode cX4_call 38 = .ok (.ifCond .eq 22, 3) := by decide +kernel
theorem dX4_call_41 : decode cX4_call 41 = .ok (.iload 5, 2) := by decide +kernel
theorem dX4_call_43 : decode cX4_call 43 = .ok (.ifCond .lt 13, 3) := by decide +kernel
theorem dX4_call_46 : decode cX4_call 46 = .ok (.iload_n 2, 1) := by decide +kernel
theorem dX4_call_47 : decode cX4_call 47 = .ok (.ifCond .lt 9, 3) := by decide +kernel
theorem dX4_call_50 : decode cX4_call 50 = .ok (.iload 5, 2) := by decide +kernel
theorem dX4_call_52 : decode cX4_call 52 = .ok (.iload_n 2, 1) := by decide +kernel
theorem dX4_call_53 : decode cX4_call 53 = .ok (.if_icmp .ne 7, 3) := by decide +kernel
theorem dX4_call_56 : decode cX4_call 56 = .ok (.iconst 1, 1) := by decide +kernel
theorem dX4_call_57 : decode cX4_call 57 = .ok (.goto 4, 3) := by decide +kernel
theorem dX4_call_60 : decode cX4_call 60 = .ok (.iconst 0, 1) := by decide +kernel
theorem dX4_call_61 : decode cX4_call 61 = .ok (.istore_n 3, 1) := by decide +kernel
theorem dX4_call_62 : decode cX4_call 62 = .ok (.iload 5, 2) := by decide +kernel
theorem dX4_call_64 : decode cX4_call 64 = .ok (.ifCond .ge 7, 3) := by decide +kernel
theorem dX4_call_67 : decode cX4_call 67 = .ok (.iload_n 2, 1) := by decide +kernel
theorem dX4_call_68 : decode cX4_call 68 = .ok (.goto 5, 3) := by decide +kernel
theorem dX4_call_71 : decode cX4_call 71 = .ok (.iload 5, 2) := by decide +kernel
theorem dX4_call_73 : decode cX4_call 73 = .ok (.istore_n 2, 1) := by decide +kernel
theorem dX4_call_74 : decode cX4_call 74 = .ok (.iinc 4 1, 3) := by decide +kernel
theorem dX4_call_77 : decode cX4_call 77 = .ok (.goto (-70), 3) := by decide +kernel
theorem dX4_call_80 : decode cX4_call 80 = .ok (.iload_n 2, 1) := by decide +kernel
theorem dX4_call_81 : decode cX4_call 81 = .ok (.ifCond .ge 5, 3) := by decide +kernel
theorem dX4_call_84 : decode cX4_call 84 = .ok (.iconst 4, 1) := by decide +kernel
theorem dX4_call_85 : decode cX4_call 85 = .ok (.ireturn, 1) := by decide +kernel
theorem dX4_call_86 : decode cX4_call 86 = .ok (.iload_n 3, 1) := by decide +kernel
theorem dX4_call_87 : decode cX4_call 87 = .ok (.ifCond .ne 5, 3) := by decide +kernel
theorem dX4_call_90 : decode cX4_call 90 = .ok (.iconst 1, 1) := by decide +kernel
theorem dX4_call_91 : decode cX4_call 91 = .ok (.ireturn, 1) := by decide +kernel
theorem dX4_call_92 : decode cX4_call 92 = .ok (.aload_n 0, 1) := by decide +kernel
theorem dX4_call_93 : decode cX4_call 93 = .ok (.getfield 17, 3) := by decide +kernel
theorem dX4_call_96 : decode cX4_call 96 = .ok (.iload_n 2, 1) := by decide +kernel
theorem dX4_call_97 : decode cX4_call 97 = .ok (.iaload, 1) := by decide +kernel
theorem dX4_call_98 : decode cX4_call 98 = .ok (.iconst 3, 1) := by decide +kernel
theorem dX4_call_99 : decode cX4_call 99 = .ok (.if_icmp .gt 7, 3) := by decide +kernel
theorem dX4_call_102 : decode cX4_call 102 = .ok (.iconst 1, 1) := by decide +kernel
theorem dX4_call_103 : decode cX4_call 103 = .ok (.goto 4, 3) := by decide +kernel
theorem dX4_call_106 : decode cX4_call 106 = .ok (.iconst 0, 1) := by decide +kernel
theorem dX4_call_107 : decode cX4_call 107 = .ok (.istore 4, 2) := by decide +kernel
theorem dX4_call_109 : decode cX4_call 109 = .ok (.iconst 0, 1) := by decide +kernel
theorem dX4_call_110 : decode cX4_call 110 = .ok (.istore 5, 2) := by decide +kernel
theorem dX4_call_112 : decode cX4_call 112 = .ok (.iload 5, 2) := by decide +kernel
theorem dX4_call_114 : decode cX4_call 114 = .ok (.aload_n 0, 1) := by decide +kernel
theorem dX4_call_115 : decode cX4_call 115 = .ok (.getfield 17, 3) := by decide +kernel
theorem dX4_call_118 : decode cX4_call 118 = .ok (.iload_n 2, 1) := by decide +kernel
theorem dX4_call_119 : decode cX4_call 119 = .ok (.iaload, 1) := by decide +kernel
theorem dX4_call_120 : decode cX4_call 120 = .ok (.if_icmp .ge 47, 3) := by decide +kernel
theorem dX4_call_123 : decode cX4_call 123 = .ok (.iload 4, 2) := by decide +kernel
theorem dX4_call_125 : decode cX4_call 125 = .ok (.ifCond .eq 33, 3) := by decide +kernel
theorem dX4_call_128 : decode cX4_call 128 = .ok (.aload_n 0, 1) := by decide +kernel
theorem dX4_call_129 : decode cX4_call 129 = .ok (.iload_n 2, 1) := by decide +kernel
theorem dX4_call_130 : decode cX4_call 130 = .ok (.iload 5, 2) := by decide +kernel
theorem dX4_call_132 : decode cX4_call 132 = .ok (.iconst 0, 1) := by decide +kernel
theorem dX4_call_133 : decode cX4_call 133 = .ok (.invokevirtual 99, 3) := by decide +kernel
theorem dX4_call_136 : decode cX4_call 136 = .ok (.bipush 7, 2) := by decide +kernel
theorem dX4_call_138 : decode cX4_call 138 = .ok (.if_icmp .eq 20, 3) := by decide +kernel
theorem dX4_call_141 : decode cX4_call 141 = .ok (.aload_n 0, 1) := by decide +kernel
theorem dX4_call_142 : decode cX4_call 142 = .ok (.iload_n 2, 1) := by decide +kernel
theorem dX4_call_143 : decode cX4_call 143 = .ok (.iload 5, 2) := by decide +kernel
theorem dX4_call_145 : decode cX4_call 145 = .ok (.iconst 0, 1) := by decide +kernel
theorem dX4_call_146 : decode cX4_call 146 = .ok (.invokevirtual 99, 3) := by decide +kernel
theorem dX4_call_149 : decode cX4_call 149 = .ok (.bipush 9, 2) := by decide +kernel
theorem dX4_call_151 : decode cX4_call 151 = .ok (.if_icmp .eq 7, 3) := by decide +kernel
theorem dX4_call_154 : decode cX4_call 154 = .ok (.iconst 1, 1) := by decide +kernel
theorem dX4_call_155 : decode cX4_call 155 = .ok (.goto 4, 3) := by decide +kernel
theorem dX4_call_158 : decode cX4_call 158 = .ok (.iconst 0, 1) := by decide +kernel
theorem dX4_call_159 : decode cX4_call 159 = .ok (.istore 4, 2) := by decide +kernel
theorem dX4_call_161 : decode cX4_call 161 = .ok (.iinc 5 1, 3) := by decide +kernel
theorem dX4_call_164 : decode cX4_call 164 = .ok (.goto (-52), 3) := by decide +kernel
theorem dX4_call_167 : decode cX4_call 167 = .ok (.iload 4, 2) := by decide +kernel
theorem dX4_call_169 : decode cX4_call 169 = .ok (.ifCond .eq 7, 3) := by decide +kernel
theorem dX4_call_172 : decode cX4_call 172 = .ok (.iconst 3, 1) := by decide +kernel
theorem dX4_call_173 : decode cX4_call 173 = .ok (.goto 4, 3) := by decide +kernel
theorem dX4_call_176 : decode cX4_call 176 = .ok (.iconst 2, 1) := by decide +kernel
theorem dX4_call_177 : decode cX4_call 177 = .ok (.ireturn, 1) := by decide +kernel
theorem dX4_stays_0 : decode cX4_stays 0 = .ok (.iconst 0, 1) := by decide +kernel
theorem dX4_stays_1 : decode cX4_stays 1 = .ok (.istore_n 3, 1) := by decide +kernel
theorem dX4_stays_2 : decode cX4_stays 2 = .ok (.iload_n 3, 1) := by decide +kernel
theorem dX4_stays_3 : decode cX4_stays 3 = .ok (.bipush 6, 2) := by decide +kernel
theorem dX4_stays_5 : decode cX4_stays 5 = .ok (.if_icmp .ge 31, 3) := by decide +kernel
theorem dX4_stays_8 : decode cX4_stays 8 = .ok (.aload_n 0, 1) := by decide +kernel
theorem dX4_stays_9 : decode cX4_stays 9 = .ok (.getfield 36, 3) := by decide +kernel
theorem dX4_stays_12 : decode cX4_stays 12 = .ok (.iload_n 3, 1) := by decide +kernel
theorem dX4_stays_13 : decode cX4_stays 13 = .ok (.iload_n 3, 1) := by decide +kernel
theorem dX4_stays_14 : decode cX4_stays 14 = .ok (.aload_n 0, 1) := by decide +kernel
theorem dX4_stays_15 : decode cX4_stays 15 = .ok (.iload_n 1, 1) := by decide +kernel
theorem dX4_stays_16 : decode cX4_stays 16 = .ok (.iload_n 2, 1) := by decide +kernel
theorem dX4_stays_17 : decode cX4_stays 17 = .ok (.iconst 1, 1) := by decide +kernel
theorem dX4_stays_18 : decode cX4_stays 18 = .ok (.invokevirtual 99, 3) := by decide +kernel
theorem dX4_stays_21 : decode cX4_stays 21 = .ok (.if_icmp .ne 7, 3) := by decide +kernel
theorem dX4_stays_24 : decode cX4_stays 24 = .ok (.iconst 1, 1) := by decide +kernel
theorem dX4_stays_25 : decode cX4_stays 25 = .ok (.goto 4, 3) := by decide +kernel
theorem dX4_stays_28 : decode cX4_stays 28 = .ok (.iconst 0, 1) := by decide +kernel
theorem dX4_stays_29 : decode cX4_stays 29 = .ok (.bastore, 1) := by decide +kernel
theorem dX4_stays_30 : decode cX4_stays 30 = .ok (.iinc 3 1, 3) := by decide +kernel
theorem dX4_stays_33 : decode cX4_stays 33 = .ok (.goto (-31), 3) := by decide +kernel
theorem dX4_stays_36 : decode cX4_stays 36 = .ok (.iconst 0, 1) := by decide +kernel
theorem dX4_stays_37 : decode cX4_stays 37 = .ok (.istore_n 3, 1) := by decide +kernel
theorem dX4_stays_38 : decode cX4_stays 38 = .ok (.iload_n 3, 1) := by decide +kernel
theorem dX4_stays_39 : decode cX4_stays 39 = .ok (.bipush 6, 2) := by decide +kernel
theorem dX4_stays_41 : decode cX4_stays 41 = .ok (.if_icmp .ge 71, 3) := by decide +kernel
theorem dX4_stays_44 : decode cX4_stays 44 = .ok (.iconst 0, 1) := by decide +kernel
theorem dX4_stays_45 : decode cX4_stays 45 = .ok (.istore 4, 2) := by decide +kernel
theorem dX4_stays_47 : decode cX4_stays 47 = .ok (.iload 4, 2) := by decide +kernel
theorem dX4_stays_49 : decode cX4_stays 49 = .ok (.aload_n 0, 1) := by decide +kernel
theorem dX4_stays_50 : decode cX4_stays 50 = .ok (.getfield 17, 3) := by decide +kernel
theorem dX4_stays_53 : decode cX4_stays 53 = .ok (.iload_n 1, 1) := by decide +kernel
theorem dX4_stays_54 : decode cX4_stays 54 = .ok (.iaload, 1) := by decide +kernel
theorem dX4_stays_55 : decode cX4_stays 55 = .ok (.if_icmp .ge 51, 3) := by decide +kernel
theorem dX4_stays_58 : decode cX4_stays 58 = .ok (.aload_n 0, 1) := by decide +kernel
theorem dX4_stays_59 : decode cX4_stays 59 = .ok (.iload_n 1, 1) := by decide +kernel
theorem dX4_stays_60 : decode cX4_stays 60 = .ok (.iload 4, 2) := by decide +kernel
theorem dX4_stays_62 : decode cX4_stays 62 = .ok (.iconst 0, 1) := by decide +kernel
theorem dX4_stays_63 : decode cX4_stays 63 = .ok (.invokevirtual 99, 3) := by decide +kernel
theorem dX4_stays_66 : decode cX4_stays 66 = .ok (.iconst 1, 1) := by decide +kernel
theorem dX4_stays_67 : decode cX4_stays 67 = .ok (.if_icmp .ne 33, 3) := by decide +kernel
theorem dX4_stays_70 : decode cX4_stays 70 = .ok (.aload_n 0, 1) := by decide +kernel
theorem dX4_stays_71 : decode cX4_stays 71 = .ok (.getfield 36, 3) := by decide +kernel
theorem dX4_stays_74 : decode cX4_stays 74 = .ok (.aload_n 0, 1) := by decide +kernel
theorem dX4_stays_75 : decode cX4_stays 75 = .ok (.iload_n 1, 1) := by decide +kernel
theorem dX4_stays_76 : decode cX4_stays 76 = .ok (.iload 4, 2) := by decide +kernel
theorem dX4_stays_78 : decode cX4_stays 78 = .ok (.iconst 2, 1) := by decide +kernel
theorem dX4_stays_79 : decode cX4_stays 79 = .ok (.invokevirtual 99, 3) := by decide +kernel
theorem dX4_stays_82 : decode cX4_stays 82 = .ok (.baload, 1) := by decide +kernel
theorem dX4_stays_83 : decode cX4_stays 83 = .ok (.ifCond .eq 17, 3) := by decide +kernel
theorem dX4_stays_86 : decode cX4_stays 86 = .ok (.aload_n 0, 1) := by decide +kernel
theorem dX4_stays_87 : decode cX4_stays 87 = .ok (.getfield 36, 3) := by decide +kernel
theorem dX4_stays_90 : decode cX4_stays 90 = .ok (.aload_n 0, 1) := by decide +kernel
theorem dX4_stays_91 : decode cX4_stays 91 = .ok (.iload_n 1, 1) := by decide +kernel
theorem dX4_stays_92 : decode cX4_stays 92 = .ok (.iload 4, 2) := by decide +kernel
theorem dX4_stays_94 : decode cX4_stays 94 = .ok (.iconst 1, 1) := by decide +kernel
theorem dX4_stays_95 : decode cX4_stays 95 = .ok (.invokevirtual 99, 3) := by decide +kernel
theorem dX4_stays_98 : decode cX4_stays 98 = .ok (.iconst 1, 1) := by decide +kernel
theorem dX4_stays_99 : decode cX4_stays 99 = .ok (.bastore, 1) := by decide +kernel
theorem dX4_stays_100 : decode cX4_stays 100 = .ok (.iinc 4 1, 3) := by decide +kernel
theorem dX4_stays_103 : decode cX4_stays 103 = .ok (.goto (-56), 3) := by decide +kernel
theorem dX4_stays_106 : decode cX4_stays 106 = .ok (.iinc 3 1, 3) := by decide +kernel
theorem dX4_stays_109 : decode cX4_stays 109 = .ok (.goto (-71), 3) := by decide +kernel
theorem dX4_stays_112 : decode cX4_stays 112 = .ok (.iconst 1, 1) := by decide +kernel
theorem dX4_stays_113 : decode cX4_stays 113 = .ok (.istore_n 3, 1) := by decide +kernel
theorem dX4_stays_114 : decode cX4_stays 114 = .ok (.iconst 0, 1) := by decide +kernel
theorem dX4_stays_115 : decode cX4_stays 115 = .ok (.istore 4, 2) := by decide +kernel
theorem dX4_stays_117 : decode cX4_stays 117 = .ok (.iload 4, 2) := by decide +kernel
theorem dX4_stays_119 : decode cX4_stays 119 = .ok (.aload_n 0, 1) := by decide +kernel
theorem dX4_stays_120 : decode cX4_stays 120 = .ok (.getfield 17, 3) := by decide +kernel
theorem dX4_stays_123 : decode cX4_stays 123 = .ok (.iload_n 1, 1) := by decide +kernel
theorem dX4_stays_124 : decode cX4_stays 124 = .ok (.iaload, 1) := by decide +kernel
theorem dX4_stays_125 : decode cX4_stays 125 = .ok (.if_icmp .ge 118, 3) := by decide +kernel
theorem dX4_stays_128 : decode cX4_stays 128 = .ok (.aload_n 0, 1) := by decide +kernel
theorem dX4_stays_129 : decode cX4_stays 129 = .ok (.iload_n 1, 1) := by decide +kernel
theorem dX4_stays_130 : decode cX4_stays 130 = .ok (.iload 4, 2) := by decide +kernel
theorem dX4_stays_132 : decode cX4_stays 132 = .ok (.iconst 0, 1) := by decide +kernel
theorem dX4_stays_133 : decode cX4_stays 133 = .ok (.invokevirtual 99, 3) := by decide +kernel
theorem dX4_stays_136 : decode cX4_stays 136 = .ok (.istore 5, 2) := by decide +kernel
theorem dX4_stays_138 : decode cX4_stays 138 = .ok (.iload 5, 2) := by decide +kernel
theorem dX4_stays_140 : decode cX4_stays 140 = .ok (.bipush 6, 2) := by decide +kernel
theorem dX4_stays_142 : decode cX4_stays 142 = .ok (.if_icmp .eq 10, 3) := by decide +kernel
theorem dX4_stays_145 : decode cX4_stays 145 = .ok (.iload 5, 2) := by decide +kernel
theorem dX4_stays_147 : decode cX4_stays 147 = .ok (.bipush 7, 2) := by decide +kernel
theorem dX4_stays_149 : decode cX4_stays 149 = .ok (.if_icmp .ne 29, 3) := by decide +kernel
theorem dX4_stays_152 : decode cX4_stays 152 = .ok (.iload_n 3, 1) := by decide +kernel
theorem dX4_stays_153 : decode cX4_stays 153 = .ok (.ifCond .eq 23, 3) := by decide +kernel
end
section
theorem dX4_stays_156 : decode cX4_stays 156 = .ok (.aload_n 0, 1) := by decide +kernel
theorem dX4_stays_157 : decode cX4_stays 157 = .ok (.getfield 36, 3) := by decide +kernel
theorem dX4_stays_160 : decode cX4_stays 160 = .ok (.aload_n 0, 1) := by decide +kernel
theorem dX4_stays_161 : decode cX4_stays 161 = .ok (.iload_n 1, 1) := by decide +kernel
theorem dX4_stays_162 : decode cX4_stays 162 = .ok (.iload 4, 2) := by decide +kernel
theorem dX4_stays_164 : decode cX4_stays 164 = .ok (.iconst 2, 1) := by decide +kernel
theorem dX4_stays_165 : decode cX4_stays 165 = .ok (.invokevirtual 99, 3) := by decide +kernel
theorem dX4_stays_168 : decode cX4_stays 168 = .ok (.baload, 1) := by decide +kernel
theorem dX4_stays_169 : decode cX4_stays 169 = .ok (.ifCond .ne 7, 3) := by decide +kernel
theorem dX4_stays_172 : decode cX4_stays 172 = .ok (.iconst 1, 1) := by decide +kernel
theorem dX4_stays_173 : decode cX4_stays 173 = .ok (.goto 4, 3) := by decide +kernel
theorem dX4_stays_176 : decode cX4_stays 176 = .ok (.iconst 0, 1) := by decide +kernel
theorem dX4_stays_177 : decode cX4_stays 177 = .ok (.istore_n 3, 1) := by decide +kernel
theorem dX4_stays_178 : decode cX4_stays 178 = .ok (.iload 5, 2) := by decide +kernel
theorem dX4_stays_180 : decode cX4_stays 180 = .ok (.bipush 7, 2) := by decide +kernel
theorem dX4_stays_182 : decode cX4_stays 182 = .ok (.if_icmp .ne 22, 3) := by decide +kernel
theorem dX4_stays_185 : decode cX4_stays 185 = .ok (.iload_n 3, 1) := by decide +kernel
theorem dX4_stays_186 : decode cX4_stays 186 = .ok (.ifCond .eq 16, 3) := by decide +kernel
theorem dX4_stays_189 : decode cX4_stays 189 = .ok (.aload_n 0, 1) := by decide +kernel
theorem dX4_stays_190 : decode cX4_stays 190 = .ok (.getfield 36, 3) := by decide +kernel
theorem dX4_stays_193 : decode cX4_stays 193 = .ok (.iconst 5, 1) := by decide +kernel
theorem dX4_stays_194 : decode cX4_stays 194 = .ok (.baload, 1) := by decide +kernel
theorem dX4_stays_195 : decode cX4_stays 195 = .ok (.ifCond .ne 7, 3) := by decide +kernel
theorem dX4_stays_198 : decode cX4_stays 198 = .ok (.iconst 1, 1) := by decide +kernel
theorem dX4_stays_199 : decode cX4_stays 199 = .ok (.goto 4, 3) := by decide +kernel
theorem dX4_stays_202 : decode cX4_stays 202 = .ok (.iconst 0, 1) := by decide +kernel
theorem dX4_stays_203 : decode cX4_stays 203 = .ok (.istore_n 3, 1) := by decide +kernel
theorem dX4_stays_204 : decode cX4_stays 204 = .ok (.iload 5, 2) := by decide +kernel
theorem dX4_stays_206 : decode cX4_stays 206 = .ok (.bipush 11, 2) := by decide +kernel
theorem dX4_stays_208 : decode cX4_stays 208 = .ok (.if_icmp .ne 29, 3) := by decide +kernel
theorem dX4_stays_211 : decode cX4_stays 211 = .ok (.iload_n 3, 1) := by decide +kernel
theorem dX4_stays_212 : decode cX4_stays 212 = .ok (.ifCond .eq 23, 3) := by decide +kernel
theorem dX4_stays_215 : decode cX4_stays 215 = .ok (.aload_n 0, 1) := by decide +kernel
theorem dX4_stays_216 : decode cX4_stays 216 = .ok (.getfield 36, 3) := by decide +kernel
theorem dX4_stays_219 : decode cX4_stays 219 = .ok (.aload_n 0, 1) := by decide +kernel
theorem dX4_stays_220 : decode cX4_stays 220 = .ok (.iload_n 1, 1) := by decide +kernel
theorem dX4_stays_221 : decode cX4_stays 221 = .ok (.iload 4, 2) := by decide +kernel
theorem dX4_stays_223 : decode cX4_stays 223 = .ok (.iconst 1, 1) := by decide +kernel
theorem dX4_stays_224 : decode cX4_stays 224 = .ok (.invokevirtual 99, 3) := by decide +kernel
theorem dX4_stays_227 : decode cX4_stays 227 = .ok (.baload, 1) := by decide +kernel
theorem dX4_stays_228 : decode cX4_stays 228 = .ok (.ifCond .ne 7, 3) := by decide +kernel
theorem dX4_stays_231 : decode cX4_stays 231 = .ok (.iconst 1, 1) := by decide +kernel
theorem dX4_stays_232 : decode cX4_stays 232 = .ok (.goto 4, 3) := by decide +kernel
theorem dX4_stays_235 : decode cX4_stays 235 = .ok (.iconst 0, 1) := by decide +kernel
theorem dX4_stays_236 : decode cX4_stays 236 = .ok (.istore_n 3, 1) := by decide +kernel
theorem dX4_stays_237 : decode cX4_stays 237 = .ok (.iinc 4 1, 3) := by decide +kernel
theorem dX4_stays_240 : decode cX4_stays 240 = .ok (.goto (-123), 3) := by decide +kernel
theorem dX4_stays_243 : decode cX4_stays 243 = .ok (.iload_n 3, 1) := by decide +kernel
theorem dX4_stays_244 : decode cX4_stays 244 = .ok (.ireturn, 1) := by decide +kernel
theorem dX4_shape_0 : decode cX4_shape 0 = .ok (.aload_n 0, 1) := by decide +kernel
theorem dX4_shape_1 : decode cX4_shape 1 = .ok (.iconst 0, 1) := by decide +kernel
theorem dX4_shape_2 : decode cX4_shape 2 = .ok (.putfield 69, 3) := by decide +kernel
theorem dX4_shape_5 : decode cX4_shape 5 = .ok (.iconst 0, 1) := by decide +kernel
theorem dX4_shape_6 : decode cX4_shape 6 = .ok (.istore_n 1, 1) := by decide +kernel
theorem dX4_shape_7 : decode cX4_shape 7 = .ok (.iload_n 1, 1) := by decide +kernel
theorem dX4_shape_8 : decode cX4_shape 8 = .ok (.bipush 6, 2) := by decide +kernel
theorem dX4_shape_10 : decode cX4_shape 10 = .ok (.if_icmp .ge 24, 3) := by decide +kernel
theorem dX4_shape_13 : decode cX4_shape 13 = .ok (.aload_n 0, 1) := by decide +kernel
theorem dX4_shape_14 : decode cX4_shape 14 = .ok (.getfield 23, 3) := by decide +kernel
theorem dX4_shape_17 : decode cX4_shape 17 = .ok (.iload_n 1, 1) := by decide +kernel
theorem dX4_shape_18 : decode cX4_shape 18 = .ok (.iload_n 1, 1) := by decide +kernel
theorem dX4_shape_19 : decode cX4_shape 19 = .ok (.ifCond .ne 7, 3) := by decide +kernel
theorem dX4_shape_22 : decode cX4_shape 22 = .ok (.iconst 1, 1) := by decide +kernel
theorem dX4_shape_23 : decode cX4_shape 23 = .ok (.goto 4, 3) := by decide +kernel
theorem dX4_shape_26 : decode cX4_shape 26 = .ok (.iconst 0, 1) := by decide +kernel
theorem dX4_shape_27 : decode cX4_shape 27 = .ok (.bastore, 1) := by decide +kernel
theorem dX4_shape_28 : decode cX4_shape 28 = .ok (.iinc 1 1, 3) := by decide +kernel
theorem dX4_shape_31 : decode cX4_shape 31 = .ok (.goto (-24), 3) := by decide +kernel
theorem dX4_shape_34 : decode cX4_shape 34 = .ok (.iconst 0, 1) := by decide +kernel
theorem dX4_shape_35 : decode cX4_shape 35 = .ok (.istore_n 1, 1) := by decide +kernel
theorem dX4_shape_36 : decode cX4_shape 36 = .ok (.iload_n 1, 1) := by decide +kernel
theorem dX4_shape_37 : decode cX4_shape 37 = .ok (.bipush 24, 2) := by decide +kernel
theorem dX4_shape_39 : decode cX4_shape 39 = .ok (.if_icmp .ge 23, 3) := by decide +kernel
theorem dX4_shape_42 : decode cX4_shape 42 = .ok (.aload_n 0, 1) := by decide +kernel
theorem dX4_shape_43 : decode cX4_shape 43 = .ok (.getfield 27, 3) := by decide +kernel
theorem dX4_shape_46 : decode cX4_shape 46 = .ok (.iload_n 1, 1) := by decide +kernel
theorem dX4_shape_47 : decode cX4_shape 47 = .ok (.iconst 0, 1) := by decide +kernel
theorem dX4_shape_48 : decode cX4_shape 48 = .ok (.bastore, 1) := by decide +kernel
theorem dX4_shape_49 : decode cX4_shape 49 = .ok (.aload_n 0, 1) := by decide +kernel
theorem dX4_shape_50 : decode cX4_shape 50 = .ok (.getfield 30, 3) := by decide +kernel
theorem dX4_shape_53 : decode cX4_shape 53 = .ok (.iload_n 1, 1) := by decide +kernel
theorem dX4_shape_54 : decode cX4_shape 54 = .ok (.iconst 0, 1) := by decide +kernel
theorem dX4_shape_55 : decode cX4_shape 55 = .ok (.bastore, 1) := by decide +kernel
theorem dX4_shape_56 : decode cX4_shape 56 = .ok (.iinc 1 1, 3) := by decide +kernel
theorem dX4_shape_59 : decode cX4_shape 59 = .ok (.goto (-23), 3) := by decide +kernel
theorem dX4_shape_62 : decode cX4_shape 62 = .ok (.aload_n 0, 1) := by decide +kernel
theorem dX4_shape_63 : decode cX4_shape 63 = .ok (.iconst 0, 1) := by decide +kernel
theorem dX4_shape_64 : decode cX4_shape 64 = .ok (.iconst 0, 1) := by decide +kernel
theorem dX4_shape_65 : decode cX4_shape 65 = .ok (.invokevirtual 95, 3) := by decide +kernel
theorem dX4_shape_68 : decode cX4_shape 68 = .ok (.ifCond .lt 15, 3) := by decide +kernel
theorem dX4_shape_71 : decode cX4_shape 71 = .ok (.aload_n 0, 1) := by decide +kernel
theorem dX4_shape_72 : decode cX4_shape 72 = .ok (.getfield 27, 3) := by decide +kernel
theorem dX4_shape_75 : decode cX4_shape 75 = .ok (.aload_n 0, 1) := by decide +kernel
theorem dX4_shape_76 : decode cX4_shape 76 = .ok (.iconst 0, 1) := by decide +kernel
theorem dX4_shape_77 : decode cX4_shape 77 = .ok (.iconst 0, 1) := by decide +kernel
theorem dX4_shape_78 : decode cX4_shape 78 = .ok (.invokevirtual 95, 3) := by decide +kernel
theorem dX4_shape_81 : decode cX4_shape 81 = .ok (.iconst 1, 1) := by decide +kernel
theorem dX4_shape_82 : decode cX4_shape 82 = .ok (.bastore, 1) := by decide +kernel
theorem dX4_shape_83 : decode cX4_shape 83 = .ok (.iconst 1, 1) := by decide +kernel
theorem dX4_shape_84 : decode cX4_shape 84 = .ok (.istore_n 1, 1) := by decide +kernel
theorem dX4_shape_85 : decode cX4_shape 85 = .ok (.iload_n 1, 1) := by decide +kernel
theorem dX4_shape_86 : decode cX4_shape 86 = .ok (.ifCond .eq 49, 3) := by decide +kernel
theorem dX4_shape_89 : decode cX4_shape 89 = .ok (.iconst 0, 1) := by decide +kernel
theorem dX4_shape_90 : decode cX4_shape 90 = .ok (.istore_n 1, 1) := by decide +kernel
theorem dX4_shape_91 : decode cX4_shape 91 = .ok (.iconst 0, 1) := by decide +kernel
theorem dX4_shape_92 : decode cX4_shape 92 = .ok (.istore_n 2, 1) := by decide +kernel
theorem dX4_shape_93 : decode cX4_shape 93 = .ok (.iload_n 2, 1) := by decide +kernel
theorem dX4_shape_94 : decode cX4_shape 94 = .ok (.bipush 24, 2) := by decide +kernel
theorem dX4_shape_96 : decode cX4_shape 96 = .ok (.if_icmp .ge 36, 3) := by decide +kernel
theorem dX4_shape_99 : decode cX4_shape 99 = .ok (.aload_n 0, 1) := by decide +kernel
theorem dX4_shape_100 : decode cX4_shape 100 = .ok (.getfield 27, 3) := by decide +kernel
theorem dX4_shape_103 : decode cX4_shape 103 = .ok (.iload_n 2, 1) := by decide +kernel
theorem dX4_shape_104 : decode cX4_shape 104 = .ok (.baload, 1) := by decide +kernel
theorem dX4_shape_105 : decode cX4_shape 105 = .ok (.ifCond .eq 21, 3) := by decide +kernel
theorem dX4_shape_108 : decode cX4_shape 108 = .ok (.aload_n 0, 1) := by decide +kernel
theorem dX4_shape_109 : decode cX4_shape 109 = .ok (.iload_n 2, 1) := by decide +kernel
theorem dX4_shape_110 : decode cX4_shape 110 = .ok (.invokevirtual 106, 3) := by decide +kernel
theorem dX4_shape_113 : decode cX4_shape 113 = .ok (.ifCond .ne 7, 3) := by decide +kernel
theorem dX4_shape_116 : decode cX4_shape 116 = .ok (.iload_n 1, 1) := by decide +kernel
theorem dX4_shape_117 : decode cX4_shape 117 = .ok (.ifCond .eq 7, 3) := by decide +kernel
theorem dX4_shape_120 : decode cX4_shape 120 = .ok (.iconst 1, 1) := by decide +kernel
theorem dX4_shape_121 : decode cX4_shape 121 = .ok (.goto 4, 3) := by decide +kernel
theorem dX4_shape_124 : decode cX4_shape 124 = .ok (.iconst 0, 1) := by decide +kernel
theorem dX4_shape_125 : decode cX4_shape 125 = .ok (.istore_n 1, 1) := by decide +kernel
theorem dX4_shape_126 : decode cX4_shape 126 = .ok (.iinc 2 1, 3) := by decide +kernel
theorem dX4_shape_129 : decode cX4_shape 129 = .ok (.goto (-36), 3) := by decide +kernel
theorem dX4_shape_132 : decode cX4_shape 132 = .ok (.goto (-47), 3) := by decide +kernel
theorem dX4_shape_135 : decode cX4_shape 135 = .ok (.iconst 0, 1) := by decide +kernel
theorem dX4_shape_136 : decode cX4_shape 136 = .ok (.istore_n 2, 1) := by decide +kernel
theorem dX4_shape_137 : decode cX4_shape 137 = .ok (.iconst 0, 1) := by decide +kernel
theorem dX4_shape_138 : decode cX4_shape 138 = .ok (.istore_n 3, 1) := by decide +kernel
theorem dX4_shape_139 : decode cX4_shape 139 = .ok (.iload_n 3, 1) := by decide +kernel
theorem dX4_shape_140 : decode cX4_shape 140 = .ok (.bipush 24, 2) := by decide +kernel
theorem dX4_shape_142 : decode cX4_shape 142 = .ok (.if_icmp .ge 133, 3) := by decide +kernel
theorem dX4_shape_145 : decode cX4_shape 145 = .ok (.iload_n 2, 1) := by decide +kernel
theorem dX4_shape_146 : decode cX4_shape 146 = .ok (.aload_n 0, 1) := by decide +kernel
theorem dX4_shape_147 : decode cX4_shape 147 = .ok (.getfield 27, 3) := by decide +kernel
theorem dX4_shape_150 : decode cX4_shape 150 = .ok (.iload_n 3, 1) := by decide +kernel
theorem dX4_shape_151 : decode cX4_shape 151 = .ok (.baload, 1) := by decide +kernel
theorem dX4_shape_152 : decode cX4_shape 152 = .ok (.ifCond .eq 7, 3) := by decide +kernel
theorem dX4_shape_155 : decode cX4_shape 155 = .ok (.iconst 1, 1) := by decide +kernel
theorem dX4_shape_156 : decode cX4_shape 156 = .ok (.goto 4, 3) := by decide +kernel
theorem dX4_shape_159 : decode cX4_shape 159 = .ok (.iconst 0, 1) := by decide +kernel
theorem dX4_shape_160 : decode cX4_shape 160 = .ok (.iadd, 1) := by decide +kernel
theorem dX4_shape_161 : decode cX4_shape 161 = .ok (.istore_n 2, 1) := by decide +kernel
theorem dX4_shape_162 : decode cX4_shape 162 = .ok (.iconst 0, 1) := by decide +kernel
theorem dX4_shape_163 : decode cX4_shape 163 = .ok (.istore 4, 2) := by decide +kernel
theorem dX4_shape_165 : decode cX4_shape 165 = .ok (.iload 4, 2) := by decide +kernel
theorem dX4_shape_167 : decode cX4_shape 167 = .ok (.aload_n 0, 1) := by decide +kernel
theorem dX4_shape_168 : decode cX4_shape 168 = .ok (.getfield 17, 3) := by decide +kernel
theorem dX4_shape_171 : decode cX4_shape 171 = .ok (.iload_n 3, 1) := by decide +kernel
theorem dX4_shape_172 : decode cX4_shape 172 = .ok (.iaload, 1) := by decide +kernel
theorem dX4_shape_173 : decode cX4_shape 173 = .ok (.if_icmp .ge 96, 3) := by decide +kernel
theorem dX4_shape_176 : decode cX4_shape 176 = .ok (.aload_n 0, 1) := by decide +kernel
theorem dX4_shape_177 : decode cX4_shape 177 = .ok (.iload_n 3, 1) := by decide +kernel
theorem dX4_shape_178 : decode cX4_shape 178 = .ok (.iload 4, 2) := by decide +kernel
theorem dX4_shape_180 : decode cX4_shape 180 = .ok (.iconst 0, 1) := by decide +kernel
theorem dX4_shape_181 : decode cX4_shape 181 = .ok (.invokevirtual 99, 3) := by decide +kernel
theorem dX4_shape_184 : decode cX4_shape 184 = .ok (.istore 5, 2) := by decide +kernel
theorem dX4_shape_186 : decode cX4_shape 186 = .ok (.iload 5, 2) := by decide +kernel
theorem dX4_shape_188 : decode cX4_shape 188 = .ok (.bipush 7, 2) := by decide +kernel
theorem dX4_shape_190 : decode cX4_shape 190 = .ok (.if_icmp .ne 18, 3) := by decide +kernel
theorem dX4_shape_193 : decode cX4_shape 193 = .ok (.aload_n 0, 1) := by decide +kernel
theorem dX4_shape_194 : decode cX4_shape 194 = .ok (.aload_n 0, 1) := by decide +kernel
theorem dX4_shape_195 : decode cX4_shape 195 = .ok (.iload_n 3, 1) := by decide +kernel
theorem dX4_shape_196 : decode cX4_shape 196 = .ok (.iload 4, 2) := by decide +kernel
theorem dX4_shape_198 : decode cX4_shape 198 = .ok (.iconst 3, 1) := by decide +kernel
theorem dX4_shape_199 : decode cX4_shape 199 = .ok (.invokevirtual 99, 3) := by decide +kernel
theorem dX4_shape_202 : decode cX4_shape 202 = .ok (.invokevirtual 109, 3) := by decide +kernel
theorem dX4_shape_205 : decode cX4_shape 205 = .ok (.goto 29, 3) := by decide +kernel
theorem dX4_shape_208 : decode cX4_shape 208 = .ok (.iload 5, 2) := by decide +kernel
theorem dX4_shape_210 : decode cX4_shape 210 = .ok (.iconst 4, 1) := by decide +kernel
theorem dX4_shape_211 : decode cX4_shape 211 = .ok (.if_icmp .ne 22, 3) := by decide +kernel
theorem dX4_shape_214 : decode cX4_shape 214 = .ok (.aload_n 0, 1) := by decide +kernel
theorem dX4_shape_215 : decode cX4_shape 215 = .ok (.iload_n 3, 1) := by decide +kernel
theorem dX4_shape_216 : decode cX4_shape 216 = .ok (.iload 4, 2) := by decide +kernel
theorem dX4_shape_218 : decode cX4_shape 218 = .ok (.invokevirtual 113, 3) := by decide +kernel
theorem dX4_shape_221 : decode cX4_shape 221 = .ok (.ifCond .eq 7, 3) := by decide +kernel
theorem dX4_shape_224 : decode cX4_shape 224 = .ok (.iconst 5, 1) := by decide +kernel
theorem dX4_shape_225 : decode cX4_shape 225 = .ok (.goto 9, 3) := by decide +kernel
theorem dX4_shape_228 : decode cX4_shape 228 = .ok (.bipush 6, 2) := by decide +kernel
theorem dX4_shape_230 : decode cX4_shape 230 = .ok (.goto 4, 3) := by decide +kernel
theorem dX4_shape_233 : decode cX4_shape 233 = .ok (.iconst 0, 1) := by decide +kernel
theorem dX4_shape_234 : decode cX4_shape 234 = .ok (.istore 6, 2) := by decide +kernel
theorem dX4_shape_236 : decode cX4_shape 236 = .ok (.aload_n 0, 1) := by decide +kernel
theorem dX4_shape_237 : decode cX4_shape 237 = .ok (.getfield 33, 3) := by decide +kernel
theorem dX4_shape_240 : decode cX4_shape 240 = .ok (.bipush 10, 2) := by decide +kernel
theorem dX4_shape_242 : decode cX4_shape 242 = .ok (.iload_n 3, 1) := by decide +kernel
theorem dX4_shape_243 : decode cX4_shape 243 = .ok (.imul, 1) := by decide +kernel
theorem dX4_shape_244 : decode cX4_shape 244 = .ok (.iload 4, 2) := by decide +kernel
theorem dX4_shape_246 : decode cX4_shape 246 = .ok (.iadd, 1) := by decide +kernel
theorem dX4_shape_247 : decode cX4_shape 247 = .ok (.aload_n 0, 1) := by decide +kernel
theorem dX4_shape_248 : decode cX4_shape 248 = .ok (.getfield 27, 3) := by decide +kernel
theorem dX4_shape_251 : decode cX4_shape 251 = .ok (.iload_n 3, 1) := by decide +kernel
theorem dX4_shape_252 : decode cX4_shape 252 = .ok (.baload, 1) := by decide +kernel
theorem dX4_shape_253 : decode cX4_shape 253 = .ok (.ifCond .eq 8, 3) := by decide +kernel
theorem dX4_shape_256 : decode cX4_shape 256 = .ok (.iload 6, 2) := by decide +kernel
theorem dX4_shape_258 : decode cX4_shape 258 = .ok (.goto 4, 3) := by decide +kernel
theorem dX4_shape_261 : decode cX4_shape 261 = .ok (.iconst 0, 1) := by decide +kernel
theorem dX4_shape_262 : decode cX4_shape 262 = .ok (.iastore, 1) := by decide +kernel
theorem dX4_shape_263 : decode cX4_shape 263 = .ok (.iinc 4 1, 3) := by decide +kernel
theorem dX4_shape_266 : decode cX4_shape 266 = .ok (.goto (-101), 3) := by decide +kernel
theorem dX4_shape_269 : decode cX4_shape 269 = .ok (.iinc 3 1, 3) := by decide +kernel
theorem dX4_shape_272 : decode cX4_shape 272 = .ok (.goto (-133), 3) := by decide +kernel
theorem dX4_shape_275 : decode cX4_shape 275 = .ok (.iload_n 2, 1) := by decide +kernel
theorem dX4_shape_276 : decode cX4_shape 276 = .ok (.ireturn, 1) := by decide +kernel
theorem dX4_reach_0 : decode cX4_reach 0 = .ok (.aload_n 0, 1) := by decide +kernel
theorem dX4_reach_1 : decode cX4_reach 1 = .ok (.iconst 0, 1) := by decide +kernel
theorem dX4_reach_2 : decode cX4_reach 2 = .ok (.putfield 69, 3) := by decide +kernel
theorem dX4_reach_5 : decode cX4_reach 5 = .ok (.iconst 0, 1) := by decide +kernel
theorem dX4_reach_6 : decode cX4_reach 6 = .ok (.istore_n 1, 1) := by decide +kernel
theorem dX4_reach_7 : decode cX4_reach 7 = .ok (.iconst 0, 1) := by decide +kernel
theorem dX4_reach_8 : decode cX4_reach 8 = .ok (.istore_n 2, 1) := by decide +kernel
theorem dX4_reach_9 : decode cX4_reach 9 = .ok (.iload_n 2, 1) := by decide +kernel
theorem dX4_reach_10 : decode cX4_reach 10 = .ok (.bipush 6, 2) := by decide +kernel
theorem dX4_reach_12 : decode cX4_reach 12 = .ok (.if_icmp .ge 28, 3) := by decide +kernel
theorem dX4_reach_15 : decode cX4_reach 15 = .ok (.iload_n 1, 1) := by decide +kernel
theorem dX4_reach_16 : decode cX4_reach 16 = .ok (.aload_n 0, 1) := by decide +kernel
theorem dX4_reach_17 : decode cX4_reach 17 = .ok (.getfield 23, 3) := by decide +kernel
theorem dX4_reach_20 : decode cX4_reach 20 = .ok (.iload_n 2, 1) := by decide +kernel
theorem dX4_reach_21 : decode cX4_reach 21 = .ok (.baload, 1) := by decide +kernel
theorem dX4_reach_22 : decode cX4_reach 22 = .ok (.ifCond .eq 9, 3) := by decide +kernel
theorem dX4_reach_25 : decode cX4_reach 25 = .ok (.iconst 1, 1) := by decide +kernel
theorem dX4_reach_26 : decode cX4_reach 26 = .ok (.iload_n 2, 1) := by decide +kernel
theorem dX4_reach_27 : decode cX4_reach 27 = .ok (.ishl, 1) := by decide +kernel
theorem dX4_reach_28 : decode cX4_reach 28 = .ok (.goto 4, 3) := by decide +kernel
theorem dX4_reach_31 : decode cX4_reach 31 = .ok (.iconst 0, 1) := by decide +kernel
theorem dX4_reach_32 : decode cX4_reach 32 = .ok (.ior, 1) := by decide +kernel
theorem dX4_reach_33 : decode cX4_reach 33 = .ok (.istore_n 1, 1) := by decide +kernel
theorem dX4_reach_34 : decode cX4_reach 34 = .ok (.iinc 2 1, 3) := by decide +kernel
theorem dX4_reach_37 : decode cX4_reach 37 = .ok (.goto (-28), 3) := by decide +kernel
theorem dX4_reach_40 : decode cX4_reach 40 = .ok (.iconst 0, 1) := by decide +kernel
theorem dX4_reach_41 : decode cX4_reach 41 = .ok (.istore_n 2, 1) := by decide +kernel
theorem dX4_reach_42 : decode cX4_reach 42 = .ok (.iload_n 2, 1) := by decide +kernel
theorem dX4_reach_43 : decode cX4_reach 43 = .ok (.bipush 24, 2) := by decide +kernel
theorem dX4_reach_45 : decode cX4_reach 45 = .ok (.if_icmp .ge 31, 3) := by decide +kernel
theorem dX4_reach_48 : decode cX4_reach 48 = .ok (.iload_n 1, 1) := by decide +kernel
theorem dX4_reach_49 : decode cX4_reach 49 = .ok (.aload_n 0, 1) := by decide +kernel
theorem dX4_reach_50 : decode cX4_reach 50 = .ok (.getfield 27, 3) := by decide +kernel
theorem dX4_reach_53 : decode cX4_reach 53 = .ok (.iload_n 2, 1) := by decide +kernel
theorem dX4_reach_54 : decode cX4_reach 54 = .ok (.baload, 1) := by decide +kernel
theorem dX4_reach_55 : decode cX4_reach 55 = .ok (.ifCond .eq 12, 3) := by decide +kernel
theorem dX4_reach_58 : decode cX4_reach 58 = .ok (.iconst 1, 1) := by decide +kernel
theorem dX4_reach_59 : decode cX4_reach 59 = .ok (.bipush 8, 2) := by decide +kernel
theorem dX4_reach_61 : decode cX4_reach 61 = .ok (.iload_n 2, 1) := by decide +kernel
theorem dX4_reach_62 : decode cX4_reach 62 = .ok (.iadd, 1) := by decide +kernel
theorem dX4_reach_63 : decode cX4_reach 63 = .ok (.ishl, 1) := by decide +kernel
theorem dX4_reach_64 : decode cX4_reach 64 = .ok (.goto 4, 3) := by decide +kernel
theorem dX4_reach_67 : decode cX4_reach 67 = .ok (.iconst 0, 1) := by decide +kernel
theorem dX4_reach_68 : decode cX4_reach 68 = .ok (.ior, 1) := by decide +kernel
theorem dX4_reach_69 : decode cX4_reach 69 = .ok (.istore_n 1, 1) := by decide +kernel
theorem dX4_reach_70 : decode cX4_reach 70 = .ok (.iinc 2 1, 3) := by decide +kernel
theorem dX4_reach_73 : decode cX4_reach 73 = .ok (.goto (-31), 3) := by decide +kernel
theorem dX4_reach_76 : decode cX4_reach 76 = .ok (.iload_n 1, 1) := by decide +kernel
theorem dX4_reach_77 : decode cX4_reach 77 = .ok (.ireturn, 1) := by decide +kernel
theorem dX4_siteOf_0 : decode cX4_siteOf 0 = .ok (.aload_n 0, 1) := by decide +kernel
theorem dX4_siteOf_1 : decode cX4_siteOf 1 = .ok (.getfield 27, 3) := by decide +kernel
theorem dX4_siteOf_4 : decode cX4_siteOf 4 = .ok (.iload_n 1, 1) := by decide +kernel
theorem dX4_siteOf_5 : decode cX4_siteOf 5 = .ok (.baload, 1) := by decide +kernel
theorem dX4_siteOf_6 : decode cX4_siteOf 6 = .ok (.ifCond .eq 26, 3) := by decide +kernel
theorem dX4_siteOf_9 : decode cX4_siteOf 9 = .ok (.aload_n 0, 1) := by decide +kernel
theorem dX4_siteOf_10 : decode cX4_siteOf 10 = .ok (.getfield 30, 3) := by decide +kernel
theorem dX4_siteOf_13 : decode cX4_siteOf 13 = .ok (.iload_n 1, 1) := by decide +kernel
theorem dX4_siteOf_14 : decode cX4_siteOf 14 = .ok (.baload, 1) := by decide +kernel
theorem dX4_siteOf_15 : decode cX4_siteOf 15 = .ok (.ifCond .ne 17, 3) := by decide +kernel
theorem dX4_siteOf_18 : decode cX4_siteOf 18 = .ok (.aload_n 0, 1) := by decide +kernel
theorem dX4_siteOf_19 : decode cX4_siteOf 19 = .ok (.getfield 33, 3) := by decide +kernel
theorem dX4_siteOf_22 : decode cX4_siteOf 22 = .ok (.bipush 10, 2) := by decide +kernel
theorem dX4_siteOf_24 : decode cX4_siteOf 24 = .ok (.iload_n 1, 1) := by decide +kernel
theorem dX4_siteOf_25 : decode cX4_siteOf 25 = .ok (.imul, 1) := by decide +kernel
theorem dX4_siteOf_26 : decode cX4_siteOf 26 = .ok (.iload_n 2, 1) := by decide +kernel
theorem dX4_siteOf_27 : decode cX4_siteOf 27 = .ok (.iadd, 1) := by decide +kernel
theorem dX4_siteOf_28 : decode cX4_siteOf 28 = .ok (.iaload, 1) := by decide +kernel
theorem dX4_siteOf_29 : decode cX4_siteOf 29 = .ok (.goto 4, 3) := by decide +kernel
theorem dX4_siteOf_32 : decode cX4_siteOf 32 = .ok (.iconst 0, 1) := by decide +kernel
theorem dX4_siteOf_33 : decode cX4_siteOf 33 = .ok (.ireturn, 1) := by decide +kernel
theorem dX4_site_0 : decode cX4_site 0 = .ok (.aload_n 0, 1) := by decide +kernel
theorem dX4_site_1 : decode cX4_site 1 = .ok (.iload_n 1, 1) := by decide +kernel
theorem dX4_site_2 : decode cX4_site 2 = .ok (.iload_n 2, 1) := by decide +kernel
theorem dX4_site_3 : decode cX4_site 3 = .ok (.invokevirtual 87, 3) := by decide +kernel
theorem dX4_site_6 : decode cX4_site 6 = .ok (.ifCond .eq 25, 3) := by decide +kernel
theorem dX4_site_9 : decode cX4_site 9 = .ok (.iload_n 3, 1) := by decide +kernel
theorem dX4_site_10 : decode cX4_site 10 = .ok (.ifCond .lt 21, 3) := by decide +kernel
theorem dX4_site_13 : decode cX4_site 13 = .ok (.iload_n 3, 1) := by decide +kernel
theorem dX4_site_14 : decode cX4_site 14 = .ok (.aload_n 0, 1) := by decide +kernel
theorem dX4_site_15 : decode cX4_site 15 = .ok (.getfield 17, 3) := by decide +kernel
theorem dX4_site_18 : decode cX4_site 18 = .ok (.iconst 4, 1) := by decide +kernel
theorem dX4_site_19 : decode cX4_site 19 = .ok (.iload_n 1, 1) := by decide +kernel
theorem dX4_site_20 : decode cX4_site 20 = .ok (.imul, 1) := by decide +kernel
theorem dX4_site_21 : decode cX4_site 21 = .ok (.iload_n 2, 1) := by decide +kernel
theorem dX4_site_22 : decode cX4_site 22 = .ok (.iadd, 1) := by decide +kernel
theorem dX4_site_23 : decode cX4_site 23 = .ok (.iaload, 1) := by decide +kernel
theorem dX4_site_24 : decode cX4_site 24 = .ok (.if_icmp .ge 7, 3) := by decide +kernel
theorem dX4_site_27 : decode cX4_site 27 = .ok (.iconst 1, 1) := by decide +kernel
theorem dX4_site_28 : decode cX4_site 28 = .ok (.goto 4, 3) := by decide +kernel
theorem dX4_site_31 : decode cX4_site 31 = .ok (.iconst 0, 1) := by decide +kernel
theorem dX4_site_32 : decode cX4_site 32 = .ok (.istore 4, 2) := by decide +kernel
theorem dX4_site_34 : decode cX4_site 34 = .ok (.aload_n 0, 1) := by decide +kernel
theorem dX4_site_35 : decode cX4_site 35 = .ok (.iload 4, 2) := by decide +kernel
theorem dX4_site_37 : decode cX4_site 37 = .ok (.ifCond .ne 7, 3) := by decide +kernel
theorem dX4_site_40 : decode cX4_site 40 = .ok (.iconst 1, 1) := by decide +kernel
theorem dX4_site_41 : decode cX4_site 41 = .ok (.goto 4, 3) := by decide +kernel
theorem dX4_site_44 : decode cX4_site 44 = .ok (.iconst 0, 1) := by decide +kernel
theorem dX4_site_45 : decode cX4_site 45 = .ok (.iconst 0, 1) := by decide +kernel
theorem dX4_site_46 : decode cX4_site 46 = .ok (.invokevirtual 76, 3) := by decide +kernel
theorem dX4_site_49 : decode cX4_site 49 = .ok (.ifCond .eq 7, 3) := by decide +kernel
theorem dX4_site_52 : decode cX4_site 52 = .ok (.iconst 0, 1) := by decide +kernel
theorem dX4_site_53 : decode cX4_site 53 = .ok (.goto 13, 3) := by decide +kernel
theorem dX4_site_56 : decode cX4_site 56 = .ok (.aload_n 0, 1) := by decide +kernel
theorem dX4_site_57 : decode cX4_site 57 = .ok (.iconst 4, 1) := by decide +kernel
theorem dX4_site_58 : decode cX4_site 58 = .ok (.iload_n 1, 1) := by decide +kernel
theorem dX4_site_59 : decode cX4_site 59 = .ok (.imul, 1) := by decide +kernel
theorem dX4_site_60 : decode cX4_site 60 = .ok (.iload_n 2, 1) := by decide +kernel
theorem dX4_site_61 : decode cX4_site 61 = .ok (.iadd, 1) := by decide +kernel
theorem dX4_site_62 : decode cX4_site 62 = .ok (.iload_n 3, 1) := by decide +kernel
theorem dX4_site_63 : decode cX4_site 63 = .ok (.invokevirtual 116, 3) := by decide +kernel
theorem dX4_site_66 : decode cX4_site 66 = .ok (.ireturn, 1) := by decide +kernel
theorem dX4_makes_0 : decode cX4_makes 0 = .ok (.iload_n 2, 1) := by decide +kernel
theorem dX4_makes_1 : decode cX4_makes 1 = .ok (.ifCond .ne 18, 3) := by decide +kernel
theorem dX4_makes_4 : decode cX4_makes 4 = .ok (.aload_n 0, 1) := by decide +kernel
theorem dX4_makes_5 : decode cX4_makes 5 = .ok (.getfield 66, 3) := by decide +kernel
theorem dX4_makes_8 : decode cX4_makes 8 = .ok (.iconst 1, 1) := by decide +kernel
theorem dX4_makes_9 : decode cX4_makes 9 = .ok (.iaload, 1) := by decide +kernel
theorem dX4_makes_10 : decode cX4_makes 10 = .ok (.aload_n 0, 1) := by decide +kernel
theorem dX4_makes_11 : decode cX4_makes 11 = .ok (.getfield 119, 3) := by decide +kernel
theorem dX4_makes_14 : decode cX4_makes 14 = .ok (.if_icmp .ne 5, 3) := by decide +kernel
theorem dX4_makes_17 : decode cX4_makes 17 = .ok (.iconst (-1), 1) := by decide +kernel
theorem dX4_makes_18 : decode cX4_makes 18 = .ok (.ireturn, 1) := by decide +kernel
theorem dX4_makes_19 : decode cX4_makes 19 = .ok (.aload_n 0, 1) := by decide +kernel
theorem dX4_makes_20 : decode cX4_makes 20 = .ok (.getfield 66, 3) := by decide +kernel
theorem dX4_makes_23 : decode cX4_makes 23 = .ok (.iconst 1, 1) := by decide +kernel
theorem dX4_makes_24 : decode cX4_makes 24 = .ok (.dup2, 1) := by decide +kernel
theorem dX4_makes_25 : decode cX4_makes 25 = .ok (.iaload, 1) := by decide +kernel
theorem dX4_makes_26 : decode cX4_makes 26 = .ok (.iload_n 2, 1) := by decide +kernel
theorem dX4_makes_27 : decode cX4_makes 27 = .ok (.ifCond .eq 7, 3) := by decide +kernel
theorem dX4_makes_30 : decode cX4_makes 30 = .ok (.iconst 0, 1) := by decide +kernel
theorem dX4_makes_31 : decode cX4_makes 31 = .ok (.goto 4, 3) := by decide +kernel
theorem dX4_makes_34 : decode cX4_makes 34 = .ok (.iconst 1, 1) := by decide +kernel
theorem dX4_makes_35 : decode cX4_makes 35 = .ok (.iadd, 1) := by decide +kernel
theorem dX4_makes_36 : decode cX4_makes 36 = .ok (.iastore, 1) := by decide +kernel
theorem dX4_makes_37 : decode cX4_makes 37 = .ok (.aload_n 0, 1) := by decide +kernel
theorem dX4_makes_38 : decode cX4_makes 38 = .ok (.getfield 39, 3) := by decide +kernel
theorem dX4_makes_41 : decode cX4_makes 41 = .ok (.aload_n 0, 1) := by decide +kernel
theorem dX4_makes_42 : decode cX4_makes 42 = .ok (.getfield 122, 3) := by decide +kernel
theorem dX4_makes_45 : decode cX4_makes 45 = .ok (.iload_n 1, 1) := by decide +kernel
theorem dX4_makes_46 : decode cX4_makes 46 = .ok (.iastore, 1) := by decide +kernel
theorem dX4_makes_47 : decode cX4_makes 47 = .ok (.iconst 0, 1) := by decide +kernel
theorem dX4_makes_48 : decode cX4_makes 48 = .ok (.istore_n 3, 1) := by decide +kernel
theorem dX4_makes_49 : decode cX4_makes 49 = .ok (.iload_n 3, 1) := by decide +kernel
theorem dX4_makes_50 : decode cX4_makes 50 = .ok (.iconst 3, 1) := by decide +kernel
theorem dX4_makes_51 : decode cX4_makes 51 = .ok (.if_icmp .ge 37, 3) := by decide +kernel
theorem dX4_makes_54 : decode cX4_makes 54 = .ok (.aload_n 0, 1) := by decide +kernel
theorem dX4_makes_55 : decode cX4_makes 55 = .ok (.getfield 42, 3) := by decide +kernel
theorem dX4_makes_58 : decode cX4_makes 58 = .ok (.iconst 3, 1) := by decide +kernel
theorem dX4_makes_59 : decode cX4_makes 59 = .ok (.aload_n 0, 1) := by decide +kernel
theorem dX4_makes_60 : decode cX4_makes 60 = .ok (.getfield 122, 3) := by decide +kernel
theorem dX4_makes_63 : decode cX4_makes 63 = .ok (.imul, 1) := by decide +kernel
theorem dX4_makes_64 : decode cX4_makes 64 = .ok (.iload_n 3, 1) := by decide +kernel
theorem dX4_makes_65 : decode cX4_makes 65 = .ok (.iadd, 1) := by decide +kernel
theorem dX4_makes_66 : decode cX4_makes 66 = .ok (.iconst 0, 1) := by decide +kernel
theorem dX4_makes_67 : decode cX4_makes 67 = .ok (.bastore, 1) := by decide +kernel
theorem dX4_makes_68 : decode cX4_makes 68 = .ok (.aload_n 0, 1) := by decide +kernel
theorem dX4_makes_69 : decode cX4_makes 69 = .ok (.getfield 45, 3) := by decide +kernel
theorem dX4_makes_72 : decode cX4_makes 72 = .ok (.iconst 3, 1) := by decide +kernel
theorem dX4_makes_73 : decode cX4_makes 73 = .ok (.aload_n 0, 1) := by decide +kernel
theorem dX4_makes_74 : decode cX4_makes 74 = .ok (.getfield 122, 3) := by decide +kernel
theorem dX4_makes_77 : decode cX4_makes 77 = .ok (.imul, 1) := by decide +kernel
theorem dX4_makes_78 : decode cX4_makes 78 = .ok (.iload_n 3, 1) := by decide +kernel
theorem dX4_makes_79 : decode cX4_makes 79 = .ok (.iadd, 1) := by decide +kernel
theorem dX4_makes_80 : decode cX4_makes 80 = .ok (.iconst 0, 1) := by decide +kernel
theorem dX4_makes_81 : decode cX4_makes 81 = .ok (.iastore, 1) := by decide +kernel
theorem dX4_makes_82 : decode cX4_makes 82 = .ok (.iinc 3 1, 3) := by decide +kernel
theorem dX4_makes_85 : decode cX4_makes 85 = .ok (.goto (-36), 3) := by decide +kernel
theorem dX4_makes_88 : decode cX4_makes 88 = .ok (.aload_n 0, 1) := by decide +kernel
theorem dX4_makes_89 : decode cX4_makes 89 = .ok (.dup, 1) := by decide +kernel
theorem dX4_makes_90 : decode cX4_makes 90 = .ok (.getfield 122, 3) := by decide +kernel
theorem dX4_makes_93 : decode cX4_makes 93 = .ok (.iconst 1, 1) := by decide +kernel
theorem dX4_makes_94 : decode cX4_makes 94 = .ok (.iadd, 1) := by decide +kernel
theorem dX4_makes_95 : decode cX4_makes 95 = .ok (.putfield 122, 3) := by decide +kernel
theorem dX4_makes_98 : decode cX4_makes 98 = .ok (.aload_n 0, 1) := by decide +kernel
theorem dX4_makes_99 : decode cX4_makes 99 = .ok (.getfield 122, 3) := by decide +kernel
theorem dX4_makes_102 : decode cX4_makes 102 = .ok (.iconst 1, 1) := by decide +kernel
theorem dX4_makes_103 : decode cX4_makes 103 = .ok (.isub, 1) := by decide +kernel
theorem dX4_makes_104 : decode cX4_makes 104 = .ok (.ireturn, 1) := by decide +kernel
theorem dX4_enters_0 : decode cX4_enters 0 = .ok (.bipush 6, 2) := by decide +kernel
theorem dX4_enters_2 : decode cX4_enters 2 = .ok (.aload_n 0, 1) := by decide +kernel
theorem dX4_enters_3 : decode cX4_enters 3 = .ok (.getfield 125, 3) := by decide +kernel
theorem dX4_enters_6 : decode cX4_enters 6 = .ok (.imul, 1) := by decide +kernel
theorem dX4_enters_7 : decode cX4_enters 7 = .ok (.istore 6, 2) := by decide +kernel
theorem dX4_enters_9 : decode cX4_enters 9 = .ok (.iconst 0, 1) := by decide +kernel
theorem dX4_enters_10 : decode cX4_enters 10 = .ok (.istore 7, 2) := by decide +kernel
theorem dX4_enters_12 : decode cX4_enters 12 = .ok (.iload 7, 2) := by decide +kernel
theorem dX4_enters_14 : decode cX4_enters 14 = .ok (.bipush 6, 2) := by decide +kernel
theorem dX4_enters_16 : decode cX4_enters 16 = .ok (.if_icmp .ge 70, 3) := by decide +kernel
theorem dX4_enters_19 : decode cX4_enters 19 = .ok (.aload_n 0, 1) := by decide +kernel
theorem dX4_enters_20 : decode cX4_enters 20 = .ok (.getfield 57, 3) := by decide +kernel
theorem dX4_enters_23 : decode cX4_enters 23 = .ok (.iload 6, 2) := by decide +kernel
theorem dX4_enters_25 : decode cX4_enters 25 = .ok (.iload 7, 2) := by decide +kernel
theorem dX4_enters_27 : decode cX4_enters 27 = .ok (.iadd, 1) := by decide +kernel
theorem dX4_enters_28 : decode cX4_enters 28 = .ok (.iload 7, 2) := by decide +kernel
theorem dX4_enters_30 : decode cX4_enters 30 = .ok (.ifCond .eq 13, 3) := by decide +kernel
theorem dX4_enters_33 : decode cX4_enters 33 = .ok (.iload 7, 2) := by decide +kernel
theorem dX4_enters_35 : decode cX4_enters 35 = .ok (.iconst 1, 1) := by decide +kernel
theorem dX4_enters_36 : decode cX4_enters 36 = .ok (.if_icmp .ne 11, 3) := by decide +kernel
theorem dX4_enters_39 : decode cX4_enters 39 = .ok (.iload_n 3, 1) := by decide +kernel
theorem dX4_enters_40 : decode cX4_enters 40 = .ok (.ifCond .eq 7, 3) := by decide +kernel
theorem dX4_enters_43 : decode cX4_enters 43 = .ok (.iconst 1, 1) := by decide +kernel
theorem dX4_enters_44 : decode cX4_enters 44 = .ok (.goto 4, 3) := by decide +kernel
theorem dX4_enters_47 : decode cX4_enters 47 = .ok (.iconst 0, 1) := by decide +kernel
theorem dX4_enters_48 : decode cX4_enters 48 = .ok (.bastore, 1) := by decide +kernel
theorem dX4_enters_49 : decode cX4_enters 49 = .ok (.aload_n 0, 1) := by decide +kernel
theorem dX4_enters_50 : decode cX4_enters 50 = .ok (.getfield 60, 3) := by decide +kernel
theorem dX4_enters_53 : decode cX4_enters 53 = .ok (.iload 6, 2) := by decide +kernel
theorem dX4_enters_55 : decode cX4_enters 55 = .ok (.iload 7, 2) := by decide +kernel
theorem dX4_enters_57 : decode cX4_enters 57 = .ok (.iadd, 1) := by decide +kernel
theorem dX4_enters_58 : decode cX4_enters 58 = .ok (.iload 7, 2) := by decide +kernel
theorem dX4_enters_60 : decode cX4_enters 60 = .ok (.ifCond .ne 7, 3) := by decide +kernel
theorem dX4_enters_63 : decode cX4_enters 63 = .ok (.iload_n 2, 1) := by decide +kernel
theorem dX4_enters_64 : decode cX4_enters 64 = .ok (.goto 15, 3) := by decide +kernel
theorem dX4_enters_67 : decode cX4_enters 67 = .ok (.iload 7, 2) := by decide +kernel
theorem dX4_enters_69 : decode cX4_enters 69 = .ok (.iconst 1, 1) := by decide +kernel
theorem dX4_enters_70 : decode cX4_enters 70 = .ok (.if_icmp .ne 8, 3) := by decide +kernel
theorem dX4_enters_73 : decode cX4_enters 73 = .ok (.iload 4, 2) := by decide +kernel
theorem dX4_enters_75 : decode cX4_enters 75 = .ok (.goto 4, 3) := by decide +kernel
theorem dX4_enters_78 : decode cX4_enters 78 = .ok (.iconst 0, 1) := by decide +kernel
theorem dX4_enters_79 : decode cX4_enters 79 = .ok (.iastore, 1) := by decide +kernel
theorem dX4_enters_80 : decode cX4_enters 80 = .ok (.iinc 7 1, 3) := by decide +kernel
theorem dX4_enters_83 : decode cX4_enters 83 = .ok (.goto (-71), 3) := by decide +kernel
theorem dX4_enters_86 : decode cX4_enters 86 = .ok (.aload_n 0, 1) := by decide +kernel
theorem dX4_enters_87 : decode cX4_enters 87 = .ok (.getfield 48, 3) := by decide +kernel
theorem dX4_enters_90 : decode cX4_enters 90 = .ok (.aload_n 0, 1) := by decide +kernel
theorem dX4_enters_91 : decode cX4_enters 91 = .ok (.getfield 125, 3) := by decide +kernel
theorem dX4_enters_94 : decode cX4_enters 94 = .ok (.iload_n 1, 1) := by decide +kernel
theorem dX4_enters_95 : decode cX4_enters 95 = .ok (.iastore, 1) := by decide +kernel
theorem dX4_enters_96 : decode cX4_enters 96 = .ok (.aload_n 0, 1) := by decide +kernel
theorem dX4_enters_97 : decode cX4_enters 97 = .ok (.getfield 51, 3) := by decide +kernel
theorem dX4_enters_100 : decode cX4_enters 100 = .ok (.aload_n 0, 1) := by decide +kernel
theorem dX4_enters_101 : decode cX4_enters 101 = .ok (.getfield 125, 3) := by decide +kernel
theorem dX4_enters_104 : decode cX4_enters 104 = .ok (.iconst 0, 1) := by decide +kernel
theorem dX4_enters_105 : decode cX4_enters 105 = .ok (.iastore, 1) := by decide +kernel
theorem dX4_enters_106 : decode cX4_enters 106 = .ok (.aload_n 0, 1) := by decide +kernel
theorem dX4_enters_107 : decode cX4_enters 107 = .ok (.getfield 54, 3) := by decide +kernel
theorem dX4_enters_110 : decode cX4_enters 110 = .ok (.aload_n 0, 1) := by decide +kernel
theorem dX4_enters_111 : decode cX4_enters 111 = .ok (.getfield 125, 3) := by decide +kernel
theorem dX4_enters_114 : decode cX4_enters 114 = .ok (.iload 5, 2) := by decide +kernel
theorem dX4_enters_116 : decode cX4_enters 116 = .ok (.iastore, 1) := by decide +kernel
theorem dX4_enters_117 : decode cX4_enters 117 = .ok (.aload_n 0, 1) := by decide +kernel
theorem dX4_enters_118 : decode cX4_enters 118 = .ok (.dup, 1) := by decide +kernel
theorem dX4_enters_119 : decode cX4_enters 119 = .ok (.getfield 125, 3) := by decide +kernel
theorem dX4_enters_122 : decode cX4_enters 122 = .ok (.iconst 1, 1) := by decide +kernel
end
section
theorem dX4_enters_123 : decode cX4_enters 123 = .ok (.iadd, 1) := by decide +kernel
theorem dX4_enters_124 : decode cX4_enters 124 = .ok (.putfield 125, 3) := by decide +kernel
theorem dX4_enters_127 : decode cX4_enters 127 = .ok (.aload_n 0, 1) := by decide +kernel
theorem dX4_enters_128 : decode cX4_enters 128 = .ok (.getfield 125, 3) := by decide +kernel
theorem dX4_enters_131 : decode cX4_enters 131 = .ok (.aload_n 0, 1) := by decide +kernel
theorem dX4_enters_132 : decode cX4_enters 132 = .ok (.getfield 66, 3) := by decide +kernel
theorem dX4_enters_135 : decode cX4_enters 135 = .ok (.iconst 5, 1) := by decide +kernel
theorem dX4_enters_136 : decode cX4_enters 136 = .ok (.iaload, 1) := by decide +kernel
theorem dX4_enters_137 : decode cX4_enters 137 = .ok (.if_icmp .le 13, 3) := by decide +kernel
theorem dX4_enters_140 : decode cX4_enters 140 = .ok (.aload_n 0, 1) := by decide +kernel
theorem dX4_enters_141 : decode cX4_enters 141 = .ok (.getfield 66, 3) := by decide +kernel
theorem dX4_enters_144 : decode cX4_enters 144 = .ok (.iconst 5, 1) := by decide +kernel
theorem dX4_enters_145 : decode cX4_enters 145 = .ok (.aload_n 0, 1) := by decide +kernel
theorem dX4_enters_146 : decode cX4_enters 146 = .ok (.getfield 125, 3) := by decide +kernel
theorem dX4_enters_149 : decode cX4_enters 149 = .ok (.iastore, 1) := by decide +kernel
theorem dX4_enters_150 : decode cX4_enters 150 = .ok (.return_, 1) := by decide +kernel
theorem dX4_answers_0 : decode cX4_answers 0 = .ok (.aload_n 0, 1) := by decide +kernel
theorem dX4_answers_1 : decode cX4_answers 1 = .ok (.dup, 1) := by decide +kernel
theorem dX4_answers_2 : decode cX4_answers 2 = .ok (.getfield 125, 3) := by decide +kernel
theorem dX4_answers_5 : decode cX4_answers 5 = .ok (.iconst 1, 1) := by decide +kernel
theorem dX4_answers_6 : decode cX4_answers 6 = .ok (.isub, 1) := by decide +kernel
theorem dX4_answers_7 : decode cX4_answers 7 = .ok (.putfield 125, 3) := by decide +kernel
theorem dX4_answers_10 : decode cX4_answers 10 = .ok (.aload_n 0, 1) := by decide +kernel
theorem dX4_answers_11 : decode cX4_answers 11 = .ok (.getfield 125, 3) := by decide +kernel
theorem dX4_answers_14 : decode cX4_answers 14 = .ok (.ifCond .ne 4, 3) := by decide +kernel
theorem dX4_answers_17 : decode cX4_answers 17 = .ok (.return_, 1) := by decide +kernel
theorem dX4_answers_18 : decode cX4_answers 18 = .ok (.aload_n 0, 1) := by decide +kernel
theorem dX4_answers_19 : decode cX4_answers 19 = .ok (.bipush 6, 2) := by decide +kernel
theorem dX4_answers_21 : decode cX4_answers 21 = .ok (.aload_n 0, 1) := by decide +kernel
theorem dX4_answers_22 : decode cX4_answers 22 = .ok (.getfield 125, 3) := by decide +kernel
theorem dX4_answers_25 : decode cX4_answers 25 = .ok (.iconst 1, 1) := by decide +kernel
theorem dX4_answers_26 : decode cX4_answers 26 = .ok (.isub, 1) := by decide +kernel
theorem dX4_answers_27 : decode cX4_answers 27 = .ok (.imul, 1) := by decide +kernel
theorem dX4_answers_28 : decode cX4_answers 28 = .ok (.aload_n 0, 1) := by decide +kernel
theorem dX4_answers_29 : decode cX4_answers 29 = .ok (.getfield 54, 3) := by decide +kernel
theorem dX4_answers_32 : decode cX4_answers 32 = .ok (.aload_n 0, 1) := by decide +kernel
theorem dX4_answers_33 : decode cX4_answers 33 = .ok (.getfield 125, 3) := by decide +kernel
theorem dX4_answers_36 : decode cX4_answers 36 = .ok (.iaload, 1) := by decide +kernel
theorem dX4_answers_37 : decode cX4_answers 37 = .ok (.iadd, 1) := by decide +kernel
theorem dX4_answers_38 : decode cX4_answers 38 = .ok (.iload_n 1, 1) := by decide +kernel
theorem dX4_answers_39 : decode cX4_answers 39 = .ok (.iload_n 2, 1) := by decide +kernel
theorem dX4_answers_40 : decode cX4_answers 40 = .ok (.invokevirtual 128, 3) := by decide +kernel
theorem dX4_answers_43 : decode cX4_answers 43 = .ok (.return_, 1) := by decide +kernel
theorem dX4_set_0 : decode cX4_set 0 = .ok (.aload_n 0, 1) := by decide +kernel
theorem dX4_set_1 : decode cX4_set 1 = .ok (.getfield 57, 3) := by decide +kernel
theorem dX4_set_4 : decode cX4_set 4 = .ok (.iload_n 1, 1) := by decide +kernel
theorem dX4_set_5 : decode cX4_set 5 = .ok (.iload_n 2, 1) := by decide +kernel
theorem dX4_set_6 : decode cX4_set 6 = .ok (.bastore, 1) := by decide +kernel
theorem dX4_set_7 : decode cX4_set 7 = .ok (.aload_n 0, 1) := by decide +kernel
theorem dX4_set_8 : decode cX4_set 8 = .ok (.getfield 60, 3) := by decide +kernel
theorem dX4_set_11 : decode cX4_set 11 = .ok (.iload_n 1, 1) := by decide +kernel
theorem dX4_set_12 : decode cX4_set 12 = .ok (.iload_n 3, 1) := by decide +kernel
theorem dX4_set_13 : decode cX4_set 13 = .ok (.iastore, 1) := by decide +kernel
theorem dX4_set_14 : decode cX4_set 14 = .ok (.return_, 1) := by decide +kernel
theorem dX4_calls_0 : decode cX4_calls 0 = .ok (.aload_n 0, 1) := by decide +kernel
theorem dX4_calls_1 : decode cX4_calls 1 = .ok (.getfield 57, 3) := by decide +kernel
theorem dX4_calls_4 : decode cX4_calls 4 = .ok (.iload_n 2, 1) := by decide +kernel
theorem dX4_calls_5 : decode cX4_calls 5 = .ok (.iload 4, 2) := by decide +kernel
theorem dX4_calls_7 : decode cX4_calls 7 = .ok (.iadd, 1) := by decide +kernel
theorem dX4_calls_8 : decode cX4_calls 8 = .ok (.baload, 1) := by decide +kernel
theorem dX4_calls_9 : decode cX4_calls 9 = .ok (.ifCond .ne 5, 3) := by decide +kernel
theorem dX4_calls_12 : decode cX4_calls 12 = .ok (.iconst 1, 1) := by decide +kernel
theorem dX4_calls_13 : decode cX4_calls 13 = .ok (.ireturn, 1) := by decide +kernel
theorem dX4_calls_14 : decode cX4_calls 14 = .ok (.aload_n 0, 1) := by decide +kernel
theorem dX4_calls_15 : decode cX4_calls 15 = .ok (.aload_n 0, 1) := by decide +kernel
theorem dX4_calls_16 : decode cX4_calls 16 = .ok (.getfield 39, 3) := by decide +kernel
theorem dX4_calls_19 : decode cX4_calls 19 = .ok (.aload_n 0, 1) := by decide +kernel
theorem dX4_calls_20 : decode cX4_calls 20 = .ok (.getfield 60, 3) := by decide +kernel
theorem dX4_calls_23 : decode cX4_calls 23 = .ok (.iload_n 2, 1) := by decide +kernel
theorem dX4_calls_24 : decode cX4_calls 24 = .ok (.iload 4, 2) := by decide +kernel
theorem dX4_calls_26 : decode cX4_calls 26 = .ok (.iadd, 1) := by decide +kernel
theorem dX4_calls_27 : decode cX4_calls 27 = .ok (.iaload, 1) := by decide +kernel
theorem dX4_calls_28 : decode cX4_calls 28 = .ok (.iaload, 1) := by decide +kernel
theorem dX4_calls_29 : decode cX4_calls 29 = .ok (.iload 5, 2) := by decide +kernel
theorem dX4_calls_31 : decode cX4_calls 31 = .ok (.invokevirtual 95, 3) := by decide +kernel
theorem dX4_calls_34 : decode cX4_calls 34 = .ok (.istore 6, 2) := by decide +kernel
theorem dX4_calls_36 : decode cX4_calls 36 = .ok (.iload 6, 2) := by decide +kernel
theorem dX4_calls_38 : decode cX4_calls 38 = .ok (.ifCond .ge 6, 3) := by decide +kernel
theorem dX4_calls_41 : decode cX4_calls 41 = .ok (.bipush 6, 2) := by decide +kernel
theorem dX4_calls_43 : decode cX4_calls 43 = .ok (.ireturn, 1) := by decide +kernel
theorem dX4_calls_44 : decode cX4_calls 44 = .ok (.aload_n 0, 1) := by decide +kernel
theorem dX4_calls_45 : decode cX4_calls 45 = .ok (.getfield 125, 3) := by decide +kernel
theorem dX4_calls_48 : decode cX4_calls 48 = .ok (.bipush 12, 2) := by decide +kernel
theorem dX4_calls_50 : decode cX4_calls 50 = .ok (.if_icmp .ne 5, 3) := by decide +kernel
theorem dX4_calls_53 : decode cX4_calls 53 = .ok (.iconst 4, 1) := by decide +kernel
theorem dX4_calls_54 : decode cX4_calls 54 = .ok (.ireturn, 1) := by decide +kernel
theorem dX4_calls_55 : decode cX4_calls 55 = .ok (.iload_n 1, 1) := by decide +kernel
theorem dX4_calls_56 : decode cX4_calls 56 = .ok (.iconst 2, 1) := by decide +kernel
theorem dX4_calls_57 : decode cX4_calls 57 = .ok (.if_icmp .eq 18, 3) := by decide +kernel
theorem dX4_calls_60 : decode cX4_calls 60 = .ok (.iload_n 1, 1) := by decide +kernel
theorem dX4_calls_61 : decode cX4_calls 61 = .ok (.iconst 3, 1) := by decide +kernel
theorem dX4_calls_62 : decode cX4_calls 62 = .ok (.if_icmp .eq 13, 3) := by decide +kernel
theorem dX4_calls_65 : decode cX4_calls 65 = .ok (.aload_n 0, 1) := by decide +kernel
theorem dX4_calls_66 : decode cX4_calls 66 = .ok (.getfield 66, 3) := by decide +kernel
theorem dX4_calls_69 : decode cX4_calls 69 = .ok (.iconst 2, 1) := by decide +kernel
theorem dX4_calls_70 : decode cX4_calls 70 = .ok (.dup2, 1) := by decide +kernel
theorem dX4_calls_71 : decode cX4_calls 71 = .ok (.iaload, 1) := by decide +kernel
theorem dX4_calls_72 : decode cX4_calls 72 = .ok (.iconst 1, 1) := by decide +kernel
theorem dX4_calls_73 : decode cX4_calls 73 = .ok (.iadd, 1) := by decide +kernel
theorem dX4_calls_74 : decode cX4_calls 74 = .ok (.iastore, 1) := by decide +kernel
theorem dX4_calls_75 : decode cX4_calls 75 = .ok (.iload_n 1, 1) := by decide +kernel
theorem dX4_calls_76 : decode cX4_calls 76 = .ok (.iconst 3, 1) := by decide +kernel
theorem dX4_calls_77 : decode cX4_calls 77 = .ok (.if_icmp .eq 13, 3) := by decide +kernel
theorem dX4_calls_80 : decode cX4_calls 80 = .ok (.aload_n 0, 1) := by decide +kernel
theorem dX4_calls_81 : decode cX4_calls 81 = .ok (.getfield 66, 3) := by decide +kernel
theorem dX4_calls_84 : decode cX4_calls 84 = .ok (.iconst 3, 1) := by decide +kernel
theorem dX4_calls_85 : decode cX4_calls 85 = .ok (.dup2, 1) := by decide +kernel
theorem dX4_calls_86 : decode cX4_calls 86 = .ok (.iaload, 1) := by decide +kernel
theorem dX4_calls_87 : decode cX4_calls 87 = .ok (.iconst 1, 1) := by decide +kernel
theorem dX4_calls_88 : decode cX4_calls 88 = .ok (.iadd, 1) := by decide +kernel
theorem dX4_calls_89 : decode cX4_calls 89 = .ok (.iastore, 1) := by decide +kernel
theorem dX4_calls_90 : decode cX4_calls 90 = .ok (.aload_n 0, 1) := by decide +kernel
theorem dX4_calls_91 : decode cX4_calls 91 = .ok (.iload 6, 2) := by decide +kernel
theorem dX4_calls_93 : decode cX4_calls 93 = .ok (.aload_n 0, 1) := by decide +kernel
theorem dX4_calls_94 : decode cX4_calls 94 = .ok (.getfield 60, 3) := by decide +kernel
theorem dX4_calls_97 : decode cX4_calls 97 = .ok (.iload_n 2, 1) := by decide +kernel
theorem dX4_calls_98 : decode cX4_calls 98 = .ok (.iload 4, 2) := by decide +kernel
theorem dX4_calls_100 : decode cX4_calls 100 = .ok (.iadd, 1) := by decide +kernel
theorem dX4_calls_101 : decode cX4_calls 101 = .ok (.iaload, 1) := by decide +kernel
theorem dX4_calls_102 : decode cX4_calls 102 = .ok (.aload_n 0, 1) := by decide +kernel
theorem dX4_calls_103 : decode cX4_calls 103 = .ok (.getfield 57, 3) := by decide +kernel
theorem dX4_calls_106 : decode cX4_calls 106 = .ok (.iload_n 2, 1) := by decide +kernel
theorem dX4_calls_107 : decode cX4_calls 107 = .ok (.iconst 5, 1) := by decide +kernel
theorem dX4_calls_108 : decode cX4_calls 108 = .ok (.iadd, 1) := by decide +kernel
theorem dX4_calls_109 : decode cX4_calls 109 = .ok (.baload, 1) := by decide +kernel
theorem dX4_calls_110 : decode cX4_calls 110 = .ok (.aload_n 0, 1) := by decide +kernel
theorem dX4_calls_111 : decode cX4_calls 111 = .ok (.getfield 60, 3) := by decide +kernel
theorem dX4_calls_114 : decode cX4_calls 114 = .ok (.iload_n 2, 1) := by decide +kernel
theorem dX4_calls_115 : decode cX4_calls 115 = .ok (.iconst 5, 1) := by decide +kernel
theorem dX4_calls_116 : decode cX4_calls 116 = .ok (.iadd, 1) := by decide +kernel
theorem dX4_calls_117 : decode cX4_calls 117 = .ok (.iaload, 1) := by decide +kernel
theorem dX4_calls_118 : decode cX4_calls 118 = .ok (.iload_n 3, 1) := by decide +kernel
theorem dX4_calls_119 : decode cX4_calls 119 = .ok (.invokevirtual 132, 3) := by decide +kernel
theorem dX4_calls_122 : decode cX4_calls 122 = .ok (.iconst 0, 1) := by decide +kernel
theorem dX4_calls_123 : decode cX4_calls 123 = .ok (.ireturn, 1) := by decide +kernel
theorem dX4_puts_0 : decode cX4_puts 0 = .ok (.aload_n 0, 1) := by decide +kernel
theorem dX4_puts_1 : decode cX4_puts 1 = .ok (.getfield 66, 3) := by decide +kernel
theorem dX4_puts_4 : decode cX4_puts 4 = .ok (.iconst 0, 1) := by decide +kernel
theorem dX4_puts_5 : decode cX4_puts 5 = .ok (.iaload, 1) := by decide +kernel
theorem dX4_puts_6 : decode cX4_puts 6 = .ok (.bipush 40, 2) := by decide +kernel
theorem dX4_puts_8 : decode cX4_puts 8 = .ok (.if_icmp .ne 6, 3) := by decide +kernel
theorem dX4_puts_11 : decode cX4_puts 11 = .ok (.bipush 7, 2) := by decide +kernel
theorem dX4_puts_13 : decode cX4_puts 13 = .ok (.ireturn, 1) := by decide +kernel
theorem dX4_puts_14 : decode cX4_puts 14 = .ok (.aload_n 0, 1) := by decide +kernel
theorem dX4_puts_15 : decode cX4_puts 15 = .ok (.getfield 63, 3) := by decide +kernel
theorem dX4_puts_18 : decode cX4_puts 18 = .ok (.aload_n 0, 1) := by decide +kernel
theorem dX4_puts_19 : decode cX4_puts 19 = .ok (.getfield 66, 3) := by decide +kernel
theorem dX4_puts_22 : decode cX4_puts 22 = .ok (.iconst 0, 1) := by decide +kernel
theorem dX4_puts_23 : decode cX4_puts 23 = .ok (.iaload, 1) := by decide +kernel
theorem dX4_puts_24 : decode cX4_puts 24 = .ok (.aload_n 0, 1) := by decide +kernel
theorem dX4_puts_25 : decode cX4_puts 25 = .ok (.getfield 57, 3) := by decide +kernel
theorem dX4_puts_28 : decode cX4_puts 28 = .ok (.iload_n 1, 1) := by decide +kernel
theorem dX4_puts_29 : decode cX4_puts 29 = .ok (.baload, 1) := by decide +kernel
theorem dX4_puts_30 : decode cX4_puts 30 = .ok (.ifCond .eq 21, 3) := by decide +kernel
theorem dX4_puts_33 : decode cX4_puts 33 = .ok (.sipush 1000, 3) := by decide +kernel
theorem dX4_puts_36 : decode cX4_puts 36 = .ok (.aload_n 0, 1) := by decide +kernel
theorem dX4_puts_37 : decode cX4_puts 37 = .ok (.getfield 39, 3) := by decide +kernel
theorem dX4_puts_40 : decode cX4_puts 40 = .ok (.aload_n 0, 1) := by decide +kernel
theorem dX4_puts_41 : decode cX4_puts 41 = .ok (.getfield 60, 3) := by decide +kernel
theorem dX4_puts_44 : decode cX4_puts 44 = .ok (.iload_n 1, 1) := by decide +kernel
theorem dX4_puts_45 : decode cX4_puts 45 = .ok (.iaload, 1) := by decide +kernel
theorem dX4_puts_46 : decode cX4_puts 46 = .ok (.iaload, 1) := by decide +kernel
theorem dX4_puts_47 : decode cX4_puts 47 = .ok (.iadd, 1) := by decide +kernel
theorem dX4_puts_48 : decode cX4_puts 48 = .ok (.goto 9, 3) := by decide +kernel
theorem dX4_puts_51 : decode cX4_puts 51 = .ok (.aload_n 0, 1) := by decide +kernel
theorem dX4_puts_52 : decode cX4_puts 52 = .ok (.getfield 60, 3) := by decide +kernel
theorem dX4_puts_55 : decode cX4_puts 55 = .ok (.iload_n 1, 1) := by decide +kernel
theorem dX4_puts_56 : decode cX4_puts 56 = .ok (.iaload, 1) := by decide +kernel
theorem dX4_puts_57 : decode cX4_puts 57 = .ok (.iastore, 1) := by decide +kernel
theorem dX4_puts_58 : decode cX4_puts 58 = .ok (.aload_n 0, 1) := by decide +kernel
theorem dX4_puts_59 : decode cX4_puts 59 = .ok (.getfield 66, 3) := by decide +kernel
theorem dX4_puts_62 : decode cX4_puts 62 = .ok (.iconst 0, 1) := by decide +kernel
theorem dX4_puts_63 : decode cX4_puts 63 = .ok (.dup2, 1) := by decide +kernel
theorem dX4_puts_64 : decode cX4_puts 64 = .ok (.iaload, 1) := by decide +kernel
theorem dX4_puts_65 : decode cX4_puts 65 = .ok (.iconst 1, 1) := by decide +kernel
theorem dX4_puts_66 : decode cX4_puts 66 = .ok (.iadd, 1) := by decide +kernel
theorem dX4_puts_67 : decode cX4_puts 67 = .ok (.iastore, 1) := by decide +kernel
theorem dX4_puts_68 : decode cX4_puts 68 = .ok (.iconst 0, 1) := by decide +kernel
theorem dX4_puts_69 : decode cX4_puts 69 = .ok (.ireturn, 1) := by decide +kernel
theorem dX4_isAnother_0 : decode cX4_isAnother 0 = .ok (.iload_n 1, 1) := by decide +kernel
theorem dX4_isAnother_1 : decode cX4_isAnother 1 = .ok (.istore_n 3, 1) := by decide +kernel
theorem dX4_isAnother_2 : decode cX4_isAnother 2 = .ok (.iload_n 3, 1) := by decide +kernel
theorem dX4_isAnother_3 : decode cX4_isAnother 3 = .ok (.ifCond .lt 30, 3) := by decide +kernel
theorem dX4_isAnother_6 : decode cX4_isAnother 6 = .ok (.iload_n 3, 1) := by decide +kernel
theorem dX4_isAnother_7 : decode cX4_isAnother 7 = .ok (.iload_n 2, 1) := by decide +kernel
theorem dX4_isAnother_8 : decode cX4_isAnother 8 = .ok (.if_icmp .eq 25, 3) := by decide +kernel
theorem dX4_isAnother_11 : decode cX4_isAnother 11 = .ok (.iload_n 3, 1) := by decide +kernel
theorem dX4_isAnother_12 : decode cX4_isAnother 12 = .ok (.aload_n 0, 1) := by decide +kernel
theorem dX4_isAnother_13 : decode cX4_isAnother 13 = .ok (.getfield 7, 3) := by decide +kernel
theorem dX4_isAnother_16 : decode cX4_isAnother 16 = .ok (.if_icmp .ge 12, 3) := by decide +kernel
theorem dX4_isAnother_19 : decode cX4_isAnother 19 = .ok (.aload_n 0, 1) := by decide +kernel
theorem dX4_isAnother_20 : decode cX4_isAnother 20 = .ok (.getfield 13, 3) := by decide +kernel
theorem dX4_isAnother_23 : decode cX4_isAnother 23 = .ok (.iload_n 3, 1) := by decide +kernel
theorem dX4_isAnother_24 : decode cX4_isAnother 24 = .ok (.iaload, 1) := by decide +kernel
theorem dX4_isAnother_25 : decode cX4_isAnother 25 = .ok (.goto 4, 3) := by decide +kernel
theorem dX4_isAnother_28 : decode cX4_isAnother 28 = .ok (.iconst (-1), 1) := by decide +kernel
theorem dX4_isAnother_29 : decode cX4_isAnother 29 = .ok (.istore_n 3, 1) := by decide +kernel
theorem dX4_isAnother_30 : decode cX4_isAnother 30 = .ok (.goto (-28), 3) := by decide +kernel
theorem dX4_isAnother_33 : decode cX4_isAnother 33 = .ok (.iload_n 3, 1) := by decide +kernel
theorem dX4_isAnother_34 : decode cX4_isAnother 34 = .ok (.iload_n 2, 1) := by decide +kernel
theorem dX4_isAnother_35 : decode cX4_isAnother 35 = .ok (.if_icmp .ne 7, 3) := by decide +kernel
theorem dX4_isAnother_38 : decode cX4_isAnother 38 = .ok (.iconst 1, 1) := by decide +kernel
theorem dX4_isAnother_39 : decode cX4_isAnother 39 = .ok (.goto 4, 3) := by decide +kernel
theorem dX4_isAnother_42 : decode cX4_isAnother 42 = .ok (.iconst 0, 1) := by decide +kernel
theorem dX4_isAnother_43 : decode cX4_isAnother 43 = .ok (.ireturn, 1) := by decide +kernel
theorem dX4_news_0 : decode cX4_news 0 = .ok (.aload_n 0, 1) := by decide +kernel
theorem dX4_news_1 : decode cX4_news 1 = .ok (.iload_n 3, 1) := by decide +kernel
theorem dX4_news_2 : decode cX4_news 2 = .ok (.iload_n 1, 1) := by decide +kernel
theorem dX4_news_3 : decode cX4_news 3 = .ok (.iconst 5, 1) := by decide +kernel
theorem dX4_news_4 : decode cX4_news 4 = .ok (.if_icmp .ne 7, 3) := by decide +kernel
theorem dX4_news_7 : decode cX4_news 7 = .ok (.iconst 1, 1) := by decide +kernel
theorem dX4_news_8 : decode cX4_news 8 = .ok (.goto 4, 3) := by decide +kernel
theorem dX4_news_11 : decode cX4_news 11 = .ok (.iconst 0, 1) := by decide +kernel
theorem dX4_news_12 : decode cX4_news 12 = .ok (.invokevirtual 136, 3) := by decide +kernel
theorem dX4_news_15 : decode cX4_news 15 = .ok (.istore 4, 2) := by decide +kernel
theorem dX4_news_17 : decode cX4_news 17 = .ok (.iload 4, 2) := by decide +kernel
theorem dX4_news_19 : decode cX4_news 19 = .ok (.ifCond .ge 5, 3) := by decide +kernel
theorem dX4_news_22 : decode cX4_news 22 = .ok (.iconst 3, 1) := by decide +kernel
theorem dX4_news_23 : decode cX4_news 23 = .ok (.ireturn, 1) := by decide +kernel
theorem dX4_news_24 : decode cX4_news 24 = .ok (.aload_n 0, 1) := by decide +kernel
theorem dX4_news_25 : decode cX4_news 25 = .ok (.iload_n 2, 1) := by decide +kernel
theorem dX4_news_26 : decode cX4_news 26 = .ok (.iconst 1, 1) := by decide +kernel
theorem dX4_news_27 : decode cX4_news 27 = .ok (.iload 4, 2) := by decide +kernel
theorem dX4_news_29 : decode cX4_news 29 = .ok (.invokevirtual 128, 3) := by decide +kernel
theorem dX4_news_32 : decode cX4_news 32 = .ok (.iconst 0, 1) := by decide +kernel
theorem dX4_news_33 : decode cX4_news 33 = .ok (.ireturn, 1) := by decide +kernel
theorem dX4_sums_0 : decode cX4_sums 0 = .ok (.aload_n 0, 1) := by decide +kernel
theorem dX4_sums_1 : decode cX4_sums 1 = .ok (.getfield 57, 3) := by decide +kernel
theorem dX4_sums_4 : decode cX4_sums 4 = .ok (.iload_n 1, 1) := by decide +kernel
theorem dX4_sums_5 : decode cX4_sums 5 = .ok (.iload 4, 2) := by decide +kernel
theorem dX4_sums_7 : decode cX4_sums 7 = .ok (.iadd, 1) := by decide +kernel
theorem dX4_sums_8 : decode cX4_sums 8 = .ok (.baload, 1) := by decide +kernel
theorem dX4_sums_9 : decode cX4_sums 9 = .ok (.ifCond .ne 15, 3) := by decide +kernel
theorem dX4_sums_12 : decode cX4_sums 12 = .ok (.aload_n 0, 1) := by decide +kernel
theorem dX4_sums_13 : decode cX4_sums 13 = .ok (.getfield 57, 3) := by decide +kernel
theorem dX4_sums_16 : decode cX4_sums 16 = .ok (.iload_n 1, 1) := by decide +kernel
theorem dX4_sums_17 : decode cX4_sums 17 = .ok (.iload 5, 2) := by decide +kernel
theorem dX4_sums_19 : decode cX4_sums 19 = .ok (.iadd, 1) := by decide +kernel
theorem dX4_sums_20 : decode cX4_sums 20 = .ok (.baload, 1) := by decide +kernel
theorem dX4_sums_21 : decode cX4_sums 21 = .ok (.ifCond .eq 5, 3) := by decide +kernel
theorem dX4_sums_24 : decode cX4_sums 24 = .ok (.iconst 1, 1) := by decide +kernel
theorem dX4_sums_25 : decode cX4_sums 25 = .ok (.ireturn, 1) := by decide +kernel
theorem dX4_sums_26 : decode cX4_sums 26 = .ok (.aload_n 0, 1) := by decide +kernel
theorem dX4_sums_27 : decode cX4_sums 27 = .ok (.getfield 60, 3) := by decide +kernel
theorem dX4_sums_30 : decode cX4_sums 30 = .ok (.iload_n 1, 1) := by decide +kernel
theorem dX4_sums_31 : decode cX4_sums 31 = .ok (.iload 4, 2) := by decide +kernel
theorem dX4_sums_33 : decode cX4_sums 33 = .ok (.iadd, 1) := by decide +kernel
theorem dX4_sums_34 : decode cX4_sums 34 = .ok (.iaload, 1) := by decide +kernel
theorem dX4_sums_35 : decode cX4_sums 35 = .ok (.istore 6, 2) := by decide +kernel
theorem dX4_sums_37 : decode cX4_sums 37 = .ok (.aload_n 0, 1) := by decide +kernel
theorem dX4_sums_38 : decode cX4_sums 38 = .ok (.getfield 60, 3) := by decide +kernel
theorem dX4_sums_41 : decode cX4_sums 41 = .ok (.iload_n 1, 1) := by decide +kernel
theorem dX4_sums_42 : decode cX4_sums 42 = .ok (.iload 5, 2) := by decide +kernel
theorem dX4_sums_44 : decode cX4_sums 44 = .ok (.iadd, 1) := by decide +kernel
theorem dX4_sums_45 : decode cX4_sums 45 = .ok (.iaload, 1) := by decide +kernel
theorem dX4_sums_46 : decode cX4_sums 46 = .ok (.istore 7, 2) := by decide +kernel
theorem dX4_sums_48 : decode cX4_sums 48 = .ok (.aload_n 0, 1) := by decide +kernel
theorem dX4_sums_49 : decode cX4_sums 49 = .ok (.iload_n 1, 1) := by decide +kernel
theorem dX4_sums_50 : decode cX4_sums 50 = .ok (.iload_n 3, 1) := by decide +kernel
theorem dX4_sums_51 : decode cX4_sums 51 = .ok (.iadd, 1) := by decide +kernel
theorem dX4_sums_52 : decode cX4_sums 52 = .ok (.iconst 0, 1) := by decide +kernel
theorem dX4_sums_53 : decode cX4_sums 53 = .ok (.iload_n 2, 1) := by decide +kernel
theorem dX4_sums_54 : decode cX4_sums 54 = .ok (.ifCond .eq 11, 3) := by decide +kernel
theorem dX4_sums_57 : decode cX4_sums 57 = .ok (.iload 6, 2) := by decide +kernel
theorem dX4_sums_59 : decode cX4_sums 59 = .ok (.iload 7, 2) := by decide +kernel
theorem dX4_sums_61 : decode cX4_sums 61 = .ok (.iadd, 1) := by decide +kernel
theorem dX4_sums_62 : decode cX4_sums 62 = .ok (.goto 15, 3) := by decide +kernel
theorem dX4_sums_65 : decode cX4_sums 65 = .ok (.iload 6, 2) := by decide +kernel
theorem dX4_sums_67 : decode cX4_sums 67 = .ok (.iload 7, 2) := by decide +kernel
theorem dX4_sums_69 : decode cX4_sums 69 = .ok (.if_icmp .ge 7, 3) := by decide +kernel
theorem dX4_sums_72 : decode cX4_sums 72 = .ok (.iconst 1, 1) := by decide +kernel
theorem dX4_sums_73 : decode cX4_sums 73 = .ok (.goto 4, 3) := by decide +kernel
theorem dX4_sums_76 : decode cX4_sums 76 = .ok (.iconst 0, 1) := by decide +kernel
theorem dX4_sums_77 : decode cX4_sums 77 = .ok (.invokevirtual 128, 3) := by decide +kernel
theorem dX4_sums_80 : decode cX4_sums 80 = .ok (.iconst 0, 1) := by decide +kernel
theorem dX4_sums_81 : decode cX4_sums 81 = .ok (.ireturn, 1) := by decide +kernel
theorem dX4_does_0 : decode cX4_does 0 = .ok (.aload_n 0, 1) := by decide +kernel
theorem dX4_does_1 : decode cX4_does 1 = .ok (.getfield 125, 3) := by decide +kernel
theorem dX4_does_4 : decode cX4_does 4 = .ok (.iconst 1, 1) := by decide +kernel
theorem dX4_does_5 : decode cX4_does 5 = .ok (.isub, 1) := by decide +kernel
theorem dX4_does_6 : decode cX4_does 6 = .ok (.istore_n 2, 1) := by decide +kernel
theorem dX4_does_7 : decode cX4_does 7 = .ok (.aload_n 0, 1) := by decide +kernel
theorem dX4_does_8 : decode cX4_does 8 = .ok (.getfield 48, 3) := by decide +kernel
theorem dX4_does_11 : decode cX4_does 11 = .ok (.iload_n 2, 1) := by decide +kernel
theorem dX4_does_12 : decode cX4_does 12 = .ok (.iaload, 1) := by decide +kernel
theorem dX4_does_13 : decode cX4_does 13 = .ok (.istore_n 3, 1) := by decide +kernel
theorem dX4_does_14 : decode cX4_does 14 = .ok (.aload_n 0, 1) := by decide +kernel
theorem dX4_does_15 : decode cX4_does 15 = .ok (.getfield 51, 3) := by decide +kernel
theorem dX4_does_18 : decode cX4_does 18 = .ok (.iload_n 2, 1) := by decide +kernel
theorem dX4_does_19 : decode cX4_does 19 = .ok (.iaload, 1) := by decide +kernel
theorem dX4_does_20 : decode cX4_does 20 = .ok (.istore 4, 2) := by decide +kernel
theorem dX4_does_22 : decode cX4_does 22 = .ok (.bipush 6, 2) := by decide +kernel
theorem dX4_does_24 : decode cX4_does 24 = .ok (.iload_n 2, 1) := by decide +kernel
theorem dX4_does_25 : decode cX4_does 25 = .ok (.imul, 1) := by decide +kernel
theorem dX4_does_26 : decode cX4_does 26 = .ok (.istore 5, 2) := by decide +kernel
theorem dX4_does_28 : decode cX4_does 28 = .ok (.aload_n 0, 1) := by decide +kernel
theorem dX4_does_29 : decode cX4_does 29 = .ok (.iload_n 3, 1) := by decide +kernel
theorem dX4_does_30 : decode cX4_does 30 = .ok (.iload 4, 2) := by decide +kernel
theorem dX4_does_32 : decode cX4_does 32 = .ok (.iconst 1, 1) := by decide +kernel
theorem dX4_does_33 : decode cX4_does 33 = .ok (.invokevirtual 99, 3) := by decide +kernel
theorem dX4_does_36 : decode cX4_does 36 = .ok (.istore 6, 2) := by decide +kernel
theorem dX4_does_38 : decode cX4_does 38 = .ok (.aload_n 0, 1) := by decide +kernel
theorem dX4_does_39 : decode cX4_does 39 = .ok (.iload_n 3, 1) := by decide +kernel
theorem dX4_does_40 : decode cX4_does 40 = .ok (.iload 4, 2) := by decide +kernel
theorem dX4_does_42 : decode cX4_does 42 = .ok (.iconst 2, 1) := by decide +kernel
theorem dX4_does_43 : decode cX4_does 43 = .ok (.invokevirtual 99, 3) := by decide +kernel
theorem dX4_does_46 : decode cX4_does 46 = .ok (.istore 7, 2) := by decide +kernel
theorem dX4_does_48 : decode cX4_does 48 = .ok (.aload_n 0, 1) := by decide +kernel
theorem dX4_does_49 : decode cX4_does 49 = .ok (.iload_n 3, 1) := by decide +kernel
theorem dX4_does_50 : decode cX4_does 50 = .ok (.iload 4, 2) := by decide +kernel
theorem dX4_does_52 : decode cX4_does 52 = .ok (.iconst 3, 1) := by decide +kernel
theorem dX4_does_53 : decode cX4_does 53 = .ok (.invokevirtual 99, 3) := by decide +kernel
theorem dX4_does_56 : decode cX4_does 56 = .ok (.istore 8, 2) := by decide +kernel
theorem dX4_does_58 : decode cX4_does 58 = .ok (.iload_n 1, 1) := by decide +kernel
theorem dX4_does_59 : decode cX4_does 59 = .ok (.ifCond .eq 13, 3) := by decide +kernel
theorem dX4_does_62 : decode cX4_does 62 = .ok (.aload_n 0, 1) := by decide +kernel
theorem dX4_does_63 : decode cX4_does 63 = .ok (.iload_n 3, 1) := by decide +kernel
theorem dX4_does_64 : decode cX4_does 64 = .ok (.iload 4, 2) := by decide +kernel
theorem dX4_does_66 : decode cX4_does 66 = .ok (.invokevirtual 116, 3) := by decide +kernel
theorem dX4_does_69 : decode cX4_does 69 = .ok (.goto 4, 3) := by decide +kernel
theorem dX4_does_72 : decode cX4_does 72 = .ok (.iconst 0, 1) := by decide +kernel
theorem dX4_does_73 : decode cX4_does 73 = .ok (.istore 9, 2) := by decide +kernel
theorem dX4_does_75 : decode cX4_does 75 = .ok (.aload_n 0, 1) := by decide +kernel
theorem dX4_does_76 : decode cX4_does 76 = .ok (.getfield 51, 3) := by decide +kernel
theorem dX4_does_79 : decode cX4_does 79 = .ok (.iload_n 2, 1) := by decide +kernel
theorem dX4_does_80 : decode cX4_does 80 = .ok (.dup2, 1) := by decide +kernel
theorem dX4_does_81 : decode cX4_does 81 = .ok (.iaload, 1) := by decide +kernel
theorem dX4_does_82 : decode cX4_does 82 = .ok (.iconst 1, 1) := by decide +kernel
theorem dX4_does_83 : decode cX4_does 83 = .ok (.iadd, 1) := by decide +kernel
theorem dX4_does_84 : decode cX4_does 84 = .ok (.iastore, 1) := by decide +kernel
theorem dX4_does_85 : decode cX4_does 85 = .ok (.aload_n 0, 1) := by decide +kernel
theorem dX4_does_86 : decode cX4_does 86 = .ok (.iload_n 3, 1) := by decide +kernel
theorem dX4_does_87 : decode cX4_does 87 = .ok (.iload 4, 2) := by decide +kernel
theorem dX4_does_89 : decode cX4_does 89 = .ok (.iconst 0, 1) := by decide +kernel
theorem dX4_does_90 : decode cX4_does 90 = .ok (.invokevirtual 99, 3) := by decide +kernel
theorem dX4_does_93 : decode cX4_does 93 = .ok (.tableswitch 400 0 10 #[59, 73, 104, 118, 132, 146, 212, 289, 304, 314, 353], 59) := by decide +kernel
theorem dX4_does_152 : decode cX4_does 152 = .ok (.aload_n 0, 1) := by decide +kernel
theorem dX4_does_153 : decode cX4_does 153 = .ok (.iload 5, 2) := by decide +kernel
theorem dX4_does_155 : decode cX4_does 155 = .ok (.iload 6, 2) := by decide +kernel
theorem dX4_does_157 : decode cX4_does 157 = .ok (.iadd, 1) := by decide +kernel
theorem dX4_does_158 : decode cX4_does 158 = .ok (.iconst 0, 1) := by decide +kernel
theorem dX4_does_159 : decode cX4_does 159 = .ok (.iload 7, 2) := by decide +kernel
theorem dX4_does_161 : decode cX4_does 161 = .ok (.invokevirtual 128, 3) := by decide +kernel
theorem dX4_does_164 : decode cX4_does 164 = .ok (.iconst 0, 1) := by decide +kernel
theorem dX4_does_165 : decode cX4_does 165 = .ok (.ireturn, 1) := by decide +kernel
theorem dX4_does_166 : decode cX4_does 166 = .ok (.aload_n 0, 1) := by decide +kernel
theorem dX4_does_167 : decode cX4_does 167 = .ok (.iload 5, 2) := by decide +kernel
theorem dX4_does_169 : decode cX4_does 169 = .ok (.iload 6, 2) := by decide +kernel
theorem dX4_does_171 : decode cX4_does 171 = .ok (.iadd, 1) := by decide +kernel
theorem dX4_does_172 : decode cX4_does 172 = .ok (.aload_n 0, 1) := by decide +kernel
theorem dX4_does_173 : decode cX4_does 173 = .ok (.getfield 57, 3) := by decide +kernel
theorem dX4_does_176 : decode cX4_does 176 = .ok (.iload 5, 2) := by decide +kernel
theorem dX4_does_178 : decode cX4_does 178 = .ok (.iload 7, 2) := by decide +kernel
theorem dX4_does_180 : decode cX4_does 180 = .ok (.iadd, 1) := by decide +kernel
theorem dX4_does_181 : decode cX4_does 181 = .ok (.baload, 1) := by decide +kernel
theorem dX4_does_182 : decode cX4_does 182 = .ok (.aload_n 0, 1) := by decide +kernel
theorem dX4_does_183 : decode cX4_does 183 = .ok (.getfield 60, 3) := by decide +kernel
theorem dX4_does_186 : decode cX4_does 186 = .ok (.iload 5, 2) := by decide +kernel
theorem dX4_does_188 : decode cX4_does 188 = .ok (.iload 7, 2) := by decide +kernel
theorem dX4_does_190 : decode cX4_does 190 = .ok (.iadd, 1) := by decide +kernel
theorem dX4_does_191 : decode cX4_does 191 = .ok (.iaload, 1) := by decide +kernel
theorem dX4_does_192 : decode cX4_does 192 = .ok (.invokevirtual 128, 3) := by decide +kernel
theorem dX4_does_195 : decode cX4_does 195 = .ok (.iconst 0, 1) := by decide +kernel
theorem dX4_does_196 : decode cX4_does 196 = .ok (.ireturn, 1) := by decide +kernel
theorem dX4_does_197 : decode cX4_does 197 = .ok (.aload_n 0, 1) := by decide +kernel
theorem dX4_does_198 : decode cX4_does 198 = .ok (.iload 5, 2) := by decide +kernel
theorem dX4_does_200 : decode cX4_does 200 = .ok (.iconst 1, 1) := by decide +kernel
theorem dX4_does_201 : decode cX4_does 201 = .ok (.iload 6, 2) := by decide +kernel
theorem dX4_does_203 : decode cX4_does 203 = .ok (.iload 7, 2) := by decide +kernel
theorem dX4_does_205 : decode cX4_does 205 = .ok (.iload 8, 2) := by decide +kernel
theorem dX4_does_207 : decode cX4_does 207 = .ok (.invokevirtual 140, 3) := by decide +kernel
theorem dX4_does_210 : decode cX4_does 210 = .ok (.ireturn, 1) := by decide +kernel
theorem dX4_does_211 : decode cX4_does 211 = .ok (.aload_n 0, 1) := by decide +kernel
theorem dX4_does_212 : decode cX4_does 212 = .ok (.iload 5, 2) := by decide +kernel
theorem dX4_does_214 : decode cX4_does 214 = .ok (.iconst 0, 1) := by decide +kernel
theorem dX4_does_215 : decode cX4_does 215 = .ok (.iload 6, 2) := by decide +kernel
theorem dX4_does_217 : decode cX4_does 217 = .ok (.iload 7, 2) := by decide +kernel
theorem dX4_does_219 : decode cX4_does 219 = .ok (.iload 8, 2) := by decide +kernel
theorem dX4_does_221 : decode cX4_does 221 = .ok (.invokevirtual 140, 3) := by decide +kernel
theorem dX4_does_224 : decode cX4_does 224 = .ok (.ireturn, 1) := by decide +kernel
theorem dX4_does_225 : decode cX4_does 225 = .ok (.aload_n 0, 1) := by decide +kernel
theorem dX4_does_226 : decode cX4_does 226 = .ok (.iload 9, 2) := by decide +kernel
theorem dX4_does_228 : decode cX4_does 228 = .ok (.iload 5, 2) := by decide +kernel
theorem dX4_does_230 : decode cX4_does 230 = .ok (.iload 6, 2) := by decide +kernel
theorem dX4_does_232 : decode cX4_does 232 = .ok (.iadd, 1) := by decide +kernel
theorem dX4_does_233 : decode cX4_does 233 = .ok (.iload 7, 2) := by decide +kernel
theorem dX4_does_235 : decode cX4_does 235 = .ok (.invokevirtual 144, 3) := by decide +kernel
theorem dX4_does_238 : decode cX4_does 238 = .ok (.ireturn, 1) := by decide +kernel
theorem dX4_does_239 : decode cX4_does 239 = .ok (.aload_n 0, 1) := by decide +kernel
theorem dX4_does_240 : decode cX4_does 240 = .ok (.getfield 57, 3) := by decide +kernel
theorem dX4_does_243 : decode cX4_does 243 = .ok (.iload 5, 2) := by decide +kernel
theorem dX4_does_245 : decode cX4_does 245 = .ok (.iload 7, 2) := by decide +kernel
theorem dX4_does_247 : decode cX4_does 247 = .ok (.iadd, 1) := by decide +kernel
theorem dX4_does_248 : decode cX4_does 248 = .ok (.baload, 1) := by decide +kernel
theorem dX4_does_249 : decode cX4_does 249 = .ok (.ifCond .ne 5, 3) := by decide +kernel
theorem dX4_does_252 : decode cX4_does 252 = .ok (.iconst 1, 1) := by decide +kernel
theorem dX4_does_253 : decode cX4_does 253 = .ok (.ireturn, 1) := by decide +kernel
theorem dX4_does_254 : decode cX4_does 254 = .ok (.aload_n 0, 1) := by decide +kernel
theorem dX4_does_255 : decode cX4_does 255 = .ok (.iload 5, 2) := by decide +kernel
theorem dX4_does_257 : decode cX4_does 257 = .ok (.iload 6, 2) := by decide +kernel
theorem dX4_does_259 : decode cX4_does 259 = .ok (.iadd, 1) := by decide +kernel
theorem dX4_does_260 : decode cX4_does 260 = .ok (.aload_n 0, 1) := by decide +kernel
theorem dX4_does_261 : decode cX4_does 261 = .ok (.getfield 42, 3) := by decide +kernel
theorem dX4_does_264 : decode cX4_does 264 = .ok (.iconst 3, 1) := by decide +kernel
theorem dX4_does_265 : decode cX4_does 265 = .ok (.aload_n 0, 1) := by decide +kernel
theorem dX4_does_266 : decode cX4_does 266 = .ok (.getfield 60, 3) := by decide +kernel
theorem dX4_does_269 : decode cX4_does 269 = .ok (.iload 5, 2) := by decide +kernel
theorem dX4_does_271 : decode cX4_does 271 = .ok (.iload 7, 2) := by decide +kernel
theorem dX4_does_273 : decode cX4_does 273 = .ok (.iadd, 1) := by decide +kernel
theorem dX4_does_274 : decode cX4_does 274 = .ok (.iaload, 1) := by decide +kernel
theorem dX4_does_275 : decode cX4_does 275 = .ok (.imul, 1) := by decide +kernel
theorem dX4_does_276 : decode cX4_does 276 = .ok (.iload 8, 2) := by decide +kernel
theorem dX4_does_278 : decode cX4_does 278 = .ok (.iadd, 1) := by decide +kernel
theorem dX4_does_279 : decode cX4_does 279 = .ok (.baload, 1) := by decide +kernel
theorem dX4_does_280 : decode cX4_does 280 = .ok (.aload_n 0, 1) := by decide +kernel
theorem dX4_does_281 : decode cX4_does 281 = .ok (.getfield 45, 3) := by decide +kernel
theorem dX4_does_284 : decode cX4_does 284 = .ok (.iconst 3, 1) := by decide +kernel
theorem dX4_does_285 : decode cX4_does 285 = .ok (.aload_n 0, 1) := by decide +kernel
theorem dX4_does_286 : decode cX4_does 286 = .ok (.getfield 60, 3) := by decide +kernel
theorem dX4_does_289 : decode cX4_does 289 = .ok (.iload 5, 2) := by decide +kernel
theorem dX4_does_291 : decode cX4_does 291 = .ok (.iload 7, 2) := by decide +kernel
theorem dX4_does_293 : decode cX4_does 293 = .ok (.iadd, 1) := by decide +kernel
theorem dX4_does_294 : decode cX4_does 294 = .ok (.iaload, 1) := by decide +kernel
theorem dX4_does_295 : decode cX4_does 295 = .ok (.imul, 1) := by decide +kernel
theorem dX4_does_296 : decode cX4_does 296 = .ok (.iload 8, 2) := by decide +kernel
theorem dX4_does_298 : decode cX4_does 298 = .ok (.iadd, 1) := by decide +kernel
theorem dX4_does_299 : decode cX4_does 299 = .ok (.iaload, 1) := by decide +kernel
theorem dX4_does_300 : decode cX4_does 300 = .ok (.invokevirtual 128, 3) := by decide +kernel
theorem dX4_does_303 : decode cX4_does 303 = .ok (.iconst 0, 1) := by decide +kernel
theorem dX4_does_304 : decode cX4_does 304 = .ok (.ireturn, 1) := by decide +kernel
theorem dX4_does_305 : decode cX4_does 305 = .ok (.aload_n 0, 1) := by decide +kernel
theorem dX4_does_306 : decode cX4_does 306 = .ok (.getfield 57, 3) := by decide +kernel
theorem dX4_does_309 : decode cX4_does 309 = .ok (.iload 5, 2) := by decide +kernel
theorem dX4_does_311 : decode cX4_does 311 = .ok (.iload 6, 2) := by decide +kernel
theorem dX4_does_313 : decode cX4_does 313 = .ok (.iadd, 1) := by decide +kernel
theorem dX4_does_314 : decode cX4_does 314 = .ok (.baload, 1) := by decide +kernel
theorem dX4_does_315 : decode cX4_does 315 = .ok (.ifCond .ne 5, 3) := by decide +kernel
theorem dX4_does_318 : decode cX4_does 318 = .ok (.iconst 1, 1) := by decide +kernel
theorem dX4_does_319 : decode cX4_does 319 = .ok (.ireturn, 1) := by decide +kernel
theorem dX4_does_320 : decode cX4_does 320 = .ok (.aload_n 0, 1) := by decide +kernel
theorem dX4_does_321 : decode cX4_does 321 = .ok (.getfield 42, 3) := by decide +kernel
theorem dX4_does_324 : decode cX4_does 324 = .ok (.iconst 3, 1) := by decide +kernel
theorem dX4_does_325 : decode cX4_does 325 = .ok (.aload_n 0, 1) := by decide +kernel
theorem dX4_does_326 : decode cX4_does 326 = .ok (.getfield 60, 3) := by decide +kernel
theorem dX4_does_329 : decode cX4_does 329 = .ok (.iload 5, 2) := by decide +kernel
theorem dX4_does_331 : decode cX4_does 331 = .ok (.iload 6, 2) := by decide +kernel
theorem dX4_does_333 : decode cX4_does 333 = .ok (.iadd, 1) := by decide +kernel
theorem dX4_does_334 : decode cX4_does 334 = .ok (.iaload, 1) := by decide +kernel
theorem dX4_does_335 : decode cX4_does 335 = .ok (.imul, 1) := by decide +kernel
theorem dX4_does_336 : decode cX4_does 336 = .ok (.iload 8, 2) := by decide +kernel
end
section
theorem dX4_does_338 : decode cX4_does 338 = .ok (.iadd, 1) := by decide +kernel
theorem dX4_does_339 : decode cX4_does 339 = .ok (.aload_n 0, 1) := by decide +kernel
theorem dX4_does_340 : decode cX4_does 340 = .ok (.getfield 57, 3) := by decide +kernel
theorem dX4_does_343 : decode cX4_does 343 = .ok (.iload 5, 2) := by decide +kernel
theorem dX4_does_345 : decode cX4_does 345 = .ok (.iload 7, 2) := by decide +kernel
theorem dX4_does_347 : decode cX4_does 347 = .ok (.iadd, 1) := by decide +kernel
theorem dX4_does_348 : decode cX4_does 348 = .ok (.baload, 1) := by decide +kernel
theorem dX4_does_349 : decode cX4_does 349 = .ok (.bastore, 1) := by decide +kernel
theorem dX4_does_350 : decode cX4_does 350 = .ok (.aload_n 0, 1) := by decide +kernel
theorem dX4_does_351 : decode cX4_does 351 = .ok (.getfield 45, 3) := by decide +kernel
theorem dX4_does_354 : decode cX4_does 354 = .ok (.iconst 3, 1) := by decide +kernel
theorem dX4_does_355 : decode cX4_does 355 = .ok (.aload_n 0, 1) := by decide +kernel
theorem dX4_does_356 : decode cX4_does 356 = .ok (.getfield 60, 3) := by decide +kernel
theorem dX4_does_359 : decode cX4_does 359 = .ok (.iload 5, 2) := by decide +kernel
theorem dX4_does_361 : decode cX4_does 361 = .ok (.iload 6, 2) := by decide +kernel
theorem dX4_does_363 : decode cX4_does 363 = .ok (.iadd, 1) := by decide +kernel
theorem dX4_does_364 : decode cX4_does 364 = .ok (.iaload, 1) := by decide +kernel
theorem dX4_does_365 : decode cX4_does 365 = .ok (.imul, 1) := by decide +kernel
theorem dX4_does_366 : decode cX4_does 366 = .ok (.iload 8, 2) := by decide +kernel
theorem dX4_does_368 : decode cX4_does 368 = .ok (.iadd, 1) := by decide +kernel
theorem dX4_does_369 : decode cX4_does 369 = .ok (.aload_n 0, 1) := by decide +kernel
theorem dX4_does_370 : decode cX4_does 370 = .ok (.getfield 60, 3) := by decide +kernel
theorem dX4_does_373 : decode cX4_does 373 = .ok (.iload 5, 2) := by decide +kernel
theorem dX4_does_375 : decode cX4_does 375 = .ok (.iload 7, 2) := by decide +kernel
theorem dX4_does_377 : decode cX4_does 377 = .ok (.iadd, 1) := by decide +kernel
theorem dX4_does_378 : decode cX4_does 378 = .ok (.iaload, 1) := by decide +kernel
theorem dX4_does_379 : decode cX4_does 379 = .ok (.iastore, 1) := by decide +kernel
theorem dX4_does_380 : decode cX4_does 380 = .ok (.iconst 0, 1) := by decide +kernel
theorem dX4_does_381 : decode cX4_does 381 = .ok (.ireturn, 1) := by decide +kernel
theorem dX4_does_382 : decode cX4_does 382 = .ok (.aload_n 0, 1) := by decide +kernel
theorem dX4_does_383 : decode cX4_does 383 = .ok (.iload 9, 2) := by decide +kernel
theorem dX4_does_385 : decode cX4_does 385 = .ok (.iload 5, 2) := by decide +kernel
theorem dX4_does_387 : decode cX4_does 387 = .ok (.iload 6, 2) := by decide +kernel
theorem dX4_does_389 : decode cX4_does 389 = .ok (.iload 7, 2) := by decide +kernel
theorem dX4_does_391 : decode cX4_does 391 = .ok (.iload 8, 2) := by decide +kernel
theorem dX4_does_393 : decode cX4_does 393 = .ok (.invokevirtual 147, 3) := by decide +kernel
theorem dX4_does_396 : decode cX4_does 396 = .ok (.ireturn, 1) := by decide +kernel
theorem dX4_does_397 : decode cX4_does 397 = .ok (.aload_n 0, 1) := by decide +kernel
theorem dX4_does_398 : decode cX4_does 398 = .ok (.iload 5, 2) := by decide +kernel
theorem dX4_does_400 : decode cX4_does 400 = .ok (.iload 6, 2) := by decide +kernel
theorem dX4_does_402 : decode cX4_does 402 = .ok (.iadd, 1) := by decide +kernel
theorem dX4_does_403 : decode cX4_does 403 = .ok (.invokevirtual 151, 3) := by decide +kernel
theorem dX4_does_406 : decode cX4_does 406 = .ok (.ireturn, 1) := by decide +kernel
theorem dX4_does_407 : decode cX4_does 407 = .ok (.aload_n 0, 1) := by decide +kernel
theorem dX4_does_408 : decode cX4_does 408 = .ok (.getfield 57, 3) := by decide +kernel
theorem dX4_does_411 : decode cX4_does 411 = .ok (.iload 5, 2) := by decide +kernel
theorem dX4_does_413 : decode cX4_does 413 = .ok (.iload 6, 2) := by decide +kernel
theorem dX4_does_415 : decode cX4_does 415 = .ok (.iadd, 1) := by decide +kernel
theorem dX4_does_416 : decode cX4_does 416 = .ok (.baload, 1) := by decide +kernel
theorem dX4_does_417 : decode cX4_does 417 = .ok (.ifCond .ne 27, 3) := by decide +kernel
theorem dX4_does_420 : decode cX4_does 420 = .ok (.aload_n 0, 1) := by decide +kernel
theorem dX4_does_421 : decode cX4_does 421 = .ok (.getfield 60, 3) := by decide +kernel
theorem dX4_does_424 : decode cX4_does 424 = .ok (.iload 5, 2) := by decide +kernel
theorem dX4_does_426 : decode cX4_does 426 = .ok (.iload 6, 2) := by decide +kernel
theorem dX4_does_428 : decode cX4_does 428 = .ok (.iadd, 1) := by decide +kernel
theorem dX4_does_429 : decode cX4_does 429 = .ok (.iaload, 1) := by decide +kernel
theorem dX4_does_430 : decode cX4_does 430 = .ok (.ifCond .ne 14, 3) := by decide +kernel
theorem dX4_does_433 : decode cX4_does 433 = .ok (.aload_n 0, 1) := by decide +kernel
theorem dX4_does_434 : decode cX4_does 434 = .ok (.getfield 51, 3) := by decide +kernel
theorem dX4_does_437 : decode cX4_does 437 = .ok (.iload_n 2, 1) := by decide +kernel
theorem dX4_does_438 : decode cX4_does 438 = .ok (.dup2, 1) := by decide +kernel
theorem dX4_does_439 : decode cX4_does 439 = .ok (.iaload, 1) := by decide +kernel
theorem dX4_does_440 : decode cX4_does 440 = .ok (.iload 7, 2) := by decide +kernel
theorem dX4_does_442 : decode cX4_does 442 = .ok (.iadd, 1) := by decide +kernel
theorem dX4_does_443 : decode cX4_does 443 = .ok (.iastore, 1) := by decide +kernel
theorem dX4_does_444 : decode cX4_does 444 = .ok (.iconst 0, 1) := by decide +kernel
theorem dX4_does_445 : decode cX4_does 445 = .ok (.ireturn, 1) := by decide +kernel
theorem dX4_does_446 : decode cX4_does 446 = .ok (.aload_n 0, 1) := by decide +kernel
theorem dX4_does_447 : decode cX4_does 447 = .ok (.getfield 57, 3) := by decide +kernel
theorem dX4_does_450 : decode cX4_does 450 = .ok (.iload 5, 2) := by decide +kernel
theorem dX4_does_452 : decode cX4_does 452 = .ok (.iload 6, 2) := by decide +kernel
theorem dX4_does_454 : decode cX4_does 454 = .ok (.iadd, 1) := by decide +kernel
theorem dX4_does_455 : decode cX4_does 455 = .ok (.baload, 1) := by decide +kernel
theorem dX4_does_456 : decode cX4_does 456 = .ok (.ifCond .ne 7, 3) := by decide +kernel
theorem dX4_does_459 : decode cX4_does 459 = .ok (.iconst 1, 1) := by decide +kernel
theorem dX4_does_460 : decode cX4_does 460 = .ok (.goto 32, 3) := by decide +kernel
theorem dX4_does_463 : decode cX4_does 463 = .ok (.aload_n 0, 1) := by decide +kernel
theorem dX4_does_464 : decode cX4_does 464 = .ok (.aload_n 0, 1) := by decide +kernel
theorem dX4_does_465 : decode cX4_does 465 = .ok (.getfield 39, 3) := by decide +kernel
theorem dX4_does_468 : decode cX4_does 468 = .ok (.aload_n 0, 1) := by decide +kernel
theorem dX4_does_469 : decode cX4_does 469 = .ok (.getfield 60, 3) := by decide +kernel
theorem dX4_does_472 : decode cX4_does 472 = .ok (.iload 5, 2) := by decide +kernel
theorem dX4_does_474 : decode cX4_does 474 = .ok (.iload 6, 2) := by decide +kernel
theorem dX4_does_476 : decode cX4_does 476 = .ok (.iadd, 1) := by decide +kernel
theorem dX4_does_477 : decode cX4_does 477 = .ok (.iaload, 1) := by decide +kernel
theorem dX4_does_478 : decode cX4_does 478 = .ok (.iaload, 1) := by decide +kernel
theorem dX4_does_479 : decode cX4_does 479 = .ok (.iload 7, 2) := by decide +kernel
theorem dX4_does_481 : decode cX4_does 481 = .ok (.invokevirtual 154, 3) := by decide +kernel
theorem dX4_does_484 : decode cX4_does 484 = .ok (.ifCond .eq 7, 3) := by decide +kernel
theorem dX4_does_487 : decode cX4_does 487 = .ok (.iconst 0, 1) := by decide +kernel
theorem dX4_does_488 : decode cX4_does 488 = .ok (.goto 4, 3) := by decide +kernel
theorem dX4_does_491 : decode cX4_does 491 = .ok (.iconst 2, 1) := by decide +kernel
theorem dX4_does_492 : decode cX4_does 492 = .ok (.ireturn, 1) := by decide +kernel
theorem dX4_does_493 : decode cX4_does 493 = .ok (.aload_n 0, 1) := by decide +kernel
theorem dX4_does_494 : decode cX4_does 494 = .ok (.aload_n 0, 1) := by decide +kernel
theorem dX4_does_495 : decode cX4_does 495 = .ok (.getfield 57, 3) := by decide +kernel
theorem dX4_does_498 : decode cX4_does 498 = .ok (.iload 5, 2) := by decide +kernel
theorem dX4_does_500 : decode cX4_does 500 = .ok (.iload 6, 2) := by decide +kernel
theorem dX4_does_502 : decode cX4_does 502 = .ok (.iadd, 1) := by decide +kernel
theorem dX4_does_503 : decode cX4_does 503 = .ok (.baload, 1) := by decide +kernel
theorem dX4_does_504 : decode cX4_does 504 = .ok (.aload_n 0, 1) := by decide +kernel
theorem dX4_does_505 : decode cX4_does 505 = .ok (.getfield 60, 3) := by decide +kernel
theorem dX4_does_508 : decode cX4_does 508 = .ok (.iload 5, 2) := by decide +kernel
theorem dX4_does_510 : decode cX4_does 510 = .ok (.iload 6, 2) := by decide +kernel
theorem dX4_does_512 : decode cX4_does 512 = .ok (.iadd, 1) := by decide +kernel
theorem dX4_does_513 : decode cX4_does 513 = .ok (.iaload, 1) := by decide +kernel
theorem dX4_does_514 : decode cX4_does 514 = .ok (.invokevirtual 157, 3) := by decide +kernel
theorem dX4_does_517 : decode cX4_does 517 = .ok (.iconst 0, 1) := by decide +kernel
theorem dX4_does_518 : decode cX4_does 518 = .ok (.ireturn, 1) := by decide +kernel
theorem dX4_run_0 : decode cX4_run 0 = .ok (.aload_n 0, 1) := by decide +kernel
theorem dX4_run_1 : decode cX4_run 1 = .ok (.iload_n 2, 1) := by decide +kernel
theorem dX4_run_2 : decode cX4_run 2 = .ok (.iconst 0, 1) := by decide +kernel
theorem dX4_run_3 : decode cX4_run 3 = .ok (.bipush 60, 2) := by decide +kernel
theorem dX4_run_5 : decode cX4_run 5 = .ok (.invokestatic 72, 3) := by decide +kernel
theorem dX4_run_8 : decode cX4_run 8 = .ok (.iconst 0, 1) := by decide +kernel
theorem dX4_run_9 : decode cX4_run 9 = .ok (.invokevirtual 76, 3) := by decide +kernel
theorem dX4_run_12 : decode cX4_run 12 = .ok (.ifCond .eq 5, 3) := by decide +kernel
theorem dX4_run_15 : decode cX4_run 15 = .ok (.iconst 0, 1) := by decide +kernel
theorem dX4_run_16 : decode cX4_run 16 = .ok (.ireturn, 1) := by decide +kernel
theorem dX4_run_17 : decode cX4_run 17 = .ok (.iconst 0, 1) := by decide +kernel
theorem dX4_run_18 : decode cX4_run 18 = .ok (.istore_n 3, 1) := by decide +kernel
theorem dX4_run_19 : decode cX4_run 19 = .ok (.iload_n 3, 1) := by decide +kernel
theorem dX4_run_20 : decode cX4_run 20 = .ok (.bipush 6, 2) := by decide +kernel
theorem dX4_run_22 : decode cX4_run 22 = .ok (.if_icmp .ge 16, 3) := by decide +kernel
theorem dX4_run_25 : decode cX4_run 25 = .ok (.aload_n 0, 1) := by decide +kernel
theorem dX4_run_26 : decode cX4_run 26 = .ok (.getfield 66, 3) := by decide +kernel
theorem dX4_run_29 : decode cX4_run 29 = .ok (.iload_n 3, 1) := by decide +kernel
theorem dX4_run_30 : decode cX4_run 30 = .ok (.iconst 0, 1) := by decide +kernel
theorem dX4_run_31 : decode cX4_run 31 = .ok (.iastore, 1) := by decide +kernel
theorem dX4_run_32 : decode cX4_run 32 = .ok (.iinc 3 1, 3) := by decide +kernel
theorem dX4_run_35 : decode cX4_run 35 = .ok (.goto (-16), 3) := by decide +kernel
theorem dX4_run_38 : decode cX4_run 38 = .ok (.aload_n 0, 1) := by decide +kernel
theorem dX4_run_39 : decode cX4_run 39 = .ok (.iconst 0, 1) := by decide +kernel
theorem dX4_run_40 : decode cX4_run 40 = .ok (.putfield 122, 3) := by decide +kernel
theorem dX4_run_43 : decode cX4_run 43 = .ok (.aload_n 0, 1) := by decide +kernel
theorem dX4_run_44 : decode cX4_run 44 = .ok (.iconst 0, 1) := by decide +kernel
theorem dX4_run_45 : decode cX4_run 45 = .ok (.putfield 125, 3) := by decide +kernel
theorem dX4_run_48 : decode cX4_run 48 = .ok (.aload_n 0, 1) := by decide +kernel
theorem dX4_run_49 : decode cX4_run 49 = .ok (.iload_n 2, 1) := by decide +kernel
theorem dX4_run_50 : decode cX4_run 50 = .ok (.putfield 119, 3) := by decide +kernel
theorem dX4_run_53 : decode cX4_run 53 = .ok (.aload_n 0, 1) := by decide +kernel
theorem dX4_run_54 : decode cX4_run 54 = .ok (.iconst 0, 1) := by decide +kernel
theorem dX4_run_55 : decode cX4_run 55 = .ok (.iconst 0, 1) := by decide +kernel
theorem dX4_run_56 : decode cX4_run 56 = .ok (.invokevirtual 136, 3) := by decide +kernel
theorem dX4_run_59 : decode cX4_run 59 = .ok (.ifCond .ge 5, 3) := by decide +kernel
theorem dX4_run_62 : decode cX4_run 62 = .ok (.iconst 3, 1) := by decide +kernel
theorem dX4_run_63 : decode cX4_run 63 = .ok (.ireturn, 1) := by decide +kernel
theorem dX4_run_64 : decode cX4_run 64 = .ok (.aload_n 0, 1) := by decide +kernel
theorem dX4_run_65 : decode cX4_run 65 = .ok (.iconst 0, 1) := by decide +kernel
theorem dX4_run_66 : decode cX4_run 66 = .ok (.iconst 0, 1) := by decide +kernel
theorem dX4_run_67 : decode cX4_run 67 = .ok (.invokevirtual 95, 3) := by decide +kernel
theorem dX4_run_70 : decode cX4_run 70 = .ok (.istore_n 3, 1) := by decide +kernel
theorem dX4_run_71 : decode cX4_run 71 = .ok (.iload_n 3, 1) := by decide +kernel
theorem dX4_run_72 : decode cX4_run 72 = .ok (.ifCond .ge 6, 3) := by decide +kernel
theorem dX4_run_75 : decode cX4_run 75 = .ok (.bipush 6, 2) := by decide +kernel
theorem dX4_run_77 : decode cX4_run 77 = .ok (.ireturn, 1) := by decide +kernel
theorem dX4_run_78 : decode cX4_run 78 = .ok (.aload_n 0, 1) := by decide +kernel
theorem dX4_run_79 : decode cX4_run 79 = .ok (.getfield 66, 3) := by decide +kernel
theorem dX4_run_82 : decode cX4_run 82 = .ok (.iconst 3, 1) := by decide +kernel
theorem dX4_run_83 : decode cX4_run 83 = .ok (.dup2, 1) := by decide +kernel
theorem dX4_run_84 : decode cX4_run 84 = .ok (.iaload, 1) := by decide +kernel
theorem dX4_run_85 : decode cX4_run 85 = .ok (.iconst 1, 1) := by decide +kernel
theorem dX4_run_86 : decode cX4_run 86 = .ok (.iadd, 1) := by decide +kernel
theorem dX4_run_87 : decode cX4_run 87 = .ok (.iastore, 1) := by decide +kernel
theorem dX4_run_88 : decode cX4_run 88 = .ok (.aload_n 0, 1) := by decide +kernel
theorem dX4_run_89 : decode cX4_run 89 = .ok (.iload_n 3, 1) := by decide +kernel
theorem dX4_run_90 : decode cX4_run 90 = .ok (.iconst 0, 1) := by decide +kernel
theorem dX4_run_91 : decode cX4_run 91 = .ok (.iconst 0, 1) := by decide +kernel
theorem dX4_run_92 : decode cX4_run 92 = .ok (.iconst 0, 1) := by decide +kernel
theorem dX4_run_93 : decode cX4_run 93 = .ok (.iconst 0, 1) := by decide +kernel
theorem dX4_run_94 : decode cX4_run 94 = .ok (.invokevirtual 132, 3) := by decide +kernel
theorem dX4_run_97 : decode cX4_run 97 = .ok (.aload_n 0, 1) := by decide +kernel
theorem dX4_run_98 : decode cX4_run 98 = .ok (.getfield 125, 3) := by decide +kernel
theorem dX4_run_101 : decode cX4_run 101 = .ok (.ifCond .le 84, 3) := by decide +kernel
theorem dX4_run_104 : decode cX4_run 104 = .ok (.aload_n 0, 1) := by decide +kernel
theorem dX4_run_105 : decode cX4_run 105 = .ok (.getfield 51, 3) := by decide +kernel
theorem dX4_run_108 : decode cX4_run 108 = .ok (.aload_n 0, 1) := by decide +kernel
theorem dX4_run_109 : decode cX4_run 109 = .ok (.getfield 125, 3) := by decide +kernel
theorem dX4_run_112 : decode cX4_run 112 = .ok (.iconst 1, 1) := by decide +kernel
theorem dX4_run_113 : decode cX4_run 113 = .ok (.isub, 1) := by decide +kernel
theorem dX4_run_114 : decode cX4_run 114 = .ok (.iaload, 1) := by decide +kernel
theorem dX4_run_115 : decode cX4_run 115 = .ok (.aload_n 0, 1) := by decide +kernel
theorem dX4_run_116 : decode cX4_run 116 = .ok (.getfield 17, 3) := by decide +kernel
theorem dX4_run_119 : decode cX4_run 119 = .ok (.aload_n 0, 1) := by decide +kernel
theorem dX4_run_120 : decode cX4_run 120 = .ok (.getfield 48, 3) := by decide +kernel
theorem dX4_run_123 : decode cX4_run 123 = .ok (.aload_n 0, 1) := by decide +kernel
theorem dX4_run_124 : decode cX4_run 124 = .ok (.getfield 125, 3) := by decide +kernel
theorem dX4_run_127 : decode cX4_run 127 = .ok (.iconst 1, 1) := by decide +kernel
theorem dX4_run_128 : decode cX4_run 128 = .ok (.isub, 1) := by decide +kernel
theorem dX4_run_129 : decode cX4_run 129 = .ok (.iaload, 1) := by decide +kernel
theorem dX4_run_130 : decode cX4_run 130 = .ok (.iaload, 1) := by decide +kernel
theorem dX4_run_131 : decode cX4_run 131 = .ok (.if_icmp .lt 12, 3) := by decide +kernel
theorem dX4_run_134 : decode cX4_run 134 = .ok (.aload_n 0, 1) := by decide +kernel
theorem dX4_run_135 : decode cX4_run 135 = .ok (.iconst 0, 1) := by decide +kernel
theorem dX4_run_136 : decode cX4_run 136 = .ok (.iconst 0, 1) := by decide +kernel
theorem dX4_run_137 : decode cX4_run 137 = .ok (.invokevirtual 157, 3) := by decide +kernel
theorem dX4_run_140 : decode cX4_run 140 = .ok (.goto (-43), 3) := by decide +kernel
theorem dX4_run_143 : decode cX4_run 143 = .ok (.aload_n 0, 1) := by decide +kernel
theorem dX4_run_144 : decode cX4_run 144 = .ok (.getfield 66, 3) := by decide +kernel
theorem dX4_run_147 : decode cX4_run 147 = .ok (.iconst 4, 1) := by decide +kernel
theorem dX4_run_148 : decode cX4_run 148 = .ok (.iaload, 1) := by decide +kernel
theorem dX4_run_149 : decode cX4_run 149 = .ok (.sipush 400, 3) := by decide +kernel
theorem dX4_run_152 : decode cX4_run 152 = .ok (.if_icmp .ne 5, 3) := by decide +kernel
theorem dX4_run_155 : decode cX4_run 155 = .ok (.iconst 5, 1) := by decide +kernel
theorem dX4_run_156 : decode cX4_run 156 = .ok (.ireturn, 1) := by decide +kernel
theorem dX4_run_157 : decode cX4_run 157 = .ok (.aload_n 0, 1) := by decide +kernel
theorem dX4_run_158 : decode cX4_run 158 = .ok (.getfield 66, 3) := by decide +kernel
theorem dX4_run_161 : decode cX4_run 161 = .ok (.iconst 4, 1) := by decide +kernel
theorem dX4_run_162 : decode cX4_run 162 = .ok (.dup2, 1) := by decide +kernel
theorem dX4_run_163 : decode cX4_run 163 = .ok (.iaload, 1) := by decide +kernel
theorem dX4_run_164 : decode cX4_run 164 = .ok (.iconst 1, 1) := by decide +kernel
theorem dX4_run_165 : decode cX4_run 165 = .ok (.iadd, 1) := by decide +kernel
theorem dX4_run_166 : decode cX4_run 166 = .ok (.iastore, 1) := by decide +kernel
theorem dX4_run_167 : decode cX4_run 167 = .ok (.aload_n 0, 1) := by decide +kernel
theorem dX4_run_168 : decode cX4_run 168 = .ok (.iload_n 1, 1) := by decide +kernel
theorem dX4_run_169 : decode cX4_run 169 = .ok (.invokevirtual 161, 3) := by decide +kernel
theorem dX4_run_172 : decode cX4_run 172 = .ok (.istore 4, 2) := by decide +kernel
theorem dX4_run_174 : decode cX4_run 174 = .ok (.iload 4, 2) := by decide +kernel
theorem dX4_run_176 : decode cX4_run 176 = .ok (.ifCond .le 6, 3) := by decide +kernel
theorem dX4_run_179 : decode cX4_run 179 = .ok (.iload 4, 2) := by decide +kernel
theorem dX4_run_181 : decode cX4_run 181 = .ok (.ireturn, 1) := by decide +kernel
theorem dX4_run_182 : decode cX4_run 182 = .ok (.goto (-85), 3) := by decide +kernel
theorem dX4_run_185 : decode cX4_run 185 = .ok (.iconst 0, 1) := by decide +kernel
theorem dX4_run_186 : decode cX4_run 186 = .ok (.ireturn, 1) := by decide +kernel
theorem dX4_count_0 : decode cX4_count 0 = .ok (.aload_n 0, 1) := by decide +kernel
theorem dX4_count_1 : decode cX4_count 1 = .ok (.iload_n 1, 1) := by decide +kernel
theorem dX4_count_2 : decode cX4_count 2 = .ok (.iconst 0, 1) := by decide +kernel
theorem dX4_count_3 : decode cX4_count 3 = .ok (.iconst 5, 1) := by decide +kernel
theorem dX4_count_4 : decode cX4_count 4 = .ok (.invokestatic 72, 3) := by decide +kernel
theorem dX4_count_7 : decode cX4_count 7 = .ok (.iconst 0, 1) := by decide +kernel
theorem dX4_count_8 : decode cX4_count 8 = .ok (.invokevirtual 76, 3) := by decide +kernel
theorem dX4_count_11 : decode cX4_count 11 = .ok (.ifCond .eq 7, 3) := by decide +kernel
theorem dX4_count_14 : decode cX4_count 14 = .ok (.iconst 0, 1) := by decide +kernel
theorem dX4_count_15 : decode cX4_count 15 = .ok (.goto 9, 3) := by decide +kernel
theorem dX4_count_18 : decode cX4_count 18 = .ok (.aload_n 0, 1) := by decide +kernel
theorem dX4_count_19 : decode cX4_count 19 = .ok (.getfield 66, 3) := by decide +kernel
theorem dX4_count_22 : decode cX4_count 22 = .ok (.iload_n 1, 1) := by decide +kernel
theorem dX4_count_23 : decode cX4_count 23 = .ok (.iaload, 1) := by decide +kernel
theorem dX4_count_24 : decode cX4_count 24 = .ok (.ireturn, 1) := by decide +kernel
theorem dX4_out_0 : decode cX4_out 0 = .ok (.aload_n 0, 1) := by decide +kernel
theorem dX4_out_1 : decode cX4_out 1 = .ok (.iload_n 1, 1) := by decide +kernel
theorem dX4_out_2 : decode cX4_out 2 = .ok (.iconst 0, 1) := by decide +kernel
theorem dX4_out_3 : decode cX4_out 3 = .ok (.aload_n 0, 1) := by decide +kernel
theorem dX4_out_4 : decode cX4_out 4 = .ok (.getfield 66, 3) := by decide +kernel
theorem dX4_out_7 : decode cX4_out 7 = .ok (.iconst 0, 1) := by decide +kernel
theorem dX4_out_8 : decode cX4_out 8 = .ok (.iaload, 1) := by decide +kernel
theorem dX4_out_9 : decode cX4_out 9 = .ok (.iconst 1, 1) := by decide +kernel
theorem dX4_out_10 : decode cX4_out 10 = .ok (.isub, 1) := by decide +kernel
theorem dX4_out_11 : decode cX4_out 11 = .ok (.invokestatic 72, 3) := by decide +kernel
theorem dX4_out_14 : decode cX4_out 14 = .ok (.iconst 0, 1) := by decide +kernel
theorem dX4_out_15 : decode cX4_out 15 = .ok (.invokevirtual 76, 3) := by decide +kernel
theorem dX4_out_18 : decode cX4_out 18 = .ok (.ifCond .eq 7, 3) := by decide +kernel
theorem dX4_out_21 : decode cX4_out 21 = .ok (.iconst 0, 1) := by decide +kernel
theorem dX4_out_22 : decode cX4_out 22 = .ok (.goto 9, 3) := by decide +kernel
theorem dX4_out_25 : decode cX4_out 25 = .ok (.aload_n 0, 1) := by decide +kernel
theorem dX4_out_26 : decode cX4_out 26 = .ok (.getfield 63, 3) := by decide +kernel
theorem dX4_out_29 : decode cX4_out 29 = .ok (.iload_n 1, 1) := by decide +kernel
theorem dX4_out_30 : decode cX4_out 30 = .ok (.iaload, 1) := by decide +kernel
theorem dX4_out_31 : decode cX4_out 31 = .ok (.ireturn, 1) := by decide +kernel
theorem dL_type_0 : decode cL_type 0 = .ok (.aload_n 2, 1) := by decide +kernel
theorem dL_type_1 : decode cL_type 1 = .ok (.iconst 0, 1) := by decide +kernel
theorem dL_type_2 : decode cL_type 2 = .ok (.aload_n 0, 1) := by decide +kernel
theorem dL_type_3 : decode cL_type 3 = .ok (.iload_n 1, 1) := by decide +kernel
theorem dL_type_4 : decode cL_type 4 = .ok (.invokevirtual 7, 3) := by decide +kernel
theorem dL_type_7 : decode cL_type 7 = .ok (.i2l, 1) := by decide +kernel
theorem dL_type_8 : decode cL_type 8 = .ok (.lastore, 1) := by decide +kernel
theorem dL_type_9 : decode cL_type 9 = .ok (.goto 9, 3) := by decide +kernel
theorem dL_type_12 : decode cL_type 12 = .ok (.astore_n 3, 1) := by decide +kernel
theorem dL_type_13 : decode cL_type 13 = .ok (.iconst 1, 1) := by decide +kernel
theorem dL_type_14 : decode cL_type 14 = .ok (.ireturn, 1) := by decide +kernel
theorem dL_type_15 : decode cL_type 15 = .ok (.astore_n 3, 1) := by decide +kernel
theorem dL_type_16 : decode cL_type 16 = .ok (.iconst 2, 1) := by decide +kernel
theorem dL_type_17 : decode cL_type 17 = .ok (.ireturn, 1) := by decide +kernel
theorem dL_type_18 : decode cL_type 18 = .ok (.iconst 0, 1) := by decide +kernel
theorem dL_type_19 : decode cL_type 19 = .ok (.ireturn, 1) := by decide +kernel
theorem dL_operation_0 : decode cL_operation 0 = .ok (.aload 7, 2) := by decide +kernel
theorem dL_operation_2 : decode cL_operation 2 = .ok (.iconst 0, 1) := by decide +kernel
theorem dL_operation_3 : decode cL_operation 3 = .ok (.aload_n 0, 1) := by decide +kernel
theorem dL_operation_4 : decode cL_operation 4 = .ok (.iload_n 1, 1) := by decide +kernel
theorem dL_operation_5 : decode cL_operation 5 = .ok (.iload_n 2, 1) := by decide +kernel
theorem dL_operation_6 : decode cL_operation 6 = .ok (.iload_n 3, 1) := by decide +kernel
theorem dL_operation_7 : decode cL_operation 7 = .ok (.iload 4, 2) := by decide +kernel
theorem dL_operation_9 : decode cL_operation 9 = .ok (.iload 5, 2) := by decide +kernel
theorem dL_operation_11 : decode cL_operation 11 = .ok (.iload 6, 2) := by decide +kernel
theorem dL_operation_13 : decode cL_operation 13 = .ok (.invokevirtual 17, 3) := by decide +kernel
theorem dL_operation_16 : decode cL_operation 16 = .ok (.i2l, 1) := by decide +kernel
theorem dL_operation_17 : decode cL_operation 17 = .ok (.lastore, 1) := by decide +kernel
theorem dL_operation_18 : decode cL_operation 18 = .ok (.goto 11, 3) := by decide +kernel
theorem dL_operation_21 : decode cL_operation 21 = .ok (.astore 8, 2) := by decide +kernel
theorem dL_operation_23 : decode cL_operation 23 = .ok (.iconst 1, 1) := by decide +kernel
theorem dL_operation_24 : decode cL_operation 24 = .ok (.ireturn, 1) := by decide +kernel
theorem dL_operation_25 : decode cL_operation 25 = .ok (.astore 8, 2) := by decide +kernel
theorem dL_operation_27 : decode cL_operation 27 = .ok (.iconst 2, 1) := by decide +kernel
theorem dL_operation_28 : decode cL_operation 28 = .ok (.ireturn, 1) := by decide +kernel
theorem dL_operation_29 : decode cL_operation 29 = .ok (.iconst 0, 1) := by decide +kernel
theorem dL_operation_30 : decode cL_operation 30 = .ok (.ireturn, 1) := by decide +kernel
theorem dL_strip_0 : decode cL_strip 0 = .ok (.aload_n 3, 1) := by decide +kernel
theorem dL_strip_1 : decode cL_strip 1 = .ok (.iconst 0, 1) := by decide +kernel
theorem dL_strip_2 : decode cL_strip 2 = .ok (.aload_n 0, 1) := by decide +kernel
theorem dL_strip_3 : decode cL_strip 3 = .ok (.iload_n 1, 1) := by decide +kernel
theorem dL_strip_4 : decode cL_strip 4 = .ok (.iload_n 2, 1) := by decide +kernel
theorem dL_strip_5 : decode cL_strip 5 = .ok (.invokevirtual 21, 3) := by decide +kernel
theorem dL_strip_8 : decode cL_strip 8 = .ok (.i2l, 1) := by decide +kernel
theorem dL_strip_9 : decode cL_strip 9 = .ok (.lastore, 1) := by decide +kernel
theorem dL_strip_10 : decode cL_strip 10 = .ok (.goto 7, 3) := by decide +kernel
theorem dL_strip_13 : decode cL_strip 13 = .ok (.astore 4, 2) := by decide +kernel
theorem dL_strip_15 : decode cL_strip 15 = .ok (.iconst 1, 1) := by decide +kernel
theorem dL_strip_16 : decode cL_strip 16 = .ok (.ireturn, 1) := by decide +kernel
theorem dL_strip_17 : decode cL_strip 17 = .ok (.iconst 0, 1) := by decide +kernel
theorem dL_strip_18 : decode cL_strip 18 = .ok (.ireturn, 1) := by decide +kernel
theorem dL_site_0 : decode cL_site 0 = .ok (.aload 4, 2) := by decide +kernel
theorem dL_site_2 : decode cL_site 2 = .ok (.iconst 0, 1) := by decide +kernel
theorem dL_site_3 : decode cL_site 3 = .ok (.aload_n 0, 1) := by decide +kernel
theorem dL_site_4 : decode cL_site 4 = .ok (.iload_n 1, 1) := by decide +kernel
theorem dL_site_5 : decode cL_site 5 = .ok (.iload_n 2, 1) := by decide +kernel
theorem dL_site_6 : decode cL_site 6 = .ok (.iload_n 3, 1) := by decide +kernel
theorem dL_site_7 : decode cL_site 7 = .ok (.invokevirtual 25, 3) := by decide +kernel
theorem dL_site_10 : decode cL_site 10 = .ok (.i2l, 1) := by decide +kernel
theorem dL_site_11 : decode cL_site 11 = .ok (.lastore, 1) := by decide +kernel
theorem dL_site_12 : decode cL_site 12 = .ok (.goto 7, 3) := by decide +kernel
theorem dL_site_15 : decode cL_site 15 = .ok (.astore 5, 2) := by decide +kernel
theorem dL_site_17 : decode cL_site 17 = .ok (.iconst 1, 1) := by decide +kernel
theorem dL_site_18 : decode cL_site 18 = .ok (.ireturn, 1) := by decide +kernel
theorem dL_site_19 : decode cL_site 19 = .ok (.iconst 0, 1) := by decide +kernel
theorem dL_site_20 : decode cL_site 20 = .ok (.ireturn, 1) := by decide +kernel
theorem dL_run_0 : decode cL_run 0 = .ok (.aload_n 3, 1) := by decide +kernel
theorem dL_run_1 : decode cL_run 1 = .ok (.iconst 0, 1) := by decide +kernel
theorem dL_run_2 : decode cL_run 2 = .ok (.aload_n 0, 1) := by decide +kernel
theorem dL_run_3 : decode cL_run 3 = .ok (.iload_n 1, 1) := by decide +kernel
theorem dL_run_4 : decode cL_run 4 = .ok (.iload_n 2, 1) := by decide +kernel
theorem dL_run_5 : decode cL_run 5 = .ok (.invokevirtual 31, 3) := by decide +kernel
theorem dL_run_8 : decode cL_run 8 = .ok (.i2l, 1) := by decide +kernel
theorem dL_run_9 : decode cL_run 9 = .ok (.lastore, 1) := by decide +kernel
theorem dL_run_10 : decode cL_run 10 = .ok (.goto 7, 3) := by decide +kernel
theorem dL_run_13 : decode cL_run 13 = .ok (.astore 4, 2) := by decide +kernel
theorem dL_run_15 : decode cL_run 15 = .ok (.iconst 1, 1) := by decide +kernel
theorem dL_run_16 : decode cL_run 16 = .ok (.ireturn, 1) := by decide +kernel
theorem dL_run_17 : decode cL_run 17 = .ok (.iconst 0, 1) := by decide +kernel
theorem dL_run_18 : decode cL_run 18 = .ok (.ireturn, 1) := by decide +kernel
theorem dL_count_0 : decode cL_count 0 = .ok (.aload_n 2, 1) := by decide +kernel
theorem dL_count_1 : decode cL_count 1 = .ok (.iconst 0, 1) := by decide +kernel
theorem dL_count_2 : decode cL_count 2 = .ok (.aload_n 0, 1) := by decide +kernel
theorem dL_count_3 : decode cL_count 3 = .ok (.iload_n 1, 1) := by decide +kernel
theorem dL_count_4 : decode cL_count 4 = .ok (.invokevirtual 35, 3) := by decide +kernel
theorem dL_count_7 : decode cL_count 7 = .ok (.i2l, 1) := by decide +kernel
theorem dL_count_8 : decode cL_count 8 = .ok (.lastore, 1) := by decide +kernel
theorem dL_count_9 : decode cL_count 9 = .ok (.goto 6, 3) := by decide +kernel
theorem dL_count_12 : decode cL_count 12 = .ok (.astore_n 3, 1) := by decide +kernel
theorem dL_count_13 : decode cL_count 13 = .ok (.iconst 1, 1) := by decide +kernel
theorem dL_count_14 : decode cL_count 14 = .ok (.ireturn, 1) := by decide +kernel
theorem dL_count_15 : decode cL_count 15 = .ok (.iconst 0, 1) := by decide +kernel
theorem dL_count_16 : decode cL_count 16 = .ok (.ireturn, 1) := by decide +kernel
theorem dL_out_0 : decode cL_out 0 = .ok (.aload_n 2, 1) := by decide +kernel
theorem dL_out_1 : decode cL_out 1 = .ok (.iconst 0, 1) := by decide +kernel
theorem dL_out_2 : decode cL_out 2 = .ok (.aload_n 0, 1) := by decide +kernel
theorem dL_out_3 : decode cL_out 3 = .ok (.iload_n 1, 1) := by decide +kernel
theorem dL_out_4 : decode cL_out 4 = .ok (.invokevirtual 38, 3) := by decide +kernel
theorem dL_out_7 : decode cL_out 7 = .ok (.i2l, 1) := by decide +kernel
theorem dL_out_8 : decode cL_out 8 = .ok (.lastore, 1) := by decide +kernel
theorem dL_out_9 : decode cL_out 9 = .ok (.goto 6, 3) := by decide +kernel
theorem dL_out_12 : decode cL_out 12 = .ok (.astore_n 3, 1) := by decide +kernel
theorem dL_out_13 : decode cL_out 13 = .ok (.iconst 1, 1) := by decide +kernel
theorem dL_out_14 : decode cL_out 14 = .ok (.ireturn, 1) := by decide +kernel
theorem dL_out_15 : decode cL_out 15 = .ok (.iconst 0, 1) := by decide +kernel
theorem dL_out_16 : decode cL_out 16 = .ok (.ireturn, 1) := by decide +kernel
theorem dL_law_0 : decode cL_law 0 = .ok (.new 8, 3) := by decide +kernel
theorem dL_law_3 : decode cL_law 3 = .ok (.dup, 1) := by decide +kernel
theorem dL_law_4 : decode cL_law 4 = .ok (.invokespecial 41, 3) := by decide +kernel
theorem dL_law_7 : decode cL_law 7 = .ok (.astore_n 1, 1) := by decide +kernel
theorem dL_law_8 : decode cL_law 8 = .ok (.new 42, 3) := by decide +kernel
theorem dL_law_11 : decode cL_law 11 = .ok (.dup, 1) := by decide +kernel
theorem dL_law_12 : decode cL_law 12 = .ok (.invokespecial 44, 3) := by decide +kernel
theorem dL_law_15 : decode cL_law 15 = .ok (.astore_n 2, 1) := by decide +kernel
theorem dL_law_16 : decode cL_law 16 = .ok (.iconst 1, 1) := by decide +kernel
theorem dL_law_17 : decode cL_law 17 = .ok (.newarray .long, 2) := by decide +kernel
theorem dL_law_19 : decode cL_law 19 = .ok (.astore_n 3, 1) := by decide +kernel
theorem dL_law_20 : decode cL_law 20 = .ok (.iconst 0, 1) := by decide +kernel
theorem dL_law_21 : decode cL_law 21 = .ok (.istore 4, 2) := by decide +kernel
theorem dL_law_23 : decode cL_law 23 = .ok (.iload 4, 2) := by decide +kernel
theorem dL_law_25 : decode cL_law 25 = .ok (.aload_n 0, 1) := by decide +kernel
theorem dL_law_26 : decode cL_law 26 = .ok (.arraylength, 1) := by decide +kernel
theorem dL_law_27 : decode cL_law 27 = .ok (.bipush 7, 2) := by decide +kernel
theorem dL_law_29 : decode cL_law 29 = .ok (.isub, 1) := by decide +kernel
theorem dL_law_30 : decode cL_law 30 = .ok (.if_icmp .gt 612, 3) := by decide +kernel
theorem dL_law_33 : decode cL_law 33 = .ok (.aload_n 0, 1) := by decide +kernel
theorem dL_law_34 : decode cL_law 34 = .ok (.iload 4, 2) := by decide +kernel
theorem dL_law_36 : decode cL_law 36 = .ok (.iaload, 1) := by decide +kernel
theorem dL_law_37 : decode cL_law 37 = .ok (.bipush 15, 2) := by decide +kernel
theorem dL_law_39 : decode cL_law 39 = .ok (.iand, 1) := by decide +kernel
theorem dL_law_40 : decode cL_law 40 = .ok (.tableswitch 596 0 8 #[52, 108, 226, 294, 307, 320, 400, 484, 540], 52) := by decide +kernel
theorem dL_law_92 : decode cL_law 92 = .ok (.aload_n 1, 1) := by decide +kernel
theorem dL_law_93 : decode cL_law 93 = .ok (.aload_n 0, 1) := by decide +kernel
theorem dL_law_94 : decode cL_law 94 = .ok (.iload 4, 2) := by decide +kernel
theorem dL_law_96 : decode cL_law 96 = .ok (.iconst 1, 1) := by decide +kernel
theorem dL_law_97 : decode cL_law 97 = .ok (.iadd, 1) := by decide +kernel
theorem dL_law_98 : decode cL_law 98 = .ok (.iaload, 1) := by decide +kernel
theorem dL_law_99 : decode cL_law 99 = .ok (.aload_n 3, 1) := by decide +kernel
theorem dL_law_100 : decode cL_law 100 = .ok (.invokestatic 45, 3) := by decide +kernel
theorem dL_law_103 : decode cL_law 103 = .ok (.istore 5, 2) := by decide +kernel
theorem dL_law_105 : decode cL_law 105 = .ok (.aload_n 2, 1) := by decide +kernel
theorem dL_law_106 : decode cL_law 106 = .ok (.aload_n 0, 1) := by decide +kernel
theorem dL_law_107 : decode cL_law 107 = .ok (.iload 4, 2) := by decide +kernel
theorem dL_law_109 : decode cL_law 109 = .ok (.iconst 1, 1) := by decide +kernel
theorem dL_law_110 : decode cL_law 110 = .ok (.iadd, 1) := by decide +kernel
theorem dL_law_111 : decode cL_law 111 = .ok (.iaload, 1) := by decide +kernel
theorem dL_law_112 : decode cL_law 112 = .ok (.invokevirtual 50, 3) := by decide +kernel
theorem dL_law_115 : decode cL_law 115 = .ok (.istore 6, 2) := by decide +kernel
theorem dL_law_117 : decode cL_law 117 = .ok (.aload_n 2, 1) := by decide +kernel
theorem dL_law_118 : decode cL_law 118 = .ok (.invokevirtual 51, 3) := by decide +kernel
theorem dL_law_121 : decode cL_law 121 = .ok (.iload 5, 2) := by decide +kernel
theorem dL_law_123 : decode cL_law 123 = .ok (.if_icmp .eq 5, 3) := by decide +kernel
theorem dL_law_126 : decode cL_law 126 = .ok (.iconst 0, 1) := by decide +kernel
theorem dL_law_127 : decode cL_law 127 = .ok (.ireturn, 1) := by decide +kernel
theorem dL_law_128 : decode cL_law 128 = .ok (.iload 5, 2) := by decide +kernel
theorem dL_law_130 : decode cL_law 130 = .ok (.ifCond .ne 15, 3) := by decide +kernel
theorem dL_law_133 : decode cL_law 133 = .ok (.aload_n 3, 1) := by decide +kernel
theorem dL_law_134 : decode cL_law 134 = .ok (.iconst 0, 1) := by decide +kernel
theorem dL_law_135 : decode cL_law 135 = .ok (.laload, 1) := by decide +kernel
theorem dL_law_136 : decode cL_law 136 = .ok (.iload 6, 2) := by decide +kernel
theorem dL_law_138 : decode cL_law 138 = .ok (.i2l, 1) := by decide +kernel
theorem dL_law_139 : decode cL_law 139 = .ok (.lcmp, 1) := by decide +kernel
theorem dL_law_140 : decode cL_law 140 = .ok (.ifCond .eq 5, 3) := by decide +kernel
theorem dL_law_143 : decode cL_law 143 = .ok (.iconst 0, 1) := by decide +kernel
theorem dL_law_144 : decode cL_law 144 = .ok (.ireturn, 1) := by decide +kernel
theorem dL_law_145 : decode cL_law 145 = .ok (.goto 491, 3) := by decide +kernel
theorem dL_law_148 : decode cL_law 148 = .ok (.aload_n 1, 1) := by decide +kernel
theorem dL_law_149 : decode cL_law 149 = .ok (.aload_n 0, 1) := by decide +kernel
theorem dL_law_150 : decode cL_law 150 = .ok (.iload 4, 2) := by decide +kernel
theorem dL_law_152 : decode cL_law 152 = .ok (.iconst 1, 1) := by decide +kernel
theorem dL_law_153 : decode cL_law 153 = .ok (.iadd, 1) := by decide +kernel
theorem dL_law_154 : decode cL_law 154 = .ok (.iaload, 1) := by decide +kernel
theorem dL_law_155 : decode cL_law 155 = .ok (.aload_n 0, 1) := by decide +kernel
theorem dL_law_156 : decode cL_law 156 = .ok (.iload 4, 2) := by decide +kernel
theorem dL_law_158 : decode cL_law 158 = .ok (.iconst 2, 1) := by decide +kernel
theorem dL_law_159 : decode cL_law 159 = .ok (.iadd, 1) := by decide +kernel
theorem dL_law_160 : decode cL_law 160 = .ok (.iaload, 1) := by decide +kernel
theorem dL_law_161 : decode cL_law 161 = .ok (.aload_n 0, 1) := by decide +kernel
theorem dL_law_162 : decode cL_law 162 = .ok (.iload 4, 2) := by decide +kernel
theorem dL_law_164 : decode cL_law 164 = .ok (.iconst 3, 1) := by decide +kernel
theorem dL_law_165 : decode cL_law 165 = .ok (.iadd, 1) := by decide +kernel
theorem dL_law_166 : decode cL_law 166 = .ok (.iaload, 1) := by decide +kernel
theorem dL_law_167 : decode cL_law 167 = .ok (.aload_n 0, 1) := by decide +kernel
theorem dL_law_168 : decode cL_law 168 = .ok (.iload 4, 2) := by decide +kernel
theorem dL_law_170 : decode cL_law 170 = .ok (.iconst 4, 1) := by decide +kernel
theorem dL_law_171 : decode cL_law 171 = .ok (.iadd, 1) := by decide +kernel
theorem dL_law_172 : decode cL_law 172 = .ok (.iaload, 1) := by decide +kernel
theorem dL_law_173 : decode cL_law 173 = .ok (.aload_n 0, 1) := by decide +kernel
theorem dL_law_174 : decode cL_law 174 = .ok (.iload 4, 2) := by decide +kernel
theorem dL_law_176 : decode cL_law 176 = .ok (.iconst 5, 1) := by decide +kernel
theorem dL_law_177 : decode cL_law 177 = .ok (.iadd, 1) := by decide +kernel
end
section
theorem dL_law_178 : decode cL_law 178 = .ok (.iaload, 1) := by decide +kernel
theorem dL_law_179 : decode cL_law 179 = .ok (.aload_n 0, 1) := by decide +kernel
theorem dL_law_180 : decode cL_law 180 = .ok (.iload 4, 2) := by decide +kernel
theorem dL_law_182 : decode cL_law 182 = .ok (.bipush 6, 2) := by decide +kernel
theorem dL_law_184 : decode cL_law 184 = .ok (.iadd, 1) := by decide +kernel
theorem dL_law_185 : decode cL_law 185 = .ok (.iaload, 1) := by decide +kernel
theorem dL_law_186 : decode cL_law 186 = .ok (.aload_n 3, 1) := by decide +kernel
theorem dL_law_187 : decode cL_law 187 = .ok (.invokestatic 55, 3) := by decide +kernel
theorem dL_law_190 : decode cL_law 190 = .ok (.istore 5, 2) := by decide +kernel
theorem dL_law_192 : decode cL_law 192 = .ok (.aload_n 2, 1) := by decide +kernel
theorem dL_law_193 : decode cL_law 193 = .ok (.aload_n 0, 1) := by decide +kernel
theorem dL_law_194 : decode cL_law 194 = .ok (.iload 4, 2) := by decide +kernel
theorem dL_law_196 : decode cL_law 196 = .ok (.iconst 1, 1) := by decide +kernel
theorem dL_law_197 : decode cL_law 197 = .ok (.iadd, 1) := by decide +kernel
theorem dL_law_198 : decode cL_law 198 = .ok (.iaload, 1) := by decide +kernel
theorem dL_law_199 : decode cL_law 199 = .ok (.aload_n 0, 1) := by decide +kernel
theorem dL_law_200 : decode cL_law 200 = .ok (.iload 4, 2) := by decide +kernel
theorem dL_law_202 : decode cL_law 202 = .ok (.iconst 2, 1) := by decide +kernel
theorem dL_law_203 : decode cL_law 203 = .ok (.iadd, 1) := by decide +kernel
theorem dL_law_204 : decode cL_law 204 = .ok (.iaload, 1) := by decide +kernel
theorem dL_law_205 : decode cL_law 205 = .ok (.aload_n 0, 1) := by decide +kernel
theorem dL_law_206 : decode cL_law 206 = .ok (.iload 4, 2) := by decide +kernel
theorem dL_law_208 : decode cL_law 208 = .ok (.iconst 3, 1) := by decide +kernel
theorem dL_law_209 : decode cL_law 209 = .ok (.iadd, 1) := by decide +kernel
theorem dL_law_210 : decode cL_law 210 = .ok (.iaload, 1) := by decide +kernel
theorem dL_law_211 : decode cL_law 211 = .ok (.aload_n 0, 1) := by decide +kernel
theorem dL_law_212 : decode cL_law 212 = .ok (.iload 4, 2) := by decide +kernel
theorem dL_law_214 : decode cL_law 214 = .ok (.iconst 4, 1) := by decide +kernel
theorem dL_law_215 : decode cL_law 215 = .ok (.iadd, 1) := by decide +kernel
theorem dL_law_216 : decode cL_law 216 = .ok (.iaload, 1) := by decide +kernel
theorem dL_law_217 : decode cL_law 217 = .ok (.aload_n 0, 1) := by decide +kernel
theorem dL_law_218 : decode cL_law 218 = .ok (.iload 4, 2) := by decide +kernel
theorem dL_law_220 : decode cL_law 220 = .ok (.iconst 5, 1) := by decide +kernel
theorem dL_law_221 : decode cL_law 221 = .ok (.iadd, 1) := by decide +kernel
theorem dL_law_222 : decode cL_law 222 = .ok (.iaload, 1) := by decide +kernel
theorem dL_law_223 : decode cL_law 223 = .ok (.aload_n 0, 1) := by decide +kernel
theorem dL_law_224 : decode cL_law 224 = .ok (.iload 4, 2) := by decide +kernel
theorem dL_law_226 : decode cL_law 226 = .ok (.bipush 6, 2) := by decide +kernel
theorem dL_law_228 : decode cL_law 228 = .ok (.iadd, 1) := by decide +kernel
theorem dL_law_229 : decode cL_law 229 = .ok (.iaload, 1) := by decide +kernel
theorem dL_law_230 : decode cL_law 230 = .ok (.invokevirtual 58, 3) := by decide +kernel
theorem dL_law_233 : decode cL_law 233 = .ok (.istore 6, 2) := by decide +kernel
theorem dL_law_235 : decode cL_law 235 = .ok (.aload_n 2, 1) := by decide +kernel
theorem dL_law_236 : decode cL_law 236 = .ok (.invokevirtual 51, 3) := by decide +kernel
theorem dL_law_239 : decode cL_law 239 = .ok (.iload 5, 2) := by decide +kernel
theorem dL_law_241 : decode cL_law 241 = .ok (.if_icmp .eq 5, 3) := by decide +kernel
theorem dL_law_244 : decode cL_law 244 = .ok (.iconst 0, 1) := by decide +kernel
theorem dL_law_245 : decode cL_law 245 = .ok (.ireturn, 1) := by decide +kernel
theorem dL_law_246 : decode cL_law 246 = .ok (.iload 5, 2) := by decide +kernel
theorem dL_law_248 : decode cL_law 248 = .ok (.ifCond .ne 15, 3) := by decide +kernel
theorem dL_law_251 : decode cL_law 251 = .ok (.aload_n 3, 1) := by decide +kernel
theorem dL_law_252 : decode cL_law 252 = .ok (.iconst 0, 1) := by decide +kernel
theorem dL_law_253 : decode cL_law 253 = .ok (.laload, 1) := by decide +kernel
theorem dL_law_254 : decode cL_law 254 = .ok (.iload 6, 2) := by decide +kernel
theorem dL_law_256 : decode cL_law 256 = .ok (.i2l, 1) := by decide +kernel
theorem dL_law_257 : decode cL_law 257 = .ok (.lcmp, 1) := by decide +kernel
theorem dL_law_258 : decode cL_law 258 = .ok (.ifCond .eq 5, 3) := by decide +kernel
theorem dL_law_261 : decode cL_law 261 = .ok (.iconst 0, 1) := by decide +kernel
theorem dL_law_262 : decode cL_law 262 = .ok (.ireturn, 1) := by decide +kernel
theorem dL_law_263 : decode cL_law 263 = .ok (.goto 373, 3) := by decide +kernel
theorem dL_law_266 : decode cL_law 266 = .ok (.aload_n 1, 1) := by decide +kernel
theorem dL_law_267 : decode cL_law 267 = .ok (.aload_n 0, 1) := by decide +kernel
theorem dL_law_268 : decode cL_law 268 = .ok (.iload 4, 2) := by decide +kernel
theorem dL_law_270 : decode cL_law 270 = .ok (.iconst 1, 1) := by decide +kernel
theorem dL_law_271 : decode cL_law 271 = .ok (.iadd, 1) := by decide +kernel
theorem dL_law_272 : decode cL_law 272 = .ok (.iaload, 1) := by decide +kernel
theorem dL_law_273 : decode cL_law 273 = .ok (.aload_n 0, 1) := by decide +kernel
theorem dL_law_274 : decode cL_law 274 = .ok (.iload 4, 2) := by decide +kernel
theorem dL_law_276 : decode cL_law 276 = .ok (.iconst 2, 1) := by decide +kernel
theorem dL_law_277 : decode cL_law 277 = .ok (.iadd, 1) := by decide +kernel
theorem dL_law_278 : decode cL_law 278 = .ok (.iaload, 1) := by decide +kernel
theorem dL_law_279 : decode cL_law 279 = .ok (.aload_n 3, 1) := by decide +kernel
theorem dL_law_280 : decode cL_law 280 = .ok (.invokestatic 59, 3) := by decide +kernel
theorem dL_law_283 : decode cL_law 283 = .ok (.istore 5, 2) := by decide +kernel
theorem dL_law_285 : decode cL_law 285 = .ok (.aload_n 2, 1) := by decide +kernel
theorem dL_law_286 : decode cL_law 286 = .ok (.aload_n 0, 1) := by decide +kernel
theorem dL_law_287 : decode cL_law 287 = .ok (.iload 4, 2) := by decide +kernel
theorem dL_law_289 : decode cL_law 289 = .ok (.iconst 1, 1) := by decide +kernel
theorem dL_law_290 : decode cL_law 290 = .ok (.iadd, 1) := by decide +kernel
theorem dL_law_291 : decode cL_law 291 = .ok (.iaload, 1) := by decide +kernel
theorem dL_law_292 : decode cL_law 292 = .ok (.aload_n 0, 1) := by decide +kernel
theorem dL_law_293 : decode cL_law 293 = .ok (.iload 4, 2) := by decide +kernel
theorem dL_law_295 : decode cL_law 295 = .ok (.iconst 2, 1) := by decide +kernel
theorem dL_law_296 : decode cL_law 296 = .ok (.iadd, 1) := by decide +kernel
theorem dL_law_297 : decode cL_law 297 = .ok (.iaload, 1) := by decide +kernel
theorem dL_law_298 : decode cL_law 298 = .ok (.invokevirtual 62, 3) := by decide +kernel
theorem dL_law_301 : decode cL_law 301 = .ok (.istore 6, 2) := by decide +kernel
theorem dL_law_303 : decode cL_law 303 = .ok (.aload_n 2, 1) := by decide +kernel
theorem dL_law_304 : decode cL_law 304 = .ok (.invokevirtual 51, 3) := by decide +kernel
theorem dL_law_307 : decode cL_law 307 = .ok (.iload 5, 2) := by decide +kernel
theorem dL_law_309 : decode cL_law 309 = .ok (.if_icmp .eq 5, 3) := by decide +kernel
theorem dL_law_312 : decode cL_law 312 = .ok (.iconst 0, 1) := by decide +kernel
theorem dL_law_313 : decode cL_law 313 = .ok (.ireturn, 1) := by decide +kernel
theorem dL_law_314 : decode cL_law 314 = .ok (.iload 5, 2) := by decide +kernel
theorem dL_law_316 : decode cL_law 316 = .ok (.ifCond .ne 15, 3) := by decide +kernel
theorem dL_law_319 : decode cL_law 319 = .ok (.aload_n 3, 1) := by decide +kernel
theorem dL_law_320 : decode cL_law 320 = .ok (.iconst 0, 1) := by decide +kernel
theorem dL_law_321 : decode cL_law 321 = .ok (.laload, 1) := by decide +kernel
theorem dL_law_322 : decode cL_law 322 = .ok (.iload 6, 2) := by decide +kernel
theorem dL_law_324 : decode cL_law 324 = .ok (.i2l, 1) := by decide +kernel
theorem dL_law_325 : decode cL_law 325 = .ok (.lcmp, 1) := by decide +kernel
theorem dL_law_326 : decode cL_law 326 = .ok (.ifCond .eq 5, 3) := by decide +kernel
theorem dL_law_329 : decode cL_law 329 = .ok (.iconst 0, 1) := by decide +kernel
theorem dL_law_330 : decode cL_law 330 = .ok (.ireturn, 1) := by decide +kernel
theorem dL_law_331 : decode cL_law 331 = .ok (.goto 305, 3) := by decide +kernel
theorem dL_law_334 : decode cL_law 334 = .ok (.aload_n 1, 1) := by decide +kernel
theorem dL_law_335 : decode cL_law 335 = .ok (.invokevirtual 63, 3) := by decide +kernel
theorem dL_law_338 : decode cL_law 338 = .ok (.aload_n 2, 1) := by decide +kernel
theorem dL_law_339 : decode cL_law 339 = .ok (.invokevirtual 66, 3) := by decide +kernel
theorem dL_law_342 : decode cL_law 342 = .ok (.if_icmp .eq 294, 3) := by decide +kernel
theorem dL_law_345 : decode cL_law 345 = .ok (.iconst 0, 1) := by decide +kernel
theorem dL_law_346 : decode cL_law 346 = .ok (.ireturn, 1) := by decide +kernel
theorem dL_law_347 : decode cL_law 347 = .ok (.aload_n 1, 1) := by decide +kernel
theorem dL_law_348 : decode cL_law 348 = .ok (.invokevirtual 67, 3) := by decide +kernel
theorem dL_law_351 : decode cL_law 351 = .ok (.aload_n 2, 1) := by decide +kernel
theorem dL_law_352 : decode cL_law 352 = .ok (.invokevirtual 70, 3) := by decide +kernel
theorem dL_law_355 : decode cL_law 355 = .ok (.if_icmp .eq 281, 3) := by decide +kernel
theorem dL_law_358 : decode cL_law 358 = .ok (.iconst 0, 1) := by decide +kernel
theorem dL_law_359 : decode cL_law 359 = .ok (.ireturn, 1) := by decide +kernel
theorem dL_law_360 : decode cL_law 360 = .ok (.aload_n 1, 1) := by decide +kernel
theorem dL_law_361 : decode cL_law 361 = .ok (.aload_n 0, 1) := by decide +kernel
theorem dL_law_362 : decode cL_law 362 = .ok (.iload 4, 2) := by decide +kernel
theorem dL_law_364 : decode cL_law 364 = .ok (.iconst 1, 1) := by decide +kernel
theorem dL_law_365 : decode cL_law 365 = .ok (.iadd, 1) := by decide +kernel
theorem dL_law_366 : decode cL_law 366 = .ok (.iaload, 1) := by decide +kernel
theorem dL_law_367 : decode cL_law 367 = .ok (.aload_n 0, 1) := by decide +kernel
theorem dL_law_368 : decode cL_law 368 = .ok (.iload 4, 2) := by decide +kernel
theorem dL_law_370 : decode cL_law 370 = .ok (.iconst 2, 1) := by decide +kernel
theorem dL_law_371 : decode cL_law 371 = .ok (.iadd, 1) := by decide +kernel
theorem dL_law_372 : decode cL_law 372 = .ok (.iaload, 1) := by decide +kernel
theorem dL_law_373 : decode cL_law 373 = .ok (.aload_n 0, 1) := by decide +kernel
theorem dL_law_374 : decode cL_law 374 = .ok (.iload 4, 2) := by decide +kernel
theorem dL_law_376 : decode cL_law 376 = .ok (.iconst 3, 1) := by decide +kernel
theorem dL_law_377 : decode cL_law 377 = .ok (.iadd, 1) := by decide +kernel
theorem dL_law_378 : decode cL_law 378 = .ok (.iaload, 1) := by decide +kernel
theorem dL_law_379 : decode cL_law 379 = .ok (.aload_n 3, 1) := by decide +kernel
theorem dL_law_380 : decode cL_law 380 = .ok (.invokestatic 71, 3) := by decide +kernel
theorem dL_law_383 : decode cL_law 383 = .ok (.istore 5, 2) := by decide +kernel
theorem dL_law_385 : decode cL_law 385 = .ok (.aload_n 2, 1) := by decide +kernel
theorem dL_law_386 : decode cL_law 386 = .ok (.aload_n 0, 1) := by decide +kernel
theorem dL_law_387 : decode cL_law 387 = .ok (.iload 4, 2) := by decide +kernel
theorem dL_law_389 : decode cL_law 389 = .ok (.iconst 1, 1) := by decide +kernel
theorem dL_law_390 : decode cL_law 390 = .ok (.iadd, 1) := by decide +kernel
theorem dL_law_391 : decode cL_law 391 = .ok (.iaload, 1) := by decide +kernel
theorem dL_law_392 : decode cL_law 392 = .ok (.aload_n 0, 1) := by decide +kernel
theorem dL_law_393 : decode cL_law 393 = .ok (.iload 4, 2) := by decide +kernel
theorem dL_law_395 : decode cL_law 395 = .ok (.iconst 2, 1) := by decide +kernel
theorem dL_law_396 : decode cL_law 396 = .ok (.iadd, 1) := by decide +kernel
theorem dL_law_397 : decode cL_law 397 = .ok (.iaload, 1) := by decide +kernel
theorem dL_law_398 : decode cL_law 398 = .ok (.aload_n 0, 1) := by decide +kernel
theorem dL_law_399 : decode cL_law 399 = .ok (.iload 4, 2) := by decide +kernel
theorem dL_law_401 : decode cL_law 401 = .ok (.iconst 3, 1) := by decide +kernel
theorem dL_law_402 : decode cL_law 402 = .ok (.iadd, 1) := by decide +kernel
theorem dL_law_403 : decode cL_law 403 = .ok (.iaload, 1) := by decide +kernel
theorem dL_law_404 : decode cL_law 404 = .ok (.invokevirtual 74, 3) := by decide +kernel
theorem dL_law_407 : decode cL_law 407 = .ok (.istore 6, 2) := by decide +kernel
theorem dL_law_409 : decode cL_law 409 = .ok (.aload_n 2, 1) := by decide +kernel
theorem dL_law_410 : decode cL_law 410 = .ok (.invokevirtual 51, 3) := by decide +kernel
theorem dL_law_413 : decode cL_law 413 = .ok (.iload 5, 2) := by decide +kernel
theorem dL_law_415 : decode cL_law 415 = .ok (.if_icmp .eq 5, 3) := by decide +kernel
theorem dL_law_418 : decode cL_law 418 = .ok (.iconst 0, 1) := by decide +kernel
theorem dL_law_419 : decode cL_law 419 = .ok (.ireturn, 1) := by decide +kernel
theorem dL_law_420 : decode cL_law 420 = .ok (.iload 5, 2) := by decide +kernel
theorem dL_law_422 : decode cL_law 422 = .ok (.ifCond .ne 15, 3) := by decide +kernel
theorem dL_law_425 : decode cL_law 425 = .ok (.aload_n 3, 1) := by decide +kernel
theorem dL_law_426 : decode cL_law 426 = .ok (.iconst 0, 1) := by decide +kernel
theorem dL_law_427 : decode cL_law 427 = .ok (.laload, 1) := by decide +kernel
theorem dL_law_428 : decode cL_law 428 = .ok (.iload 6, 2) := by decide +kernel
theorem dL_law_430 : decode cL_law 430 = .ok (.i2l, 1) := by decide +kernel
theorem dL_law_431 : decode cL_law 431 = .ok (.lcmp, 1) := by decide +kernel
theorem dL_law_432 : decode cL_law 432 = .ok (.ifCond .eq 5, 3) := by decide +kernel
theorem dL_law_435 : decode cL_law 435 = .ok (.iconst 0, 1) := by decide +kernel
theorem dL_law_436 : decode cL_law 436 = .ok (.ireturn, 1) := by decide +kernel
theorem dL_law_437 : decode cL_law 437 = .ok (.goto 199, 3) := by decide +kernel
theorem dL_law_440 : decode cL_law 440 = .ok (.aload_n 1, 1) := by decide +kernel
theorem dL_law_441 : decode cL_law 441 = .ok (.aload_n 0, 1) := by decide +kernel
theorem dL_law_442 : decode cL_law 442 = .ok (.iload 4, 2) := by decide +kernel
theorem dL_law_444 : decode cL_law 444 = .ok (.iconst 1, 1) := by decide +kernel
theorem dL_law_445 : decode cL_law 445 = .ok (.iadd, 1) := by decide +kernel
theorem dL_law_446 : decode cL_law 446 = .ok (.iaload, 1) := by decide +kernel
theorem dL_law_447 : decode cL_law 447 = .ok (.ifCond .eq 7, 3) := by decide +kernel
theorem dL_law_450 : decode cL_law 450 = .ok (.iconst 1, 1) := by decide +kernel
theorem dL_law_451 : decode cL_law 451 = .ok (.goto 4, 3) := by decide +kernel
theorem dL_law_454 : decode cL_law 454 = .ok (.iconst 0, 1) := by decide +kernel
theorem dL_law_455 : decode cL_law 455 = .ok (.aload_n 0, 1) := by decide +kernel
theorem dL_law_456 : decode cL_law 456 = .ok (.iload 4, 2) := by decide +kernel
theorem dL_law_458 : decode cL_law 458 = .ok (.iconst 2, 1) := by decide +kernel
theorem dL_law_459 : decode cL_law 459 = .ok (.iadd, 1) := by decide +kernel
theorem dL_law_460 : decode cL_law 460 = .ok (.iaload, 1) := by decide +kernel
theorem dL_law_461 : decode cL_law 461 = .ok (.aload_n 3, 1) := by decide +kernel
theorem dL_law_462 : decode cL_law 462 = .ok (.invokestatic 75, 3) := by decide +kernel
theorem dL_law_465 : decode cL_law 465 = .ok (.istore 5, 2) := by decide +kernel
theorem dL_law_467 : decode cL_law 467 = .ok (.aload_n 2, 1) := by decide +kernel
theorem dL_law_468 : decode cL_law 468 = .ok (.aload_n 0, 1) := by decide +kernel
theorem dL_law_469 : decode cL_law 469 = .ok (.iload 4, 2) := by decide +kernel
theorem dL_law_471 : decode cL_law 471 = .ok (.iconst 1, 1) := by decide +kernel
theorem dL_law_472 : decode cL_law 472 = .ok (.iadd, 1) := by decide +kernel
theorem dL_law_473 : decode cL_law 473 = .ok (.iaload, 1) := by decide +kernel
theorem dL_law_474 : decode cL_law 474 = .ok (.ifCond .eq 7, 3) := by decide +kernel
theorem dL_law_477 : decode cL_law 477 = .ok (.iconst 1, 1) := by decide +kernel
theorem dL_law_478 : decode cL_law 478 = .ok (.goto 4, 3) := by decide +kernel
theorem dL_law_481 : decode cL_law 481 = .ok (.iconst 0, 1) := by decide +kernel
theorem dL_law_482 : decode cL_law 482 = .ok (.aload_n 0, 1) := by decide +kernel
theorem dL_law_483 : decode cL_law 483 = .ok (.iload 4, 2) := by decide +kernel
theorem dL_law_485 : decode cL_law 485 = .ok (.iconst 2, 1) := by decide +kernel
theorem dL_law_486 : decode cL_law 486 = .ok (.iadd, 1) := by decide +kernel
theorem dL_law_487 : decode cL_law 487 = .ok (.iaload, 1) := by decide +kernel
theorem dL_law_488 : decode cL_law 488 = .ok (.invokevirtual 78, 3) := by decide +kernel
theorem dL_law_491 : decode cL_law 491 = .ok (.istore 6, 2) := by decide +kernel
theorem dL_law_493 : decode cL_law 493 = .ok (.aload_n 2, 1) := by decide +kernel
theorem dL_law_494 : decode cL_law 494 = .ok (.invokevirtual 51, 3) := by decide +kernel
theorem dL_law_497 : decode cL_law 497 = .ok (.iload 5, 2) := by decide +kernel
theorem dL_law_499 : decode cL_law 499 = .ok (.if_icmp .eq 5, 3) := by decide +kernel
theorem dL_law_502 : decode cL_law 502 = .ok (.iconst 0, 1) := by decide +kernel
theorem dL_law_503 : decode cL_law 503 = .ok (.ireturn, 1) := by decide +kernel
theorem dL_law_504 : decode cL_law 504 = .ok (.iload 5, 2) := by decide +kernel
theorem dL_law_506 : decode cL_law 506 = .ok (.ifCond .ne 15, 3) := by decide +kernel
theorem dL_law_509 : decode cL_law 509 = .ok (.aload_n 3, 1) := by decide +kernel
theorem dL_law_510 : decode cL_law 510 = .ok (.iconst 0, 1) := by decide +kernel
theorem dL_law_511 : decode cL_law 511 = .ok (.laload, 1) := by decide +kernel
theorem dL_law_512 : decode cL_law 512 = .ok (.iload 6, 2) := by decide +kernel
theorem dL_law_514 : decode cL_law 514 = .ok (.i2l, 1) := by decide +kernel
theorem dL_law_515 : decode cL_law 515 = .ok (.lcmp, 1) := by decide +kernel
theorem dL_law_516 : decode cL_law 516 = .ok (.ifCond .eq 5, 3) := by decide +kernel
theorem dL_law_519 : decode cL_law 519 = .ok (.iconst 0, 1) := by decide +kernel
theorem dL_law_520 : decode cL_law 520 = .ok (.ireturn, 1) := by decide +kernel
theorem dL_law_521 : decode cL_law 521 = .ok (.goto 115, 3) := by decide +kernel
theorem dL_law_524 : decode cL_law 524 = .ok (.aload_n 1, 1) := by decide +kernel
theorem dL_law_525 : decode cL_law 525 = .ok (.aload_n 0, 1) := by decide +kernel
theorem dL_law_526 : decode cL_law 526 = .ok (.iload 4, 2) := by decide +kernel
theorem dL_law_528 : decode cL_law 528 = .ok (.iconst 1, 1) := by decide +kernel
theorem dL_law_529 : decode cL_law 529 = .ok (.iadd, 1) := by decide +kernel
theorem dL_law_530 : decode cL_law 530 = .ok (.iaload, 1) := by decide +kernel
theorem dL_law_531 : decode cL_law 531 = .ok (.aload_n 3, 1) := by decide +kernel
theorem dL_law_532 : decode cL_law 532 = .ok (.invokestatic 79, 3) := by decide +kernel
theorem dL_law_535 : decode cL_law 535 = .ok (.istore 5, 2) := by decide +kernel
theorem dL_law_537 : decode cL_law 537 = .ok (.aload_n 2, 1) := by decide +kernel
theorem dL_law_538 : decode cL_law 538 = .ok (.aload_n 0, 1) := by decide +kernel
theorem dL_law_539 : decode cL_law 539 = .ok (.iload 4, 2) := by decide +kernel
theorem dL_law_541 : decode cL_law 541 = .ok (.iconst 1, 1) := by decide +kernel
theorem dL_law_542 : decode cL_law 542 = .ok (.iadd, 1) := by decide +kernel
theorem dL_law_543 : decode cL_law 543 = .ok (.iaload, 1) := by decide +kernel
theorem dL_law_544 : decode cL_law 544 = .ok (.invokevirtual 81, 3) := by decide +kernel
theorem dL_law_547 : decode cL_law 547 = .ok (.istore 6, 2) := by decide +kernel
theorem dL_law_549 : decode cL_law 549 = .ok (.aload_n 2, 1) := by decide +kernel
theorem dL_law_550 : decode cL_law 550 = .ok (.invokevirtual 51, 3) := by decide +kernel
theorem dL_law_553 : decode cL_law 553 = .ok (.iload 5, 2) := by decide +kernel
theorem dL_law_555 : decode cL_law 555 = .ok (.if_icmp .eq 5, 3) := by decide +kernel
theorem dL_law_558 : decode cL_law 558 = .ok (.iconst 0, 1) := by decide +kernel
theorem dL_law_559 : decode cL_law 559 = .ok (.ireturn, 1) := by decide +kernel
theorem dL_law_560 : decode cL_law 560 = .ok (.iload 5, 2) := by decide +kernel
theorem dL_law_562 : decode cL_law 562 = .ok (.ifCond .ne 15, 3) := by decide +kernel
theorem dL_law_565 : decode cL_law 565 = .ok (.aload_n 3, 1) := by decide +kernel
theorem dL_law_566 : decode cL_law 566 = .ok (.iconst 0, 1) := by decide +kernel
theorem dL_law_567 : decode cL_law 567 = .ok (.laload, 1) := by decide +kernel
theorem dL_law_568 : decode cL_law 568 = .ok (.iload 6, 2) := by decide +kernel
theorem dL_law_570 : decode cL_law 570 = .ok (.i2l, 1) := by decide +kernel
theorem dL_law_571 : decode cL_law 571 = .ok (.lcmp, 1) := by decide +kernel
theorem dL_law_572 : decode cL_law 572 = .ok (.ifCond .eq 5, 3) := by decide +kernel
theorem dL_law_575 : decode cL_law 575 = .ok (.iconst 0, 1) := by decide +kernel
theorem dL_law_576 : decode cL_law 576 = .ok (.ireturn, 1) := by decide +kernel
theorem dL_law_577 : decode cL_law 577 = .ok (.goto 59, 3) := by decide +kernel
theorem dL_law_580 : decode cL_law 580 = .ok (.aload_n 1, 1) := by decide +kernel
theorem dL_law_581 : decode cL_law 581 = .ok (.aload_n 0, 1) := by decide +kernel
theorem dL_law_582 : decode cL_law 582 = .ok (.iload 4, 2) := by decide +kernel
theorem dL_law_584 : decode cL_law 584 = .ok (.iconst 1, 1) := by decide +kernel
theorem dL_law_585 : decode cL_law 585 = .ok (.iadd, 1) := by decide +kernel
theorem dL_law_586 : decode cL_law 586 = .ok (.iaload, 1) := by decide +kernel
theorem dL_law_587 : decode cL_law 587 = .ok (.aload_n 3, 1) := by decide +kernel
theorem dL_law_588 : decode cL_law 588 = .ok (.invokestatic 82, 3) := by decide +kernel
theorem dL_law_591 : decode cL_law 591 = .ok (.istore 5, 2) := by decide +kernel
theorem dL_law_593 : decode cL_law 593 = .ok (.aload_n 2, 1) := by decide +kernel
theorem dL_law_594 : decode cL_law 594 = .ok (.aload_n 0, 1) := by decide +kernel
theorem dL_law_595 : decode cL_law 595 = .ok (.iload 4, 2) := by decide +kernel
theorem dL_law_597 : decode cL_law 597 = .ok (.iconst 1, 1) := by decide +kernel
theorem dL_law_598 : decode cL_law 598 = .ok (.iadd, 1) := by decide +kernel
theorem dL_law_599 : decode cL_law 599 = .ok (.iaload, 1) := by decide +kernel
theorem dL_law_600 : decode cL_law 600 = .ok (.invokevirtual 84, 3) := by decide +kernel
theorem dL_law_603 : decode cL_law 603 = .ok (.istore 6, 2) := by decide +kernel
theorem dL_law_605 : decode cL_law 605 = .ok (.aload_n 2, 1) := by decide +kernel
theorem dL_law_606 : decode cL_law 606 = .ok (.invokevirtual 51, 3) := by decide +kernel
theorem dL_law_609 : decode cL_law 609 = .ok (.iload 5, 2) := by decide +kernel
theorem dL_law_611 : decode cL_law 611 = .ok (.if_icmp .eq 5, 3) := by decide +kernel
theorem dL_law_614 : decode cL_law 614 = .ok (.iconst 0, 1) := by decide +kernel
theorem dL_law_615 : decode cL_law 615 = .ok (.ireturn, 1) := by decide +kernel
theorem dL_law_616 : decode cL_law 616 = .ok (.iload 5, 2) := by decide +kernel
theorem dL_law_618 : decode cL_law 618 = .ok (.ifCond .ne 15, 3) := by decide +kernel
theorem dL_law_621 : decode cL_law 621 = .ok (.aload_n 3, 1) := by decide +kernel
theorem dL_law_622 : decode cL_law 622 = .ok (.iconst 0, 1) := by decide +kernel
theorem dL_law_623 : decode cL_law 623 = .ok (.laload, 1) := by decide +kernel
theorem dL_law_624 : decode cL_law 624 = .ok (.iload 6, 2) := by decide +kernel
theorem dL_law_626 : decode cL_law 626 = .ok (.i2l, 1) := by decide +kernel
theorem dL_law_627 : decode cL_law 627 = .ok (.lcmp, 1) := by decide +kernel
theorem dL_law_628 : decode cL_law 628 = .ok (.ifCond .eq 5, 3) := by decide +kernel
theorem dL_law_631 : decode cL_law 631 = .ok (.iconst 0, 1) := by decide +kernel
theorem dL_law_632 : decode cL_law 632 = .ok (.ireturn, 1) := by decide +kernel
theorem dL_law_633 : decode cL_law 633 = .ok (.goto 3, 3) := by decide +kernel
theorem dL_law_636 : decode cL_law 636 = .ok (.iinc 4 7, 3) := by decide +kernel
theorem dL_law_639 : decode cL_law 639 = .ok (.goto (-616), 3) := by decide +kernel
theorem dL_law_642 : decode cL_law 642 = .ok (.iconst 1, 1) := by decide +kernel
theorem dL_law_643 : decode cL_law 643 = .ok (.ireturn, 1) := by decide +kernel
end
section
theorem oI_m1 {o : Option Nat} (h : ∀ k, o = some k → k < 2147483648) : oI o = -1 ↔ o = none := by
  cases o with
  | none => exact ⟨fun _ => rfl, fun _ => rfl⟩
  | some k =>
    refine ⟨fun e => ?_, fun e => by cases e⟩
    have h1 := h k rfl
    have h2 : (nI k).toInt = (-1 : Int32).toInt := congrArg Int32.toInt e
    rw [nI_toInt (by omega)] at h2
    have h3 : (-1 : Int32).toInt = -1 := by decide
    omega
section NV
variable {p : Program} {l : Launch} {e : Env} {R : Room} {s : State} {m : MethodId} {args : Array Value} {below : List Frame} {meth : Method} {c : Code} {H : Heap} {locs : List Loc} {cells slots : Nat} {Q : State → Prop}
variable {cc : ByteArray} {nL pc : Nat} {own : String} {x0 : Cond} {D : va_G} {tys : List (ClassId × FieldType)} {ls : Array Slot} {rest : List Value} {off : Int} {tgt a b : Nat}
theorem tpi {x y : Int32} (h : x = y) (k : W p l e R s m args below meth c H locs cells slots Q (F0 m pc ls (.int y :: rest))) : W p l e R s m args below meth c H locs cells slots Q (F0 m pc ls (.int x :: rest)) := h ▸ k
theorem tpl {x y : Int64} (h : x = y) (k : W p l e R s m args below meth c H locs cells slots Q (F0 m pc ls (.long y :: rest))) : W p l e R s m args below meth c H locs cells slots Q (F0 m pc ls (.long x :: rest)) := h ▸ k
theorem nv_iadd (E : Cx p s m args c cc nL own x0 D tys) (hd : decode cc pc = .ok (.iadd, 1)) (k : W p l e R s m args below meth c H locs cells slots Q (F0 m (pc + 1) ls (.int (nI (a + b)) :: rest))) : W p l e R s m args below meth c H locs cells slots Q (F0 m pc ls (.int (nI b) :: .int (nI a) :: rest)) := by
  refine lv_iadd E.1.1 E.1.2.1 hd ?_
  rw [nI_add]
  exact k
theorem nv_isub (h : b ≤ a) (E : Cx p s m args c cc nL own x0 D tys) (hd : decode cc pc = .ok (.isub, 1)) (k : W p l e R s m args below meth c H locs cells slots Q (F0 m (pc + 1) ls (.int (nI (a - b)) :: rest))) : W p l e R s m args below meth c H locs cells slots Q (F0 m pc ls (.int (nI b) :: .int (nI a) :: rest)) := by
  refine lv_isub E.1.1 E.1.2.1 hd ?_
  rw [pk_sub h]
  exact k
theorem nv_imul (E : Cx p s m args c cc nL own x0 D tys) (hd : decode cc pc = .ok (.imul, 1)) (k : W p l e R s m args below meth c H locs cells slots Q (F0 m (pc + 1) ls (.int (nI (a * b)) :: rest))) : W p l e R s m args below meth c H locs cells slots Q (F0 m pc ls (.int (nI b) :: .int (nI a) :: rest)) := by
  refine lv_imul E.1.1 E.1.2.1 hd ?_
  rw [pk_mul]
  exact k
theorem nv_icmp_eq (ha : a < 2147483648) (hb : b < 2147483648) (E : Cx p s m args c cc nL own x0 D tys) (hd : decode cc pc = .ok (.if_icmp .eq off, 3)) (ht : (pc : Int) + off = (tgt : Int)) (kt : a = b → W p l e R s m args below meth c H locs cells slots Q (F0 m tgt ls rest)) (kf : a ≠ b → W p l e R s m args below meth c H locs cells slots Q (F0 m (pc + 3) ls rest)) : W p l e R s m args below meth c H locs cells slots Q (F0 m pc ls (.int (nI b) :: .int (nI a) :: rest)) :=
  lv_icmp_eq E.1.1 E.1.2.1 hd ht (fun h => kt ((nI_eq ha hb).mp h)) (fun h => kf (fun z => h ((nI_eq ha hb).mpr z)))
theorem nv_icmp_ne (ha : a < 2147483648) (hb : b < 2147483648) (E : Cx p s m args c cc nL own x0 D tys) (hd : decode cc pc = .ok (.if_icmp .ne off, 3)) (ht : (pc : Int) + off = (tgt : Int)) (kt : a ≠ b → W p l e R s m args below meth c H locs cells slots Q (F0 m tgt ls rest)) (kf : a = b → W p l e R s m args below meth c H locs cells slots Q (F0 m (pc + 3) ls rest)) : W p l e R s m args below meth c H locs cells slots Q (F0 m pc ls (.int (nI b) :: .int (nI a) :: rest)) :=
  lv_icmp_ne E.1.1 E.1.2.1 hd ht (fun h => kt (fun z => h ((nI_eq ha hb).mpr z))) (fun h => kf ((nI_eq ha hb).mp h))
theorem nv_icmp_lt (ha : a < 2147483648) (hb : b < 2147483648) (E : Cx p s m args c cc nL own x0 D tys) (hd : decode cc pc = .ok (.if_icmp .lt off, 3)) (ht : (pc : Int) + off = (tgt : Int)) (kt : a < b → W p l e R s m args below meth c H locs cells slots Q (F0 m tgt ls rest)) (kf : b ≤ a → W p l e R s m args below meth c H locs cells slots Q (F0 m (pc + 3) ls rest)) : W p l e R s m args below meth c H locs cells slots Q (F0 m pc ls (.int (nI b) :: .int (nI a) :: rest)) :=
  lv_icmp_lt E.1.1 E.1.2.1 hd ht (fun h => kt ((nI_ltI ha hb).mp h)) (fun h => kf (Nat.le_of_not_lt fun z => h ((nI_ltI ha hb).mpr z)))
theorem nv_icmp_ge (ha : a < 2147483648) (hb : b < 2147483648) (E : Cx p s m args c cc nL own x0 D tys) (hd : decode cc pc = .ok (.if_icmp .ge off, 3)) (ht : (pc : Int) + off = (tgt : Int)) (kt : b ≤ a → W p l e R s m args below meth c H locs cells slots Q (F0 m tgt ls rest)) (kf : a < b → W p l e R s m args below meth c H locs cells slots Q (F0 m (pc + 3) ls rest)) : W p l e R s m args below meth c H locs cells slots Q (F0 m pc ls (.int (nI b) :: .int (nI a) :: rest)) :=
  lv_icmp_ge E.1.1 E.1.2.1 hd ht (fun h => kt ((nI_leI hb ha).mp h)) (fun h => kf (Nat.lt_of_not_le fun z => h ((nI_leI hb ha).mpr z)))
theorem nv_icmp_gt (ha : a < 2147483648) (hb : b < 2147483648) (E : Cx p s m args c cc nL own x0 D tys) (hd : decode cc pc = .ok (.if_icmp .gt off, 3)) (ht : (pc : Int) + off = (tgt : Int)) (kt : b < a → W p l e R s m args below meth c H locs cells slots Q (F0 m tgt ls rest)) (kf : a ≤ b → W p l e R s m args below meth c H locs cells slots Q (F0 m (pc + 3) ls rest)) : W p l e R s m args below meth c H locs cells slots Q (F0 m pc ls (.int (nI b) :: .int (nI a) :: rest)) :=
  lv_icmp_gt E.1.1 E.1.2.1 hd ht (fun h => kt ((nI_ltI hb ha).mp h)) (fun h => kf (Nat.le_of_not_lt fun z => h ((nI_ltI hb ha).mpr z)))
theorem nv_icmp_le (ha : a < 2147483648) (hb : b < 2147483648) (E : Cx p s m args c cc nL own x0 D tys) (hd : decode cc pc = .ok (.if_icmp .le off, 3)) (ht : (pc : Int) + off = (tgt : Int)) (kt : a ≤ b → W p l e R s m args below meth c H locs cells slots Q (F0 m tgt ls rest)) (kf : b < a → W p l e R s m args below meth c H locs cells slots Q (F0 m (pc + 3) ls rest)) : W p l e R s m args below meth c H locs cells slots Q (F0 m pc ls (.int (nI b) :: .int (nI a) :: rest)) :=
  lv_icmp_le E.1.1 E.1.2.1 hd ht (fun h => kt ((nI_leI ha hb).mp h)) (fun h => kf (Nat.lt_of_not_le fun z => h ((nI_leI ha hb).mpr z)))
theorem nI_z {n : Nat} (h : n < 2147483648) : nI n = 0 ↔ n = 0 := by
  rw [← nI_0]
  exact nI_eq h (by decide)
theorem nv_if_eq (ha : a < 2147483648) (E : Cx p s m args c cc nL own x0 D tys) (hd : decode cc pc = .ok (.ifCond .eq off, 3)) (ht : (pc : Int) + off = (tgt : Int)) (kt : a = 0 → W p l e R s m args below meth c H locs cells slots Q (F0 m tgt ls rest)) (kf : 0 < a → W p l e R s m args below meth c H locs cells slots Q (F0 m (pc + 3) ls rest)) : W p l e R s m args below meth c H locs cells slots Q (F0 m pc ls (.int (nI a) :: rest)) :=
  lv_if_eq E.1.1 E.1.2.1 hd ht (fun h => kt ((nI_z ha).mp h)) (fun h => kf (Nat.pos_of_ne_zero fun z => h ((nI_z ha).mpr z)))
theorem nv_if_ne (ha : a < 2147483648) (E : Cx p s m args c cc nL own x0 D tys) (hd : decode cc pc = .ok (.ifCond .ne off, 3)) (ht : (pc : Int) + off = (tgt : Int)) (kt : 0 < a → W p l e R s m args below meth c H locs cells slots Q (F0 m tgt ls rest)) (kf : a = 0 → W p l e R s m args below meth c H locs cells slots Q (F0 m (pc + 3) ls rest)) : W p l e R s m args below meth c H locs cells slots Q (F0 m pc ls (.int (nI a) :: rest)) :=
  lv_if_ne E.1.1 E.1.2.1 hd ht (fun h => kt (Nat.pos_of_ne_zero fun z => h ((nI_z ha).mpr z))) (fun h => kf ((nI_z ha).mp h))
theorem nI_le0 {n : Nat} (h : n < 2147483648) : nI n ≤ 0 ↔ n = 0 := by
  have h1 := nI_leI (a := n) (b := 0) h (by decide)
  rw [nI_0] at h1
  rw [h1]
  omega
theorem nI_gt0 {n : Nat} (h : n < 2147483648) : 0 < nI n ↔ 0 < n := by
  have h1 := nI_ltI (a := 0) (b := n) (by decide) h
  rw [nI_0] at h1
  exact h1
theorem nv_if_le (ha : a < 2147483648) (E : Cx p s m args c cc nL own x0 D tys) (hd : decode cc pc = .ok (.ifCond .le off, 3)) (ht : (pc : Int) + off = (tgt : Int)) (kt : a = 0 → W p l e R s m args below meth c H locs cells slots Q (F0 m tgt ls rest)) (kf : 0 < a → W p l e R s m args below meth c H locs cells slots Q (F0 m (pc + 3) ls rest)) : W p l e R s m args below meth c H locs cells slots Q (F0 m pc ls (.int (nI a) :: rest)) :=
  lv_if_le E.1.1 E.1.2.1 hd ht (fun h => kt ((nI_le0 ha).mp h)) (fun h => kf (Nat.pos_of_ne_zero fun z => h ((nI_le0 ha).mpr z)))
theorem nv_if_gt (ha : a < 2147483648) (E : Cx p s m args c cc nL own x0 D tys) (hd : decode cc pc = .ok (.ifCond .gt off, 3)) (ht : (pc : Int) + off = (tgt : Int)) (kt : 0 < a → W p l e R s m args below meth c H locs cells slots Q (F0 m tgt ls rest)) (kf : a = 0 → W p l e R s m args below meth c H locs cells slots Q (F0 m (pc + 3) ls rest)) : W p l e R s m args below meth c H locs cells slots Q (F0 m pc ls (.int (nI a) :: rest)) :=
  lv_if_gt E.1.1 E.1.2.1 hd ht (fun h => kt ((nI_gt0 ha).mp h)) (fun h => kf (Nat.eq_zero_of_not_pos fun z => h ((nI_gt0 ha).mpr z)))
theorem nv_if_lt (ha : a < 2147483648) (E : Cx p s m args c cc nL own x0 D tys) (hd : decode cc pc = .ok (.ifCond .lt off, 3)) (ht : (pc : Int) + off = (tgt : Int)) (kf : W p l e R s m args below meth c H locs cells slots Q (F0 m (pc + 3) ls rest)) : W p l e R s m args below meth c H locs cells slots Q (F0 m pc ls (.int (nI a) :: rest)) :=
  lv_if_lt E.1.1 E.1.2.1 hd ht (fun h => absurd h (nI_pos ha)) (fun _ => kf)
theorem nv_if_ge (ha : a < 2147483648) (E : Cx p s m args c cc nL own x0 D tys) (hd : decode cc pc = .ok (.ifCond .ge off, 3)) (ht : (pc : Int) + off = (tgt : Int)) (kt : W p l e R s m args below meth c H locs cells slots Q (F0 m tgt ls rest)) : W p l e R s m args below meth c H locs cells slots Q (F0 m pc ls (.int (nI a) :: rest)) :=
  lv_if_ge E.1.1 E.1.2.1 hd ht (fun _ => kt) (fun h => absurd (nI_pos' ha) h)
theorem bv_if_eq {x : Bool} (E : Cx p s m args c cc nL own x0 D tys) (hd : decode cc pc = .ok (.ifCond .eq off, 3)) (ht : (pc : Int) + off = (tgt : Int)) (kt : x = false → W p l e R s m args below meth c H locs cells slots Q (F0 m tgt ls rest)) (kf : x = true → W p l e R s m args below meth c H locs cells slots Q (F0 m (pc + 3) ls rest)) : W p l e R s m args below meth c H locs cells slots Q (F0 m pc ls (.int (bI x) :: rest)) :=
  lv_if_eq E.1.1 E.1.2.1 hd ht (fun h => kt (by cases x with | false => rfl | true => exact absurd h (by decide))) (fun h => kf (by cases x with | true => rfl | false => exact absurd rfl h))
theorem bv_if_ne {x : Bool} (E : Cx p s m args c cc nL own x0 D tys) (hd : decode cc pc = .ok (.ifCond .ne off, 3)) (ht : (pc : Int) + off = (tgt : Int)) (kt : x = true → W p l e R s m args below meth c H locs cells slots Q (F0 m tgt ls rest)) (kf : x = false → W p l e R s m args below meth c H locs cells slots Q (F0 m (pc + 3) ls rest)) : W p l e R s m args below meth c H locs cells slots Q (F0 m pc ls (.int (bI x) :: rest)) :=
  lv_if_ne E.1.1 E.1.2.1 hd ht (fun h => kt (by cases x with | true => rfl | false => exact absurd rfl h)) (fun h => kf (by cases x with | false => rfl | true => exact absurd h (by decide)))
theorem ov_m1_eq {o : Option Nat} (ho : ∀ k, o = some k → k < 2147483648) (E : Cx p s m args c cc nL own x0 D tys) (hd : decode cc pc = .ok (.if_icmp .eq off, 3)) (ht : (pc : Int) + off = (tgt : Int)) (kt : o = none → W p l e R s m args below meth c H locs cells slots Q (F0 m tgt ls rest)) (kf : ∀ k, o = some k → W p l e R s m args below meth c H locs cells slots Q (F0 m (pc + 3) ls rest)) : W p l e R s m args below meth c H locs cells slots Q (F0 m pc ls (.int (-1) :: .int (oI o) :: rest)) :=
  lv_icmp_eq E.1.1 E.1.2.1 hd ht (fun h => kt ((oI_m1 ho).mp h)) (fun h => by
    cases o with
    | none => exact absurd rfl h
    | some k => exact kf k rfl)
theorem ov_m1_ne {o : Option Nat} (ho : ∀ k, o = some k → k < 2147483648) (E : Cx p s m args c cc nL own x0 D tys) (hd : decode cc pc = .ok (.if_icmp .ne off, 3)) (ht : (pc : Int) + off = (tgt : Int)) (kt : ∀ k, o = some k → W p l e R s m args below meth c H locs cells slots Q (F0 m tgt ls rest)) (kf : o = none → W p l e R s m args below meth c H locs cells slots Q (F0 m (pc + 3) ls rest)) : W p l e R s m args below meth c H locs cells slots Q (F0 m pc ls (.int (-1) :: .int (oI o) :: rest)) :=
  lv_icmp_ne E.1.1 E.1.2.1 hd ht (fun h => by
    cases o with
    | none => exact absurd rfl h
    | some k => exact kt k rfl) (fun h => kf ((oI_m1 ho).mp h))
theorem ov_lt0 {o : Option Nat} (ho : ∀ k, o = some k → k < 2147483648) (E : Cx p s m args c cc nL own x0 D tys) (hd : decode cc pc = .ok (.ifCond .lt off, 3)) (ht : (pc : Int) + off = (tgt : Int)) (kt : o = none → W p l e R s m args below meth c H locs cells slots Q (F0 m tgt ls rest)) (kf : ∀ k, o = some k → W p l e R s m args below meth c H locs cells slots Q (F0 m (pc + 3) ls rest)) : W p l e R s m args below meth c H locs cells slots Q (F0 m pc ls (.int (oI o) :: rest)) := by
  cases o with
  | none => exact lv_if_lt E.1.1 E.1.2.1 hd ht (fun _ => kt rfl) (fun h => absurd (by decide : (-1 : Int32) < 0) h)
  | some k => exact lv_if_lt E.1.1 E.1.2.1 hd ht (fun h => absurd h (nI_pos (ho k rfl))) (fun _ => kf k rfl)
theorem ov_ge0 {o : Option Nat} (ho : ∀ k, o = some k → k < 2147483648) (E : Cx p s m args c cc nL own x0 D tys) (hd : decode cc pc = .ok (.ifCond .ge off, 3)) (ht : (pc : Int) + off = (tgt : Int)) (kt : ∀ k, o = some k → W p l e R s m args below meth c H locs cells slots Q (F0 m tgt ls rest)) (kf : o = none → W p l e R s m args below meth c H locs cells slots Q (F0 m (pc + 3) ls rest)) : W p l e R s m args below meth c H locs cells slots Q (F0 m pc ls (.int (oI o) :: rest)) := by
  cases o with
  | none => exact lv_if_ge E.1.1 E.1.2.1 hd ht (fun h => absurd h (by decide)) (fun _ => kf rfl)
  | some k => exact lv_if_ge E.1.1 E.1.2.1 hd ht (fun _ => kt k rfl) (fun h => absurd (nI_pos' (ho k rfl)) h)
end NV
end
section
section CMW
variable {p : Program} {l : Launch} {e : Env} {R : Room} {s : State} {m : MethodId} {args : Array Value} {below : List Frame} {meth : Method} {c : Code} {H : Heap} {locs : List Loc} {cells slots : Nat} {Q : State → Prop}
variable {cc cd : ByteArray} {nL nLy n idx pc : Nat} {own C : String} {x0 : Cond} {D : va_G} {tys : List (ClassId × FieldType)} {w0 w1 : va_W} {r : Option Value} {A : Nat → Prop} {ls : Array Slot} {rest : List Value} {y : MethodName} {ret : Option FieldType} {lev : Nat} {H0 : Heap} {st0 : List Value}
theorem CM.callVi {v : Int32} {b : Nat} {As : List Value} {T : u_T} {N ci : Nat} {fs : List Value} (E : Cx p s m args c cc nL own x0 D tys) (hM : CM l D tys y cd nLy ret lev (.ref b :: As) w0 (some (.int v)) w1)
    (hl : Cond.methodLink own idx y ∈ G) (hi : Cond.instanceMethod y ∈ G) (hse : Cond.selects C y y ∈ G) (hin : Cond.initialized C ∈ G) (hco : Cond.code y cd nLy ret ∈ G)
    (hd0 : y.cls = C ∧ y.cls ≠ "java/lang/invoke/MethodHandle" ∧ y.cls ≠ "java/lang/invoke/VarHandle" ∧ (parseMethodDescriptor y.desc).map (fun d => d.parameters.length) = some n)
    (hR : lev + 1 ≤ R.frames ∧ 8 + (nLy + 11) + 40 * lev ≤ R.locals) (hcs : cells ≤ R.cells ∧ slots ≤ R.slots) (q0 : Nat) (he : w0[q0]? = some (b, .inr (ci, fs))) (hc : vwCl[ci]? = some (C, T, N))
    (hP : va_P D vwCl w0 H) (hD : va_D A w0) (hS : va_S A H0 H locs) (hA : ∀ q : Nat, H0.size ≤ q → A q) (hn : As.length = n) (hsz : ls.size = nL) (hw : (rest.map fun v => v.category).sum ≤ 8) (hdg : decode cc pc = .ok (.invokevirtual idx, 3)) (hst : st0 = As.reverse ++ .ref b :: rest)
    (kk : ∀ (H1 : Heap) (locs1 : List Loc), va_P D vwCl w1 H1 → va_S A H0 H1 locs1 → W p l e R s m args below meth c H1 locs1 cells slots Q (F0 m (pc + 3) ls (.int v :: rest))) : W p l e R s m args below meth c H locs cells slots Q (F0 m pc ls st0) :=
  CM.callV E hM hl hi hse hin hco hd0 hR hcs q0 he hc hP hD hS hA hn hsz hw hdg hst kk
theorem CM.callVl {v : Int64} {b : Nat} {As : List Value} {T : u_T} {N ci : Nat} {fs : List Value} (E : Cx p s m args c cc nL own x0 D tys) (hM : CM l D tys y cd nLy ret lev (.ref b :: As) w0 (some (.long v)) w1)
    (hl : Cond.methodLink own idx y ∈ G) (hi : Cond.instanceMethod y ∈ G) (hse : Cond.selects C y y ∈ G) (hin : Cond.initialized C ∈ G) (hco : Cond.code y cd nLy ret ∈ G)
    (hd0 : y.cls = C ∧ y.cls ≠ "java/lang/invoke/MethodHandle" ∧ y.cls ≠ "java/lang/invoke/VarHandle" ∧ (parseMethodDescriptor y.desc).map (fun d => d.parameters.length) = some n)
    (hR : lev + 1 ≤ R.frames ∧ 8 + (nLy + 11) + 40 * lev ≤ R.locals) (hcs : cells ≤ R.cells ∧ slots ≤ R.slots) (q0 : Nat) (he : w0[q0]? = some (b, .inr (ci, fs))) (hc : vwCl[ci]? = some (C, T, N))
    (hP : va_P D vwCl w0 H) (hD : va_D A w0) (hS : va_S A H0 H locs) (hA : ∀ q : Nat, H0.size ≤ q → A q) (hn : As.length = n) (hsz : ls.size = nL) (hw : (rest.map fun v => v.category).sum ≤ 8) (hdg : decode cc pc = .ok (.invokevirtual idx, 3)) (hst : st0 = As.reverse ++ .ref b :: rest)
    (kk : ∀ (H1 : Heap) (locs1 : List Loc), va_P D vwCl w1 H1 → va_S A H0 H1 locs1 → W p l e R s m args below meth c H1 locs1 cells slots Q (F0 m (pc + 3) ls (.long v :: rest))) : W p l e R s m args below meth c H locs cells slots Q (F0 m pc ls st0) :=
  CM.callV E hM hl hi hse hin hco hd0 hR hcs q0 he hc hP hD hS hA hn hsz hw hdg hst kk
theorem CM.callVv {b : Nat} {As : List Value} {T : u_T} {N ci : Nat} {fs : List Value} (E : Cx p s m args c cc nL own x0 D tys) (hM : CM l D tys y cd nLy ret lev (.ref b :: As) w0 none w1)
    (hl : Cond.methodLink own idx y ∈ G) (hi : Cond.instanceMethod y ∈ G) (hse : Cond.selects C y y ∈ G) (hin : Cond.initialized C ∈ G) (hco : Cond.code y cd nLy ret ∈ G)
    (hd0 : y.cls = C ∧ y.cls ≠ "java/lang/invoke/MethodHandle" ∧ y.cls ≠ "java/lang/invoke/VarHandle" ∧ (parseMethodDescriptor y.desc).map (fun d => d.parameters.length) = some n)
    (hR : lev + 1 ≤ R.frames ∧ 8 + (nLy + 11) + 40 * lev ≤ R.locals) (hcs : cells ≤ R.cells ∧ slots ≤ R.slots) (q0 : Nat) (he : w0[q0]? = some (b, .inr (ci, fs))) (hc : vwCl[ci]? = some (C, T, N))
    (hP : va_P D vwCl w0 H) (hD : va_D A w0) (hS : va_S A H0 H locs) (hA : ∀ q : Nat, H0.size ≤ q → A q) (hn : As.length = n) (hsz : ls.size = nL) (hw : (rest.map fun v => v.category).sum ≤ 8) (hdg : decode cc pc = .ok (.invokevirtual idx, 3)) (hst : st0 = As.reverse ++ .ref b :: rest)
    (kk : ∀ (H1 : Heap) (locs1 : List Loc), va_P D vwCl w1 H1 → va_S A H0 H1 locs1 → W p l e R s m args below meth c H1 locs1 cells slots Q (F0 m (pc + 3) ls (rest))) : W p l e R s m args below meth c H locs cells slots Q (F0 m pc ls st0) :=
  CM.callV E hM hl hi hse hin hco hd0 hR hcs q0 he hc hP hD hS hA hn hsz hw hdg hst kk
theorem CM.callSi {v : Int32} {As : List Value} (E : Cx p s m args c cc nL own x0 D tys) (hM : CM l D tys y cd nLy ret lev As w0 (some (.int v)) w1)
    (hl : Cond.methodLink own idx y ∈ G) (hs : Cond.static y ∈ G) (hin : Cond.initialized y.cls ∈ G) (hco : Cond.code y cd nLy ret ∈ G)
    (hd0 : y.cls ≠ "java/lang/invoke/MethodHandle" ∧ y.cls ≠ "java/lang/invoke/VarHandle" ∧ (parseMethodDescriptor y.desc).map (fun d => d.parameters.length) = some n)
    (hR : lev + 1 ≤ R.frames ∧ 8 + (nLy + 11) + 40 * lev ≤ R.locals) (hcs : cells ≤ R.cells ∧ slots ≤ R.slots)
    (hP : va_P D vwCl w0 H) (hD : va_D A w0) (hS : va_S A H0 H locs) (hA : ∀ q : Nat, H0.size ≤ q → A q) (hn : As.length = n) (hsz : ls.size = nL) (hw : (rest.map fun v => v.category).sum ≤ 8) (hdg : decode cc pc = .ok (.invokestatic idx, 3)) (hst : st0 = As.reverse ++ rest)
    (kk : ∀ (H1 : Heap) (locs1 : List Loc), va_P D vwCl w1 H1 → va_S A H0 H1 locs1 → W p l e R s m args below meth c H1 locs1 cells slots Q (F0 m (pc + 3) ls (.int v :: rest))) : W p l e R s m args below meth c H locs cells slots Q (F0 m pc ls st0) :=
  CM.callS E hM hl hs hin hco hd0 hR hcs hP hD hS hA hn hsz hw hdg hst kk
theorem CM.callSl {v : Int64} {As : List Value} (E : Cx p s m args c cc nL own x0 D tys) (hM : CM l D tys y cd nLy ret lev As w0 (some (.long v)) w1)
    (hl : Cond.methodLink own idx y ∈ G) (hs : Cond.static y ∈ G) (hin : Cond.initialized y.cls ∈ G) (hco : Cond.code y cd nLy ret ∈ G)
    (hd0 : y.cls ≠ "java/lang/invoke/MethodHandle" ∧ y.cls ≠ "java/lang/invoke/VarHandle" ∧ (parseMethodDescriptor y.desc).map (fun d => d.parameters.length) = some n)
    (hR : lev + 1 ≤ R.frames ∧ 8 + (nLy + 11) + 40 * lev ≤ R.locals) (hcs : cells ≤ R.cells ∧ slots ≤ R.slots)
    (hP : va_P D vwCl w0 H) (hD : va_D A w0) (hS : va_S A H0 H locs) (hA : ∀ q : Nat, H0.size ≤ q → A q) (hn : As.length = n) (hsz : ls.size = nL) (hw : (rest.map fun v => v.category).sum ≤ 8) (hdg : decode cc pc = .ok (.invokestatic idx, 3)) (hst : st0 = As.reverse ++ rest)
    (kk : ∀ (H1 : Heap) (locs1 : List Loc), va_P D vwCl w1 H1 → va_S A H0 H1 locs1 → W p l e R s m args below meth c H1 locs1 cells slots Q (F0 m (pc + 3) ls (.long v :: rest))) : W p l e R s m args below meth c H locs cells slots Q (F0 m pc ls st0) :=
  CM.callS E hM hl hs hin hco hd0 hR hcs hP hD hS hA hn hsz hw hdg hst kk
theorem CM.callSv {As : List Value} (E : Cx p s m args c cc nL own x0 D tys) (hM : CM l D tys y cd nLy ret lev As w0 none w1)
    (hl : Cond.methodLink own idx y ∈ G) (hs : Cond.static y ∈ G) (hin : Cond.initialized y.cls ∈ G) (hco : Cond.code y cd nLy ret ∈ G)
    (hd0 : y.cls ≠ "java/lang/invoke/MethodHandle" ∧ y.cls ≠ "java/lang/invoke/VarHandle" ∧ (parseMethodDescriptor y.desc).map (fun d => d.parameters.length) = some n)
    (hR : lev + 1 ≤ R.frames ∧ 8 + (nLy + 11) + 40 * lev ≤ R.locals) (hcs : cells ≤ R.cells ∧ slots ≤ R.slots)
    (hP : va_P D vwCl w0 H) (hD : va_D A w0) (hS : va_S A H0 H locs) (hA : ∀ q : Nat, H0.size ≤ q → A q) (hn : As.length = n) (hsz : ls.size = nL) (hw : (rest.map fun v => v.category).sum ≤ 8) (hdg : decode cc pc = .ok (.invokestatic idx, 3)) (hst : st0 = As.reverse ++ rest)
    (kk : ∀ (H1 : Heap) (locs1 : List Loc), va_P D vwCl w1 H1 → va_S A H0 H1 locs1 → W p l e R s m args below meth c H1 locs1 cells slots Q (F0 m (pc + 3) ls (rest))) : W p l e R s m args below meth c H locs cells slots Q (F0 m pc ls st0) :=
  CM.callS E hM hl hs hin hco hd0 hR hcs hP hD hS hA hn hsz hw hdg hst kk
end CMW
theorem hd_X0_tally : yX0_tally.cls = RX0 ∧ yX0_tally.cls ≠ "java/lang/invoke/MethodHandle" ∧ yX0_tally.cls ≠ "java/lang/invoke/VarHandle" ∧ (parseMethodDescriptor yX0_tally.desc).map (fun d => d.parameters.length) = some 1 := by decide +kernel
theorem hd_X0_valuePutOut : yX0_valuePutOut.cls = RX0 ∧ yX0_valuePutOut.cls ≠ "java/lang/invoke/MethodHandle" ∧ yX0_valuePutOut.cls ≠ "java/lang/invoke/VarHandle" ∧ (parseMethodDescriptor yX0_valuePutOut.desc).map (fun d => d.parameters.length) = some 1 := by decide +kernel
theorem hd_X0_execute : yX0_execute.cls = RX0 ∧ yX0_execute.cls ≠ "java/lang/invoke/MethodHandle" ∧ yX0_execute.cls ≠ "java/lang/invoke/VarHandle" ∧ (parseMethodDescriptor yX0_execute.desc).map (fun d => d.parameters.length) = some 2 := by decide +kernel
theorem hd_X0_begin : yX0_begin.cls = RX0 ∧ yX0_begin.cls ≠ "java/lang/invoke/MethodHandle" ∧ yX0_begin.cls ≠ "java/lang/invoke/VarHandle" ∧ (parseMethodDescriptor yX0_begin.desc).map (fun d => d.parameters.length) = some 0 := by decide +kernel
theorem hd_X0_isGoing : yX0_isGoing.cls = RX0 ∧ yX0_isGoing.cls ≠ "java/lang/invoke/MethodHandle" ∧ yX0_isGoing.cls ≠ "java/lang/invoke/VarHandle" ∧ (parseMethodDescriptor yX0_isGoing.desc).map (fun d => d.parameters.length) = some 0 := by decide +kernel
theorem hd_X0_isBehindLast : yX0_isBehindLast.cls = RX0 ∧ yX0_isBehindLast.cls ≠ "java/lang/invoke/MethodHandle" ∧ yX0_isBehindLast.cls ≠ "java/lang/invoke/VarHandle" ∧ (parseMethodDescriptor yX0_isBehindLast.desc).map (fun d => d.parameters.length) = some 1 := by decide +kernel
theorem hd_X0_step : yX0_step.cls = RX0 ∧ yX0_step.cls ≠ "java/lang/invoke/MethodHandle" ∧ yX0_step.cls ≠ "java/lang/invoke/VarHandle" ∧ (parseMethodDescriptor yX0_step.desc).map (fun d => d.parameters.length) = some 0 := by decide +kernel
theorem hd_X0_perform : yX0_perform.cls = RX0 ∧ yX0_perform.cls ≠ "java/lang/invoke/MethodHandle" ∧ yX0_perform.cls ≠ "java/lang/invoke/VarHandle" ∧ (parseMethodDescriptor yX0_perform.desc).map (fun d => d.parameters.length) = some 2 := by decide +kernel
theorem hd_X0_isObject : yX0_isObject.cls ≠ "java/lang/invoke/MethodHandle" ∧ yX0_isObject.cls ≠ "java/lang/invoke/VarHandle" ∧ (parseMethodDescriptor yX0_isObject.desc).map (fun d => d.parameters.length) = some 1 := by decide +kernel
theorem hd_X0_objectOf : yX0_objectOf.cls ≠ "java/lang/invoke/MethodHandle" ∧ yX0_objectOf.cls ≠ "java/lang/invoke/VarHandle" ∧ (parseMethodDescriptor yX0_objectOf.desc).map (fun d => d.parameters.length) = some 1 := by decide +kernel
theorem hd_X0_reckon : yX0_reckon.cls = RX0 ∧ yX0_reckon.cls ≠ "java/lang/invoke/MethodHandle" ∧ yX0_reckon.cls ≠ "java/lang/invoke/VarHandle" ∧ (parseMethodDescriptor yX0_reckon.desc).map (fun d => d.parameters.length) = some 2 := by decide +kernel
theorem hd_X0_make : yX0_make.cls = RX0 ∧ yX0_make.cls ≠ "java/lang/invoke/MethodHandle" ∧ yX0_make.cls ≠ "java/lang/invoke/VarHandle" ∧ (parseMethodDescriptor yX0_make.desc).map (fun d => d.parameters.length) = some 2 := by decide +kernel
theorem hd_X0_newObject : yX0_newObject.cls = RX0 ∧ yX0_newObject.cls ≠ "java/lang/invoke/MethodHandle" ∧ yX0_newObject.cls ≠ "java/lang/invoke/VarHandle" ∧ (parseMethodDescriptor yX0_newObject.desc).map (fun d => d.parameters.length) = some 1 := by decide +kernel
theorem hd_X0_readField : yX0_readField.cls = RX0 ∧ yX0_readField.cls ≠ "java/lang/invoke/MethodHandle" ∧ yX0_readField.cls ≠ "java/lang/invoke/VarHandle" ∧ (parseMethodDescriptor yX0_readField.desc).map (fun d => d.parameters.length) = some 2 := by decide +kernel
theorem hd_X0_writeField : yX0_writeField.cls = RX0 ∧ yX0_writeField.cls ≠ "java/lang/invoke/MethodHandle" ∧ yX0_writeField.cls ≠ "java/lang/invoke/VarHandle" ∧ (parseMethodDescriptor yX0_writeField.desc).map (fun d => d.parameters.length) = some 2 := by decide +kernel
theorem hd_X0_send : yX0_send.cls = RX0 ∧ yX0_send.cls ≠ "java/lang/invoke/MethodHandle" ∧ yX0_send.cls ≠ "java/lang/invoke/VarHandle" ∧ (parseMethodDescriptor yX0_send.desc).map (fun d => d.parameters.length) = some 2 := by decide +kernel
theorem hd_X0_countCall : yX0_countCall.cls = RX0 ∧ yX0_countCall.cls ≠ "java/lang/invoke/MethodHandle" ∧ yX0_countCall.cls ≠ "java/lang/invoke/VarHandle" ∧ (parseMethodDescriptor yX0_countCall.desc).map (fun d => d.parameters.length) = some 1 := by decide +kernel
theorem hd_X0_enter : yX0_enter.cls = RX0 ∧ yX0_enter.cls ≠ "java/lang/invoke/MethodHandle" ∧ yX0_enter.cls ≠ "java/lang/invoke/VarHandle" ∧ (parseMethodDescriptor yX0_enter.desc).map (fun d => d.parameters.length) = some 3 := by decide +kernel
theorem hd_X0_answer : yX0_answer.cls = RX0 ∧ yX0_answer.cls ≠ "java/lang/invoke/MethodHandle" ∧ yX0_answer.cls ≠ "java/lang/invoke/VarHandle" ∧ (parseMethodDescriptor yX0_answer.desc).map (fun d => d.parameters.length) = some 1 := by decide +kernel
theorem hd_X0_print : yX0_print.cls = RX0 ∧ yX0_print.cls ≠ "java/lang/invoke/MethodHandle" ∧ yX0_print.cls ≠ "java/lang/invoke/VarHandle" ∧ (parseMethodDescriptor yX0_print.desc).map (fun d => d.parameters.length) = some 1 := by decide +kernel
theorem hd_X0_checkClass : yX0_checkClass.cls = RX0 ∧ yX0_checkClass.cls ≠ "java/lang/invoke/MethodHandle" ∧ yX0_checkClass.cls ≠ "java/lang/invoke/VarHandle" ∧ (parseMethodDescriptor yX0_checkClass.desc).map (fun d => d.parameters.length) = some 2 := by decide +kernel
theorem hd_X1_bodyOf : yX1_bodyOf.cls ≠ "java/lang/invoke/MethodHandle" ∧ yX1_bodyOf.cls ≠ "java/lang/invoke/VarHandle" ∧ (parseMethodDescriptor yX1_bodyOf.desc).map (fun d => d.parameters.length) = some 2 := by decide +kernel
theorem hd_X1_placeOf : yX1_placeOf.cls ≠ "java/lang/invoke/MethodHandle" ∧ yX1_placeOf.cls ≠ "java/lang/invoke/VarHandle" ∧ (parseMethodDescriptor yX1_placeOf.desc).map (fun d => d.parameters.length) = some 2 := by decide +kernel
theorem hd_X1_isWellFormed : yX1_isWellFormed.cls ≠ "java/lang/invoke/MethodHandle" ∧ yX1_isWellFormed.cls ≠ "java/lang/invoke/VarHandle" ∧ (parseMethodDescriptor yX1_isWellFormed.desc).map (fun d => d.parameters.length) = some 4 := by decide +kernel
theorem hd_X1_isWithin : yX1_isWithin.cls ≠ "java/lang/invoke/MethodHandle" ∧ yX1_isWithin.cls ≠ "java/lang/invoke/VarHandle" ∧ (parseMethodDescriptor yX1_isWithin.desc).map (fun d => d.parameters.length) = some 2 := by decide +kernel
theorem hd_X1_hasClass : yX1_hasClass.cls = RX1 ∧ yX1_hasClass.cls ≠ "java/lang/invoke/MethodHandle" ∧ yX1_hasClass.cls ≠ "java/lang/invoke/VarHandle" ∧ (parseMethodDescriptor yX1_hasClass.desc).map (fun d => d.parameters.length) = some 1 := by decide +kernel
theorem hd_X1_hasPlaceFor : yX1_hasPlaceFor.cls = RX1 ∧ yX1_hasPlaceFor.cls ≠ "java/lang/invoke/MethodHandle" ∧ yX1_hasPlaceFor.cls ≠ "java/lang/invoke/VarHandle" ∧ (parseMethodDescriptor yX1_hasPlaceFor.desc).map (fun d => d.parameters.length) = some 2 := by decide +kernel
theorem hd_X1_isFullOfClasses : yX1_isFullOfClasses.cls = RX1 ∧ yX1_isFullOfClasses.cls ≠ "java/lang/invoke/MethodHandle" ∧ yX1_isFullOfClasses.cls ≠ "java/lang/invoke/VarHandle" ∧ (parseMethodDescriptor yX1_isFullOfClasses.desc).map (fun d => d.parameters.length) = some 0 := by decide +kernel
theorem hd_X1_addClass : yX1_addClass.cls = RX1 ∧ yX1_addClass.cls ≠ "java/lang/invoke/MethodHandle" ∧ yX1_addClass.cls ≠ "java/lang/invoke/VarHandle" ∧ (parseMethodDescriptor yX1_addClass.desc).map (fun d => d.parameters.length) = some 1 := by decide +kernel
theorem hd_X1_isFull : yX1_isFull.cls = RX1 ∧ yX1_isFull.cls ≠ "java/lang/invoke/MethodHandle" ∧ yX1_isFull.cls ≠ "java/lang/invoke/VarHandle" ∧ (parseMethodDescriptor yX1_isFull.desc).map (fun d => d.parameters.length) = some 1 := by decide +kernel
theorem hd_X1_append : yX1_append.cls = RX1 ∧ yX1_append.cls ≠ "java/lang/invoke/MethodHandle" ∧ yX1_append.cls ≠ "java/lang/invoke/VarHandle" ∧ (parseMethodDescriptor yX1_append.desc).map (fun d => d.parameters.length) = some 5 := by decide +kernel
theorem hd_X1_empty : yX1_empty.cls = RX1 ∧ yX1_empty.cls ≠ "java/lang/invoke/MethodHandle" ∧ yX1_empty.cls ≠ "java/lang/invoke/VarHandle" ∧ (parseMethodDescriptor yX1_empty.desc).map (fun d => d.parameters.length) = some 1 := by decide +kernel
theorem hd_X1_length : yX1_length.cls = RX1 ∧ yX1_length.cls ≠ "java/lang/invoke/MethodHandle" ∧ yX1_length.cls ≠ "java/lang/invoke/VarHandle" ∧ (parseMethodDescriptor yX1_length.desc).map (fun d => d.parameters.length) = some 1 := by decide +kernel
theorem hd_X1_kind : yX1_kind.cls = RX1 ∧ yX1_kind.cls ≠ "java/lang/invoke/MethodHandle" ∧ yX1_kind.cls ≠ "java/lang/invoke/VarHandle" ∧ (parseMethodDescriptor yX1_kind.desc).map (fun d => d.parameters.length) = some 1 := by decide +kernel
theorem hd_X1_x : yX1_x.cls = RX1 ∧ yX1_x.cls ≠ "java/lang/invoke/MethodHandle" ∧ yX1_x.cls ≠ "java/lang/invoke/VarHandle" ∧ (parseMethodDescriptor yX1_x.desc).map (fun d => d.parameters.length) = some 1 := by decide +kernel
theorem hd_X1_y : yX1_y.cls = RX1 ∧ yX1_y.cls ≠ "java/lang/invoke/MethodHandle" ∧ yX1_y.cls ≠ "java/lang/invoke/VarHandle" ∧ (parseMethodDescriptor yX1_y.desc).map (fun d => d.parameters.length) = some 1 := by decide +kernel
theorem hd_X1_z : yX1_z.cls = RX1 ∧ yX1_z.cls ≠ "java/lang/invoke/MethodHandle" ∧ yX1_z.cls ≠ "java/lang/invoke/VarHandle" ∧ (parseMethodDescriptor yX1_z.desc).map (fun d => d.parameters.length) = some 1 := by decide +kernel
theorem hd_X1_target : yX1_target.cls = RX1 ∧ yX1_target.cls ≠ "java/lang/invoke/MethodHandle" ∧ yX1_target.cls ≠ "java/lang/invoke/VarHandle" ∧ (parseMethodDescriptor yX1_target.desc).map (fun d => d.parameters.length) = some 2 := by decide +kernel
theorem hd_X1_classIs : yX1_classIs.cls = RX1 ∧ yX1_classIs.cls ≠ "java/lang/invoke/MethodHandle" ∧ yX1_classIs.cls ≠ "java/lang/invoke/VarHandle" ∧ (parseMethodDescriptor yX1_classIs.desc).map (fun d => d.parameters.length) = some 2 := by decide +kernel
theorem hd_X1_fitsInPlace : yX1_fitsInPlace.cls = RX1 ∧ yX1_fitsInPlace.cls ≠ "java/lang/invoke/MethodHandle" ∧ yX1_fitsInPlace.cls ≠ "java/lang/invoke/VarHandle" ∧ (parseMethodDescriptor yX1_fitsInPlace.desc).map (fun d => d.parameters.length) = some 1 := by decide +kernel
theorem hd_X2_isIn : yX2_isIn.cls ≠ "java/lang/invoke/MethodHandle" ∧ yX2_isIn.cls ≠ "java/lang/invoke/VarHandle" ∧ (parseMethodDescriptor yX2_isIn.desc).map (fun d => d.parameters.length) = some 2 := by decide +kernel
theorem hd_X2_bits : yX2_bits.cls = RX2 ∧ yX2_bits.cls ≠ "java/lang/invoke/MethodHandle" ∧ yX2_bits.cls ≠ "java/lang/invoke/VarHandle" ∧ (parseMethodDescriptor yX2_bits.desc).map (fun d => d.parameters.length) = some 0 := by decide +kernel
theorem hd_X2_verdictAt : yX2_verdictAt.cls = RX2 ∧ yX2_verdictAt.cls ≠ "java/lang/invoke/MethodHandle" ∧ yX2_verdictAt.cls ≠ "java/lang/invoke/VarHandle" ∧ (parseMethodDescriptor yX2_verdictAt.desc).map (fun d => d.parameters.length) = some 1 := by decide +kernel
theorem hd_X2_forget : yX2_forget.cls = RX2 ∧ yX2_forget.cls ≠ "java/lang/invoke/MethodHandle" ∧ yX2_forget.cls ≠ "java/lang/invoke/VarHandle" ∧ (parseMethodDescriptor yX2_forget.desc).map (fun d => d.parameters.length) = some 1 := by decide +kernel
theorem hd_X2_renew : yX2_renew.cls = RX2 ∧ yX2_renew.cls ≠ "java/lang/invoke/MethodHandle" ∧ yX2_renew.cls ≠ "java/lang/invoke/VarHandle" ∧ (parseMethodDescriptor yX2_renew.desc).map (fun d => d.parameters.length) = some 0 := by decide +kernel
theorem hd_X2_findReached : yX2_findReached.cls = RX2 ∧ yX2_findReached.cls ≠ "java/lang/invoke/MethodHandle" ∧ yX2_findReached.cls ≠ "java/lang/invoke/VarHandle" ∧ (parseMethodDescriptor yX2_findReached.desc).map (fun d => d.parameters.length) = some 0 := by decide +kernel
theorem hd_X2_targetSet : yX2_targetSet.cls = RX2 ∧ yX2_targetSet.cls ≠ "java/lang/invoke/MethodHandle" ∧ yX2_targetSet.cls ≠ "java/lang/invoke/VarHandle" ∧ (parseMethodDescriptor yX2_targetSet.desc).map (fun d => d.parameters.length) = some 2 := by decide +kernel
theorem hd_X2_readBodies : yX2_readBodies.cls = RX2 ∧ yX2_readBodies.cls ≠ "java/lang/invoke/MethodHandle" ∧ yX2_readBodies.cls ≠ "java/lang/invoke/VarHandle" ∧ (parseMethodDescriptor yX2_readBodies.desc).map (fun d => d.parameters.length) = some 1 := by decide +kernel
theorem hd_X2_readBody : yX2_readBody.cls = RX2 ∧ yX2_readBody.cls ≠ "java/lang/invoke/MethodHandle" ∧ yX2_readBody.cls ≠ "java/lang/invoke/VarHandle" ∧ (parseMethodDescriptor yX2_readBody.desc).map (fun d => d.parameters.length) = some 1 := by decide +kernel
theorem hd_X2_reachTargets : yX2_reachTargets.cls = RX2 ∧ yX2_reachTargets.cls ≠ "java/lang/invoke/MethodHandle" ∧ yX2_reachTargets.cls ≠ "java/lang/invoke/VarHandle" ∧ (parseMethodDescriptor yX2_reachTargets.desc).map (fun d => d.parameters.length) = some 0 := by decide +kernel
theorem hd_X2_verdictOfCalls : yX2_verdictOfCalls.cls = RX2 ∧ yX2_verdictOfCalls.cls ≠ "java/lang/invoke/MethodHandle" ∧ yX2_verdictOfCalls.cls ≠ "java/lang/invoke/VarHandle" ∧ (parseMethodDescriptor yX2_verdictOfCalls.desc).map (fun d => d.parameters.length) = some 1 := by decide +kernel
theorem hd_X2_judge : yX2_judge.cls = RX2 ∧ yX2_judge.cls ≠ "java/lang/invoke/MethodHandle" ∧ yX2_judge.cls ≠ "java/lang/invoke/VarHandle" ∧ (parseMethodDescriptor yX2_judge.desc).map (fun d => d.parameters.length) = some 1 := by decide +kernel
theorem hd_X2_waysOut : yX2_waysOut.cls = RX2 ∧ yX2_waysOut.cls ≠ "java/lang/invoke/MethodHandle" ∧ yX2_waysOut.cls ≠ "java/lang/invoke/VarHandle" ∧ (parseMethodDescriptor yX2_waysOut.desc).map (fun d => d.parameters.length) = some 1 := by decide +kernel
theorem hd_X2_holders : yX2_holders.cls = RX2 ∧ yX2_holders.cls ≠ "java/lang/invoke/MethodHandle" ∧ yX2_holders.cls ≠ "java/lang/invoke/VarHandle" ∧ (parseMethodDescriptor yX2_holders.desc).map (fun d => d.parameters.length) = some 2 := by decide +kernel
theorem hd_X3_type : yX3_type.cls = RX3 ∧ yX3_type.cls ≠ "java/lang/invoke/MethodHandle" ∧ yX3_type.cls ≠ "java/lang/invoke/VarHandle" ∧ (parseMethodDescriptor yX3_type.desc).map (fun d => d.parameters.length) = some 1 := by decide +kernel
theorem hd_X3_operation : yX3_operation.cls = RX3 ∧ yX3_operation.cls ≠ "java/lang/invoke/MethodHandle" ∧ yX3_operation.cls ≠ "java/lang/invoke/VarHandle" ∧ (parseMethodDescriptor yX3_operation.desc).map (fun d => d.parameters.length) = some 6 := by decide +kernel
theorem hd_X3_strip : yX3_strip.cls = RX3 ∧ yX3_strip.cls ≠ "java/lang/invoke/MethodHandle" ∧ yX3_strip.cls ≠ "java/lang/invoke/VarHandle" ∧ (parseMethodDescriptor yX3_strip.desc).map (fun d => d.parameters.length) = some 2 := by decide +kernel
theorem hd_X3_shape : yX3_shape.cls = RX3 ∧ yX3_shape.cls ≠ "java/lang/invoke/MethodHandle" ∧ yX3_shape.cls ≠ "java/lang/invoke/VarHandle" ∧ (parseMethodDescriptor yX3_shape.desc).map (fun d => d.parameters.length) = some 0 := by decide +kernel
theorem hd_X3_reach : yX3_reach.cls = RX3 ∧ yX3_reach.cls ≠ "java/lang/invoke/MethodHandle" ∧ yX3_reach.cls ≠ "java/lang/invoke/VarHandle" ∧ (parseMethodDescriptor yX3_reach.desc).map (fun d => d.parameters.length) = some 0 := by decide +kernel
theorem hd_X3_site : yX3_site.cls = RX3 ∧ yX3_site.cls ≠ "java/lang/invoke/MethodHandle" ∧ yX3_site.cls ≠ "java/lang/invoke/VarHandle" ∧ (parseMethodDescriptor yX3_site.desc).map (fun d => d.parameters.length) = some 3 := by decide +kernel
theorem hd_X3_run : yX3_run.cls = RX3 ∧ yX3_run.cls ≠ "java/lang/invoke/MethodHandle" ∧ yX3_run.cls ≠ "java/lang/invoke/VarHandle" ∧ (parseMethodDescriptor yX3_run.desc).map (fun d => d.parameters.length) = some 2 := by decide +kernel
theorem hd_X3_count : yX3_count.cls = RX3 ∧ yX3_count.cls ≠ "java/lang/invoke/MethodHandle" ∧ yX3_count.cls ≠ "java/lang/invoke/VarHandle" ∧ (parseMethodDescriptor yX3_count.desc).map (fun d => d.parameters.length) = some 1 := by decide +kernel
theorem hd_X3_out : yX3_out.cls = RX3 ∧ yX3_out.cls ≠ "java/lang/invoke/MethodHandle" ∧ yX3_out.cls ≠ "java/lang/invoke/VarHandle" ∧ (parseMethodDescriptor yX3_out.desc).map (fun d => d.parameters.length) = some 1 := by decide +kernel
theorem hd_X4_thrown : yX4_thrown.cls = RX4 ∧ yX4_thrown.cls ≠ "java/lang/invoke/MethodHandle" ∧ yX4_thrown.cls ≠ "java/lang/invoke/VarHandle" ∧ (parseMethodDescriptor yX4_thrown.desc).map (fun d => d.parameters.length) = some 0 := by decide +kernel
theorem hd_X4_fails : yX4_fails.cls = RX4 ∧ yX4_fails.cls ≠ "java/lang/invoke/MethodHandle" ∧ yX4_fails.cls ≠ "java/lang/invoke/VarHandle" ∧ (parseMethodDescriptor yX4_fails.desc).map (fun d => d.parameters.length) = some 2 := by decide +kernel
theorem hd_X4_outside : yX4_outside.cls ≠ "java/lang/invoke/MethodHandle" ∧ yX4_outside.cls ≠ "java/lang/invoke/VarHandle" ∧ (parseMethodDescriptor yX4_outside.desc).map (fun d => d.parameters.length) = some 3 := by decide +kernel
theorem hd_X4_type : yX4_type.cls = RX4 ∧ yX4_type.cls ≠ "java/lang/invoke/MethodHandle" ∧ yX4_type.cls ≠ "java/lang/invoke/VarHandle" ∧ (parseMethodDescriptor yX4_type.desc).map (fun d => d.parameters.length) = some 1 := by decide +kernel
theorem hd_X4_isRegister : yX4_isRegister.cls ≠ "java/lang/invoke/MethodHandle" ∧ yX4_isRegister.cls ≠ "java/lang/invoke/VarHandle" ∧ (parseMethodDescriptor yX4_isRegister.desc).map (fun d => d.parameters.length) = some 1 := by decide +kernel
theorem hd_X4_isField : yX4_isField.cls ≠ "java/lang/invoke/MethodHandle" ∧ yX4_isField.cls ≠ "java/lang/invoke/VarHandle" ∧ (parseMethodDescriptor yX4_isField.desc).map (fun d => d.parameters.length) = some 1 := by decide +kernel
theorem hd_X4_isGood : yX4_isGood.cls ≠ "java/lang/invoke/MethodHandle" ∧ yX4_isGood.cls ≠ "java/lang/invoke/VarHandle" ∧ (parseMethodDescriptor yX4_isGood.desc).map (fun d => d.parameters.length) = some 4 := by decide +kernel
theorem hd_X4_isBody : yX4_isBody.cls = RX4 ∧ yX4_isBody.cls ≠ "java/lang/invoke/MethodHandle" ∧ yX4_isBody.cls ≠ "java/lang/invoke/VarHandle" ∧ (parseMethodDescriptor yX4_isBody.desc).map (fun d => d.parameters.length) = some 2 := by decide +kernel
theorem hd_X4_operation : yX4_operation.cls = RX4 ∧ yX4_operation.cls ≠ "java/lang/invoke/MethodHandle" ∧ yX4_operation.cls ≠ "java/lang/invoke/VarHandle" ∧ (parseMethodDescriptor yX4_operation.desc).map (fun d => d.parameters.length) = some 6 := by decide +kernel
theorem hd_X4_strip : yX4_strip.cls = RX4 ∧ yX4_strip.cls ≠ "java/lang/invoke/MethodHandle" ∧ yX4_strip.cls ≠ "java/lang/invoke/VarHandle" ∧ (parseMethodDescriptor yX4_strip.desc).map (fun d => d.parameters.length) = some 2 := by decide +kernel
theorem hd_X4_target : yX4_target.cls = RX4 ∧ yX4_target.cls ≠ "java/lang/invoke/MethodHandle" ∧ yX4_target.cls ≠ "java/lang/invoke/VarHandle" ∧ (parseMethodDescriptor yX4_target.desc).map (fun d => d.parameters.length) = some 2 := by decide +kernel
theorem hd_X4_at : yX4_at.cls = RX4 ∧ yX4_at.cls ≠ "java/lang/invoke/MethodHandle" ∧ yX4_at.cls ≠ "java/lang/invoke/VarHandle" ∧ (parseMethodDescriptor yX4_at.desc).map (fun d => d.parameters.length) = some 3 := by decide +kernel
theorem hd_X4_reachAll : yX4_reachAll.cls = RX4 ∧ yX4_reachAll.cls ≠ "java/lang/invoke/MethodHandle" ∧ yX4_reachAll.cls ≠ "java/lang/invoke/VarHandle" ∧ (parseMethodDescriptor yX4_reachAll.desc).map (fun d => d.parameters.length) = some 1 := by decide +kernel
theorem hd_X4_grows : yX4_grows.cls = RX4 ∧ yX4_grows.cls ≠ "java/lang/invoke/MethodHandle" ∧ yX4_grows.cls ≠ "java/lang/invoke/VarHandle" ∧ (parseMethodDescriptor yX4_grows.desc).map (fun d => d.parameters.length) = some 1 := by decide +kernel
theorem hd_X4_call : yX4_call.cls = RX4 ∧ yX4_call.cls ≠ "java/lang/invoke/MethodHandle" ∧ yX4_call.cls ≠ "java/lang/invoke/VarHandle" ∧ (parseMethodDescriptor yX4_call.desc).map (fun d => d.parameters.length) = some 1 := by decide +kernel
theorem hd_X4_stays : yX4_stays.cls = RX4 ∧ yX4_stays.cls ≠ "java/lang/invoke/MethodHandle" ∧ yX4_stays.cls ≠ "java/lang/invoke/VarHandle" ∧ (parseMethodDescriptor yX4_stays.desc).map (fun d => d.parameters.length) = some 2 := by decide +kernel
theorem hd_X4_shape : yX4_shape.cls = RX4 ∧ yX4_shape.cls ≠ "java/lang/invoke/MethodHandle" ∧ yX4_shape.cls ≠ "java/lang/invoke/VarHandle" ∧ (parseMethodDescriptor yX4_shape.desc).map (fun d => d.parameters.length) = some 0 := by decide +kernel
theorem hd_X4_reach : yX4_reach.cls = RX4 ∧ yX4_reach.cls ≠ "java/lang/invoke/MethodHandle" ∧ yX4_reach.cls ≠ "java/lang/invoke/VarHandle" ∧ (parseMethodDescriptor yX4_reach.desc).map (fun d => d.parameters.length) = some 0 := by decide +kernel
theorem hd_X4_siteOf : yX4_siteOf.cls = RX4 ∧ yX4_siteOf.cls ≠ "java/lang/invoke/MethodHandle" ∧ yX4_siteOf.cls ≠ "java/lang/invoke/VarHandle" ∧ (parseMethodDescriptor yX4_siteOf.desc).map (fun d => d.parameters.length) = some 2 := by decide +kernel
theorem hd_X4_site : yX4_site.cls = RX4 ∧ yX4_site.cls ≠ "java/lang/invoke/MethodHandle" ∧ yX4_site.cls ≠ "java/lang/invoke/VarHandle" ∧ (parseMethodDescriptor yX4_site.desc).map (fun d => d.parameters.length) = some 3 := by decide +kernel
theorem hd_X4_makes : yX4_makes.cls = RX4 ∧ yX4_makes.cls ≠ "java/lang/invoke/MethodHandle" ∧ yX4_makes.cls ≠ "java/lang/invoke/VarHandle" ∧ (parseMethodDescriptor yX4_makes.desc).map (fun d => d.parameters.length) = some 2 := by decide +kernel
theorem hd_X4_enters : yX4_enters.cls = RX4 ∧ yX4_enters.cls ≠ "java/lang/invoke/MethodHandle" ∧ yX4_enters.cls ≠ "java/lang/invoke/VarHandle" ∧ (parseMethodDescriptor yX4_enters.desc).map (fun d => d.parameters.length) = some 5 := by decide +kernel
theorem hd_X4_answers : yX4_answers.cls = RX4 ∧ yX4_answers.cls ≠ "java/lang/invoke/MethodHandle" ∧ yX4_answers.cls ≠ "java/lang/invoke/VarHandle" ∧ (parseMethodDescriptor yX4_answers.desc).map (fun d => d.parameters.length) = some 2 := by decide +kernel
theorem hd_X4_set : yX4_set.cls = RX4 ∧ yX4_set.cls ≠ "java/lang/invoke/MethodHandle" ∧ yX4_set.cls ≠ "java/lang/invoke/VarHandle" ∧ (parseMethodDescriptor yX4_set.desc).map (fun d => d.parameters.length) = some 3 := by decide +kernel
theorem hd_X4_calls : yX4_calls.cls = RX4 ∧ yX4_calls.cls ≠ "java/lang/invoke/MethodHandle" ∧ yX4_calls.cls ≠ "java/lang/invoke/VarHandle" ∧ (parseMethodDescriptor yX4_calls.desc).map (fun d => d.parameters.length) = some 5 := by decide +kernel
theorem hd_X4_puts : yX4_puts.cls = RX4 ∧ yX4_puts.cls ≠ "java/lang/invoke/MethodHandle" ∧ yX4_puts.cls ≠ "java/lang/invoke/VarHandle" ∧ (parseMethodDescriptor yX4_puts.desc).map (fun d => d.parameters.length) = some 1 := by decide +kernel
theorem hd_X4_isAnother : yX4_isAnother.cls = RX4 ∧ yX4_isAnother.cls ≠ "java/lang/invoke/MethodHandle" ∧ yX4_isAnother.cls ≠ "java/lang/invoke/VarHandle" ∧ (parseMethodDescriptor yX4_isAnother.desc).map (fun d => d.parameters.length) = some 2 := by decide +kernel
theorem hd_X4_news : yX4_news.cls = RX4 ∧ yX4_news.cls ≠ "java/lang/invoke/MethodHandle" ∧ yX4_news.cls ≠ "java/lang/invoke/VarHandle" ∧ (parseMethodDescriptor yX4_news.desc).map (fun d => d.parameters.length) = some 3 := by decide +kernel
theorem hd_X4_sums : yX4_sums.cls = RX4 ∧ yX4_sums.cls ≠ "java/lang/invoke/MethodHandle" ∧ yX4_sums.cls ≠ "java/lang/invoke/VarHandle" ∧ (parseMethodDescriptor yX4_sums.desc).map (fun d => d.parameters.length) = some 5 := by decide +kernel
theorem hd_X4_does : yX4_does.cls = RX4 ∧ yX4_does.cls ≠ "java/lang/invoke/MethodHandle" ∧ yX4_does.cls ≠ "java/lang/invoke/VarHandle" ∧ (parseMethodDescriptor yX4_does.desc).map (fun d => d.parameters.length) = some 1 := by decide +kernel
theorem hd_X4_run : yX4_run.cls = RX4 ∧ yX4_run.cls ≠ "java/lang/invoke/MethodHandle" ∧ yX4_run.cls ≠ "java/lang/invoke/VarHandle" ∧ (parseMethodDescriptor yX4_run.desc).map (fun d => d.parameters.length) = some 2 := by decide +kernel
theorem hd_X4_count : yX4_count.cls = RX4 ∧ yX4_count.cls ≠ "java/lang/invoke/MethodHandle" ∧ yX4_count.cls ≠ "java/lang/invoke/VarHandle" ∧ (parseMethodDescriptor yX4_count.desc).map (fun d => d.parameters.length) = some 1 := by decide +kernel
theorem hd_X4_out : yX4_out.cls = RX4 ∧ yX4_out.cls ≠ "java/lang/invoke/MethodHandle" ∧ yX4_out.cls ≠ "java/lang/invoke/VarHandle" ∧ (parseMethodDescriptor yX4_out.desc).map (fun d => d.parameters.length) = some 1 := by decide +kernel
theorem hd_J6_bitCount_0f7a4 : yJ6_bitCount_0f7a4.cls ≠ "java/lang/invoke/MethodHandle" ∧ yJ6_bitCount_0f7a4.cls ≠ "java/lang/invoke/VarHandle" ∧ (parseMethodDescriptor yJ6_bitCount_0f7a4.desc).map (fun d => d.parameters.length) = some 1 := by decide +kernel
theorem hd_J7_rangeCheck_23922 : yJ7_rangeCheck_23922.cls ≠ "java/lang/invoke/MethodHandle" ∧ yJ7_rangeCheck_23922.cls ≠ "java/lang/invoke/VarHandle" ∧ (parseMethodDescriptor yJ7_rangeCheck_23922.desc).map (fun d => d.parameters.length) = some 3 := by decide +kernel
theorem hd_J7_fill_bad5a : yJ7_fill_bad5a.cls ≠ "java/lang/invoke/MethodHandle" ∧ yJ7_fill_bad5a.cls ≠ "java/lang/invoke/VarHandle" ∧ (parseMethodDescriptor yJ7_fill_bad5a.desc).map (fun d => d.parameters.length) = some 4 := by decide +kernel
theorem hd_J7_fill_53178 : yJ7_fill_53178.cls ≠ "java/lang/invoke/MethodHandle" ∧ yJ7_fill_53178.cls ≠ "java/lang/invoke/VarHandle" ∧ (parseMethodDescriptor yJ7_fill_53178.desc).map (fun d => d.parameters.length) = some 2 := by decide +kernel
theorem hd_J7_fill_fda19 : yJ7_fill_fda19.cls ≠ "java/lang/invoke/MethodHandle" ∧ yJ7_fill_fda19.cls ≠ "java/lang/invoke/VarHandle" ∧ (parseMethodDescriptor yJ7_fill_fda19.desc).map (fun d => d.parameters.length) = some 4 := by decide +kernel
theorem pk_subc (a b : Nat) (h : b ≤ a) : nI a + Int32.ofInt (-(b : Int)) = nI (a - b) := by
  have h1 : a - b + b = a := Nat.sub_add_cancel h
  have h2 : Int32.ofInt (-(b : Int)) = -nI b := by
    rw [Int32.ofInt_neg]
    rfl
  rw [h2, ← Int32.sub_eq_add_neg, pk_sub h]
end
section
theorem nI_and (a b : Nat) : nI a &&& nI b = nI (a &&& b) := by
  apply Int32.toBitVec_inj.1
  show BitVec.ofNat 32 a &&& BitVec.ofNat 32 b = BitVec.ofNat 32 (a &&& b)
  apply BitVec.eq_of_getLsbD_eq
  intro i hi
  simp [hi]
theorem nI_or (a b : Nat) : nI a ||| nI b = nI (a ||| b) := by
  apply Int32.toBitVec_inj.1
  show BitVec.ofNat 32 a ||| BitVec.ofNat 32 b = BitVec.ofNat 32 (a ||| b)
  apply BitVec.eq_of_getLsbD_eq
  intro i hi
  simp [hi]
theorem s_lq : ∀ n, n < 32 → ((nI n &&& 31).toBitVec.smod 32).toNat = n := by decide +kernel
theorem s_uq : ∀ n, n < 32 → (((nI n).toUInt32 &&& Int32.toUInt32 31).toBitVec % 32).toNat = n := by decide +kernel
theorem nI_shl (a : Nat) {k : Nat} (hk : k < 32) : nI a <<< (nI k &&& 31) = nI (a <<< k) := by
  apply Int32.toBitVec_inj.mp
  apply BitVec.eq_of_toNat_eq
  rw [pk_shl _ _ k (s_lq k hk)]
  show (a % 2 ^ 32) * 2 ^ k % 2 ^ 32 = (a <<< k) % 2 ^ 32
  rw [Nat.shiftLeft_eq, Nat.mod_mul_mod]
theorem nI_ushr {a k : Nat} (ha : a < 4294967296) (hk : k < 32) : ((nI a).toUInt32 >>> ((nI k).toUInt32 &&& Int32.toUInt32 31)).toInt32 = nI (a >>> k) := by
  rw [pk_ushrN ha _ k (s_uq k hk), Nat.shiftRight_eq_div_pow]
theorem testBit_and1 (m n : Nat) : ((m >>> n) &&& 1 = 0) ↔ m.testBit n = false := by
  unfold Nat.testBit
  rw [Nat.and_comm]
  simp
section NV2
variable {p : Program} {l : Launch} {e : Env} {R : Room} {s : State} {m : MethodId} {args : Array Value} {below : List Frame} {meth : Method} {c : Code} {H : Heap} {locs : List Loc} {cells slots : Nat} {Q : State → Prop}
variable {cc : ByteArray} {nL pc : Nat} {own : String} {x0 : Cond} {D : va_G} {tys : List (ClassId × FieldType)} {ls : Array Slot} {rest : List Value} {off : Int} {tgt a b : Nat}
theorem nv_iand (E : Cx p s m args c cc nL own x0 D tys) (hd : decode cc pc = .ok (.iand, 1)) (k : W p l e R s m args below meth c H locs cells slots Q (F0 m (pc + 1) ls (.int (nI (a &&& b)) :: rest))) : W p l e R s m args below meth c H locs cells slots Q (F0 m pc ls (.int (nI b) :: .int (nI a) :: rest)) := by
  refine lv_iand E.1.1 E.1.2.1 hd ?_
  rw [nI_and]
  exact k
theorem nv_ior (E : Cx p s m args c cc nL own x0 D tys) (hd : decode cc pc = .ok (.ior, 1)) (k : W p l e R s m args below meth c H locs cells slots Q (F0 m (pc + 1) ls (.int (nI (a ||| b)) :: rest))) : W p l e R s m args below meth c H locs cells slots Q (F0 m pc ls (.int (nI b) :: .int (nI a) :: rest)) := by
  refine lv_ior E.1.1 E.1.2.1 hd ?_
  rw [nI_or]
  exact k
theorem nv_ishl (hb : b < 32) (E : Cx p s m args c cc nL own x0 D tys) (hd : decode cc pc = .ok (.ishl, 1)) (k : W p l e R s m args below meth c H locs cells slots Q (F0 m (pc + 1) ls (.int (nI (a <<< b)) :: rest))) : W p l e R s m args below meth c H locs cells slots Q (F0 m pc ls (.int (nI b) :: .int (nI a) :: rest)) := by
  refine lv_ishl E.1.1 E.1.2.1 hd ?_
  rw [nI_shl a hb]
  exact k
theorem nv_iushr (ha : a < 4294967296) (hb : b < 32) (E : Cx p s m args c cc nL own x0 D tys) (hd : decode cc pc = .ok (.iushr, 1)) (k : W p l e R s m args below meth c H locs cells slots Q (F0 m (pc + 1) ls (.int (nI (a >>> b)) :: rest))) : W p l e R s m args below meth c H locs cells slots Q (F0 m pc ls (.int (nI b) :: .int (nI a) :: rest)) :=
  lv_iushr E.1.1 E.1.2.1 hd (nI_ushr ha hb) k
end NV2
theorem sw12 (k : Int32) : k = nI 0 ∨ k = nI 1 ∨ k = nI 2 ∨ k = nI 3 ∨ k = nI 4 ∨ k = nI 5 ∨ k = nI 6 ∨ k = nI 7 ∨ k = nI 8 ∨ k = nI 9 ∨ k = nI 10 ∨ k = nI 11 ∨ (k.toInt < 0 ∨ 11 < k.toInt) := by
  by_cases h : k.toInt < 0 ∨ 11 < k.toInt
  · exact Or.inr (Or.inr (Or.inr (Or.inr (Or.inr (Or.inr (Or.inr (Or.inr (Or.inr (Or.inr (Or.inr (Or.inr h)))))))))))
  · obtain ⟨j, hj, rfl⟩ := vp_in_of (x := k) (n := 12) (vp_in_iff.mpr (by omega)) (by decide)
    have h2 : j = 0 ∨ j = 1 ∨ j = 2 ∨ j = 3 ∨ j = 4 ∨ j = 5 ∨ j = 6 ∨ j = 7 ∨ j = 8 ∨ j = 9 ∨ j = 10 ∨ j = 11 := by omega
    rcases h2 with rfl | rfl | rfl | rfl | rfl | rfl | rfl | rfl | rfl | rfl | rfl | rfl <;> simp
theorem sw_out {k : Int32} (h : k.toInt < 0 ∨ 11 < k.toInt) {j : Nat} (hj : j < 12) : ¬ k = nI j := fun e => by
  have h1 : k.toInt = (nI j).toInt := congrArg Int32.toInt e
  rw [nI_toInt (by omega)] at h1
  omega
end
section
/-! pure words of the class's methods -/
def isW (v b : Int32) : Bool := !decide (v < 0) && !decide (b ≤ v)
def tgtF (P : Nat → Option Nat) (L : Nat → Nat) (q : Nat) : Nat → Option Nat → Option Nat
  | 0, _ => none
  | _ + 1, none => none
  | f + 1, some a => if 0 < L (a * 4 + q) then some (a * 4 + q) else tgtF P L q f (P a)
def isF (P : Nat → Option Nat) (o : Nat) : Nat → Option Nat → Bool
  | 0, _ => false
  | _ + 1, none => false
  | f + 1, some a => if a = o then true else isF P o f (P a)
def allF (f : Nat → Bool) : Nat → Nat → Bool
  | 0, _ => true
  | n + 1, k => f k && allF f n (k + 1)
def fitF (L K : Nat → Nat) (b : Nat) : Bool := decide (L b ≤ 3) && allF (fun k => decide (K (b * 10 + k) ≠ 7) && decide (K (b * 10 + k) ≠ 9)) (L b) 0
def wfK (k y z : Int32) : Bool := if k = nI 0 then true else if k = nI 1 then isW y (nI 6) else if k = nI 2 then isW y (nI 6) && isW z (nI 6) else if k = nI 3 then isW y (nI 6) && isW z (nI 6) else if k = nI 4 then isW y (nI 6) else if k = nI 5 then isW y (nI 6) && isW z (nI 3) else if k = nI 6 then isW y (nI 6) && isW z (nI 3) else if k = nI 7 then isW y (nI 6) && isW z (nI 4) else if k = nI 8 then true else if k = nI 9 then isW y (nI 10) else if k = nI 10 then isW y (nI 6) else if k = nI 11 then true else false
def wfF (k x y z : Int32) : Bool := isW x (nI 6) && wfK k y z
theorem wfK_out {k y z : Int32} (h : k.toInt < 0 ∨ 11 < k.toInt) : wfK k y z = false := by
  unfold wfK
  rw [if_neg (sw_out h (by decide)), if_neg (sw_out h (by decide)), if_neg (sw_out h (by decide)), if_neg (sw_out h (by decide)), if_neg (sw_out h (by decide)), if_neg (sw_out h (by decide)), if_neg (sw_out h (by decide)), if_neg (sw_out h (by decide)), if_neg (sw_out h (by decide)), if_neg (sw_out h (by decide)), if_neg (sw_out h (by decide)), if_neg (sw_out h (by decide))]
theorem wfK_0 (y z : Int32) : wfK (nI 0) y z = true := rfl
theorem wfK_1 (y z : Int32) : wfK (nI 1) y z = isW y (nI 6) := rfl
theorem wfK_2 (y z : Int32) : wfK (nI 2) y z = (isW y (nI 6) && isW z (nI 6)) := rfl
theorem wfK_3 (y z : Int32) : wfK (nI 3) y z = (isW y (nI 6) && isW z (nI 6)) := rfl
theorem wfK_4 (y z : Int32) : wfK (nI 4) y z = isW y (nI 6) := rfl
theorem wfK_5 (y z : Int32) : wfK (nI 5) y z = (isW y (nI 6) && isW z (nI 3)) := rfl
theorem wfK_6 (y z : Int32) : wfK (nI 6) y z = (isW y (nI 6) && isW z (nI 3)) := rfl
theorem wfK_7 (y z : Int32) : wfK (nI 7) y z = (isW y (nI 6) && isW z (nI 4)) := rfl
theorem wfK_8 (y z : Int32) : wfK (nI 8) y z = true := rfl
theorem wfK_9 (y z : Int32) : wfK (nI 9) y z = isW y (nI 10) := rfl
theorem wfK_10 (y z : Int32) : wfK (nI 10) y z = isW y (nI 6) := rfl
theorem wfK_11 (y z : Int32) : wfK (nI 11) y z = true := rfl
def yN (σ : CS) (p : Nat) : Nat := (gcY σ p).toNatClampNeg
def zN (σ : CS) (p : Nat) : Nat := (gcZ σ p).toNatClampNeg
/-- the numbers that an operation names are such as its kind takes -/
def WI (σ : CS) : Prop := ∀ p, wfK (nI (gcK σ p)) (gcY σ p) (gcZ σ p) = true
theorem isW_n {v : Int32} {n : Nat} (hn : n < 2147483648) (h : isW v (nI n) = true) : v = nI v.toNatClampNeg ∧ v.toNatClampNeg < n := by
  simp only [isW, Bool.and_eq_true, Bool.not_eq_true', decide_eq_false_iff_not] at h
  obtain ⟨j, hj, rfl⟩ := nI_of h.1
  rw [nI_clamp hj]
  exact ⟨rfl, Nat.lt_of_not_le fun q => h.2 (nI_le q hj)⟩
theorem WI_y {σ : CS} (h : WI σ) {p : Nat} (hk : gcK σ p = 1 ∨ gcK σ p = 2 ∨ gcK σ p = 3 ∨ gcK σ p = 4 ∨ gcK σ p = 5 ∨ gcK σ p = 6 ∨ gcK σ p = 7 ∨ gcK σ p = 10) : gcY σ p = nI (yN σ p) ∧ yN σ p < 6 := by
  have h1 := h p
  refine isW_n (by decide) ?_
  rcases hk with e | e | e | e | e | e | e | e <;> rw [e] at h1
  · exact h1
  · rw [wfK_2, Bool.and_eq_true] at h1; exact h1.1
  · rw [wfK_3, Bool.and_eq_true] at h1; exact h1.1
  · exact h1
  · rw [wfK_5, Bool.and_eq_true] at h1; exact h1.1
  · rw [wfK_6, Bool.and_eq_true] at h1; exact h1.1
  · rw [wfK_7, Bool.and_eq_true] at h1; exact h1.1
  · exact h1
theorem WI_y9 {σ : CS} (h : WI σ) {p : Nat} (hk : gcK σ p = 9) : gcY σ p = nI (yN σ p) ∧ yN σ p < 10 := by
  have h1 := h p
  rw [hk, wfK_9] at h1
  exact isW_n (by decide) h1
theorem WI_z6 {σ : CS} (h : WI σ) {p : Nat} (hk : gcK σ p = 2 ∨ gcK σ p = 3) : gcZ σ p = nI (zN σ p) ∧ zN σ p < 6 := by
  have h1 := h p
  refine isW_n (by decide) ?_
  rcases hk with e | e <;> rw [e] at h1
  · rw [wfK_2, Bool.and_eq_true] at h1; exact h1.2
  · rw [wfK_3, Bool.and_eq_true] at h1; exact h1.2
theorem WI_z3 {σ : CS} (h : WI σ) {p : Nat} (hk : gcK σ p = 5 ∨ gcK σ p = 6) : gcZ σ p = nI (zN σ p) ∧ zN σ p < 3 := by
  have h1 := h p
  refine isW_n (by decide) ?_
  rcases hk with e | e <;> rw [e] at h1
  · rw [wfK_5, Bool.and_eq_true] at h1; exact h1.2
  · rw [wfK_6, Bool.and_eq_true] at h1; exact h1.2
theorem WI_z4 {σ : CS} (h : WI σ) {p : Nat} (hk : gcK σ p = 7) : gcZ σ p = nI (zN σ p) ∧ zN σ p < 4 := by
  have h1 := h p
  rw [hk, wfK_7, Bool.and_eq_true] at h1
  exact isW_n (by decide) h1.2
/-- a loop that counts: n turns more, from k -/
def itN {α : Type} (f : Nat → α → α) : Nat → Nat → α → α
  | 0, _, x => x
  | n + 1, k, x => itN f n (k + 1) (f k x)
/-- what holds of the program's rows in every state -/
def PI (σ : CS) : Prop := (∀ i k, gcP σ i = some k → k < 6) ∧ (∀ i, gcL σ i ≤ 10) ∧ (∀ i, gcK σ i < 12) ∧ (∀ i, gcX σ i < 6) ∧ gcn σ ≤ 6
theorem er_t {b : Bool} (h : b = true) : some (Value.int (bI b)) = some (Value.int (nI 1)) := by subst h; rfl
theorem er_f {b : Bool} (h : b = false) : some (Value.int (bI b)) = some (Value.int (nI 0)) := by subst h; rfl
end
section
set_option maxRecDepth 100000 in
set_option maxHeartbeats 4000000 in
theorem c_X1_bodyOf (l : Launch) (D : va_G) (cI cJ cZ : ClassId) (ad : Nat → Nat) (σ : CS) (a : Nat) (b : Nat)   : CM l D (t3 cI cJ cZ) yX1_bodyOf cX1_bodyOf 2 (some .int) 0 [.int (nI a), .int (nI b)] (wC ad cI cJ cZ σ) (some (.int (nI (a * 4 + b)))) (wC ad cI cJ cZ σ) := by
  refine CM.of (by decide) (Nat.le_of_ble_eq_true rfl) ?_
  intro p e s m below meth c A ls E hr hlk hP hD0 hA hA2 hS hl
  have hD := wC_D hD0
  have hl : lv_has ls 2 [(0, .int (nI a)), (1, .int (nI b))] := hl
  refine lv_iload_n E.1.1 E.1.2.1 dX1_bodyOf_0 rfl (lv_at hl 0 rfl) ?_
  refine lv_iconst (v := nI 4) E.1.1 E.1.2.1 dX1_bodyOf_1 rfl ?_
  refine nv_imul E dX1_bodyOf_2 ?_
  refine lv_iload_n E.1.1 E.1.2.1 dX1_bodyOf_3 rfl (lv_at hl 1 rfl) ?_
  refine nv_iadd E dX1_bodyOf_4 ?_
  exact CM.reti E hr hlk hA hP hS rfl dX1_bodyOf_5
set_option maxRecDepth 100000 in
set_option maxHeartbeats 4000000 in
theorem c_X1_placeOf (l : Launch) (D : va_G) (cI cJ cZ : ClassId) (ad : Nat → Nat) (σ : CS) (a : Nat) (b : Nat)   : CM l D (t3 cI cJ cZ) yX1_placeOf cX1_placeOf 2 (some .int) 0 [.int (nI a), .int (nI b)] (wC ad cI cJ cZ σ) (some (.int (nI (a * 10 + b)))) (wC ad cI cJ cZ σ) := by
  refine CM.of (by decide) (Nat.le_of_ble_eq_true rfl) ?_
  intro p e s m below meth c A ls E hr hlk hP hD0 hA hA2 hS hl
  have hD := wC_D hD0
  have hl : lv_has ls 2 [(0, .int (nI a)), (1, .int (nI b))] := hl
  refine lv_iload_n E.1.1 E.1.2.1 dX1_placeOf_0 rfl (lv_at hl 0 rfl) ?_
  refine lv_bipush (v := nI 10) E.1.1 E.1.2.1 dX1_placeOf_1 rfl ?_
  refine nv_imul E dX1_placeOf_3 ?_
  refine lv_iload_n E.1.1 E.1.2.1 dX1_placeOf_4 rfl (lv_at hl 1 rfl) ?_
  refine nv_iadd E dX1_placeOf_5 ?_
  exact CM.reti E hr hlk hA hP hS rfl dX1_placeOf_6
set_option maxRecDepth 100000 in
set_option maxHeartbeats 4000000 in
theorem c_X1_isWithin (l : Launch) (D : va_G) (cI cJ cZ : ClassId) (ad : Nat → Nat) (σ : CS) (v : Int32) (b : Int32)   : CM l D (t3 cI cJ cZ) yX1_isWithin cX1_isWithin 2 (some .boolean) 0 [.int v, .int b] (wC ad cI cJ cZ σ) (some (.int (bI (isW v b)))) (wC ad cI cJ cZ σ) := by
  refine CM.of (by decide) (Nat.le_of_ble_eq_true rfl) ?_
  intro p e s m below meth c A ls E hr hlk hP hD0 hA hA2 hS hl
  have hD := wC_D hD0
  have hl : lv_has ls 2 [(0, .int v), (1, .int b)] := hl
  refine lv_iload_n E.1.1 E.1.2.1 dX1_isWithin_0 rfl (lv_at hl 0 rfl) ?_
  refine lv_if_lt (tgt := 13) E.1.1 E.1.2.1 dX1_isWithin_1 (by decide) (fun h1 => ?_) (fun h1 => ?_)
  · refine lv_iconst (v := nI 0) E.1.1 E.1.2.1 dX1_isWithin_13 rfl ?_
    exact CM.retz E hr hlk hA hP hS (er_f (by simp [isW, *])) rfl dX1_isWithin_14
  · refine lv_iload_n E.1.1 E.1.2.1 dX1_isWithin_4 rfl (lv_at hl 0 rfl) ?_
    refine lv_iload_n E.1.1 E.1.2.1 dX1_isWithin_5 rfl (lv_at hl 1 rfl) ?_
    refine lv_icmp_ge (tgt := 13) E.1.1 E.1.2.1 dX1_isWithin_6 (by decide) (fun h6 => ?_) (fun h6 => ?_)
    · refine lv_iconst (v := nI 0) E.1.1 E.1.2.1 dX1_isWithin_13 rfl ?_
      exact CM.retz E hr hlk hA hP hS (er_f (by simp [isW, *])) rfl dX1_isWithin_14
    · refine lv_iconst (v := nI 1) E.1.1 E.1.2.1 dX1_isWithin_9 rfl ?_
      refine lv_goto (tgt := 14) E.1.1 E.1.2.1 dX1_isWithin_10 (by decide) ?_
      exact CM.retz E hr hlk hA hP hS (er_t (by simp [isW, *])) rfl dX1_isWithin_14
set_option maxRecDepth 100000 in
set_option maxHeartbeats 4000000 in
theorem c_X1_hasClass (l : Launch) (D : va_G) (cI cJ cZ : ClassId) (ad : Nat → Nat) (σ : CS) (v : Int32)   : CM l D (t3 cI cJ cZ) yX1_hasClass cX1_hasClass 2 (some .boolean) 1 [.ref (ad 1), .int v] (wC ad cI cJ cZ σ) (some (.int (bI (isW v (nI (gcn σ)))))) (wC ad cI cJ cZ σ) := by
  refine CM.of (by decide) (Nat.le_of_ble_eq_true rfl) ?_
  intro p e s m below meth c A ls E hr hlk hP hD0 hA hA2 hS hl
  have hD := wC_D hD0
  have hl : lv_has ls 2 [(0, .ref (ad 1)), (1, .int v)] := hl
  refine lv_iload_n E.1.1 E.1.2.1 dX1_hasClass_0 rfl (lv_at hl 1 rfl) ?_
  refine lv_aload_n E.1.1 E.1.2.1 dX1_hasClass_1 rfl (lv_at hl 0 rfl) ?_
  refine gt_X1_classes E fl_X1_36 hP dX1_hasClass_2 ?_
  refine CM.callSi (n := 2) E (c_X1_isWithin l D cI cJ cZ ad σ v (nI (gcn σ))) ml_X1_40 st_X1_isWithin ini_X1 co_X1_isWithin hd_X1_isWithin ⟨Nat.le_of_ble_eq_true rfl, Nat.le_of_ble_eq_true rfl⟩ ⟨Nat.le_refl _, Nat.le_refl _⟩ hP (hD _) hS hA2 rfl hl.1 (Nat.le_of_ble_eq_true rfl) dX1_hasClass_5 rfl (fun H locs hP hS => ?_)
  exact CM.retz E hr hlk hA hP hS rfl (bI_n _) dX1_hasClass_8
set_option maxRecDepth 100000 in
set_option maxHeartbeats 4000000 in
theorem c_X1_hasPlaceFor (l : Launch) (D : va_G) (cI cJ cZ : ClassId) (ad : Nat → Nat) (σ : CS) (t : Int32) (q : Int32)   : CM l D (t3 cI cJ cZ) yX1_hasPlaceFor cX1_hasPlaceFor 3 (some .boolean) 2 [.ref (ad 1), .int t, .int q] (wC ad cI cJ cZ σ) (some (.int (bI (isW t (nI (gcn σ)) && isW q (nI 4))))) (wC ad cI cJ cZ σ) := by
  refine CM.of (by decide) (Nat.le_of_ble_eq_true rfl) ?_
  intro p e s m below meth c A ls E hr hlk hP hD0 hA hA2 hS hl
  have hD := wC_D hD0
  have hl : lv_has ls 3 [(0, .ref (ad 1)), (1, .int t), (2, .int q)] := hl
  refine lv_aload_n E.1.1 E.1.2.1 dX1_hasPlaceFor_0 rfl (lv_at hl 0 rfl) ?_
  refine lv_iload_n E.1.1 E.1.2.1 dX1_hasPlaceFor_1 rfl (lv_at hl 1 rfl) ?_
  refine CM.callVi (n := 1) E (c_X1_hasClass l D cI cJ cZ ad σ t) ml_X1_44 im_X1_hasClass se_X1_hasClass ini_X1 co_X1_hasClass hd_X1_hasClass ⟨Nat.le_of_ble_eq_true rfl, Nat.le_of_ble_eq_true rfl⟩ ⟨Nat.le_refl _, Nat.le_refl _⟩ 1 rfl rfl hP (hD _) hS hA2 rfl hl.1 (Nat.le_of_ble_eq_true rfl) dX1_hasPlaceFor_2 rfl (fun H locs hP hS => ?_)
  refine bv_if_eq (x := isW t (nI (gcn σ))) E dX1_hasPlaceFor_5 (tgt := 20) (by decide) (fun h5 => ?_) (fun h5 => ?_)
  · refine lv_iconst (v := nI 0) E.1.1 E.1.2.1 dX1_hasPlaceFor_20 rfl ?_
    exact CM.retz E hr hlk hA hP hS (er_f (by first | (simp [*]; done) | (simp; omega))) rfl dX1_hasPlaceFor_21
  · refine lv_iload_n E.1.1 E.1.2.1 dX1_hasPlaceFor_8 rfl (lv_at hl 2 rfl) ?_
    refine lv_iconst (v := nI 4) E.1.1 E.1.2.1 dX1_hasPlaceFor_9 rfl ?_
    refine CM.callSi (n := 2) E (c_X1_isWithin l D cI cJ cZ ad σ q (nI 4)) ml_X1_40 st_X1_isWithin ini_X1 co_X1_isWithin hd_X1_isWithin ⟨Nat.le_of_ble_eq_true rfl, Nat.le_of_ble_eq_true rfl⟩ ⟨Nat.le_refl _, Nat.le_refl _⟩ hP (hD _) hS hA2 rfl hl.1 (Nat.le_of_ble_eq_true rfl) dX1_hasPlaceFor_10 rfl (fun H locs hP hS => ?_)
    refine bv_if_eq (x := isW q (nI 4)) E dX1_hasPlaceFor_13 (tgt := 20) (by decide) (fun h13 => ?_) (fun h13 => ?_)
    · refine lv_iconst (v := nI 0) E.1.1 E.1.2.1 dX1_hasPlaceFor_20 rfl ?_
      exact CM.retz E hr hlk hA hP hS (er_f (by first | (simp [*]; done) | (simp; omega))) rfl dX1_hasPlaceFor_21
    · refine lv_iconst (v := nI 1) E.1.1 E.1.2.1 dX1_hasPlaceFor_16 rfl ?_
      refine lv_goto (tgt := 21) E.1.1 E.1.2.1 dX1_hasPlaceFor_17 (by decide) ?_
      exact CM.retz E hr hlk hA hP hS (er_t (by first | (simp [*]; done) | (simp; omega))) rfl dX1_hasPlaceFor_21
set_option maxRecDepth 100000 in
set_option maxHeartbeats 4000000 in
theorem c_X1_isFullOfClasses (l : Launch) (D : va_G) (cI cJ cZ : ClassId) (ad : Nat → Nat) (σ : CS)   (hI : PI σ) : CM l D (t3 cI cJ cZ) yX1_isFullOfClasses cX1_isFullOfClasses 1 (some .boolean) 0 [.ref (ad 1)] (wC ad cI cJ cZ σ) (some (.int (bI (decide (6 ≤ gcn σ))))) (wC ad cI cJ cZ σ) := by
  refine CM.of (by decide) (Nat.le_of_ble_eq_true rfl) ?_
  intro p e s m below meth c A ls E hr hlk hP hD0 hA hA2 hS hl
  have hD := wC_D hD0
  have hl : lv_has ls 1 [(0, .ref (ad 1))] := hl
  have hn := hI.2.2.2.2
  refine lv_aload_n E.1.1 E.1.2.1 dX1_isFullOfClasses_0 rfl (lv_at hl 0 rfl) ?_
  refine gt_X1_classes E fl_X1_36 hP dX1_isFullOfClasses_1 ?_
  refine lv_bipush (v := nI 6) E.1.1 E.1.2.1 dX1_isFullOfClasses_4 rfl ?_
  refine nv_icmp_lt (by omega) (by omega) E dX1_isFullOfClasses_6 (tgt := 13) (by decide) (fun h6 => ?_) (fun h6 => ?_)
  · refine lv_iconst (v := nI 0) E.1.1 E.1.2.1 dX1_isFullOfClasses_13 rfl ?_
    exact CM.retz E hr hlk hA hP hS (er_f (by first | (simp [*]; done) | (simp; omega))) rfl dX1_isFullOfClasses_14
  · refine lv_iconst (v := nI 1) E.1.1 E.1.2.1 dX1_isFullOfClasses_9 rfl ?_
    refine lv_goto (tgt := 14) E.1.1 E.1.2.1 dX1_isFullOfClasses_10 (by decide) ?_
    exact CM.retz E hr hlk hA hP hS (er_t (by first | (simp [*]; done) | (simp; omega))) rfl dX1_isFullOfClasses_14
set_option maxRecDepth 100000 in
set_option maxHeartbeats 4000000 in
theorem c_X1_addClass (l : Launch) (D : va_G) (cI cJ cZ : ClassId) (ad : Nat → Nat) (σ : CS) (o : Option Nat)  (hn : gcn σ < 6) : CM l D (t3 cI cJ cZ) yX1_addClass cX1_addClass 3 (some .int) 0 [.ref (ad 1), .int (oI o)] (wC ad cI cJ cZ σ) (some (.int (nI (gcn σ)))) (wC ad cI cJ cZ (scn (scP σ (va_up (gcP σ) (gcn σ) o)) (gcn σ + 1))) := by
  refine CM.of (by decide) (Nat.le_of_ble_eq_true rfl) ?_
  intro p e s m below meth c A ls E hr hlk hP hD0 hA hA2 hS hl
  have hD := wC_D hD0
  have hl : lv_has ls 3 [(0, .ref (ad 1)), (1, .int (oI o))] := hl
  refine lv_aload_n E.1.1 E.1.2.1 dX1_addClass_0 rfl (lv_at hl 0 rfl) ?_
  refine gt_X1_classes E fl_X1_36 hP dX1_addClass_1 ?_
  refine lv_istore_n (lv' := [(2, .int (nI (gcn σ))), (0, .ref (ad 1)), (1, .int (oI o))]) E.1.1 E.1.2.1 dX1_addClass_4 rfl hl (by decide) rfl (fun ls hl => ?_)
  refine lv_aload_n E.1.1 E.1.2.1 dX1_addClass_5 rfl (lv_at hl 1 rfl) ?_
  refine gt_X1_parents E fl_X1_9 hP dX1_addClass_6 ?_
  refine lv_iload_n E.1.1 E.1.2.1 dX1_addClass_9 rfl (lv_at hl 0 rfl) ?_
  refine lv_iload_n E.1.1 E.1.2.1 dX1_addClass_10 rfl (lv_at hl 2 rfl) ?_
  refine as_CS_P (i := gcn σ) (v := o) E hP hD hS (by omega) dX1_addClass_11 (fun H locs hP hS => ?_)
  refine lv_aload_n E.1.1 E.1.2.1 dX1_addClass_12 rfl (lv_at hl 1 rfl) ?_
  refine lv_dup E.1.1 E.1.2.1 dX1_addClass_13 rfl ?_
  refine gt_X1_classes E fl_X1_36 hP dX1_addClass_14 ?_
  refine lv_iconst (v := nI 1) E.1.1 E.1.2.1 dX1_addClass_17 rfl ?_
  refine nv_iadd E dX1_addClass_18 ?_
  refine pt_X1_classes (v := (gcn (scP σ (va_up (gcP σ) (gcn σ) o))) + 1) E fl_X1_36 hP hD hS dX1_addClass_19 (fun H locs hP hS => ?_)
  refine lv_iload_n E.1.1 E.1.2.1 dX1_addClass_22 rfl (lv_at hl 0 rfl) ?_
  exact CM.reti E hr hlk hA hP hS rfl dX1_addClass_23
set_option maxRecDepth 100000 in
set_option maxHeartbeats 4000000 in
theorem c_X1_isFull (l : Launch) (D : va_G) (cI cJ cZ : ClassId) (ad : Nat → Nat) (σ : CS) (b : Nat)  (hb : b < 24) (hI : PI σ) : CM l D (t3 cI cJ cZ) yX1_isFull cX1_isFull 2 (some .boolean) 0 [.ref (ad 1), .int (nI b)] (wC ad cI cJ cZ σ) (some (.int (bI (decide (10 ≤ gcL σ b))))) (wC ad cI cJ cZ σ) := by
  refine CM.of (by decide) (Nat.le_of_ble_eq_true rfl) ?_
  intro p e s m below meth c A ls E hr hlk hP hD0 hA hA2 hS hl
  have hD := wC_D hD0
  have hl : lv_has ls 2 [(0, .ref (ad 1)), (1, .int (nI b))] := hl
  have hL := hI.2.1 b
  refine lv_aload_n E.1.1 E.1.2.1 dX1_isFull_0 rfl (lv_at hl 0 rfl) ?_
  refine gt_X1_lengths E fl_X1_15 hP dX1_isFull_1 ?_
  refine lv_iload_n E.1.1 E.1.2.1 dX1_isFull_4 rfl (lv_at hl 1 rfl) ?_
  refine ld_CS_L (i := b) E hP (by omega) dX1_isFull_5 ?_
  refine lv_bipush (v := nI 10) E.1.1 E.1.2.1 dX1_isFull_6 rfl ?_
  refine nv_icmp_lt (by omega) (by omega) E dX1_isFull_8 (tgt := 15) (by decide) (fun h8 => ?_) (fun h8 => ?_)
  · refine lv_iconst (v := nI 0) E.1.1 E.1.2.1 dX1_isFull_15 rfl ?_
    exact CM.retz E hr hlk hA hP hS (er_f (by first | (simp [*]; done) | (simp; omega))) rfl dX1_isFull_16
  · refine lv_iconst (v := nI 1) E.1.1 E.1.2.1 dX1_isFull_11 rfl ?_
    refine lv_goto (tgt := 16) E.1.1 E.1.2.1 dX1_isFull_12 (by decide) ?_
    exact CM.retz E hr hlk hA hP hS (er_t (by first | (simp [*]; done) | (simp; omega))) rfl dX1_isFull_16
set_option maxRecDepth 100000 in
set_option maxHeartbeats 4000000 in
theorem c_X1_append (l : Launch) (D : va_G) (cI cJ cZ : ClassId) (ad : Nat → Nat) (σ : CS) (b : Nat) (k : Nat) (x : Nat) (y : Int32) (z : Int32)  (hb : b < 24) (hL : gcL σ b < 10) : CM l D (t3 cI cJ cZ) yX1_append cX1_append 7 (some .int) 1 [.ref (ad 1), .int (nI b), .int (nI k), .int (nI x), .int y, .int z] (wC ad cI cJ cZ σ) (some (.int (nI (gcL σ b + 1)))) (wC ad cI cJ cZ (scL (scZ (scY (scX (scK σ (va_up (gcK σ) (b * 10 + gcL σ b) k)) (va_up (gcX σ) (b * 10 + gcL σ b) x)) (va_up (gcY σ) (b * 10 + gcL σ b) y)) (va_up (gcZ σ) (b * 10 + gcL σ b) z)) (va_up (gcL σ) b (gcL σ b + 1)))) := by
  refine CM.of (by decide) (Nat.le_of_ble_eq_true rfl) ?_
  intro p e s m below meth c A ls E hr hlk hP hD0 hA hA2 hS hl
  have hD := wC_D hD0
  have hl : lv_has ls 7 [(0, .ref (ad 1)), (1, .int (nI b)), (2, .int (nI k)), (3, .int (nI x)), (4, .int y), (5, .int z)] := hl
  refine lv_iload_n E.1.1 E.1.2.1 dX1_append_0 rfl (lv_at hl 1 rfl) ?_
  refine lv_aload_n E.1.1 E.1.2.1 dX1_append_1 rfl (lv_at hl 0 rfl) ?_
  refine gt_X1_lengths E fl_X1_15 hP dX1_append_2 ?_
  refine lv_iload_n E.1.1 E.1.2.1 dX1_append_5 rfl (lv_at hl 1 rfl) ?_
  refine ld_CS_L (i := b) E hP (by omega) dX1_append_6 ?_
  refine CM.callSi (n := 2) E (c_X1_placeOf l D cI cJ cZ ad σ b (gcL σ b)) ml_X1_48 st_X1_placeOf ini_X1 co_X1_placeOf hd_X1_placeOf ⟨Nat.le_of_ble_eq_true rfl, Nat.le_of_ble_eq_true rfl⟩ ⟨Nat.le_refl _, Nat.le_refl _⟩ hP (hD _) hS hA2 rfl hl.1 (Nat.le_of_ble_eq_true rfl) dX1_append_7 rfl (fun H locs hP hS => ?_)
  refine lv_istore (lv' := [(6, .int (nI (b * 10 + (gcL σ b)))), (0, .ref (ad 1)), (1, .int (nI b)), (2, .int (nI k)), (3, .int (nI x)), (4, .int y), (5, .int z)]) E.1.1 E.1.2.1 dX1_append_10 hl (by decide) rfl (fun ls hl => ?_)
  refine lv_aload_n E.1.1 E.1.2.1 dX1_append_12 rfl (lv_at hl 1 rfl) ?_
  refine gt_X1_kinds E fl_X1_18 hP dX1_append_13 ?_
  refine lv_iload E.1.1 E.1.2.1 dX1_append_16 (lv_at hl 0 rfl) ?_
  refine lv_iload_n E.1.1 E.1.2.1 dX1_append_18 rfl (lv_at hl 3 rfl) ?_
  refine as_CS_K (i := b * 10 + (gcL σ b)) (v := k) E hP hD hS (by omega) dX1_append_19 (fun H locs hP hS => ?_)
  refine lv_aload_n E.1.1 E.1.2.1 dX1_append_20 rfl (lv_at hl 1 rfl) ?_
  refine gt_X1_xs E fl_X1_21 hP dX1_append_21 ?_
  refine lv_iload E.1.1 E.1.2.1 dX1_append_24 (lv_at hl 0 rfl) ?_
  refine lv_iload_n E.1.1 E.1.2.1 dX1_append_26 rfl (lv_at hl 4 rfl) ?_
  refine as_CS_X (i := b * 10 + (gcL σ b)) (v := x) E hP hD hS (by omega) dX1_append_27 (fun H locs hP hS => ?_)
  refine lv_aload_n E.1.1 E.1.2.1 dX1_append_28 rfl (lv_at hl 1 rfl) ?_
  refine gt_X1_ys E fl_X1_24 hP dX1_append_29 ?_
  refine lv_iload E.1.1 E.1.2.1 dX1_append_32 (lv_at hl 0 rfl) ?_
  refine lv_iload E.1.1 E.1.2.1 dX1_append_34 (lv_at hl 5 rfl) ?_
  refine as_CS_Y (i := b * 10 + (gcL σ b)) (v := y) E hP hD hS (by omega) dX1_append_36 (fun H locs hP hS => ?_)
  refine lv_aload_n E.1.1 E.1.2.1 dX1_append_37 rfl (lv_at hl 1 rfl) ?_
  refine gt_X1_zs E fl_X1_27 hP dX1_append_38 ?_
  refine lv_iload E.1.1 E.1.2.1 dX1_append_41 (lv_at hl 0 rfl) ?_
  refine lv_iload E.1.1 E.1.2.1 dX1_append_43 (lv_at hl 6 rfl) ?_
  refine as_CS_Z (i := b * 10 + (gcL σ b)) (v := z) E hP hD hS (by omega) dX1_append_45 (fun H locs hP hS => ?_)
  refine lv_aload_n E.1.1 E.1.2.1 dX1_append_46 rfl (lv_at hl 1 rfl) ?_
  refine gt_X1_lengths E fl_X1_15 hP dX1_append_47 ?_
  refine lv_iload_n E.1.1 E.1.2.1 dX1_append_50 rfl (lv_at hl 2 rfl) ?_
  refine lv_dup2_11 E.1.1 E.1.2.1 dX1_append_51 rfl rfl ?_
  refine ld_CS_L (i := b) E hP (by omega) dX1_append_52 ?_
  refine lv_iconst (v := nI 1) E.1.1 E.1.2.1 dX1_append_53 rfl ?_
  refine nv_iadd E dX1_append_54 ?_
  refine as_CS_L (i := b) (v := (gcL (scZ (scY (scX (scK σ (va_up (gcK σ) (b * 10 + (gcL σ b)) k)) (va_up (gcX (scK σ (va_up (gcK σ) (b * 10 + (gcL σ b)) k))) (b * 10 + (gcL σ b)) x)) (va_up (gcY (scX (scK σ (va_up (gcK σ) (b * 10 + (gcL σ b)) k)) (va_up (gcX (scK σ (va_up (gcK σ) (b * 10 + (gcL σ b)) k))) (b * 10 + (gcL σ b)) x))) (b * 10 + (gcL σ b)) y)) (va_up (gcZ (scY (scX (scK σ (va_up (gcK σ) (b * 10 + (gcL σ b)) k)) (va_up (gcX (scK σ (va_up (gcK σ) (b * 10 + (gcL σ b)) k))) (b * 10 + (gcL σ b)) x)) (va_up (gcY (scX (scK σ (va_up (gcK σ) (b * 10 + (gcL σ b)) k)) (va_up (gcX (scK σ (va_up (gcK σ) (b * 10 + (gcL σ b)) k))) (b * 10 + (gcL σ b)) x))) (b * 10 + (gcL σ b)) y))) (b * 10 + (gcL σ b)) z)) b) + 1) E hP hD hS (by omega) dX1_append_55 (fun H locs hP hS => ?_)
  refine lv_aload_n E.1.1 E.1.2.1 dX1_append_56 rfl (lv_at hl 1 rfl) ?_
  refine gt_X1_lengths E fl_X1_15 hP dX1_append_57 ?_
  refine lv_iload_n E.1.1 E.1.2.1 dX1_append_60 rfl (lv_at hl 2 rfl) ?_
  refine ld_CS_L (i := b) E hP (by omega) dX1_append_61 ?_
  exact CM.reti E hr hlk hA hP hS (by simp [gcL, scL, scK, scX, scY, scZ, va_up]) dX1_append_62
set_option maxRecDepth 100000 in
set_option maxHeartbeats 4000000 in
theorem c_X1_empty (l : Launch) (D : va_G) (cI cJ cZ : ClassId) (ad : Nat → Nat) (σ : CS) (b : Nat)  (hb : b < 24) : CM l D (t3 cI cJ cZ) yX1_empty cX1_empty 3 (some .int) 0 [.ref (ad 1), .int (nI b)] (wC ad cI cJ cZ σ) (some (.int (nI (gcL σ b)))) (wC ad cI cJ cZ (scL σ (va_up (gcL σ) b 0))) := by
  refine CM.of (by decide) (Nat.le_of_ble_eq_true rfl) ?_
  intro p e s m below meth c A ls E hr hlk hP hD0 hA hA2 hS hl
  have hD := wC_D hD0
  have hl : lv_has ls 3 [(0, .ref (ad 1)), (1, .int (nI b))] := hl
  refine lv_aload_n E.1.1 E.1.2.1 dX1_empty_0 rfl (lv_at hl 0 rfl) ?_
  refine gt_X1_lengths E fl_X1_15 hP dX1_empty_1 ?_
  refine lv_iload_n E.1.1 E.1.2.1 dX1_empty_4 rfl (lv_at hl 1 rfl) ?_
  refine ld_CS_L (i := b) E hP (by omega) dX1_empty_5 ?_
  refine lv_istore_n (lv' := [(2, .int (nI (gcL σ b))), (0, .ref (ad 1)), (1, .int (nI b))]) E.1.1 E.1.2.1 dX1_empty_6 rfl hl (by decide) rfl (fun ls hl => ?_)
  refine lv_aload_n E.1.1 E.1.2.1 dX1_empty_7 rfl (lv_at hl 1 rfl) ?_
  refine gt_X1_lengths E fl_X1_15 hP dX1_empty_8 ?_
  refine lv_iload_n E.1.1 E.1.2.1 dX1_empty_11 rfl (lv_at hl 2 rfl) ?_
  refine lv_iconst (v := nI 0) E.1.1 E.1.2.1 dX1_empty_12 rfl ?_
  refine as_CS_L (i := b) (v := 0) E hP hD hS (by omega) dX1_empty_13 (fun H locs hP hS => ?_)
  refine lv_iload_n E.1.1 E.1.2.1 dX1_empty_14 rfl (lv_at hl 0 rfl) ?_
  exact CM.reti E hr hlk hA hP hS rfl dX1_empty_15
set_option maxRecDepth 100000 in
set_option maxHeartbeats 4000000 in
theorem c_X1_length (l : Launch) (D : va_G) (cI cJ cZ : ClassId) (ad : Nat → Nat) (σ : CS) (b : Nat)  (hb : b < 24) : CM l D (t3 cI cJ cZ) yX1_length cX1_length 2 (some .int) 0 [.ref (ad 1), .int (nI b)] (wC ad cI cJ cZ σ) (some (.int (nI (gcL σ b)))) (wC ad cI cJ cZ σ) := by
  refine CM.of (by decide) (Nat.le_of_ble_eq_true rfl) ?_
  intro p e s m below meth c A ls E hr hlk hP hD0 hA hA2 hS hl
  have hD := wC_D hD0
  have hl : lv_has ls 2 [(0, .ref (ad 1)), (1, .int (nI b))] := hl
  refine lv_aload_n E.1.1 E.1.2.1 dX1_length_0 rfl (lv_at hl 0 rfl) ?_
  refine gt_X1_lengths E fl_X1_15 hP dX1_length_1 ?_
  refine lv_iload_n E.1.1 E.1.2.1 dX1_length_4 rfl (lv_at hl 1 rfl) ?_
  refine ld_CS_L (i := b) E hP (by omega) dX1_length_5 ?_
  exact CM.reti E hr hlk hA hP hS rfl dX1_length_6
set_option maxRecDepth 100000 in
set_option maxHeartbeats 4000000 in
theorem c_X1_kind (l : Launch) (D : va_G) (cI cJ cZ : ClassId) (ad : Nat → Nat) (σ : CS) (b : Nat)  (hb : b < 240) : CM l D (t3 cI cJ cZ) yX1_kind cX1_kind 2 (some .int) 0 [.ref (ad 1), .int (nI b)] (wC ad cI cJ cZ σ) (some (.int (nI (gcK σ b)))) (wC ad cI cJ cZ σ) := by
  refine CM.of (by decide) (Nat.le_of_ble_eq_true rfl) ?_
  intro p e s m below meth c A ls E hr hlk hP hD0 hA hA2 hS hl
  have hD := wC_D hD0
  have hl : lv_has ls 2 [(0, .ref (ad 1)), (1, .int (nI b))] := hl
  refine lv_aload_n E.1.1 E.1.2.1 dX1_kind_0 rfl (lv_at hl 0 rfl) ?_
  refine gt_X1_kinds E fl_X1_18 hP dX1_kind_1 ?_
  refine lv_iload_n E.1.1 E.1.2.1 dX1_kind_4 rfl (lv_at hl 1 rfl) ?_
  refine ld_CS_K (i := b) E hP (by omega) dX1_kind_5 ?_
  exact CM.reti E hr hlk hA hP hS rfl dX1_kind_6
set_option maxRecDepth 100000 in
set_option maxHeartbeats 4000000 in
theorem c_X1_x (l : Launch) (D : va_G) (cI cJ cZ : ClassId) (ad : Nat → Nat) (σ : CS) (b : Nat)  (hb : b < 240) : CM l D (t3 cI cJ cZ) yX1_x cX1_x 2 (some .int) 0 [.ref (ad 1), .int (nI b)] (wC ad cI cJ cZ σ) (some (.int (nI (gcX σ b)))) (wC ad cI cJ cZ σ) := by
  refine CM.of (by decide) (Nat.le_of_ble_eq_true rfl) ?_
  intro p e s m below meth c A ls E hr hlk hP hD0 hA hA2 hS hl
  have hD := wC_D hD0
  have hl : lv_has ls 2 [(0, .ref (ad 1)), (1, .int (nI b))] := hl
  refine lv_aload_n E.1.1 E.1.2.1 dX1_x_0 rfl (lv_at hl 0 rfl) ?_
  refine gt_X1_xs E fl_X1_21 hP dX1_x_1 ?_
  refine lv_iload_n E.1.1 E.1.2.1 dX1_x_4 rfl (lv_at hl 1 rfl) ?_
  refine ld_CS_X (i := b) E hP (by omega) dX1_x_5 ?_
  exact CM.reti E hr hlk hA hP hS rfl dX1_x_6
set_option maxRecDepth 100000 in
set_option maxHeartbeats 4000000 in
theorem c_X1_y (l : Launch) (D : va_G) (cI cJ cZ : ClassId) (ad : Nat → Nat) (σ : CS) (b : Nat)  (hb : b < 240) : CM l D (t3 cI cJ cZ) yX1_y cX1_y 2 (some .int) 0 [.ref (ad 1), .int (nI b)] (wC ad cI cJ cZ σ) (some (.int (gcY σ b))) (wC ad cI cJ cZ σ) := by
  refine CM.of (by decide) (Nat.le_of_ble_eq_true rfl) ?_
  intro p e s m below meth c A ls E hr hlk hP hD0 hA hA2 hS hl
  have hD := wC_D hD0
  have hl : lv_has ls 2 [(0, .ref (ad 1)), (1, .int (nI b))] := hl
  refine lv_aload_n E.1.1 E.1.2.1 dX1_y_0 rfl (lv_at hl 0 rfl) ?_
  refine gt_X1_ys E fl_X1_24 hP dX1_y_1 ?_
  refine lv_iload_n E.1.1 E.1.2.1 dX1_y_4 rfl (lv_at hl 1 rfl) ?_
  refine ld_CS_Y (i := b) E hP (by omega) dX1_y_5 ?_
  exact CM.reti E hr hlk hA hP hS rfl dX1_y_6
set_option maxRecDepth 100000 in
set_option maxHeartbeats 4000000 in
theorem c_X1_z (l : Launch) (D : va_G) (cI cJ cZ : ClassId) (ad : Nat → Nat) (σ : CS) (b : Nat)  (hb : b < 240) : CM l D (t3 cI cJ cZ) yX1_z cX1_z 2 (some .int) 0 [.ref (ad 1), .int (nI b)] (wC ad cI cJ cZ σ) (some (.int (gcZ σ b))) (wC ad cI cJ cZ σ) := by
  refine CM.of (by decide) (Nat.le_of_ble_eq_true rfl) ?_
  intro p e s m below meth c A ls E hr hlk hP hD0 hA hA2 hS hl
  have hD := wC_D hD0
  have hl : lv_has ls 2 [(0, .ref (ad 1)), (1, .int (nI b))] := hl
  refine lv_aload_n E.1.1 E.1.2.1 dX1_z_0 rfl (lv_at hl 0 rfl) ?_
  refine gt_X1_zs E fl_X1_27 hP dX1_z_1 ?_
  refine lv_iload_n E.1.1 E.1.2.1 dX1_z_4 rfl (lv_at hl 1 rfl) ?_
  refine ld_CS_Z (i := b) E hP (by omega) dX1_z_5 ?_
  exact CM.reti E hr hlk hA hP hS rfl dX1_z_6
set_option maxRecDepth 100000 in
set_option maxHeartbeats 4000000 in
theorem c_X1_target (l : Launch) (D : va_G) (cI cJ cZ : ClassId) (ad : Nat → Nat) (σ : CS) (t : Nat) (q : Nat)  (ht : t < 6) (hq : q < 4) (hI : PI σ) : CM l D (t3 cI cJ cZ) yX1_target cX1_target 6 (some .int) 1 [.ref (ad 1), .int (nI t), .int (nI q)] (wC ad cI cJ cZ σ) (some (.int (oI (tgtF (gcP σ) (gcL σ) q 6 (some t))))) (wC ad cI cJ cZ σ) := by
  refine CM.of (by decide) (Nat.le_of_ble_eq_true rfl) ?_
  intro p e s m below meth c A ls E hr hlk hP hD0 hA hA2 hS hl
  have hD := wC_D hD0
  have hl : lv_has ls 6 [(0, .ref (ad 1)), (1, .int (nI t)), (2, .int (nI q))] := hl
  refine lv_iload_n E.1.1 E.1.2.1 dX1_target_0 rfl (lv_at hl 1 rfl) ?_
  refine lv_istore_n (lv' := [(3, .int (nI t)), (0, .ref (ad 1)), (1, .int (nI t)), (2, .int (nI q))]) E.1.1 E.1.2.1 dX1_target_1 rfl hl (by decide) rfl (fun ls hl => ?_)
  refine lv_bipush (v := nI 6) E.1.1 E.1.2.1 dX1_target_2 rfl ?_
  refine lv_istore (lv' := [(4, .int (nI 6)), (3, .int (nI t)), (0, .ref (ad 1)), (1, .int (nI t)), (2, .int (nI q))]) E.1.1 E.1.2.1 dX1_target_4 hl (by decide) rfl (fun ls hl => ?_)
  have LP6 : ∀ (k : Nat) (o : Option Nat) (H : Heap) (locs : List Loc) (ls : Array Slot), (k ≤ 6) → (∀ j, o = some j → j < 6) → (tgtF (gcP σ) (gcL σ) q 6 (some t) = tgtF (gcP σ) (gcL σ) q k o) → va_P D vwCl (wC ad cI cJ cZ σ) H → va_S A s.heap H locs → lv_has ls 6 [(0, .ref (ad 1)), (1, .int (nI t)), (2, .int (nI q)), (3, .int (oI o)), (4, .int (nI k))] → W p l e { frames := 1, cells := 0, slots := 0, locals := 40 * 1 } s m [.ref (ad 1), .int (nI t), .int (nI q)].toArray below meth c H locs 0 0 (MQ below (Qcm D (wC ad cI cJ cZ σ) s.heap.size (some (.int (oI (tgtF (gcP σ) (gcL σ) q 6 (some t))))) (wC ad cI cJ cZ σ)) [.ref (ad 1), .int (nI t), .int (nI q)].toArray s 0 0 A) (F0 m 6 ls []) := by
    intro k
    induction k with
    | zero =>
      intro o H locs ls hk ho hv hP hS hl
      refine lv_iload E.1.1 E.1.2.1 dX1_target_6 (lv_at hl 4 rfl) ?_
      refine nv_if_le (by omega) E dX1_target_8 (tgt := 49) (by decide) (fun h8 => ?_) (fun h8 => ?_)
      · refine lv_iconst (v := -1) E.1.1 E.1.2.1 dX1_target_49 rfl ?_
        exact CM.reti E hr hlk hA hP hS (by rw [hv]; first | (rw [h13]; rfl) | rfl) dX1_target_50
      · exact absurd h8 (by omega)
    | succ k ih6 =>
      intro o H locs ls hk ho hv hP hS hl
      refine lv_iload E.1.1 E.1.2.1 dX1_target_6 (lv_at hl 4 rfl) ?_
      refine nv_if_le (by omega) E dX1_target_8 (tgt := 49) (by decide) (fun h8 => ?_) (fun h8 => ?_)
      · exact absurd h8 (by omega)
      · refine lv_iload_n E.1.1 E.1.2.1 dX1_target_11 rfl (lv_at hl 3 rfl) ?_
        refine lv_iconst (v := -1) E.1.1 E.1.2.1 dX1_target_12 rfl ?_
        refine ov_m1_eq (o := o) (fun j hj => by have := ho j hj; omega) E dX1_target_13 (tgt := 49) (by decide) (fun h13 => ?_) (fun k13 h13 => ?_)
        · refine lv_iconst (v := -1) E.1.1 E.1.2.1 dX1_target_49 rfl ?_
          exact CM.reti E hr hlk hA hP hS (by rw [hv]; first | (rw [h13]; rfl) | rfl) dX1_target_50
        · have hk13 := ho _ h13
          subst h13
          have hl : lv_has ls 6 [(0, .ref (ad 1)), (1, .int (nI t)), (2, .int (nI q)), (3, .int (nI k13)), (4, .int (nI (k + 1)))] := hl
          refine lv_iload_n E.1.1 E.1.2.1 dX1_target_16 rfl (lv_at hl 3 rfl) ?_
          refine lv_iload_n E.1.1 E.1.2.1 dX1_target_17 rfl (lv_at hl 2 rfl) ?_
          refine CM.callSi (n := 2) E (c_X1_bodyOf l D cI cJ cZ ad σ k13 q) ml_X1_52 st_X1_bodyOf ini_X1 co_X1_bodyOf hd_X1_bodyOf ⟨Nat.le_of_ble_eq_true rfl, Nat.le_of_ble_eq_true rfl⟩ ⟨Nat.le_refl _, Nat.le_refl _⟩ hP (hD _) hS hA2 rfl hl.1 (Nat.le_of_ble_eq_true rfl) dX1_target_18 rfl (fun H locs hP hS => ?_)
          refine lv_istore (lv' := [(5, .int (nI (k13 * 4 + q))), (0, .ref (ad 1)), (1, .int (nI t)), (2, .int (nI q)), (3, .int (nI k13)), (4, .int (nI (k + 1)))]) E.1.1 E.1.2.1 dX1_target_21 hl (by decide) rfl (fun ls hl => ?_)
          refine lv_aload_n E.1.1 E.1.2.1 dX1_target_23 rfl (lv_at hl 1 rfl) ?_
          refine gt_X1_lengths E fl_X1_15 hP dX1_target_24 ?_
          refine lv_iload E.1.1 E.1.2.1 dX1_target_27 (lv_at hl 0 rfl) ?_
          refine ld_CS_L (i := k13 * 4 + q) E hP (by omega) dX1_target_29 ?_
          refine nv_if_le (by have := hI.2.1 (k13 * 4 + q); omega) E dX1_target_30 (tgt := 36) (by decide) (fun h30 => ?_) (fun h30 => ?_)
          · refine lv_aload_n E.1.1 E.1.2.1 dX1_target_36 rfl (lv_at hl 1 rfl) ?_
            refine gt_X1_parents E fl_X1_9 hP dX1_target_37 ?_
            refine lv_iload_n E.1.1 E.1.2.1 dX1_target_40 rfl (lv_at hl 4 rfl) ?_
            refine ld_CS_P (i := k13) E hP (by omega) dX1_target_41 ?_
            refine lv_istore_n (lv' := [(3, .int (oI (gcP σ k13))), (5, .int (nI (k13 * 4 + q))), (0, .ref (ad 1)), (1, .int (nI t)), (2, .int (nI q)), (4, .int (nI (k + 1)))]) E.1.1 E.1.2.1 dX1_target_42 rfl hl (by decide) rfl (fun ls hl => ?_)
            refine lv_iinc (v := nI k) (lv' := [(4, .int (nI k)), (3, .int (oI (gcP σ k13))), (5, .int (nI (k13 * 4 + q))), (0, .ref (ad 1)), (1, .int (nI t)), (2, .int (nI q))]) E.1.1 E.1.2.1 dX1_target_43 hl (k := 5) rfl (pk_m1 k) (by decide) rfl (fun ls hl => ?_)
            refine lv_goto (tgt := 6) E.1.1 E.1.2.1 dX1_target_46 (by decide) ?_
            exact ih6 (gcP σ k13) _ _ _ (by omega) (fun j hj => hI.1 _ j hj) (by rw [hv, tgtF, if_neg (by omega)]) hP hS (lv_sub hl [3, 4, 5, 1, 0] rfl)
          · refine lv_iload E.1.1 E.1.2.1 dX1_target_33 (lv_at hl 0 rfl) ?_
            exact CM.reti E hr hlk hA hP hS (by rw [hv, tgtF, if_pos h30]; rfl) dX1_target_35
  exact LP6 6 (some t) _ _ _ (by omega) (fun j hj => by cases hj; exact ht) rfl hP hS (lv_sub hl [2, 3, 4, 1, 0] rfl)
set_option maxRecDepth 100000 in
set_option maxHeartbeats 4000000 in
theorem c_X1_classIs (l : Launch) (D : va_G) (cI cJ cZ : ClassId) (ad : Nat → Nat) (σ : CS) (t : Nat) (q : Nat)  (ht : t < 6) (hq : q < 6) (hI : PI σ) : CM l D (t3 cI cJ cZ) yX1_classIs cX1_classIs 5 (some .boolean) 0 [.ref (ad 1), .int (nI t), .int (nI q)] (wC ad cI cJ cZ σ) (some (.int (bI (isF (gcP σ) q 6 (some t))))) (wC ad cI cJ cZ σ) := by
  refine CM.of (by decide) (Nat.le_of_ble_eq_true rfl) ?_
  intro p e s m below meth c A ls E hr hlk hP hD0 hA hA2 hS hl
  have hD := wC_D hD0
  have hl : lv_has ls 5 [(0, .ref (ad 1)), (1, .int (nI t)), (2, .int (nI q))] := hl
  refine lv_iload_n E.1.1 E.1.2.1 dX1_classIs_0 rfl (lv_at hl 1 rfl) ?_
  refine lv_istore_n (lv' := [(3, .int (nI t)), (0, .ref (ad 1)), (1, .int (nI t)), (2, .int (nI q))]) E.1.1 E.1.2.1 dX1_classIs_1 rfl hl (by decide) rfl (fun ls hl => ?_)
  refine lv_bipush (v := nI 6) E.1.1 E.1.2.1 dX1_classIs_2 rfl ?_
  refine lv_istore (lv' := [(4, .int (nI 6)), (3, .int (nI t)), (0, .ref (ad 1)), (1, .int (nI t)), (2, .int (nI q))]) E.1.1 E.1.2.1 dX1_classIs_4 hl (by decide) rfl (fun ls hl => ?_)
  have LP6 : ∀ (k : Nat) (o : Option Nat) (H : Heap) (locs : List Loc) (ls : Array Slot), (k ≤ 6) → (∀ j, o = some j → j < 6) → (isF (gcP σ) q 6 (some t) = isF (gcP σ) q k o) → va_P D vwCl (wC ad cI cJ cZ σ) H → va_S A s.heap H locs → lv_has ls 5 [(0, .ref (ad 1)), (1, .int (nI t)), (2, .int (nI q)), (3, .int (oI o)), (4, .int (nI k))] → W p l e { frames := 0, cells := 0, slots := 0, locals := 40 * 0 } s m [.ref (ad 1), .int (nI t), .int (nI q)].toArray below meth c H locs 0 0 (MQ below (Qcm D (wC ad cI cJ cZ σ) s.heap.size (some (.int (bI (isF (gcP σ) q 6 (some t))))) (wC ad cI cJ cZ σ)) [.ref (ad 1), .int (nI t), .int (nI q)].toArray s 0 0 A) (F0 m 6 ls []) := by
    intro k
    induction k with
    | zero =>
      intro o H locs ls hk ho hv hP hS hl
      refine lv_iload E.1.1 E.1.2.1 dX1_classIs_6 (lv_at hl 4 rfl) ?_
      refine nv_if_le (by omega) E dX1_classIs_8 (tgt := 36) (by decide) (fun h8 => ?_) (fun h8 => ?_)
      · refine lv_iconst (v := nI 0) E.1.1 E.1.2.1 dX1_classIs_36 rfl ?_
        exact CM.retz E hr hlk hA hP hS (er_f (by rw [hv]; first | (rw [h13]; rfl) | rfl)) rfl dX1_classIs_37
      · exact absurd h8 (by omega)
    | succ k ih6 =>
      intro o H locs ls hk ho hv hP hS hl
      refine lv_iload E.1.1 E.1.2.1 dX1_classIs_6 (lv_at hl 4 rfl) ?_
      refine nv_if_le (by omega) E dX1_classIs_8 (tgt := 36) (by decide) (fun h8 => ?_) (fun h8 => ?_)
      · exact absurd h8 (by omega)
      · refine lv_iload_n E.1.1 E.1.2.1 dX1_classIs_11 rfl (lv_at hl 3 rfl) ?_
        refine lv_iconst (v := -1) E.1.1 E.1.2.1 dX1_classIs_12 rfl ?_
        refine ov_m1_eq (o := o) (fun j hj => by have := ho j hj; omega) E dX1_classIs_13 (tgt := 36) (by decide) (fun h13 => ?_) (fun k13 h13 => ?_)
        · refine lv_iconst (v := nI 0) E.1.1 E.1.2.1 dX1_classIs_36 rfl ?_
          exact CM.retz E hr hlk hA hP hS (er_f (by rw [hv]; first | (rw [h13]; rfl) | rfl)) rfl dX1_classIs_37
        · have hk13 := ho _ h13
          subst h13
          have hl : lv_has ls 5 [(0, .ref (ad 1)), (1, .int (nI t)), (2, .int (nI q)), (3, .int (nI k13)), (4, .int (nI (k + 1)))] := hl
          refine lv_iload_n E.1.1 E.1.2.1 dX1_classIs_16 rfl (lv_at hl 3 rfl) ?_
          refine lv_iload_n E.1.1 E.1.2.1 dX1_classIs_17 rfl (lv_at hl 2 rfl) ?_
          refine nv_icmp_ne (by omega) (by omega) E dX1_classIs_18 (tgt := 23) (by decide) (fun h18 => ?_) (fun h18 => ?_)
          · refine lv_aload_n E.1.1 E.1.2.1 dX1_classIs_23 rfl (lv_at hl 0 rfl) ?_
            refine gt_X1_parents E fl_X1_9 hP dX1_classIs_24 ?_
            refine lv_iload_n E.1.1 E.1.2.1 dX1_classIs_27 rfl (lv_at hl 3 rfl) ?_
            refine ld_CS_P (i := k13) E hP (by omega) dX1_classIs_28 ?_
            refine lv_istore_n (lv' := [(3, .int (oI (gcP σ k13))), (0, .ref (ad 1)), (1, .int (nI t)), (2, .int (nI q)), (4, .int (nI (k + 1)))]) E.1.1 E.1.2.1 dX1_classIs_29 rfl hl (by decide) rfl (fun ls hl => ?_)
            refine lv_iinc (v := nI k) (lv' := [(4, .int (nI k)), (3, .int (oI (gcP σ k13))), (0, .ref (ad 1)), (1, .int (nI t)), (2, .int (nI q))]) E.1.1 E.1.2.1 dX1_classIs_30 hl (k := 4) rfl (pk_m1 k) (by decide) rfl (fun ls hl => ?_)
            refine lv_goto (tgt := 6) E.1.1 E.1.2.1 dX1_classIs_33 (by decide) ?_
            exact ih6 (gcP σ k13) _ _ _ (by omega) (fun j hj => hI.1 _ j hj) (by rw [hv, isF, if_neg h18]) hP hS (lv_sub hl [2, 3, 4, 1, 0] rfl)
          · refine lv_iconst (v := nI 1) E.1.1 E.1.2.1 dX1_classIs_21 rfl ?_
            exact CM.retz E hr hlk hA hP hS (er_t (by rw [hv, isF, if_pos h18])) rfl dX1_classIs_22
  exact LP6 6 (some t) _ _ _ (by omega) (fun j hj => by cases hj; exact ht) rfl hP hS (lv_sub hl [2, 3, 4, 1, 0] rfl)
set_option maxRecDepth 100000 in
set_option maxHeartbeats 4000000 in
theorem c_X1_fitsInPlace (l : Launch) (D : va_G) (cI cJ cZ : ClassId) (ad : Nat → Nat) (σ : CS) (b : Nat)  (hb : b < 24) (hI : PI σ) : CM l D (t3 cI cJ cZ) yX1_fitsInPlace cX1_fitsInPlace 4 (some .boolean) 1 [.ref (ad 1), .int (nI b)] (wC ad cI cJ cZ σ) (some (.int (bI (fitF (gcL σ) (gcK σ) b)))) (wC ad cI cJ cZ σ) := by
  refine CM.of (by decide) (Nat.le_of_ble_eq_true rfl) ?_
  intro p e s m below meth c A ls E hr hlk hP hD0 hA hA2 hS hl
  have hD := wC_D hD0
  have hl : lv_has ls 4 [(0, .ref (ad 1)), (1, .int (nI b))] := hl
  have hL := hI.2.1 b
  refine lv_aload_n E.1.1 E.1.2.1 dX1_fitsInPlace_0 rfl (lv_at hl 0 rfl) ?_
  refine gt_X1_lengths E fl_X1_15 hP dX1_fitsInPlace_1 ?_
  refine lv_iload_n E.1.1 E.1.2.1 dX1_fitsInPlace_4 rfl (lv_at hl 1 rfl) ?_
  refine ld_CS_L (i := b) E hP (by omega) dX1_fitsInPlace_5 ?_
  refine lv_iconst (v := nI 3) E.1.1 E.1.2.1 dX1_fitsInPlace_6 rfl ?_
  refine nv_icmp_le (by omega) (by omega) E dX1_fitsInPlace_7 (tgt := 12) (by decide) (fun h7 => ?_) (fun h7 => ?_)
  · refine lv_iconst (v := nI 0) E.1.1 E.1.2.1 dX1_fitsInPlace_12 rfl ?_
    refine lv_istore_n (lv' := [(2, .int (nI 0)), (0, .ref (ad 1)), (1, .int (nI b))]) E.1.1 E.1.2.1 dX1_fitsInPlace_13 rfl hl (by decide) rfl (fun ls hl => ?_)
    have LP14 : ∀ (n : Nat) (k : Nat) (H : Heap) (locs : List Loc) (ls : Array Slot), (k + n = gcL σ b) → (fitF (gcL σ) (gcK σ) b = allF (fun k => decide (gcK σ (b * 10 + k) ≠ 7) && decide (gcK σ (b * 10 + k) ≠ 9)) n k) → va_P D vwCl (wC ad cI cJ cZ σ) H → va_S A s.heap H locs → lv_has ls 4 [(0, .ref (ad 1)), (1, .int (nI b)), (2, .int (nI k))] → W p l e { frames := 1, cells := 0, slots := 0, locals := 40 * 1 } s m [.ref (ad 1), .int (nI b)].toArray below meth c H locs 0 0 (MQ below (Qcm D (wC ad cI cJ cZ σ) s.heap.size (some (.int (bI (fitF (gcL σ) (gcK σ) b)))) (wC ad cI cJ cZ σ)) [.ref (ad 1), .int (nI b)].toArray s 0 0 A) (F0 m 14 ls []) := by
      intro n
      induction n with
      | zero =>
        intro k H locs ls hk hv hP hS hl
        refine lv_iload_n E.1.1 E.1.2.1 dX1_fitsInPlace_14 rfl (lv_at hl 2 rfl) ?_
        refine lv_aload_n E.1.1 E.1.2.1 dX1_fitsInPlace_15 rfl (lv_at hl 0 rfl) ?_
        refine gt_X1_lengths E fl_X1_15 hP dX1_fitsInPlace_16 ?_
        refine lv_iload_n E.1.1 E.1.2.1 dX1_fitsInPlace_19 rfl (lv_at hl 1 rfl) ?_
        refine ld_CS_L (i := b) E hP (by omega) dX1_fitsInPlace_20 ?_
        refine nv_icmp_ge (by omega) (by omega) E dX1_fitsInPlace_21 (tgt := 55) (by decide) (fun h21 => ?_) (fun h21 => ?_)
        · refine lv_iconst (v := nI 1) E.1.1 E.1.2.1 dX1_fitsInPlace_55 rfl ?_
          exact CM.retz E hr hlk hA hP hS (er_t (by rw [hv]; rfl)) rfl dX1_fitsInPlace_56
        · exact absurd h21 (by omega)
      | succ n ih14 =>
        intro k H locs ls hk hv hP hS hl
        refine lv_iload_n E.1.1 E.1.2.1 dX1_fitsInPlace_14 rfl (lv_at hl 2 rfl) ?_
        refine lv_aload_n E.1.1 E.1.2.1 dX1_fitsInPlace_15 rfl (lv_at hl 0 rfl) ?_
        refine gt_X1_lengths E fl_X1_15 hP dX1_fitsInPlace_16 ?_
        refine lv_iload_n E.1.1 E.1.2.1 dX1_fitsInPlace_19 rfl (lv_at hl 1 rfl) ?_
        refine ld_CS_L (i := b) E hP (by omega) dX1_fitsInPlace_20 ?_
        refine nv_icmp_ge (by omega) (by omega) E dX1_fitsInPlace_21 (tgt := 55) (by decide) (fun h21 => ?_) (fun h21 => ?_)
        · exact absurd h21 (by omega)
        · refine lv_aload_n E.1.1 E.1.2.1 dX1_fitsInPlace_24 rfl (lv_at hl 0 rfl) ?_
          refine gt_X1_kinds E fl_X1_18 hP dX1_fitsInPlace_25 ?_
          refine lv_iload_n E.1.1 E.1.2.1 dX1_fitsInPlace_28 rfl (lv_at hl 1 rfl) ?_
          refine lv_iload_n E.1.1 E.1.2.1 dX1_fitsInPlace_29 rfl (lv_at hl 2 rfl) ?_
          refine CM.callSi (n := 2) E (c_X1_placeOf l D cI cJ cZ ad σ b k) ml_X1_48 st_X1_placeOf ini_X1 co_X1_placeOf hd_X1_placeOf ⟨Nat.le_of_ble_eq_true rfl, Nat.le_of_ble_eq_true rfl⟩ ⟨Nat.le_refl _, Nat.le_refl _⟩ hP (hD _) hS hA2 rfl hl.1 (Nat.le_of_ble_eq_true rfl) dX1_fitsInPlace_30 rfl (fun H locs hP hS => ?_)
          refine ld_CS_K (i := b * 10 + k) E hP (by omega) dX1_fitsInPlace_33 ?_
          refine lv_istore_n (lv' := [(3, .int (nI (gcK σ (b * 10 + k)))), (0, .ref (ad 1)), (1, .int (nI b)), (2, .int (nI k))]) E.1.1 E.1.2.1 dX1_fitsInPlace_34 rfl hl (by decide) rfl (fun ls hl => ?_)
          have hK := hI.2.2.1 (b * 10 + k)
          refine lv_iload_n E.1.1 E.1.2.1 dX1_fitsInPlace_35 rfl (lv_at hl 0 rfl) ?_
          refine lv_bipush (v := nI 7) E.1.1 E.1.2.1 dX1_fitsInPlace_36 rfl ?_
          refine nv_icmp_eq (by omega) (by omega) E dX1_fitsInPlace_38 (tgt := 47) (by decide) (fun h38 => ?_) (fun h38 => ?_)
          · refine lv_iconst (v := nI 0) E.1.1 E.1.2.1 dX1_fitsInPlace_47 rfl ?_
            exact CM.retz E hr hlk hA hP hS (er_f (by rw [hv, allF]; first | (simp [h38]; done) | (simp [h44]; done))) rfl dX1_fitsInPlace_48
          · refine lv_iload_n E.1.1 E.1.2.1 dX1_fitsInPlace_41 rfl (lv_at hl 0 rfl) ?_
            refine lv_bipush (v := nI 9) E.1.1 E.1.2.1 dX1_fitsInPlace_42 rfl ?_
            refine nv_icmp_ne (by omega) (by omega) E dX1_fitsInPlace_44 (tgt := 49) (by decide) (fun h44 => ?_) (fun h44 => ?_)
            · refine lv_iinc (v := nI (k + 1)) (lv' := [(2, .int (nI (k + 1))), (3, .int (nI (gcK σ (b * 10 + k)))), (0, .ref (ad 1)), (1, .int (nI b))]) E.1.1 E.1.2.1 dX1_fitsInPlace_49 hl (k := 3) rfl (nI_add k 1) (by decide) rfl (fun ls hl => ?_)
              refine lv_goto (tgt := 14) E.1.1 E.1.2.1 dX1_fitsInPlace_52 (by decide) ?_
              exact ih14 (k + 1) _ _ _ (by omega) (by rw [hv, allF]; simp [h38, h44]) hP hS (lv_sub hl [2, 3, 0] rfl)
            · refine lv_iconst (v := nI 0) E.1.1 E.1.2.1 dX1_fitsInPlace_47 rfl ?_
              exact CM.retz E hr hlk hA hP hS (er_f (by rw [hv, allF]; first | (simp [h38]; done) | (simp [h44]; done))) rfl dX1_fitsInPlace_48
    exact LP14 (gcL σ b) 0 _ _ _ (by omega) (by simp [fitF, h7]) hP hS (lv_sub hl [1, 2, 0] rfl)
  · refine lv_iconst (v := nI 0) E.1.1 E.1.2.1 dX1_fitsInPlace_10 rfl ?_
    exact CM.retz E hr hlk hA hP hS (er_f (by simp [fitF]; omega)) rfl dX1_fitsInPlace_11
set_option maxRecDepth 100000 in
set_option maxHeartbeats 4000000 in
theorem c_X1_isWellFormed (l : Launch) (D : va_G) (cI cJ cZ : ClassId) (ad : Nat → Nat) (σ : CS) (k : Int32) (x : Int32) (y : Int32) (z : Int32)   : CM l D (t3 cI cJ cZ) yX1_isWellFormed cX1_isWellFormed 4 (some .boolean) 1 [.int k, .int x, .int y, .int z] (wC ad cI cJ cZ σ) (some (.int (bI (wfF k x y z)))) (wC ad cI cJ cZ σ) := by
  refine CM.of (by decide) (Nat.le_of_ble_eq_true rfl) ?_
  intro p e s m below meth c A ls E hr hlk hP hD0 hA hA2 hS hl
  have hD := wC_D hD0
  have hl : lv_has ls 4 [(0, .int k), (1, .int x), (2, .int y), (3, .int z)] := hl
  refine lv_iload_n E.1.1 E.1.2.1 dX1_isWellFormed_0 rfl (lv_at hl 1 rfl) ?_
  refine lv_bipush (v := nI 6) E.1.1 E.1.2.1 dX1_isWellFormed_1 rfl ?_
  refine CM.callSi (n := 2) E (c_X1_isWithin l D cI cJ cZ ad σ x (nI 6)) ml_X1_40 st_X1_isWithin ini_X1 co_X1_isWithin hd_X1_isWithin ⟨Nat.le_of_ble_eq_true rfl, Nat.le_of_ble_eq_true rfl⟩ ⟨Nat.le_refl _, Nat.le_refl _⟩ hP (hD _) hS hA2 rfl hl.1 (Nat.le_of_ble_eq_true rfl) dX1_isWellFormed_3 rfl (fun H locs hP hS => ?_)
  refine bv_if_ne (x := isW x (nI 6)) E dX1_isWellFormed_6 (tgt := 11) (by decide) (fun h6 => ?_) (fun h6 => ?_)
  · refine lv_iload_n E.1.1 E.1.2.1 dX1_isWellFormed_11 rfl (lv_at hl 0 rfl) ?_
    rcases sw12 k with h12 | h12 | h12 | h12 | h12 | h12 | h12 | h12 | h12 | h12 | h12 | h12 | h12
    · subst h12
      refine lv_tableIn (off := 64) (tgt := 76) E.1.1 E.1.2.1 dX1_isWellFormed_12 (by decide) (by decide) (by decide) (by decide) ?_
      refine lv_iconst (v := nI 1) E.1.1 E.1.2.1 dX1_isWellFormed_76 rfl ?_
      exact CM.retz E hr hlk hA hP hS (er_t (by simp [wfF, h6, wfK_0, wfK_8, wfK_11])) rfl dX1_isWellFormed_77
    · subst h12
      refine lv_tableIn (off := 66) (tgt := 78) E.1.1 E.1.2.1 dX1_isWellFormed_12 (by decide) (by decide) (by decide) (by decide) ?_
      refine lv_iload_n E.1.1 E.1.2.1 dX1_isWellFormed_78 rfl (lv_at hl 2 rfl) ?_
      refine lv_bipush (v := nI 6) E.1.1 E.1.2.1 dX1_isWellFormed_79 rfl ?_
      refine CM.callSi (n := 2) E (c_X1_isWithin l D cI cJ cZ ad σ y (nI 6)) ml_X1_40 st_X1_isWithin ini_X1 co_X1_isWithin hd_X1_isWithin ⟨Nat.le_of_ble_eq_true rfl, Nat.le_of_ble_eq_true rfl⟩ ⟨Nat.le_refl _, Nat.le_refl _⟩ hP (hD _) hS hA2 rfl hl.1 (Nat.le_of_ble_eq_true rfl) dX1_isWellFormed_81 rfl (fun H locs hP hS => ?_)
      exact CM.retz E hr hlk hA hP hS (by simp [wfF, h6, wfK_1]) (bI_n _) dX1_isWellFormed_84
    · subst h12
      refine lv_tableIn (off := 73) (tgt := 85) E.1.1 E.1.2.1 dX1_isWellFormed_12 (by decide) (by decide) (by decide) (by decide) ?_
      refine lv_iload_n E.1.1 E.1.2.1 dX1_isWellFormed_85 rfl (lv_at hl 2 rfl) ?_
      refine lv_bipush (v := nI 6) E.1.1 E.1.2.1 dX1_isWellFormed_86 rfl ?_
      refine CM.callSi (n := 2) E (c_X1_isWithin l D cI cJ cZ ad σ y (nI 6)) ml_X1_40 st_X1_isWithin ini_X1 co_X1_isWithin hd_X1_isWithin ⟨Nat.le_of_ble_eq_true rfl, Nat.le_of_ble_eq_true rfl⟩ ⟨Nat.le_refl _, Nat.le_refl _⟩ hP (hD _) hS hA2 rfl hl.1 (Nat.le_of_ble_eq_true rfl) dX1_isWellFormed_88 rfl (fun H locs hP hS => ?_)
      refine bv_if_eq (x := isW y (nI 6)) E dX1_isWellFormed_91 (tgt := 107) (by decide) (fun h91 => ?_) (fun h91 => ?_)
      · refine lv_iconst (v := nI 0) E.1.1 E.1.2.1 dX1_isWellFormed_107 rfl ?_
        exact CM.retz E hr hlk hA hP hS (er_f (by simp [wfF, h6, wfK_2, wfK_3, *])) rfl dX1_isWellFormed_108
      · refine lv_iload_n E.1.1 E.1.2.1 dX1_isWellFormed_94 rfl (lv_at hl 3 rfl) ?_
        refine lv_bipush (v := nI 6) E.1.1 E.1.2.1 dX1_isWellFormed_95 rfl ?_
        refine CM.callSi (n := 2) E (c_X1_isWithin l D cI cJ cZ ad σ z (nI 6)) ml_X1_40 st_X1_isWithin ini_X1 co_X1_isWithin hd_X1_isWithin ⟨Nat.le_of_ble_eq_true rfl, Nat.le_of_ble_eq_true rfl⟩ ⟨Nat.le_refl _, Nat.le_refl _⟩ hP (hD _) hS hA2 rfl hl.1 (Nat.le_of_ble_eq_true rfl) dX1_isWellFormed_97 rfl (fun H locs hP hS => ?_)
        refine bv_if_eq (x := isW z (nI 6)) E dX1_isWellFormed_100 (tgt := 107) (by decide) (fun h100 => ?_) (fun h100 => ?_)
        · refine lv_iconst (v := nI 0) E.1.1 E.1.2.1 dX1_isWellFormed_107 rfl ?_
          exact CM.retz E hr hlk hA hP hS (er_f (by simp [wfF, h6, wfK_2, wfK_3, *])) rfl dX1_isWellFormed_108
        · refine lv_iconst (v := nI 1) E.1.1 E.1.2.1 dX1_isWellFormed_103 rfl ?_
          refine lv_goto (tgt := 108) E.1.1 E.1.2.1 dX1_isWellFormed_104 (by decide) ?_
          exact CM.retz E hr hlk hA hP hS (er_t (by simp [wfF, h6, wfK_2, wfK_3, *])) rfl dX1_isWellFormed_108
    · subst h12
      refine lv_tableIn (off := 73) (tgt := 85) E.1.1 E.1.2.1 dX1_isWellFormed_12 (by decide) (by decide) (by decide) (by decide) ?_
      refine lv_iload_n E.1.1 E.1.2.1 dX1_isWellFormed_85 rfl (lv_at hl 2 rfl) ?_
      refine lv_bipush (v := nI 6) E.1.1 E.1.2.1 dX1_isWellFormed_86 rfl ?_
      refine CM.callSi (n := 2) E (c_X1_isWithin l D cI cJ cZ ad σ y (nI 6)) ml_X1_40 st_X1_isWithin ini_X1 co_X1_isWithin hd_X1_isWithin ⟨Nat.le_of_ble_eq_true rfl, Nat.le_of_ble_eq_true rfl⟩ ⟨Nat.le_refl _, Nat.le_refl _⟩ hP (hD _) hS hA2 rfl hl.1 (Nat.le_of_ble_eq_true rfl) dX1_isWellFormed_88 rfl (fun H locs hP hS => ?_)
      refine bv_if_eq (x := isW y (nI 6)) E dX1_isWellFormed_91 (tgt := 107) (by decide) (fun h91 => ?_) (fun h91 => ?_)
      · refine lv_iconst (v := nI 0) E.1.1 E.1.2.1 dX1_isWellFormed_107 rfl ?_
        exact CM.retz E hr hlk hA hP hS (er_f (by simp [wfF, h6, wfK_2, wfK_3, *])) rfl dX1_isWellFormed_108
      · refine lv_iload_n E.1.1 E.1.2.1 dX1_isWellFormed_94 rfl (lv_at hl 3 rfl) ?_
        refine lv_bipush (v := nI 6) E.1.1 E.1.2.1 dX1_isWellFormed_95 rfl ?_
        refine CM.callSi (n := 2) E (c_X1_isWithin l D cI cJ cZ ad σ z (nI 6)) ml_X1_40 st_X1_isWithin ini_X1 co_X1_isWithin hd_X1_isWithin ⟨Nat.le_of_ble_eq_true rfl, Nat.le_of_ble_eq_true rfl⟩ ⟨Nat.le_refl _, Nat.le_refl _⟩ hP (hD _) hS hA2 rfl hl.1 (Nat.le_of_ble_eq_true rfl) dX1_isWellFormed_97 rfl (fun H locs hP hS => ?_)
        refine bv_if_eq (x := isW z (nI 6)) E dX1_isWellFormed_100 (tgt := 107) (by decide) (fun h100 => ?_) (fun h100 => ?_)
        · refine lv_iconst (v := nI 0) E.1.1 E.1.2.1 dX1_isWellFormed_107 rfl ?_
          exact CM.retz E hr hlk hA hP hS (er_f (by simp [wfF, h6, wfK_2, wfK_3, *])) rfl dX1_isWellFormed_108
        · refine lv_iconst (v := nI 1) E.1.1 E.1.2.1 dX1_isWellFormed_103 rfl ?_
          refine lv_goto (tgt := 108) E.1.1 E.1.2.1 dX1_isWellFormed_104 (by decide) ?_
          exact CM.retz E hr hlk hA hP hS (er_t (by simp [wfF, h6, wfK_2, wfK_3, *])) rfl dX1_isWellFormed_108
    · subst h12
      refine lv_tableIn (off := 97) (tgt := 109) E.1.1 E.1.2.1 dX1_isWellFormed_12 (by decide) (by decide) (by decide) (by decide) ?_
      refine lv_iload_n E.1.1 E.1.2.1 dX1_isWellFormed_109 rfl (lv_at hl 2 rfl) ?_
      refine lv_bipush (v := nI 6) E.1.1 E.1.2.1 dX1_isWellFormed_110 rfl ?_
      refine CM.callSi (n := 2) E (c_X1_isWithin l D cI cJ cZ ad σ y (nI 6)) ml_X1_40 st_X1_isWithin ini_X1 co_X1_isWithin hd_X1_isWithin ⟨Nat.le_of_ble_eq_true rfl, Nat.le_of_ble_eq_true rfl⟩ ⟨Nat.le_refl _, Nat.le_refl _⟩ hP (hD _) hS hA2 rfl hl.1 (Nat.le_of_ble_eq_true rfl) dX1_isWellFormed_112 rfl (fun H locs hP hS => ?_)
      exact CM.retz E hr hlk hA hP hS (by simp [wfF, h6, wfK_4, wfK_10]) (bI_n _) dX1_isWellFormed_115
    · subst h12
      refine lv_tableIn (off := 104) (tgt := 116) E.1.1 E.1.2.1 dX1_isWellFormed_12 (by decide) (by decide) (by decide) (by decide) ?_
      refine lv_iload_n E.1.1 E.1.2.1 dX1_isWellFormed_116 rfl (lv_at hl 2 rfl) ?_
      refine lv_bipush (v := nI 6) E.1.1 E.1.2.1 dX1_isWellFormed_117 rfl ?_
      refine CM.callSi (n := 2) E (c_X1_isWithin l D cI cJ cZ ad σ y (nI 6)) ml_X1_40 st_X1_isWithin ini_X1 co_X1_isWithin hd_X1_isWithin ⟨Nat.le_of_ble_eq_true rfl, Nat.le_of_ble_eq_true rfl⟩ ⟨Nat.le_refl _, Nat.le_refl _⟩ hP (hD _) hS hA2 rfl hl.1 (Nat.le_of_ble_eq_true rfl) dX1_isWellFormed_119 rfl (fun H locs hP hS => ?_)
      refine bv_if_eq (x := isW y (nI 6)) E dX1_isWellFormed_122 (tgt := 137) (by decide) (fun h122 => ?_) (fun h122 => ?_)
      · refine lv_iconst (v := nI 0) E.1.1 E.1.2.1 dX1_isWellFormed_137 rfl ?_
        exact CM.retz E hr hlk hA hP hS (er_f (by simp [wfF, h6, wfK_5, wfK_6, *])) rfl dX1_isWellFormed_138
      · refine lv_iload_n E.1.1 E.1.2.1 dX1_isWellFormed_125 rfl (lv_at hl 3 rfl) ?_
        refine lv_iconst (v := nI 3) E.1.1 E.1.2.1 dX1_isWellFormed_126 rfl ?_
        refine CM.callSi (n := 2) E (c_X1_isWithin l D cI cJ cZ ad σ z (nI 3)) ml_X1_40 st_X1_isWithin ini_X1 co_X1_isWithin hd_X1_isWithin ⟨Nat.le_of_ble_eq_true rfl, Nat.le_of_ble_eq_true rfl⟩ ⟨Nat.le_refl _, Nat.le_refl _⟩ hP (hD _) hS hA2 rfl hl.1 (Nat.le_of_ble_eq_true rfl) dX1_isWellFormed_127 rfl (fun H locs hP hS => ?_)
        refine bv_if_eq (x := isW z (nI 3)) E dX1_isWellFormed_130 (tgt := 137) (by decide) (fun h130 => ?_) (fun h130 => ?_)
        · refine lv_iconst (v := nI 0) E.1.1 E.1.2.1 dX1_isWellFormed_137 rfl ?_
          exact CM.retz E hr hlk hA hP hS (er_f (by simp [wfF, h6, wfK_5, wfK_6, *])) rfl dX1_isWellFormed_138
        · refine lv_iconst (v := nI 1) E.1.1 E.1.2.1 dX1_isWellFormed_133 rfl ?_
          refine lv_goto (tgt := 138) E.1.1 E.1.2.1 dX1_isWellFormed_134 (by decide) ?_
          exact CM.retz E hr hlk hA hP hS (er_t (by simp [wfF, h6, wfK_5, wfK_6, *])) rfl dX1_isWellFormed_138
    · subst h12
      refine lv_tableIn (off := 104) (tgt := 116) E.1.1 E.1.2.1 dX1_isWellFormed_12 (by decide) (by decide) (by decide) (by decide) ?_
      refine lv_iload_n E.1.1 E.1.2.1 dX1_isWellFormed_116 rfl (lv_at hl 2 rfl) ?_
      refine lv_bipush (v := nI 6) E.1.1 E.1.2.1 dX1_isWellFormed_117 rfl ?_
      refine CM.callSi (n := 2) E (c_X1_isWithin l D cI cJ cZ ad σ y (nI 6)) ml_X1_40 st_X1_isWithin ini_X1 co_X1_isWithin hd_X1_isWithin ⟨Nat.le_of_ble_eq_true rfl, Nat.le_of_ble_eq_true rfl⟩ ⟨Nat.le_refl _, Nat.le_refl _⟩ hP (hD _) hS hA2 rfl hl.1 (Nat.le_of_ble_eq_true rfl) dX1_isWellFormed_119 rfl (fun H locs hP hS => ?_)
      refine bv_if_eq (x := isW y (nI 6)) E dX1_isWellFormed_122 (tgt := 137) (by decide) (fun h122 => ?_) (fun h122 => ?_)
      · refine lv_iconst (v := nI 0) E.1.1 E.1.2.1 dX1_isWellFormed_137 rfl ?_
        exact CM.retz E hr hlk hA hP hS (er_f (by simp [wfF, h6, wfK_5, wfK_6, *])) rfl dX1_isWellFormed_138
      · refine lv_iload_n E.1.1 E.1.2.1 dX1_isWellFormed_125 rfl (lv_at hl 3 rfl) ?_
        refine lv_iconst (v := nI 3) E.1.1 E.1.2.1 dX1_isWellFormed_126 rfl ?_
        refine CM.callSi (n := 2) E (c_X1_isWithin l D cI cJ cZ ad σ z (nI 3)) ml_X1_40 st_X1_isWithin ini_X1 co_X1_isWithin hd_X1_isWithin ⟨Nat.le_of_ble_eq_true rfl, Nat.le_of_ble_eq_true rfl⟩ ⟨Nat.le_refl _, Nat.le_refl _⟩ hP (hD _) hS hA2 rfl hl.1 (Nat.le_of_ble_eq_true rfl) dX1_isWellFormed_127 rfl (fun H locs hP hS => ?_)
        refine bv_if_eq (x := isW z (nI 3)) E dX1_isWellFormed_130 (tgt := 137) (by decide) (fun h130 => ?_) (fun h130 => ?_)
        · refine lv_iconst (v := nI 0) E.1.1 E.1.2.1 dX1_isWellFormed_137 rfl ?_
          exact CM.retz E hr hlk hA hP hS (er_f (by simp [wfF, h6, wfK_5, wfK_6, *])) rfl dX1_isWellFormed_138
        · refine lv_iconst (v := nI 1) E.1.1 E.1.2.1 dX1_isWellFormed_133 rfl ?_
          refine lv_goto (tgt := 138) E.1.1 E.1.2.1 dX1_isWellFormed_134 (by decide) ?_
          exact CM.retz E hr hlk hA hP hS (er_t (by simp [wfF, h6, wfK_5, wfK_6, *])) rfl dX1_isWellFormed_138
    · subst h12
      refine lv_tableIn (off := 127) (tgt := 139) E.1.1 E.1.2.1 dX1_isWellFormed_12 (by decide) (by decide) (by decide) (by decide) ?_
      refine lv_iload_n E.1.1 E.1.2.1 dX1_isWellFormed_139 rfl (lv_at hl 2 rfl) ?_
      refine lv_bipush (v := nI 6) E.1.1 E.1.2.1 dX1_isWellFormed_140 rfl ?_
      refine CM.callSi (n := 2) E (c_X1_isWithin l D cI cJ cZ ad σ y (nI 6)) ml_X1_40 st_X1_isWithin ini_X1 co_X1_isWithin hd_X1_isWithin ⟨Nat.le_of_ble_eq_true rfl, Nat.le_of_ble_eq_true rfl⟩ ⟨Nat.le_refl _, Nat.le_refl _⟩ hP (hD _) hS hA2 rfl hl.1 (Nat.le_of_ble_eq_true rfl) dX1_isWellFormed_142 rfl (fun H locs hP hS => ?_)
      refine bv_if_eq (x := isW y (nI 6)) E dX1_isWellFormed_145 (tgt := 160) (by decide) (fun h145 => ?_) (fun h145 => ?_)
      · refine lv_iconst (v := nI 0) E.1.1 E.1.2.1 dX1_isWellFormed_160 rfl ?_
        exact CM.retz E hr hlk hA hP hS (er_f (by simp [wfF, h6, wfK_7, *])) rfl dX1_isWellFormed_161
      · refine lv_iload_n E.1.1 E.1.2.1 dX1_isWellFormed_148 rfl (lv_at hl 3 rfl) ?_
        refine lv_iconst (v := nI 4) E.1.1 E.1.2.1 dX1_isWellFormed_149 rfl ?_
        refine CM.callSi (n := 2) E (c_X1_isWithin l D cI cJ cZ ad σ z (nI 4)) ml_X1_40 st_X1_isWithin ini_X1 co_X1_isWithin hd_X1_isWithin ⟨Nat.le_of_ble_eq_true rfl, Nat.le_of_ble_eq_true rfl⟩ ⟨Nat.le_refl _, Nat.le_refl _⟩ hP (hD _) hS hA2 rfl hl.1 (Nat.le_of_ble_eq_true rfl) dX1_isWellFormed_150 rfl (fun H locs hP hS => ?_)
        refine bv_if_eq (x := isW z (nI 4)) E dX1_isWellFormed_153 (tgt := 160) (by decide) (fun h153 => ?_) (fun h153 => ?_)
        · refine lv_iconst (v := nI 0) E.1.1 E.1.2.1 dX1_isWellFormed_160 rfl ?_
          exact CM.retz E hr hlk hA hP hS (er_f (by simp [wfF, h6, wfK_7, *])) rfl dX1_isWellFormed_161
        · refine lv_iconst (v := nI 1) E.1.1 E.1.2.1 dX1_isWellFormed_156 rfl ?_
          refine lv_goto (tgt := 161) E.1.1 E.1.2.1 dX1_isWellFormed_157 (by decide) ?_
          exact CM.retz E hr hlk hA hP hS (er_t (by simp [wfF, h6, wfK_7, *])) rfl dX1_isWellFormed_161
    · subst h12
      refine lv_tableIn (off := 64) (tgt := 76) E.1.1 E.1.2.1 dX1_isWellFormed_12 (by decide) (by decide) (by decide) (by decide) ?_
      refine lv_iconst (v := nI 1) E.1.1 E.1.2.1 dX1_isWellFormed_76 rfl ?_
      exact CM.retz E hr hlk hA hP hS (er_t (by simp [wfF, h6, wfK_0, wfK_8, wfK_11])) rfl dX1_isWellFormed_77
    · subst h12
      refine lv_tableIn (off := 150) (tgt := 162) E.1.1 E.1.2.1 dX1_isWellFormed_12 (by decide) (by decide) (by decide) (by decide) ?_
      refine lv_iload_n E.1.1 E.1.2.1 dX1_isWellFormed_162 rfl (lv_at hl 2 rfl) ?_
      refine lv_bipush (v := nI 10) E.1.1 E.1.2.1 dX1_isWellFormed_163 rfl ?_
      refine CM.callSi (n := 2) E (c_X1_isWithin l D cI cJ cZ ad σ y (nI 10)) ml_X1_40 st_X1_isWithin ini_X1 co_X1_isWithin hd_X1_isWithin ⟨Nat.le_of_ble_eq_true rfl, Nat.le_of_ble_eq_true rfl⟩ ⟨Nat.le_refl _, Nat.le_refl _⟩ hP (hD _) hS hA2 rfl hl.1 (Nat.le_of_ble_eq_true rfl) dX1_isWellFormed_165 rfl (fun H locs hP hS => ?_)
      exact CM.retz E hr hlk hA hP hS (by simp [wfF, h6, wfK_9]) (bI_n _) dX1_isWellFormed_168
    · subst h12
      refine lv_tableIn (off := 97) (tgt := 109) E.1.1 E.1.2.1 dX1_isWellFormed_12 (by decide) (by decide) (by decide) (by decide) ?_
      refine lv_iload_n E.1.1 E.1.2.1 dX1_isWellFormed_109 rfl (lv_at hl 2 rfl) ?_
      refine lv_bipush (v := nI 6) E.1.1 E.1.2.1 dX1_isWellFormed_110 rfl ?_
      refine CM.callSi (n := 2) E (c_X1_isWithin l D cI cJ cZ ad σ y (nI 6)) ml_X1_40 st_X1_isWithin ini_X1 co_X1_isWithin hd_X1_isWithin ⟨Nat.le_of_ble_eq_true rfl, Nat.le_of_ble_eq_true rfl⟩ ⟨Nat.le_refl _, Nat.le_refl _⟩ hP (hD _) hS hA2 rfl hl.1 (Nat.le_of_ble_eq_true rfl) dX1_isWellFormed_112 rfl (fun H locs hP hS => ?_)
      exact CM.retz E hr hlk hA hP hS (by simp [wfF, h6, wfK_4, wfK_10]) (bI_n _) dX1_isWellFormed_115
    · subst h12
      refine lv_tableIn (off := 64) (tgt := 76) E.1.1 E.1.2.1 dX1_isWellFormed_12 (by decide) (by decide) (by decide) (by decide) ?_
      refine lv_iconst (v := nI 1) E.1.1 E.1.2.1 dX1_isWellFormed_76 rfl ?_
      exact CM.retz E hr hlk hA hP hS (er_t (by simp [wfF, h6, wfK_0, wfK_8, wfK_11])) rfl dX1_isWellFormed_77
    · refine lv_tableOut (tgt := 169) E.1.1 E.1.2.1 dX1_isWellFormed_12 h12 (by decide) ?_
      refine lv_iconst (v := nI 0) E.1.1 E.1.2.1 dX1_isWellFormed_169 rfl ?_
      exact CM.retz E hr hlk hA hP hS (er_f (by simp [wfF, wfK_out h12])) rfl dX1_isWellFormed_170
  · refine lv_iconst (v := nI 0) E.1.1 E.1.2.1 dX1_isWellFormed_9 rfl ?_
    exact CM.retz E hr hlk hA hP hS (er_f (by simp [wfF, h6])) rfl dX1_isWellFormed_10
end
section
theorem ts_nf9 {x : Bool} (h : ¬ x = false) : x = true := by cases x with
  | true => rfl
  | false => exact absurd rfl h
def fillF {α : Type} (f : Nat → α) (a b : Nat) (v : α) : Nat → α := fun i => if a ≤ i ∧ i < b then v else f i
theorem fillF_0 {α : Type} (f : Nat → α) (a : Nat) (v : α) : fillF f a a v = f := by
  funext i
  unfold fillF
  rw [if_neg (by omega)]
theorem fillF_up {α : Type} (f : Nat → α) {a k : Nat} (v : α) (h : a ≤ k) : va_up (fillF f a k v) k v = fillF f a (k + 1) v := by
  funext i
  unfold va_up fillF
  by_cases e : i = k
  · subst e
    rw [if_pos rfl, if_pos ⟨h, Nat.lt_succ_self i⟩]
  · rw [if_neg e]
    by_cases h2 : a ≤ i ∧ i < k
    · rw [if_pos h2, if_pos ⟨h2.1, by omega⟩]
    · rw [if_neg h2, if_neg (by omega)]
theorem nI_xor (a b : Nat) : nI a ^^^ nI b = nI (a ^^^ b) := by
  apply Int32.toBitVec_inj.1
  show BitVec.ofNat 32 a ^^^ BitVec.ofNat 32 b = BitVec.ofNat 32 (a ^^^ b)
  apply BitVec.eq_of_getLsbD_eq
  intro i hi
  simp [hi]
section NV3
variable {p : Program} {l : Launch} {e : Env} {R : Room} {s : State} {m : MethodId} {args : Array Value} {below : List Frame} {meth : Method} {c : Code} {H : Heap} {locs : List Loc} {cells slots : Nat} {Q : State → Prop}
variable {cc : ByteArray} {nL pc : Nat} {own : String} {x0 : Cond} {D : va_G} {tys : List (ClassId × FieldType)} {ls : Array Slot} {rest : List Value} {off : Int} {tgt a b : Nat}
theorem nv_ixor (E : Cx p s m args c cc nL own x0 D tys) (hd : decode cc pc = .ok (.ixor, 1)) (k : W p l e R s m args below meth c H locs cells slots Q (F0 m (pc + 1) ls (.int (nI (a ^^^ b)) :: rest))) : W p l e R s m args below meth c H locs cells slots Q (F0 m pc ls (.int (nI b) :: .int (nI a) :: rest)) := by
  refine lv_ixor E.1.1 E.1.2.1 hd ?_
  rw [nI_xor]
  exact k
end NV3
theorem tgtF_lt {P : Nat → Option Nat} {L : Nat → Nat} {q : Nat} (hP : ∀ i k, P i = some k → k < 6) (hq : q < 4) : ∀ (f : Nat) (o : Option Nat), (∀ j, o = some j → j < 6) → ∀ k, tgtF P L q f o = some k → k < 24 := by
  intro f
  induction f with
  | zero => intro o _ k h; cases o <;> cases h
  | succ f ih =>
    intro o ho k h
    cases o with
    | none => cases h
    | some a =>
      have ha := ho a rfl
      unfold tgtF at h
      by_cases h0 : 0 < L (a * 4 + q)
      · rw [if_pos h0] at h
        cases h
        omega
      · rw [if_neg h0] at h
        exact ih (P a) (fun j hj => hP a j hj) k h
def tgC (σ : CS) (t q : Nat) : Option Nat := tgtF (gcP σ) (gcL σ) q 6 (some t)
theorem tgC_lt {σ : CS} (hI : PI σ) {t q : Nat} (ht : t < 6) (hq : q < 4) {k : Nat} (h : tgC σ t q = some k) : k < 24 := tgtF_lt hI.1 hq 6 (some t) (fun j hj => by cases hj; exact ht) k h
def tsF (σ : CS) (t q : Nat) : Nat := match tgC σ t q with
  | none => 0
  | some k => 1 <<< k
/-- the sets are sets of classes, bodies and selectors -/
def BI (σ : CS) : Prop := gcma σ < 64 ∧ gcre σ < 16777216 ∧ gcca σ < 16
theorem shl_lt {k n : Nat} (h : k < n) : 1 <<< k < 2 ^ n := by
  rw [Nat.shiftLeft_eq, Nat.one_mul]
  exact Nat.pow_lt_pow_right (by decide) h
theorem or_lt6 {a k : Nat} (h : a < 64) (hk : k < 6) : a ||| 1 <<< k < 64 := Nat.or_lt_two_pow (n := 6) h (shl_lt hk)
theorem or_lt4 {a k : Nat} (h : a < 16) (hk : k < 4) : a ||| 1 <<< k < 16 := Nat.or_lt_two_pow (n := 4) h (shl_lt hk)
theorem tsF_lt {σ : CS} (hI : PI σ) {t q : Nat} (ht : t < 6) (hq : q < 4) : tsF σ t q < 16777216 := by
  unfold tsF
  cases h : tgC σ t q with
  | none => exact (by decide : (0 : Nat) < 16777216)
  | some k => exact shl_lt (n := 24) (tgC_lt hI ht hq h)
theorem or_lt24 {a b : Nat} (h : a < 16777216) (hb : b < 16777216) : a ||| b < 16777216 := Nat.or_lt_two_pow (n := 24) h hb
def rbS (b k : Nat) (τ : CS) : CS := if gcK τ (b * 10 + k) = 4 then scma τ (gcma τ ||| 1 <<< yN τ (b * 10 + k)) else if gcK τ (b * 10 + k) = 7 then scca τ (gcca τ ||| 1 <<< zN τ (b * 10 + k)) else τ
def rbF (b : Nat) (σ : CS) : CS := itN (rbS b) (gcL σ b) 0 σ
def rsS (fr b : Nat) (τ : CS) : CS := if fr.testBit b = true then rbF b τ else τ
def rsF (fr : Nat) (σ : CS) : CS := itN (rsS fr) 24 0 σ
def rtS (t q : Nat) (τ : CS) : CS := if (gcma τ).testBit t = true then (if (gcca τ).testBit q = true then scre τ (gcre τ ||| tsF τ t q) else τ) else τ
def rtF (σ : CS) : CS := itN (fun t τ => itN (rtS t) 4 0 τ) 6 0 σ
def frL : Nat → Nat → CS → CS
  | 0, _, τ => τ
  | n + 1, rd, τ => if rd = gcre τ then τ else frL n (gcre τ) (rtF (rsF (gcre τ &&& (rd ^^^ 4294967295)) τ))
def fr0 (σ : CS) : CS := scre (scca (scma σ 1) 0) (tsF σ 0 0)
def frF (σ : CS) : CS := frL 24 0 (fr0 σ)
/-- all that the shaping's own methods keep: the program -/
def Kp (σ τ : CS) : Prop := PI τ ∧ WI τ ∧ BI τ ∧ gcL τ = gcL σ ∧ gcP τ = gcP σ ∧ gcK τ = gcK σ ∧ gcX τ = gcX σ ∧ gcY τ = gcY σ ∧ gcZ τ = gcZ σ ∧ gcn τ = gcn σ
theorem itN_inv {α : Type} {f : Nat → α → α} (I : α → Prop) {N : Nat} (h : ∀ k x, k < N → I x → I (f k x)) : ∀ (n k : Nat) (x : α), k + n ≤ N → I x → I (itN f n k x) := by
  intro n
  induction n with
  | zero => intro k x _ hx; exact hx
  | succ n ih => intro k x hk hx; exact ih (k + 1) _ (by omega) (h k x (by omega) hx)
theorem Kp_rf {σ : CS} (h1 : PI σ) (h2 : WI σ) (h3 : BI σ) : Kp σ σ := ⟨h1, h2, h3, rfl, rfl, rfl, rfl, rfl, rfl, rfl⟩
theorem Kp_ma {σ τ : CS} {v : Nat} (h : Kp σ τ) (hv : v < 64) : Kp σ (scma τ v) := ⟨h.1, h.2.1, ⟨hv, h.2.2.1.2⟩, h.2.2.2⟩
theorem Kp_ca {σ τ : CS} {v : Nat} (h : Kp σ τ) (hv : v < 16) : Kp σ (scca τ v) := ⟨h.1, h.2.1, ⟨h.2.2.1.1, h.2.2.1.2.1, hv⟩, h.2.2.2⟩
theorem Kp_re {σ τ : CS} {v : Nat} (h : Kp σ τ) (hv : v < 16777216) : Kp σ (scre τ v) := ⟨h.1, h.2.1, ⟨h.2.2.1.1, hv, h.2.2.1.2.2⟩, h.2.2.2⟩
theorem Kp_V {σ τ : CS} {v : Nat → Nat} (h : Kp σ τ) : Kp σ (scV τ v) := h
theorem Kp_CV {σ τ : CS} {v : Nat → Nat} (h : Kp σ τ) : Kp σ (scCV τ v) := h
theorem Kp_rb {σ τ : CS} {b k : Nat} (h : Kp σ τ) : Kp σ (rbS b k τ) := by
  unfold rbS
  by_cases h4 : gcK τ (b * 10 + k) = 4
  · rw [if_pos h4]
    exact Kp_ma h (or_lt6 h.2.2.1.1 (WI_y h.2.1 (by omega)).2)
  · rw [if_neg h4]
    by_cases h7 : gcK τ (b * 10 + k) = 7
    · rw [if_pos h7]
      exact Kp_ca h (or_lt4 h.2.2.1.2.2 (WI_z4 h.2.1 h7).2)
    · rw [if_neg h7]
      exact h
theorem Kp_rbF {σ τ : CS} {b : Nat} (h : Kp σ τ) : Kp σ (rbF b τ) := itN_inv (Kp σ) (N := gcL τ b) (fun k x _ hx => Kp_rb hx) _ _ _ (by omega) h
theorem Kp_rs {σ τ : CS} {fr b : Nat} (h : Kp σ τ) : Kp σ (rsS fr b τ) := by
  unfold rsS
  by_cases h4 : fr.testBit b = true
  · rw [if_pos h4]; exact Kp_rbF h
  · rw [if_neg h4]; exact h
theorem Kp_rsF {σ τ : CS} {fr : Nat} (h : Kp σ τ) : Kp σ (rsF fr τ) := itN_inv (Kp σ) (N := 24) (fun k x _ hx => Kp_rs hx) _ _ _ (by omega) h
theorem Kp_rt {σ τ : CS} {t q : Nat} (ht : t < 6) (hq : q < 4) (h : Kp σ τ) : Kp σ (rtS t q τ) := by
  unfold rtS
  by_cases h4 : (gcma τ).testBit t = true
  · rw [if_pos h4]
    by_cases h5 : (gcca τ).testBit q = true
    · rw [if_pos h5]; exact Kp_re h (or_lt24 h.2.2.1.2.1 (tsF_lt h.1 ht hq))
    · rw [if_neg h5]; exact h
  · rw [if_neg h4]; exact h
theorem Kp_rt4 {σ τ : CS} {t : Nat} (ht : t < 6) (h : Kp σ τ) : Kp σ (itN (rtS t) 4 0 τ) := itN_inv (Kp σ) (N := 4) (fun k x hk hx => Kp_rt ht hk hx) _ _ _ (by omega) h
theorem Kp_rtF {σ τ : CS} (h : Kp σ τ) : Kp σ (rtF τ) := itN_inv (Kp σ) (N := 6) (fun k x hk hx => Kp_rt4 hk hx) _ _ _ (by omega) h
theorem Kp_fr0 {σ : CS} (h1 : PI σ) (h2 : WI σ) : Kp σ (fr0 σ) := ⟨h1, h2, ⟨(by decide : (1 : Nat) < 64), tsF_lt h1 (by decide) (by decide), (by decide : (0 : Nat) < 16)⟩, rfl, rfl, rfl, rfl, rfl, rfl, rfl⟩
theorem fresh_lt {a b : Nat} (h : a < 16777216) : a &&& b < 16777216 := Nat.lt_of_le_of_lt Nat.and_le_left h
theorem Kp_frL {σ : CS} : ∀ (n rd : Nat) (τ : CS), Kp σ τ → Kp σ (frL n rd τ) := by
  intro n
  induction n with
  | zero => intro rd τ h; exact h
  | succ n ih =>
    intro rd τ h
    unfold frL
    by_cases e : rd = gcre τ
    · rw [if_pos e]; exact h
    · rw [if_neg e]; exact ih _ _ (Kp_rtF (Kp_rsF h))
theorem Kp_frF {σ : CS} (h1 : PI σ) (h2 : WI σ) : Kp σ (frF σ) := Kp_frL _ _ _ (Kp_fr0 h1 h2)
def vcL (σ : CS) (q : Nat) : Nat → Nat → Option Nat → Nat
  | 0, _, o => match o with
    | none => 4
    | some b => if fitF (gcL σ) (gcK σ) b = true then 3 else 2
  | n + 1, c, o => match (if (gcma σ).testBit c = true then tgC σ c q else none) with
    | none => vcL σ q n (c + 1) o
    | some t => match o with
      | none => vcL σ q n (c + 1) (some t)
      | some b => if b = t then vcL σ q n (c + 1) (some t) else 1
def vcF (σ : CS) (q : Nat) : Nat := vcL σ q 6 0 none
def woS (σ : CS) (b k w : Nat) : Nat := if gcK σ (b * 10 + k) = 6 then w ||| 1 <<< yN σ (b * 10 + k) else if gcK σ (b * 10 + k) = 7 then w ||| (1 <<< yN σ (b * 10 + k) ||| 32) else if gcK σ (b * 10 + k) = 11 then w ||| 1 <<< gcX σ (b * 10 + k) else w
def woF (σ : CS) (b : Nat) : Nat := itN (woS σ b) (gcL σ b) 0 0
def hoS (σ : CS) (b k h : Nat) : Nat := if gcK σ (b * 10 + k) = 1 then (if h.testBit (yN σ (b * 10 + k)) = true then h ||| 1 <<< gcX σ (b * 10 + k) else h) else h
def hoR (σ : CS) (b : Nat) (_ : Nat) (h : Nat) : Nat := itN (hoS σ b) (gcL σ b) 0 h
def hoF (σ : CS) (b r : Nat) : Nat := itN (hoR σ b) 5 1 (1 <<< r)
def jdS (b w k : Nat) (τ : CS) : CS := if gcK τ (b * 10 + k) = 7 then scV τ (va_up (gcV τ) (b * 10 + k) (gcCV τ (zN τ (b * 10 + k)))) else if gcK τ (b * 10 + k) = 4 then scV τ (va_up (gcV τ) (b * 10 + k) (if hoF τ b (gcX τ (b * 10 + k)) &&& w = 0 then 5 else 6)) else τ
def jdF (b : Nat) (σ : CS) : CS := itN (jdS b (woF σ b)) (gcL σ b) 0 σ
theorem Kp_jd {σ τ : CS} {b w k : Nat} (h : Kp σ τ) : Kp σ (jdS b w k τ) := by
  unfold jdS
  by_cases h4 : gcK τ (b * 10 + k) = 7
  · rw [if_pos h4]; exact h
  · rw [if_neg h4]
    by_cases h7 : gcK τ (b * 10 + k) = 4
    · rw [if_pos h7]; exact h
    · rw [if_neg h7]; exact h
theorem Kp_jdF {σ τ : CS} {b : Nat} (h : Kp σ τ) : Kp σ (jdF b τ) := itN_inv (Kp σ) (N := gcL τ b) (fun k x _ hx => Kp_jd hx) _ _ _ (by omega) h
def jaS (b : Nat) (τ : CS) : CS := if (gcre τ).testBit b = true then jdF b τ else τ
def cvS (q : Nat) (τ : CS) : CS := scCV τ (va_up (gcCV τ) q (vcF τ q))
def rnF (σ : CS) : CS := itN jaS 24 0 (itN cvS 4 0 (frF (scV σ (fillF (gcV σ) 0 240 0))))
theorem wo_lt {σ : CS} (hI : PI σ) (hW : WI σ) {b k w : Nat} (h : w < 64) : woS σ b k w < 64 := by
  unfold woS
  by_cases h6 : gcK σ (b * 10 + k) = 6
  · rw [if_pos h6]; exact or_lt6 h (WI_y hW (by omega)).2
  · rw [if_neg h6]
    by_cases h7 : gcK σ (b * 10 + k) = 7
    · rw [if_pos h7]; exact Nat.or_lt_two_pow (n := 6) h (Nat.or_lt_two_pow (shl_lt (WI_y hW (by omega)).2) (by decide))
    · rw [if_neg h7]
      by_cases h8 : gcK σ (b * 10 + k) = 11
      · rw [if_pos h8]; exact or_lt6 h (hI.2.2.2.1 _)
      · rw [if_neg h8]; exact h
theorem ho_lt {σ : CS} (hI : PI σ) {b k w : Nat} (h : w < 64) : hoS σ b k w < 64 := by
  unfold hoS
  by_cases h6 : gcK σ (b * 10 + k) = 1
  · rw [if_pos h6]
    by_cases h7 : w.testBit (yN σ (b * 10 + k)) = true
    · rw [if_pos h7]; exact or_lt6 h (hI.2.2.2.1 _)
    · rw [if_neg h7]; exact h
  · rw [if_neg h6]; exact h
theorem hoR_lt {σ : CS} (hI : PI σ) {b k w : Nat} (h : w < 64) : hoR σ b k w < 64 := itN_inv (fun x => x < 64) (N := gcL σ b) (fun k x _ hx => ho_lt hI hx) _ _ _ (by omega) h
theorem hoF_lt {σ : CS} (hI : PI σ) {b r : Nat} (h : r < 6) : hoF σ b r < 64 := itN_inv (fun x => x < 64) (N := 6) (fun k x _ hx => hoR_lt hI hx) _ _ _ (by omega) (shl_lt h)
theorem woF_lt {σ : CS} (hI : PI σ) (hW : WI σ) {b : Nat} : woF σ b < 64 := itN_inv (fun x => x < 64) (N := gcL σ b) (fun k x _ hx => wo_lt hI hW hx) _ _ _ (by omega) (by decide)
/-- the number that Integer.bitCount answers -/
def bcS1 (x : Int32) : Int32 := x - ((x.toUInt32 >>> ((nI 1).toUInt32 &&& Int32.toUInt32 31)).toInt32 &&& 1431655765)
def bcS2 (x : Int32) : Int32 := (x &&& 858993459) + ((x.toUInt32 >>> ((nI 2).toUInt32 &&& Int32.toUInt32 31)).toInt32 &&& 858993459)
def bcS3 (x : Int32) : Int32 := (x + (x.toUInt32 >>> ((nI 4).toUInt32 &&& Int32.toUInt32 31)).toInt32) &&& 252645135
def bcS4 (x : Int32) : Int32 := x + (x.toUInt32 >>> ((nI 8).toUInt32 &&& Int32.toUInt32 31)).toInt32
def bcS5 (x : Int32) : Int32 := x + (x.toUInt32 >>> ((nI 16).toUInt32 &&& Int32.toUInt32 31)).toInt32
def bcF (x : Int32) : Int32 := bcS5 (bcS4 (bcS3 (bcS2 (bcS1 x)))) &&& nI 63
end
section
set_option maxRecDepth 100000 in
set_option maxHeartbeats 4000000 in
theorem c_J7_rangeCheck_23922 (l : Launch) (D : va_G) (cI cJ cZ : ClassId) (ad : Nat → Nat) (σ : CS) (n : Nat) (a : Nat) (b : Nat)  (hab : a ≤ b) (hbn : b ≤ n) (hn : n < 2147483648) : CM l D (t3 cI cJ cZ) yJ7_rangeCheck_23922 cJ7_rangeCheck_23922 3 none 0 [.int (nI n), .int (nI a), .int (nI b)] (wC ad cI cJ cZ σ) (none) (wC ad cI cJ cZ σ) := by
  refine CM.of (by decide) (Nat.le_of_ble_eq_true rfl) ?_
  intro p e s m below meth c A ls E hr hlk hP hD0 hA hA2 hS hl
  have hD := wC_D hD0
  have hl : lv_has ls 3 [(0, .int (nI n)), (1, .int (nI a)), (2, .int (nI b))] := hl
  refine lv_iload_n E.1.1 E.1.2.1 dJ7_rangeCheck_23922_0 rfl (lv_at hl 1 rfl) ?_
  refine lv_iload_n E.1.1 E.1.2.1 dJ7_rangeCheck_23922_1 rfl (lv_at hl 2 rfl) ?_
  refine nv_icmp_le (by omega) (by omega) E dJ7_rangeCheck_23922_2 (tgt := 46) (by decide) (fun h2 => ?_) (fun h2 => ?_)
  · refine lv_iload_n E.1.1 E.1.2.1 dJ7_rangeCheck_23922_46 rfl (lv_at hl 1 rfl) ?_
    refine nv_if_ge (by omega) E dJ7_rangeCheck_23922_47 (tgt := 59) (by decide) ?_
    refine lv_iload_n E.1.1 E.1.2.1 dJ7_rangeCheck_23922_59 rfl (lv_at hl 2 rfl) ?_
    refine lv_iload_n E.1.1 E.1.2.1 dJ7_rangeCheck_23922_60 rfl (lv_at hl 0 rfl) ?_
    refine nv_icmp_le (by omega) (by omega) E dJ7_rangeCheck_23922_61 (tgt := 73) (by decide) (fun h61 => ?_) (fun h61 => ?_)
    · exact CM.retv E hr hlk hA hP hS rfl dJ7_rangeCheck_23922_73
    · exact absurd h61 (by omega)
  · exact absurd h2 (by omega)
set_option maxRecDepth 100000 in
set_option maxHeartbeats 4000000 in
theorem c_J7_fill_fda19_V (l : Launch) (D : va_G) (cI cJ cZ : ClassId) (ad : Nat → Nat) (σ : CS) (a : Nat) (b : Nat) (v : Nat)  (hab : a ≤ b) (hbn : b ≤ 240) : CM l D (t3 cI cJ cZ) yJ7_fill_fda19 cJ7_fill_fda19 5 none 1 [.ref (ad 10), .int (nI a), .int (nI b), .int (nI v)] (wC ad cI cJ cZ σ) (none) (wC ad cI cJ cZ (scV σ (fillF (gcV σ) a b v))) := by
  refine CM.of (by decide) (Nat.le_of_ble_eq_true rfl) ?_
  intro p e s m below meth c A ls E hr hlk hP hD0 hA hA2 hS hl
  have hD := wC_D hD0
  have hl : lv_has ls 5 [(0, .ref (ad 10)), (1, .int (nI a)), (2, .int (nI b)), (3, .int (nI v))] := hl
  refine lv_aload_n E.1.1 E.1.2.1 dJ7_fill_fda19_0 rfl (lv_at hl 0 rfl) ?_
  refine va_alen (v := nI 240) E.1.1 E.1.2.1 E.2 hP 10 0 rfl rfl rfl dJ7_fill_fda19_1 ?_
  refine lv_iload_n E.1.1 E.1.2.1 dJ7_fill_fda19_2 rfl (lv_at hl 1 rfl) ?_
  refine lv_iload_n E.1.1 E.1.2.1 dJ7_fill_fda19_3 rfl (lv_at hl 2 rfl) ?_
  refine CM.callSv (n := 3) E (c_J7_rangeCheck_23922 l D cI cJ cZ ad σ 240 a b (by omega) (by omega) (by omega)) ml_J7_13 st_J7_rangeCheck_23922 ini_J7 co_J7_rangeCheck_23922 hd_J7_rangeCheck_23922 ⟨Nat.le_of_ble_eq_true rfl, Nat.le_of_ble_eq_true rfl⟩ ⟨Nat.le_refl _, Nat.le_refl _⟩ hP (hD _) hS hA2 rfl hl.1 (Nat.le_of_ble_eq_true rfl) dJ7_fill_fda19_4 rfl (fun H locs hP hS => ?_)
  refine lv_iload_n E.1.1 E.1.2.1 dJ7_fill_fda19_7 rfl (lv_at hl 1 rfl) ?_
  refine lv_istore (lv' := [(4, .int (nI a)), (0, .ref (ad 10)), (1, .int (nI a)), (2, .int (nI b)), (3, .int (nI v))]) E.1.1 E.1.2.1 dJ7_fill_fda19_8 hl (by decide) rfl (fun ls hl => ?_)
  have LP10 : ∀ (n : Nat) (k : Nat) (H : Heap) (locs : List Loc) (ls : Array Slot), (a ≤ k) → (k + n = b) → va_P D vwCl (wC ad cI cJ cZ (scV σ (fillF (gcV σ) a k v))) H → va_S A s.heap H locs → lv_has ls 5 [(0, .ref (ad 10)), (1, .int (nI a)), (2, .int (nI b)), (3, .int (nI v)), (4, .int (nI k))] → W p l e { frames := 1, cells := 0, slots := 0, locals := 40 * 1 } s m [.ref (ad 10), .int (nI a), .int (nI b), .int (nI v)].toArray below meth c H locs 0 0 (MQ below (Qcm D (wC ad cI cJ cZ σ) s.heap.size (none) (wC ad cI cJ cZ (scV σ (fillF (gcV σ) a b v)))) [.ref (ad 10), .int (nI a), .int (nI b), .int (nI v)].toArray s 0 0 A) (F0 m 10 ls []) := by
    intro n
    induction n with
    | zero =>
      intro k H locs ls hak hkn hP hS hl
      refine lv_iload E.1.1 E.1.2.1 dJ7_fill_fda19_10 (lv_at hl 4 rfl) ?_
      refine lv_iload_n E.1.1 E.1.2.1 dJ7_fill_fda19_12 rfl (lv_at hl 2 rfl) ?_
      refine nv_icmp_ge (by omega) (by omega) E dJ7_fill_fda19_13 (tgt := 27) (by decide) (fun h13 => ?_) (fun h13 => ?_)
      · exact CM.retv E hr hlk hA (by have e9 : k = b := (by omega); rw [← e9]; exact hP) hS rfl dJ7_fill_fda19_27
      · exact absurd h13 (by omega)
    | succ n ih10 =>
      intro k H locs ls hak hkn hP hS hl
      refine lv_iload E.1.1 E.1.2.1 dJ7_fill_fda19_10 (lv_at hl 4 rfl) ?_
      refine lv_iload_n E.1.1 E.1.2.1 dJ7_fill_fda19_12 rfl (lv_at hl 2 rfl) ?_
      refine nv_icmp_ge (by omega) (by omega) E dJ7_fill_fda19_13 (tgt := 27) (by decide) (fun h13 => ?_) (fun h13 => ?_)
      · exact absurd h13 (by omega)
      · refine lv_aload_n E.1.1 E.1.2.1 dJ7_fill_fda19_16 rfl (lv_at hl 0 rfl) ?_
        refine lv_iload E.1.1 E.1.2.1 dJ7_fill_fda19_17 (lv_at hl 4 rfl) ?_
        refine lv_iload_n E.1.1 E.1.2.1 dJ7_fill_fda19_19 rfl (lv_at hl 3 rfl) ?_
        refine as_CS_V (i := k) (v := v) E hP hD hS (by omega) dJ7_fill_fda19_20 (fun H locs hP hS => ?_)
        refine lv_iinc (v := nI (k + 1)) (lv' := [(4, .int (nI (k + 1))), (0, .ref (ad 10)), (1, .int (nI a)), (2, .int (nI b)), (3, .int (nI v))]) E.1.1 E.1.2.1 dJ7_fill_fda19_21 hl (k := 4) rfl (nI_add k 1) (by decide) rfl (fun ls hl => ?_)
        refine lv_goto (tgt := 10) E.1.1 E.1.2.1 dJ7_fill_fda19_24 (by decide) ?_
        exact ih10 (k + 1) _ _ _ (by omega) (by omega) (by rw [← fillF_up (gcV σ) v hak]; exact hP) hS (lv_sub hl [1, 2, 3, 4, 0] rfl)
  exact LP10 (b - a) a _ _ _ (by omega) (by omega) (by rw [fillF_0]; exact hP) hS (lv_sub hl [1, 2, 3, 4, 0] rfl)
set_option maxRecDepth 100000 in
set_option maxHeartbeats 4000000 in
theorem c_J7_fill_bad5a_Rg (l : Launch) (D : va_G) (cI cJ cZ : ClassId) (ad : Nat → Nat) (σ : CS) (a : Nat) (b : Nat) (v : Val)  (hab : a ≤ b) (hbn : b ≤ 72) : CM l D (t3 cI cJ cZ) yJ7_fill_bad5a cJ7_fill_bad5a 6 none 1 [.ref (ad 12), .int (nI a), .int (nI b), .long (vJ v)] (wC ad cI cJ cZ σ) (none) (wC ad cI cJ cZ (scRg σ (fillF (gcRg σ) a b v))) := by
  refine CM.of (by decide) (Nat.le_of_ble_eq_true rfl) ?_
  intro p e s m below meth c A ls E hr hlk hP hD0 hA hA2 hS hl
  have hD := wC_D hD0
  have hl : lv_has ls 6 [(0, .ref (ad 12)), (1, .int (nI a)), (2, .int (nI b)), (3, .long (vJ v))] := hl
  refine lv_aload_n E.1.1 E.1.2.1 dJ7_fill_bad5a_0 rfl (lv_at hl 0 rfl) ?_
  refine va_alen (v := nI 72) E.1.1 E.1.2.1 E.2 hP 12 1 rfl rfl rfl dJ7_fill_bad5a_1 ?_
  refine lv_iload_n E.1.1 E.1.2.1 dJ7_fill_bad5a_2 rfl (lv_at hl 1 rfl) ?_
  refine lv_iload_n E.1.1 E.1.2.1 dJ7_fill_bad5a_3 rfl (lv_at hl 2 rfl) ?_
  refine CM.callSv (n := 3) E (c_J7_rangeCheck_23922 l D cI cJ cZ ad σ 72 a b (by omega) (by omega) (by omega)) ml_J7_13 st_J7_rangeCheck_23922 ini_J7 co_J7_rangeCheck_23922 hd_J7_rangeCheck_23922 ⟨Nat.le_of_ble_eq_true rfl, Nat.le_of_ble_eq_true rfl⟩ ⟨Nat.le_refl _, Nat.le_refl _⟩ hP (hD _) hS hA2 rfl hl.1 (Nat.le_of_ble_eq_true rfl) dJ7_fill_bad5a_4 rfl (fun H locs hP hS => ?_)
  refine lv_iload_n E.1.1 E.1.2.1 dJ7_fill_bad5a_7 rfl (lv_at hl 1 rfl) ?_
  refine lv_istore (lv' := [(5, .int (nI a)), (0, .ref (ad 12)), (1, .int (nI a)), (2, .int (nI b)), (3, .long (vJ v))]) E.1.1 E.1.2.1 dJ7_fill_bad5a_8 hl (by decide) rfl (fun ls hl => ?_)
  have LP10 : ∀ (n : Nat) (k : Nat) (H : Heap) (locs : List Loc) (ls : Array Slot), (a ≤ k) → (k + n = b) → va_P D vwCl (wC ad cI cJ cZ (scRg σ (fillF (gcRg σ) a k v))) H → va_S A s.heap H locs → lv_has ls 6 [(0, .ref (ad 12)), (1, .int (nI a)), (2, .int (nI b)), (3, .long (vJ v)), (5, .int (nI k))] → W p l e { frames := 1, cells := 0, slots := 0, locals := 40 * 1 } s m [.ref (ad 12), .int (nI a), .int (nI b), .long (vJ v)].toArray below meth c H locs 0 0 (MQ below (Qcm D (wC ad cI cJ cZ σ) s.heap.size (none) (wC ad cI cJ cZ (scRg σ (fillF (gcRg σ) a b v)))) [.ref (ad 12), .int (nI a), .int (nI b), .long (vJ v)].toArray s 0 0 A) (F0 m 10 ls []) := by
    intro n
    induction n with
    | zero =>
      intro k H locs ls hak hkn hP hS hl
      refine lv_iload E.1.1 E.1.2.1 dJ7_fill_bad5a_10 (lv_at hl 4 rfl) ?_
      refine lv_iload_n E.1.1 E.1.2.1 dJ7_fill_bad5a_12 rfl (lv_at hl 2 rfl) ?_
      refine nv_icmp_ge (by omega) (by omega) E dJ7_fill_bad5a_13 (tgt := 27) (by decide) (fun h13 => ?_) (fun h13 => ?_)
      · exact CM.retv E hr hlk hA (by have e9 : k = b := (by omega); rw [← e9]; exact hP) hS rfl dJ7_fill_bad5a_27
      · exact absurd h13 (by omega)
    | succ n ih10 =>
      intro k H locs ls hak hkn hP hS hl
      refine lv_iload E.1.1 E.1.2.1 dJ7_fill_bad5a_10 (lv_at hl 4 rfl) ?_
      refine lv_iload_n E.1.1 E.1.2.1 dJ7_fill_bad5a_12 rfl (lv_at hl 2 rfl) ?_
      refine nv_icmp_ge (by omega) (by omega) E dJ7_fill_bad5a_13 (tgt := 27) (by decide) (fun h13 => ?_) (fun h13 => ?_)
      · exact absurd h13 (by omega)
      · refine lv_aload_n E.1.1 E.1.2.1 dJ7_fill_bad5a_16 rfl (lv_at hl 0 rfl) ?_
        refine lv_iload E.1.1 E.1.2.1 dJ7_fill_bad5a_17 (lv_at hl 4 rfl) ?_
        refine lv_lload_n E.1.1 E.1.2.1 dJ7_fill_bad5a_19 rfl (lv_at hl 3 rfl) ?_
        refine as_CS_Rg (i := k) (v := v) E hP hD hS (by omega) dJ7_fill_bad5a_20 (fun H locs hP hS => ?_)
        refine lv_iinc (v := nI (k + 1)) (lv' := [(5, .int (nI (k + 1))), (0, .ref (ad 12)), (1, .int (nI a)), (2, .int (nI b)), (3, .long (vJ v))]) E.1.1 E.1.2.1 dJ7_fill_bad5a_21 hl (k := 4) rfl (nI_add k 1) (by decide) rfl (fun ls hl => ?_)
        refine lv_goto (tgt := 10) E.1.1 E.1.2.1 dJ7_fill_bad5a_24 (by decide) ?_
        exact ih10 (k + 1) _ _ _ (by omega) (by omega) (by rw [← fillF_up (gcRg σ) v hak]; exact hP) hS (lv_sub hl [1, 2, 3, 4, 0] rfl)
  exact LP10 (b - a) a _ _ _ (by omega) (by omega) (by rw [fillF_0]; exact hP) hS (lv_sub hl [1, 2, 3, 4, 0] rfl)
set_option maxRecDepth 100000 in
set_option maxHeartbeats 4000000 in
theorem c_J7_fill_bad5a_Fl (l : Launch) (D : va_G) (cI cJ cZ : ClassId) (ad : Nat → Nat) (σ : CS) (a : Nat) (b : Nat) (v : Val)  (hab : a ≤ b) (hbn : b ≤ 1203) : CM l D (t3 cI cJ cZ) yJ7_fill_bad5a cJ7_fill_bad5a 6 none 1 [.ref (ad 17), .int (nI a), .int (nI b), .long (vJ v)] (wC ad cI cJ cZ σ) (none) (wC ad cI cJ cZ (scFl σ (fillF (gcFl σ) a b v))) := by
  refine CM.of (by decide) (Nat.le_of_ble_eq_true rfl) ?_
  intro p e s m below meth c A ls E hr hlk hP hD0 hA hA2 hS hl
  have hD := wC_D hD0
  have hl : lv_has ls 6 [(0, .ref (ad 17)), (1, .int (nI a)), (2, .int (nI b)), (3, .long (vJ v))] := hl
  refine lv_aload_n E.1.1 E.1.2.1 dJ7_fill_bad5a_0 rfl (lv_at hl 0 rfl) ?_
  refine va_alen (v := nI 1203) E.1.1 E.1.2.1 E.2 hP 17 1 rfl rfl rfl dJ7_fill_bad5a_1 ?_
  refine lv_iload_n E.1.1 E.1.2.1 dJ7_fill_bad5a_2 rfl (lv_at hl 1 rfl) ?_
  refine lv_iload_n E.1.1 E.1.2.1 dJ7_fill_bad5a_3 rfl (lv_at hl 2 rfl) ?_
  refine CM.callSv (n := 3) E (c_J7_rangeCheck_23922 l D cI cJ cZ ad σ 1203 a b (by omega) (by omega) (by omega)) ml_J7_13 st_J7_rangeCheck_23922 ini_J7 co_J7_rangeCheck_23922 hd_J7_rangeCheck_23922 ⟨Nat.le_of_ble_eq_true rfl, Nat.le_of_ble_eq_true rfl⟩ ⟨Nat.le_refl _, Nat.le_refl _⟩ hP (hD _) hS hA2 rfl hl.1 (Nat.le_of_ble_eq_true rfl) dJ7_fill_bad5a_4 rfl (fun H locs hP hS => ?_)
  refine lv_iload_n E.1.1 E.1.2.1 dJ7_fill_bad5a_7 rfl (lv_at hl 1 rfl) ?_
  refine lv_istore (lv' := [(5, .int (nI a)), (0, .ref (ad 17)), (1, .int (nI a)), (2, .int (nI b)), (3, .long (vJ v))]) E.1.1 E.1.2.1 dJ7_fill_bad5a_8 hl (by decide) rfl (fun ls hl => ?_)
  have LP10 : ∀ (n : Nat) (k : Nat) (H : Heap) (locs : List Loc) (ls : Array Slot), (a ≤ k) → (k + n = b) → va_P D vwCl (wC ad cI cJ cZ (scFl σ (fillF (gcFl σ) a k v))) H → va_S A s.heap H locs → lv_has ls 6 [(0, .ref (ad 17)), (1, .int (nI a)), (2, .int (nI b)), (3, .long (vJ v)), (5, .int (nI k))] → W p l e { frames := 1, cells := 0, slots := 0, locals := 40 * 1 } s m [.ref (ad 17), .int (nI a), .int (nI b), .long (vJ v)].toArray below meth c H locs 0 0 (MQ below (Qcm D (wC ad cI cJ cZ σ) s.heap.size (none) (wC ad cI cJ cZ (scFl σ (fillF (gcFl σ) a b v)))) [.ref (ad 17), .int (nI a), .int (nI b), .long (vJ v)].toArray s 0 0 A) (F0 m 10 ls []) := by
    intro n
    induction n with
    | zero =>
      intro k H locs ls hak hkn hP hS hl
      refine lv_iload E.1.1 E.1.2.1 dJ7_fill_bad5a_10 (lv_at hl 4 rfl) ?_
      refine lv_iload_n E.1.1 E.1.2.1 dJ7_fill_bad5a_12 rfl (lv_at hl 2 rfl) ?_
      refine nv_icmp_ge (by omega) (by omega) E dJ7_fill_bad5a_13 (tgt := 27) (by decide) (fun h13 => ?_) (fun h13 => ?_)
      · exact CM.retv E hr hlk hA (by have e9 : k = b := (by omega); rw [← e9]; exact hP) hS rfl dJ7_fill_bad5a_27
      · exact absurd h13 (by omega)
    | succ n ih10 =>
      intro k H locs ls hak hkn hP hS hl
      refine lv_iload E.1.1 E.1.2.1 dJ7_fill_bad5a_10 (lv_at hl 4 rfl) ?_
      refine lv_iload_n E.1.1 E.1.2.1 dJ7_fill_bad5a_12 rfl (lv_at hl 2 rfl) ?_
      refine nv_icmp_ge (by omega) (by omega) E dJ7_fill_bad5a_13 (tgt := 27) (by decide) (fun h13 => ?_) (fun h13 => ?_)
      · exact absurd h13 (by omega)
      · refine lv_aload_n E.1.1 E.1.2.1 dJ7_fill_bad5a_16 rfl (lv_at hl 0 rfl) ?_
        refine lv_iload E.1.1 E.1.2.1 dJ7_fill_bad5a_17 (lv_at hl 4 rfl) ?_
        refine lv_lload_n E.1.1 E.1.2.1 dJ7_fill_bad5a_19 rfl (lv_at hl 3 rfl) ?_
        refine as_CS_Fl (i := k) (v := v) E hP hD hS (by omega) dJ7_fill_bad5a_20 (fun H locs hP hS => ?_)
        refine lv_iinc (v := nI (k + 1)) (lv' := [(5, .int (nI (k + 1))), (0, .ref (ad 17)), (1, .int (nI a)), (2, .int (nI b)), (3, .long (vJ v))]) E.1.1 E.1.2.1 dJ7_fill_bad5a_21 hl (k := 4) rfl (nI_add k 1) (by decide) rfl (fun ls hl => ?_)
        refine lv_goto (tgt := 10) E.1.1 E.1.2.1 dJ7_fill_bad5a_24 (by decide) ?_
        exact ih10 (k + 1) _ _ _ (by omega) (by omega) (by rw [← fillF_up (gcFl σ) v hak]; exact hP) hS (lv_sub hl [1, 2, 3, 4, 0] rfl)
  exact LP10 (b - a) a _ _ _ (by omega) (by omega) (by rw [fillF_0]; exact hP) hS (lv_sub hl [1, 2, 3, 4, 0] rfl)
set_option maxRecDepth 100000 in
set_option maxHeartbeats 4000000 in
theorem c_J7_fill_53178_V (l : Launch) (D : va_G) (cI cJ cZ : ClassId) (ad : Nat → Nat) (σ : CS) (v : Nat)   : CM l D (t3 cI cJ cZ) yJ7_fill_53178 cJ7_fill_53178 4 none 0 [.ref (ad 10), .int (nI v)] (wC ad cI cJ cZ σ) (none) (wC ad cI cJ cZ (scV σ (fillF (gcV σ) 0 240 v))) := by
  refine CM.of (by decide) (Nat.le_of_ble_eq_true rfl) ?_
  intro p e s m below meth c A ls E hr hlk hP hD0 hA hA2 hS hl
  have hD := wC_D hD0
  have hl : lv_has ls 4 [(0, .ref (ad 10)), (1, .int (nI v))] := hl
  refine lv_iconst (v := nI 0) E.1.1 E.1.2.1 dJ7_fill_53178_0 rfl ?_
  refine lv_istore_n (lv' := [(2, .int (nI 0)), (0, .ref (ad 10)), (1, .int (nI v))]) E.1.1 E.1.2.1 dJ7_fill_53178_1 rfl hl (by decide) rfl (fun ls hl => ?_)
  refine lv_aload_n E.1.1 E.1.2.1 dJ7_fill_53178_2 rfl (lv_at hl 1 rfl) ?_
  refine va_alen (v := nI 240) E.1.1 E.1.2.1 E.2 hP 10 0 rfl rfl rfl dJ7_fill_53178_3 ?_
  refine lv_istore_n (lv' := [(3, .int (nI 240)), (2, .int (nI 0)), (0, .ref (ad 10)), (1, .int (nI v))]) E.1.1 E.1.2.1 dJ7_fill_53178_4 rfl hl (by decide) rfl (fun ls hl => ?_)
  have LP5 : ∀ (n : Nat) (k : Nat) (H : Heap) (locs : List Loc) (ls : Array Slot), (k + n = 240) → va_P D vwCl (wC ad cI cJ cZ (scV σ (fillF (gcV σ) 0 k v))) H → va_S A s.heap H locs → lv_has ls 4 [(0, .ref (ad 10)), (1, .int (nI v)), (2, .int (nI k)), (3, .int (nI 240))] → W p l e { frames := 0, cells := 0, slots := 0, locals := 40 * 0 } s m [.ref (ad 10), .int (nI v)].toArray below meth c H locs 0 0 (MQ below (Qcm D (wC ad cI cJ cZ σ) s.heap.size (none) (wC ad cI cJ cZ (scV σ (fillF (gcV σ) 0 240 v)))) [.ref (ad 10), .int (nI v)].toArray s 0 0 A) (F0 m 5 ls []) := by
    intro n
    induction n with
    | zero =>
      intro k H locs ls hkn hP hS hl
      refine lv_iload_n E.1.1 E.1.2.1 dJ7_fill_53178_5 rfl (lv_at hl 2 rfl) ?_
      refine lv_iload_n E.1.1 E.1.2.1 dJ7_fill_53178_6 rfl (lv_at hl 3 rfl) ?_
      refine nv_icmp_ge (by omega) (by omega) E dJ7_fill_53178_7 (tgt := 20) (by decide) (fun h7 => ?_) (fun h7 => ?_)
      · exact CM.retv E hr hlk hA (by have e9 : k = 240 := (by omega); rw [← e9]; exact hP) hS rfl dJ7_fill_53178_20
      · exact absurd h7 (by omega)
    | succ n ih5 =>
      intro k H locs ls hkn hP hS hl
      refine lv_iload_n E.1.1 E.1.2.1 dJ7_fill_53178_5 rfl (lv_at hl 2 rfl) ?_
      refine lv_iload_n E.1.1 E.1.2.1 dJ7_fill_53178_6 rfl (lv_at hl 3 rfl) ?_
      refine nv_icmp_ge (by omega) (by omega) E dJ7_fill_53178_7 (tgt := 20) (by decide) (fun h7 => ?_) (fun h7 => ?_)
      · exact absurd h7 (by omega)
      · refine lv_aload_n E.1.1 E.1.2.1 dJ7_fill_53178_10 rfl (lv_at hl 0 rfl) ?_
        refine lv_iload_n E.1.1 E.1.2.1 dJ7_fill_53178_11 rfl (lv_at hl 2 rfl) ?_
        refine lv_iload_n E.1.1 E.1.2.1 dJ7_fill_53178_12 rfl (lv_at hl 1 rfl) ?_
        refine as_CS_V (i := k) (v := v) E hP hD hS (by omega) dJ7_fill_53178_13 (fun H locs hP hS => ?_)
        refine lv_iinc (v := nI (k + 1)) (lv' := [(2, .int (nI (k + 1))), (0, .ref (ad 10)), (1, .int (nI v)), (3, .int (nI 240))]) E.1.1 E.1.2.1 dJ7_fill_53178_14 hl (k := 2) rfl (nI_add k 1) (by decide) rfl (fun ls hl => ?_)
        refine lv_goto (tgt := 5) E.1.1 E.1.2.1 dJ7_fill_53178_17 (by decide) ?_
        exact ih5 (k + 1) _ _ _ (by omega) (by rw [← fillF_up (gcV σ) v (Nat.zero_le k)]; exact hP) hS (lv_sub hl [1, 2, 0, 3] rfl)
  exact LP5 240 0 _ _ _ (by omega) (by rw [fillF_0]; exact hP) hS (lv_sub hl [2, 3, 1, 0] rfl)
set_option maxRecDepth 100000 in
set_option maxHeartbeats 4000000 in
theorem c_J7_fill_53178_Ct (l : Launch) (D : va_G) (cI cJ cZ : ClassId) (ad : Nat → Nat) (σ : CS) (v : Nat)   : CM l D (t3 cI cJ cZ) yJ7_fill_53178 cJ7_fill_53178 4 none 0 [.ref (ad 19), .int (nI v)] (wC ad cI cJ cZ σ) (none) (wC ad cI cJ cZ (scCt σ (fillF (gcCt σ) 0 6 v))) := by
  refine CM.of (by decide) (Nat.le_of_ble_eq_true rfl) ?_
  intro p e s m below meth c A ls E hr hlk hP hD0 hA hA2 hS hl
  have hD := wC_D hD0
  have hl : lv_has ls 4 [(0, .ref (ad 19)), (1, .int (nI v))] := hl
  refine lv_iconst (v := nI 0) E.1.1 E.1.2.1 dJ7_fill_53178_0 rfl ?_
  refine lv_istore_n (lv' := [(2, .int (nI 0)), (0, .ref (ad 19)), (1, .int (nI v))]) E.1.1 E.1.2.1 dJ7_fill_53178_1 rfl hl (by decide) rfl (fun ls hl => ?_)
  refine lv_aload_n E.1.1 E.1.2.1 dJ7_fill_53178_2 rfl (lv_at hl 1 rfl) ?_
  refine va_alen (v := nI 6) E.1.1 E.1.2.1 E.2 hP 19 0 rfl rfl rfl dJ7_fill_53178_3 ?_
  refine lv_istore_n (lv' := [(3, .int (nI 6)), (2, .int (nI 0)), (0, .ref (ad 19)), (1, .int (nI v))]) E.1.1 E.1.2.1 dJ7_fill_53178_4 rfl hl (by decide) rfl (fun ls hl => ?_)
  have LP5 : ∀ (n : Nat) (k : Nat) (H : Heap) (locs : List Loc) (ls : Array Slot), (k + n = 6) → va_P D vwCl (wC ad cI cJ cZ (scCt σ (fillF (gcCt σ) 0 k v))) H → va_S A s.heap H locs → lv_has ls 4 [(0, .ref (ad 19)), (1, .int (nI v)), (2, .int (nI k)), (3, .int (nI 6))] → W p l e { frames := 0, cells := 0, slots := 0, locals := 40 * 0 } s m [.ref (ad 19), .int (nI v)].toArray below meth c H locs 0 0 (MQ below (Qcm D (wC ad cI cJ cZ σ) s.heap.size (none) (wC ad cI cJ cZ (scCt σ (fillF (gcCt σ) 0 6 v)))) [.ref (ad 19), .int (nI v)].toArray s 0 0 A) (F0 m 5 ls []) := by
    intro n
    induction n with
    | zero =>
      intro k H locs ls hkn hP hS hl
      refine lv_iload_n E.1.1 E.1.2.1 dJ7_fill_53178_5 rfl (lv_at hl 2 rfl) ?_
      refine lv_iload_n E.1.1 E.1.2.1 dJ7_fill_53178_6 rfl (lv_at hl 3 rfl) ?_
      refine nv_icmp_ge (by omega) (by omega) E dJ7_fill_53178_7 (tgt := 20) (by decide) (fun h7 => ?_) (fun h7 => ?_)
      · exact CM.retv E hr hlk hA (by have e9 : k = 6 := (by omega); rw [← e9]; exact hP) hS rfl dJ7_fill_53178_20
      · exact absurd h7 (by omega)
    | succ n ih5 =>
      intro k H locs ls hkn hP hS hl
      refine lv_iload_n E.1.1 E.1.2.1 dJ7_fill_53178_5 rfl (lv_at hl 2 rfl) ?_
      refine lv_iload_n E.1.1 E.1.2.1 dJ7_fill_53178_6 rfl (lv_at hl 3 rfl) ?_
      refine nv_icmp_ge (by omega) (by omega) E dJ7_fill_53178_7 (tgt := 20) (by decide) (fun h7 => ?_) (fun h7 => ?_)
      · exact absurd h7 (by omega)
      · refine lv_aload_n E.1.1 E.1.2.1 dJ7_fill_53178_10 rfl (lv_at hl 0 rfl) ?_
        refine lv_iload_n E.1.1 E.1.2.1 dJ7_fill_53178_11 rfl (lv_at hl 2 rfl) ?_
        refine lv_iload_n E.1.1 E.1.2.1 dJ7_fill_53178_12 rfl (lv_at hl 1 rfl) ?_
        refine as_CS_Ct (i := k) (v := v) E hP hD hS (by omega) dJ7_fill_53178_13 (fun H locs hP hS => ?_)
        refine lv_iinc (v := nI (k + 1)) (lv' := [(2, .int (nI (k + 1))), (0, .ref (ad 19)), (1, .int (nI v)), (3, .int (nI 6))]) E.1.1 E.1.2.1 dJ7_fill_53178_14 hl (k := 2) rfl (nI_add k 1) (by decide) rfl (fun ls hl => ?_)
        refine lv_goto (tgt := 5) E.1.1 E.1.2.1 dJ7_fill_53178_17 (by decide) ?_
        exact ih5 (k + 1) _ _ _ (by omega) (by rw [← fillF_up (gcCt σ) v (Nat.zero_le k)]; exact hP) hS (lv_sub hl [1, 2, 0, 3] rfl)
  exact LP5 6 0 _ _ _ (by omega) (by rw [fillF_0]; exact hP) hS (lv_sub hl [2, 3, 1, 0] rfl)
set_option maxRecDepth 100000 in
set_option maxHeartbeats 4000000 in
theorem c_J6_bitCount_0f7a4 (l : Launch) (D : va_G) (cI cJ cZ : ClassId) (ad : Nat → Nat) (σ : CS) (x : Int32)   : CM l D (t3 cI cJ cZ) yJ6_bitCount_0f7a4 cJ6_bitCount_0f7a4 1 (some .int) 0 [.int x] (wC ad cI cJ cZ σ) (some (.int (bcF x))) (wC ad cI cJ cZ σ) := by
  refine CM.of (by decide) (Nat.le_of_ble_eq_true rfl) ?_
  intro p e s m below meth c A ls E hr hlk hP hD0 hA hA2 hS hl
  have hD := wC_D hD0
  have hl : lv_has ls 1 [(0, .int x)] := hl
  refine lv_iload_n E.1.1 E.1.2.1 dJ6_bitCount_0f7a4_0 rfl (lv_at hl 0 rfl) ?_
  refine lv_iload_n E.1.1 E.1.2.1 dJ6_bitCount_0f7a4_1 rfl (lv_at hl 0 rfl) ?_
  refine lv_iconst (v := nI 1) E.1.1 E.1.2.1 dJ6_bitCount_0f7a4_2 rfl ?_
  refine lv_iushr (v := (x.toUInt32 >>> ((nI 1).toUInt32 &&& Int32.toUInt32 31)).toInt32) E.1.1 E.1.2.1 dJ6_bitCount_0f7a4_3 rfl ?_
  refine lv_ldcw (v := 1431655765) E.1.1 E.1.2.1 E.1.2.2.2.1 (E.1.2.2.2.2 _ (List.mem_cons_of_mem _ kc_J6_265)) dJ6_bitCount_0f7a4_4 ?_
  refine lv_iand E.1.1 E.1.2.1 dJ6_bitCount_0f7a4_7 ?_
  refine lv_isub E.1.1 E.1.2.1 dJ6_bitCount_0f7a4_8 ?_
  refine lv_istore_n (lv' := [(0, .int (x - (((x.toUInt32 >>> ((nI 1).toUInt32 &&& Int32.toUInt32 31)).toInt32) &&& 1431655765)))]) E.1.1 E.1.2.1 dJ6_bitCount_0f7a4_9 rfl hl (by decide) rfl (fun ls hl => ?_)
  refine lv_iload_n E.1.1 E.1.2.1 dJ6_bitCount_0f7a4_10 rfl (lv_at hl 0 rfl) ?_
  refine lv_ldcw (v := 858993459) E.1.1 E.1.2.1 E.1.2.2.2.1 (E.1.2.2.2.2 _ (List.mem_cons_of_mem _ kc_J6_266)) dJ6_bitCount_0f7a4_11 ?_
  refine lv_iand E.1.1 E.1.2.1 dJ6_bitCount_0f7a4_14 ?_
  refine lv_iload_n E.1.1 E.1.2.1 dJ6_bitCount_0f7a4_15 rfl (lv_at hl 0 rfl) ?_
  refine lv_iconst (v := nI 2) E.1.1 E.1.2.1 dJ6_bitCount_0f7a4_16 rfl ?_
  refine lv_iushr (v := ((x - (((x.toUInt32 >>> ((nI 1).toUInt32 &&& Int32.toUInt32 31)).toInt32) &&& 1431655765)).toUInt32 >>> ((nI 2).toUInt32 &&& Int32.toUInt32 31)).toInt32) E.1.1 E.1.2.1 dJ6_bitCount_0f7a4_17 rfl ?_
  refine lv_ldcw (v := 858993459) E.1.1 E.1.2.1 E.1.2.2.2.1 (E.1.2.2.2.2 _ (List.mem_cons_of_mem _ kc_J6_266)) dJ6_bitCount_0f7a4_18 ?_
  refine lv_iand E.1.1 E.1.2.1 dJ6_bitCount_0f7a4_21 ?_
  refine lv_iadd E.1.1 E.1.2.1 dJ6_bitCount_0f7a4_22 ?_
  refine lv_istore_n (lv' := [(0, .int (((x - (((x.toUInt32 >>> ((nI 1).toUInt32 &&& Int32.toUInt32 31)).toInt32) &&& 1431655765)) &&& 858993459) + ((((x - (((x.toUInt32 >>> ((nI 1).toUInt32 &&& Int32.toUInt32 31)).toInt32) &&& 1431655765)).toUInt32 >>> ((nI 2).toUInt32 &&& Int32.toUInt32 31)).toInt32) &&& 858993459)))]) E.1.1 E.1.2.1 dJ6_bitCount_0f7a4_23 rfl hl (by decide) rfl (fun ls hl => ?_)
  refine lv_iload_n E.1.1 E.1.2.1 dJ6_bitCount_0f7a4_24 rfl (lv_at hl 0 rfl) ?_
  refine lv_iload_n E.1.1 E.1.2.1 dJ6_bitCount_0f7a4_25 rfl (lv_at hl 0 rfl) ?_
  refine lv_iconst (v := nI 4) E.1.1 E.1.2.1 dJ6_bitCount_0f7a4_26 rfl ?_
  refine lv_iushr (v := ((((x - (((x.toUInt32 >>> ((nI 1).toUInt32 &&& Int32.toUInt32 31)).toInt32) &&& 1431655765)) &&& 858993459) + ((((x - (((x.toUInt32 >>> ((nI 1).toUInt32 &&& Int32.toUInt32 31)).toInt32) &&& 1431655765)).toUInt32 >>> ((nI 2).toUInt32 &&& Int32.toUInt32 31)).toInt32) &&& 858993459)).toUInt32 >>> ((nI 4).toUInt32 &&& Int32.toUInt32 31)).toInt32) E.1.1 E.1.2.1 dJ6_bitCount_0f7a4_27 rfl ?_
  refine lv_iadd E.1.1 E.1.2.1 dJ6_bitCount_0f7a4_28 ?_
  refine lv_ldcw (v := 252645135) E.1.1 E.1.2.1 E.1.2.2.2.1 (E.1.2.2.2.2 _ (List.mem_cons_of_mem _ kc_J6_267)) dJ6_bitCount_0f7a4_29 ?_
  refine lv_iand E.1.1 E.1.2.1 dJ6_bitCount_0f7a4_32 ?_
  refine lv_istore_n (lv' := [(0, .int (((((x - (((x.toUInt32 >>> ((nI 1).toUInt32 &&& Int32.toUInt32 31)).toInt32) &&& 1431655765)) &&& 858993459) + ((((x - (((x.toUInt32 >>> ((nI 1).toUInt32 &&& Int32.toUInt32 31)).toInt32) &&& 1431655765)).toUInt32 >>> ((nI 2).toUInt32 &&& Int32.toUInt32 31)).toInt32) &&& 858993459)) + (((((x - (((x.toUInt32 >>> ((nI 1).toUInt32 &&& Int32.toUInt32 31)).toInt32) &&& 1431655765)) &&& 858993459) + ((((x - (((x.toUInt32 >>> ((nI 1).toUInt32 &&& Int32.toUInt32 31)).toInt32) &&& 1431655765)).toUInt32 >>> ((nI 2).toUInt32 &&& Int32.toUInt32 31)).toInt32) &&& 858993459)).toUInt32 >>> ((nI 4).toUInt32 &&& Int32.toUInt32 31)).toInt32)) &&& 252645135))]) E.1.1 E.1.2.1 dJ6_bitCount_0f7a4_33 rfl hl (by decide) rfl (fun ls hl => ?_)
  refine lv_iload_n E.1.1 E.1.2.1 dJ6_bitCount_0f7a4_34 rfl (lv_at hl 0 rfl) ?_
  refine lv_iload_n E.1.1 E.1.2.1 dJ6_bitCount_0f7a4_35 rfl (lv_at hl 0 rfl) ?_
  refine lv_bipush (v := nI 8) E.1.1 E.1.2.1 dJ6_bitCount_0f7a4_36 rfl ?_
  refine lv_iushr (v := ((((((x - (((x.toUInt32 >>> ((nI 1).toUInt32 &&& Int32.toUInt32 31)).toInt32) &&& 1431655765)) &&& 858993459) + ((((x - (((x.toUInt32 >>> ((nI 1).toUInt32 &&& Int32.toUInt32 31)).toInt32) &&& 1431655765)).toUInt32 >>> ((nI 2).toUInt32 &&& Int32.toUInt32 31)).toInt32) &&& 858993459)) + (((((x - (((x.toUInt32 >>> ((nI 1).toUInt32 &&& Int32.toUInt32 31)).toInt32) &&& 1431655765)) &&& 858993459) + ((((x - (((x.toUInt32 >>> ((nI 1).toUInt32 &&& Int32.toUInt32 31)).toInt32) &&& 1431655765)).toUInt32 >>> ((nI 2).toUInt32 &&& Int32.toUInt32 31)).toInt32) &&& 858993459)).toUInt32 >>> ((nI 4).toUInt32 &&& Int32.toUInt32 31)).toInt32)) &&& 252645135).toUInt32 >>> ((nI 8).toUInt32 &&& Int32.toUInt32 31)).toInt32) E.1.1 E.1.2.1 dJ6_bitCount_0f7a4_38 rfl ?_
  refine lv_iadd E.1.1 E.1.2.1 dJ6_bitCount_0f7a4_39 ?_
  refine lv_istore_n (lv' := [(0, .int ((((((x - (((x.toUInt32 >>> ((nI 1).toUInt32 &&& Int32.toUInt32 31)).toInt32) &&& 1431655765)) &&& 858993459) + ((((x - (((x.toUInt32 >>> ((nI 1).toUInt32 &&& Int32.toUInt32 31)).toInt32) &&& 1431655765)).toUInt32 >>> ((nI 2).toUInt32 &&& Int32.toUInt32 31)).toInt32) &&& 858993459)) + (((((x - (((x.toUInt32 >>> ((nI 1).toUInt32 &&& Int32.toUInt32 31)).toInt32) &&& 1431655765)) &&& 858993459) + ((((x - (((x.toUInt32 >>> ((nI 1).toUInt32 &&& Int32.toUInt32 31)).toInt32) &&& 1431655765)).toUInt32 >>> ((nI 2).toUInt32 &&& Int32.toUInt32 31)).toInt32) &&& 858993459)).toUInt32 >>> ((nI 4).toUInt32 &&& Int32.toUInt32 31)).toInt32)) &&& 252645135) + (((((((x - (((x.toUInt32 >>> ((nI 1).toUInt32 &&& Int32.toUInt32 31)).toInt32) &&& 1431655765)) &&& 858993459) + ((((x - (((x.toUInt32 >>> ((nI 1).toUInt32 &&& Int32.toUInt32 31)).toInt32) &&& 1431655765)).toUInt32 >>> ((nI 2).toUInt32 &&& Int32.toUInt32 31)).toInt32) &&& 858993459)) + (((((x - (((x.toUInt32 >>> ((nI 1).toUInt32 &&& Int32.toUInt32 31)).toInt32) &&& 1431655765)) &&& 858993459) + ((((x - (((x.toUInt32 >>> ((nI 1).toUInt32 &&& Int32.toUInt32 31)).toInt32) &&& 1431655765)).toUInt32 >>> ((nI 2).toUInt32 &&& Int32.toUInt32 31)).toInt32) &&& 858993459)).toUInt32 >>> ((nI 4).toUInt32 &&& Int32.toUInt32 31)).toInt32)) &&& 252645135).toUInt32 >>> ((nI 8).toUInt32 &&& Int32.toUInt32 31)).toInt32)))]) E.1.1 E.1.2.1 dJ6_bitCount_0f7a4_40 rfl hl (by decide) rfl (fun ls hl => ?_)
  refine lv_iload_n E.1.1 E.1.2.1 dJ6_bitCount_0f7a4_41 rfl (lv_at hl 0 rfl) ?_
  refine lv_iload_n E.1.1 E.1.2.1 dJ6_bitCount_0f7a4_42 rfl (lv_at hl 0 rfl) ?_
  refine lv_bipush (v := nI 16) E.1.1 E.1.2.1 dJ6_bitCount_0f7a4_43 rfl ?_
  refine lv_iushr (v := (((((((x - (((x.toUInt32 >>> ((nI 1).toUInt32 &&& Int32.toUInt32 31)).toInt32) &&& 1431655765)) &&& 858993459) + ((((x - (((x.toUInt32 >>> ((nI 1).toUInt32 &&& Int32.toUInt32 31)).toInt32) &&& 1431655765)).toUInt32 >>> ((nI 2).toUInt32 &&& Int32.toUInt32 31)).toInt32) &&& 858993459)) + (((((x - (((x.toUInt32 >>> ((nI 1).toUInt32 &&& Int32.toUInt32 31)).toInt32) &&& 1431655765)) &&& 858993459) + ((((x - (((x.toUInt32 >>> ((nI 1).toUInt32 &&& Int32.toUInt32 31)).toInt32) &&& 1431655765)).toUInt32 >>> ((nI 2).toUInt32 &&& Int32.toUInt32 31)).toInt32) &&& 858993459)).toUInt32 >>> ((nI 4).toUInt32 &&& Int32.toUInt32 31)).toInt32)) &&& 252645135) + (((((((x - (((x.toUInt32 >>> ((nI 1).toUInt32 &&& Int32.toUInt32 31)).toInt32) &&& 1431655765)) &&& 858993459) + ((((x - (((x.toUInt32 >>> ((nI 1).toUInt32 &&& Int32.toUInt32 31)).toInt32) &&& 1431655765)).toUInt32 >>> ((nI 2).toUInt32 &&& Int32.toUInt32 31)).toInt32) &&& 858993459)) + (((((x - (((x.toUInt32 >>> ((nI 1).toUInt32 &&& Int32.toUInt32 31)).toInt32) &&& 1431655765)) &&& 858993459) + ((((x - (((x.toUInt32 >>> ((nI 1).toUInt32 &&& Int32.toUInt32 31)).toInt32) &&& 1431655765)).toUInt32 >>> ((nI 2).toUInt32 &&& Int32.toUInt32 31)).toInt32) &&& 858993459)).toUInt32 >>> ((nI 4).toUInt32 &&& Int32.toUInt32 31)).toInt32)) &&& 252645135).toUInt32 >>> ((nI 8).toUInt32 &&& Int32.toUInt32 31)).toInt32)).toUInt32 >>> ((nI 16).toUInt32 &&& Int32.toUInt32 31)).toInt32) E.1.1 E.1.2.1 dJ6_bitCount_0f7a4_45 rfl ?_
  refine lv_iadd E.1.1 E.1.2.1 dJ6_bitCount_0f7a4_46 ?_
  refine lv_istore_n (lv' := [(0, .int (((((((x - (((x.toUInt32 >>> ((nI 1).toUInt32 &&& Int32.toUInt32 31)).toInt32) &&& 1431655765)) &&& 858993459) + ((((x - (((x.toUInt32 >>> ((nI 1).toUInt32 &&& Int32.toUInt32 31)).toInt32) &&& 1431655765)).toUInt32 >>> ((nI 2).toUInt32 &&& Int32.toUInt32 31)).toInt32) &&& 858993459)) + (((((x - (((x.toUInt32 >>> ((nI 1).toUInt32 &&& Int32.toUInt32 31)).toInt32) &&& 1431655765)) &&& 858993459) + ((((x - (((x.toUInt32 >>> ((nI 1).toUInt32 &&& Int32.toUInt32 31)).toInt32) &&& 1431655765)).toUInt32 >>> ((nI 2).toUInt32 &&& Int32.toUInt32 31)).toInt32) &&& 858993459)).toUInt32 >>> ((nI 4).toUInt32 &&& Int32.toUInt32 31)).toInt32)) &&& 252645135) + (((((((x - (((x.toUInt32 >>> ((nI 1).toUInt32 &&& Int32.toUInt32 31)).toInt32) &&& 1431655765)) &&& 858993459) + ((((x - (((x.toUInt32 >>> ((nI 1).toUInt32 &&& Int32.toUInt32 31)).toInt32) &&& 1431655765)).toUInt32 >>> ((nI 2).toUInt32 &&& Int32.toUInt32 31)).toInt32) &&& 858993459)) + (((((x - (((x.toUInt32 >>> ((nI 1).toUInt32 &&& Int32.toUInt32 31)).toInt32) &&& 1431655765)) &&& 858993459) + ((((x - (((x.toUInt32 >>> ((nI 1).toUInt32 &&& Int32.toUInt32 31)).toInt32) &&& 1431655765)).toUInt32 >>> ((nI 2).toUInt32 &&& Int32.toUInt32 31)).toInt32) &&& 858993459)).toUInt32 >>> ((nI 4).toUInt32 &&& Int32.toUInt32 31)).toInt32)) &&& 252645135).toUInt32 >>> ((nI 8).toUInt32 &&& Int32.toUInt32 31)).toInt32)) + ((((((((x - (((x.toUInt32 >>> ((nI 1).toUInt32 &&& Int32.toUInt32 31)).toInt32) &&& 1431655765)) &&& 858993459) + ((((x - (((x.toUInt32 >>> ((nI 1).toUInt32 &&& Int32.toUInt32 31)).toInt32) &&& 1431655765)).toUInt32 >>> ((nI 2).toUInt32 &&& Int32.toUInt32 31)).toInt32) &&& 858993459)) + (((((x - (((x.toUInt32 >>> ((nI 1).toUInt32 &&& Int32.toUInt32 31)).toInt32) &&& 1431655765)) &&& 858993459) + ((((x - (((x.toUInt32 >>> ((nI 1).toUInt32 &&& Int32.toUInt32 31)).toInt32) &&& 1431655765)).toUInt32 >>> ((nI 2).toUInt32 &&& Int32.toUInt32 31)).toInt32) &&& 858993459)).toUInt32 >>> ((nI 4).toUInt32 &&& Int32.toUInt32 31)).toInt32)) &&& 252645135) + (((((((x - (((x.toUInt32 >>> ((nI 1).toUInt32 &&& Int32.toUInt32 31)).toInt32) &&& 1431655765)) &&& 858993459) + ((((x - (((x.toUInt32 >>> ((nI 1).toUInt32 &&& Int32.toUInt32 31)).toInt32) &&& 1431655765)).toUInt32 >>> ((nI 2).toUInt32 &&& Int32.toUInt32 31)).toInt32) &&& 858993459)) + (((((x - (((x.toUInt32 >>> ((nI 1).toUInt32 &&& Int32.toUInt32 31)).toInt32) &&& 1431655765)) &&& 858993459) + ((((x - (((x.toUInt32 >>> ((nI 1).toUInt32 &&& Int32.toUInt32 31)).toInt32) &&& 1431655765)).toUInt32 >>> ((nI 2).toUInt32 &&& Int32.toUInt32 31)).toInt32) &&& 858993459)).toUInt32 >>> ((nI 4).toUInt32 &&& Int32.toUInt32 31)).toInt32)) &&& 252645135).toUInt32 >>> ((nI 8).toUInt32 &&& Int32.toUInt32 31)).toInt32)).toUInt32 >>> ((nI 16).toUInt32 &&& Int32.toUInt32 31)).toInt32)))]) E.1.1 E.1.2.1 dJ6_bitCount_0f7a4_47 rfl hl (by decide) rfl (fun ls hl => ?_)
  refine lv_iload_n E.1.1 E.1.2.1 dJ6_bitCount_0f7a4_48 rfl (lv_at hl 0 rfl) ?_
  refine lv_bipush (v := nI 63) E.1.1 E.1.2.1 dJ6_bitCount_0f7a4_49 rfl ?_
  refine lv_iand E.1.1 E.1.2.1 dJ6_bitCount_0f7a4_51 ?_
  exact CM.reti E hr hlk hA hP hS rfl dJ6_bitCount_0f7a4_52
end
section
set_option maxRecDepth 100000 in
set_option maxHeartbeats 4000000 in
theorem c_X2_isIn (l : Launch) (D : va_G) (cI cJ cZ : ClassId) (ad : Nat → Nat) (σ : CS) (a : Nat) (b : Nat)  (ha : a < 4294967296) (hb : b < 32) : CM l D (t3 cI cJ cZ) yX2_isIn cX2_isIn 2 (some .boolean) 0 [.int (nI a), .int (nI b)] (wC ad cI cJ cZ σ) (some (.int (bI (a.testBit b)))) (wC ad cI cJ cZ σ) := by
  refine CM.of (by decide) (Nat.le_of_ble_eq_true rfl) ?_
  intro p e s m below meth c A ls E hr hlk hP hD0 hA hA2 hS hl
  have hD := wC_D hD0
  have hl : lv_has ls 2 [(0, .int (nI a)), (1, .int (nI b))] := hl
  refine lv_iload_n E.1.1 E.1.2.1 dX2_isIn_0 rfl (lv_at hl 0 rfl) ?_
  refine lv_iload_n E.1.1 E.1.2.1 dX2_isIn_1 rfl (lv_at hl 1 rfl) ?_
  refine nv_iushr (by omega) (by omega) E dX2_isIn_2 ?_
  refine lv_iconst (v := nI 1) E.1.1 E.1.2.1 dX2_isIn_3 rfl ?_
  refine nv_iand E dX2_isIn_4 ?_
  refine nv_if_eq (Nat.lt_of_le_of_lt Nat.and_le_right (by decide)) E dX2_isIn_5 (tgt := 12) (by decide) (fun h5 => ?_) (fun h5 => ?_)
  · refine lv_iconst (v := nI 0) E.1.1 E.1.2.1 dX2_isIn_12 rfl ?_
    exact CM.retz E hr hlk hA hP hS (er_f (by first | exact (testBit_and1 a b).mp h5 | exact ts_nf9 (fun z => absurd ((testBit_and1 a b).mpr z) (by omega)))) rfl dX2_isIn_13
  · refine lv_iconst (v := nI 1) E.1.1 E.1.2.1 dX2_isIn_8 rfl ?_
    refine lv_goto (tgt := 13) E.1.1 E.1.2.1 dX2_isIn_9 (by decide) ?_
    exact CM.retz E hr hlk hA hP hS (er_t (by first | exact (testBit_and1 a b).mp h5 | exact ts_nf9 (fun z => absurd ((testBit_and1 a b).mpr z) (by omega)))) rfl dX2_isIn_13
set_option maxRecDepth 100000 in
set_option maxHeartbeats 4000000 in
theorem c_X2_bits (l : Launch) (D : va_G) (cI cJ cZ : ClassId) (ad : Nat → Nat) (σ : CS)    : CM l D (t3 cI cJ cZ) yX2_bits cX2_bits 1 (some .int) 0 [.ref (ad 2)] (wC ad cI cJ cZ σ) (some (.int (nI (gcma σ ||| gcre σ <<< 8)))) (wC ad cI cJ cZ σ) := by
  refine CM.of (by decide) (Nat.le_of_ble_eq_true rfl) ?_
  intro p e s m below meth c A ls E hr hlk hP hD0 hA hA2 hS hl
  have hD := wC_D hD0
  have hl : lv_has ls 1 [(0, .ref (ad 2))] := hl
  refine lv_aload_n E.1.1 E.1.2.1 dX2_bits_0 rfl (lv_at hl 0 rfl) ?_
  refine gt_X2_made E fl_X2_22 hP dX2_bits_1 ?_
  refine lv_aload_n E.1.1 E.1.2.1 dX2_bits_4 rfl (lv_at hl 0 rfl) ?_
  refine gt_X2_reached E fl_X2_26 hP dX2_bits_5 ?_
  refine lv_bipush (v := nI 8) E.1.1 E.1.2.1 dX2_bits_8 rfl ?_
  refine nv_ishl (by omega) E dX2_bits_10 ?_
  refine nv_ior E dX2_bits_11 ?_
  exact CM.reti E hr hlk hA hP hS rfl dX2_bits_12
set_option maxRecDepth 100000 in
set_option maxHeartbeats 4000000 in
theorem c_X2_verdictAt (l : Launch) (D : va_G) (cI cJ cZ : ClassId) (ad : Nat → Nat) (σ : CS) (pl : Nat)  (hpl : pl < 240) : CM l D (t3 cI cJ cZ) yX2_verdictAt cX2_verdictAt 2 (some .int) 0 [.ref (ad 2), .int (nI pl)] (wC ad cI cJ cZ σ) (some (.int (nI (gcV σ pl)))) (wC ad cI cJ cZ σ) := by
  refine CM.of (by decide) (Nat.le_of_ble_eq_true rfl) ?_
  intro p e s m below meth c A ls E hr hlk hP hD0 hA hA2 hS hl
  have hD := wC_D hD0
  have hl : lv_has ls 2 [(0, .ref (ad 2)), (1, .int (nI pl))] := hl
  refine lv_aload_n E.1.1 E.1.2.1 dX2_verdictAt_0 rfl (lv_at hl 0 rfl) ?_
  refine gt_X2_verdicts E fl_X2_9 hP dX2_verdictAt_1 ?_
  refine lv_iload_n E.1.1 E.1.2.1 dX2_verdictAt_4 rfl (lv_at hl 1 rfl) ?_
  refine ld_CS_V (i := pl) E hP (by omega) dX2_verdictAt_5 ?_
  exact CM.reti E hr hlk hA hP hS rfl dX2_verdictAt_6
set_option maxRecDepth 100000 in
set_option maxHeartbeats 4000000 in
theorem c_X2_forget (l : Launch) (D : va_G) (cI cJ cZ : ClassId) (ad : Nat → Nat) (σ : CS) (b : Nat)  (hb : b < 24) : CM l D (t3 cI cJ cZ) yX2_forget cX2_forget 3 none 2 [.ref (ad 2), .int (nI b)] (wC ad cI cJ cZ σ) (none) (wC ad cI cJ cZ (scV σ (fillF (gcV σ) (b * 10 + 0) ((b * 10 + 0) + 10) 0))) := by
  refine CM.of (by decide) (Nat.le_of_ble_eq_true rfl) ?_
  intro p e s m below meth c A ls E hr hlk hP hD0 hA hA2 hS hl
  have hD := wC_D hD0
  have hl : lv_has ls 3 [(0, .ref (ad 2)), (1, .int (nI b))] := hl
  refine lv_iload_n E.1.1 E.1.2.1 dX2_forget_0 rfl (lv_at hl 1 rfl) ?_
  refine lv_iconst (v := nI 0) E.1.1 E.1.2.1 dX2_forget_1 rfl ?_
  refine CM.callSi (n := 2) E (c_X1_placeOf l D cI cJ cZ ad σ b 0) ml_X2_29 st_X1_placeOf ini_X1 co_X1_placeOf hd_X1_placeOf ⟨Nat.le_of_ble_eq_true rfl, Nat.le_of_ble_eq_true rfl⟩ ⟨Nat.le_refl _, Nat.le_refl _⟩ hP (hD _) hS hA2 rfl hl.1 (Nat.le_of_ble_eq_true rfl) dX2_forget_2 rfl (fun H locs hP hS => ?_)
  refine lv_istore_n (lv' := [(2, .int (nI (b * 10 + 0))), (0, .ref (ad 2)), (1, .int (nI b))]) E.1.1 E.1.2.1 dX2_forget_5 rfl hl (by decide) rfl (fun ls hl => ?_)
  refine lv_aload_n E.1.1 E.1.2.1 dX2_forget_6 rfl (lv_at hl 1 rfl) ?_
  refine gt_X2_verdicts E fl_X2_9 hP dX2_forget_7 ?_
  refine lv_iload_n E.1.1 E.1.2.1 dX2_forget_10 rfl (lv_at hl 0 rfl) ?_
  refine lv_iload_n E.1.1 E.1.2.1 dX2_forget_11 rfl (lv_at hl 0 rfl) ?_
  refine lv_bipush (v := nI 10) E.1.1 E.1.2.1 dX2_forget_12 rfl ?_
  refine nv_iadd E dX2_forget_14 ?_
  refine lv_iconst (v := nI 0) E.1.1 E.1.2.1 dX2_forget_15 rfl ?_
  refine CM.callSv (n := 4) E (c_J7_fill_fda19_V l D cI cJ cZ ad σ (b * 10 + 0) ((b * 10 + 0) + 10) 0 (by omega) (by omega)) ml_X2_35 st_J7_fill_fda19 ini_J7 co_J7_fill_fda19 hd_J7_fill_fda19 ⟨Nat.le_of_ble_eq_true rfl, Nat.le_of_ble_eq_true rfl⟩ ⟨Nat.le_refl _, Nat.le_refl _⟩ hP (hD _) hS hA2 rfl hl.1 (Nat.le_of_ble_eq_true rfl) dX2_forget_16 rfl (fun H locs hP hS => ?_)
  exact CM.retv E hr hlk hA hP hS rfl dX2_forget_19
set_option maxRecDepth 100000 in
set_option maxHeartbeats 4000000 in
theorem c_X2_targetSet (l : Launch) (D : va_G) (cI cJ cZ : ClassId) (ad : Nat → Nat) (σ : CS) (t : Nat) (q : Nat)  (ht : t < 6) (hq : q < 4) (hI : PI σ) : CM l D (t3 cI cJ cZ) yX2_targetSet cX2_targetSet 4 (some .int) 2 [.ref (ad 2), .int (nI t), .int (nI q)] (wC ad cI cJ cZ σ) (some (.int (nI (tsF σ t q)))) (wC ad cI cJ cZ σ) := by
  refine CM.of (by decide) (Nat.le_of_ble_eq_true rfl) ?_
  intro p e s m below meth c A ls E hr hlk hP hD0 hA hA2 hS hl
  have hD := wC_D hD0
  have hl : lv_has ls 4 [(0, .ref (ad 2)), (1, .int (nI t)), (2, .int (nI q))] := hl
  refine lv_aload_n E.1.1 E.1.2.1 dX2_targetSet_0 rfl (lv_at hl 0 rfl) ?_
  refine gt_X2_program E fl_X2_18 hP dX2_targetSet_1 ?_
  refine lv_iload_n E.1.1 E.1.2.1 dX2_targetSet_4 rfl (lv_at hl 1 rfl) ?_
  refine lv_iload_n E.1.1 E.1.2.1 dX2_targetSet_5 rfl (lv_at hl 2 rfl) ?_
  refine CM.callVi (n := 2) E (c_X1_target l D cI cJ cZ ad σ t q ht hq hI) ml_X2_76 im_X1_target se_X1_target ini_X1 co_X1_target hd_X1_target ⟨Nat.le_of_ble_eq_true rfl, Nat.le_of_ble_eq_true rfl⟩ ⟨Nat.le_refl _, Nat.le_refl _⟩ 1 rfl rfl hP (hD _) hS hA2 rfl hl.1 (Nat.le_of_ble_eq_true rfl) dX2_targetSet_6 rfl (fun H locs hP hS => ?_)
  refine W.eq (g2 := F0 m 9 ls [.int (oI (tgC σ t q))]) rfl ?_
  refine lv_istore_n (lv' := [(3, .int (oI (tgC σ t q))), (0, .ref (ad 2)), (1, .int (nI t)), (2, .int (nI q))]) E.1.1 E.1.2.1 dX2_targetSet_9 rfl hl (by decide) rfl (fun ls hl => ?_)
  refine lv_iload_n E.1.1 E.1.2.1 dX2_targetSet_10 rfl (lv_at hl 0 rfl) ?_
  refine lv_iconst (v := -1) E.1.1 E.1.2.1 dX2_targetSet_11 rfl ?_
  refine ov_m1_ne (o := (tgC σ t q)) (fun j hj => by have := tgC_lt hI ht hq hj; omega) E dX2_targetSet_12 (tgt := 19) (by decide) (fun k12 h12 => ?_) (fun h12 => ?_)
  · have hk12 := tgC_lt hI ht hq h12
    have hl : lv_has ls 4 [(3, .int (nI k12)), (0, .ref (ad 2)), (1, .int (nI t)), (2, .int (nI q))] := by have q9 := hl; rw [h12] at q9; exact q9
    refine lv_iconst (v := nI 1) E.1.1 E.1.2.1 dX2_targetSet_19 rfl ?_
    refine lv_iload_n E.1.1 E.1.2.1 dX2_targetSet_20 rfl (lv_at hl 0 rfl) ?_
    refine nv_ishl (by omega) E dX2_targetSet_21 ?_
    exact CM.reti E hr hlk hA hP hS (by rw [tsF, h12]) dX2_targetSet_22
  · refine lv_iconst (v := nI 0) E.1.1 E.1.2.1 dX2_targetSet_15 rfl ?_
    refine lv_goto (tgt := 22) E.1.1 E.1.2.1 dX2_targetSet_16 (by decide) ?_
    exact CM.reti E hr hlk hA hP hS (by rw [tsF, h12]) dX2_targetSet_22
set_option maxRecDepth 100000 in
set_option maxHeartbeats 4000000 in
theorem c_X2_readBody (l : Launch) (D : va_G) (cI cJ cZ : ClassId) (ad : Nat → Nat) (σ : CS) (b : Nat)  (hb : b < 24) (hK : Kp σ σ) : CM l D (t3 cI cJ cZ) yX2_readBody cX2_readBody 4 none 1 [.ref (ad 2), .int (nI b)] (wC ad cI cJ cZ σ) (none) (wC ad cI cJ cZ (rbF b σ)) := by
  refine CM.of (by decide) (Nat.le_of_ble_eq_true rfl) ?_
  intro p e s m below meth c A ls E hr hlk hP hD0 hA hA2 hS hl
  have hD := wC_D hD0
  have hl : lv_has ls 4 [(0, .ref (ad 2)), (1, .int (nI b))] := hl
  refine lv_iconst (v := nI 0) E.1.1 E.1.2.1 dX2_readBody_0 rfl ?_
  refine lv_istore_n (lv' := [(2, .int (nI 0)), (0, .ref (ad 2)), (1, .int (nI b))]) E.1.1 E.1.2.1 dX2_readBody_1 rfl hl (by decide) rfl (fun ls hl => ?_)
  have LP2 : ∀ (n : Nat) (k : Nat) (τ : CS) (H : Heap) (locs : List Loc) (ls : Array Slot), (Kp σ τ) → (k + n = gcL τ b) → (rbF b σ = itN (rbS b) n k τ) → va_P D vwCl (wC ad cI cJ cZ τ) H → va_S A s.heap H locs → lv_has ls 4 [(0, .ref (ad 2)), (1, .int (nI b)), (2, .int (nI k))] → W p l e { frames := 1, cells := 0, slots := 0, locals := 40 * 1 } s m [.ref (ad 2), .int (nI b)].toArray below meth c H locs 0 0 (MQ below (Qcm D (wC ad cI cJ cZ σ) s.heap.size (none) (wC ad cI cJ cZ (rbF b σ))) [.ref (ad 2), .int (nI b)].toArray s 0 0 A) (F0 m 2 ls []) := by
    intro n
    induction n with
    | zero =>
      intro k τ H locs ls hT hk hv hP hS hl
      have hL := hT.1.2.1 b
      refine lv_iload_n E.1.1 E.1.2.1 dX2_readBody_2 rfl (lv_at hl 2 rfl) ?_
      refine lv_aload_n E.1.1 E.1.2.1 dX2_readBody_3 rfl (lv_at hl 0 rfl) ?_
      refine gt_X2_program E fl_X2_18 hP dX2_readBody_4 ?_
      refine lv_iload_n E.1.1 E.1.2.1 dX2_readBody_7 rfl (lv_at hl 1 rfl) ?_
      refine CM.callVi (n := 1) E (c_X1_length l D cI cJ cZ ad τ b (by omega)) ml_X2_82 im_X1_length se_X1_length ini_X1 co_X1_length hd_X1_length ⟨Nat.le_of_ble_eq_true rfl, Nat.le_of_ble_eq_true rfl⟩ ⟨Nat.le_refl _, Nat.le_refl _⟩ 1 rfl rfl hP (hD _) hS hA2 rfl hl.1 (Nat.le_of_ble_eq_true rfl) dX2_readBody_8 rfl (fun H locs hP hS => ?_)
      refine nv_icmp_ge (by omega) (by omega) E dX2_readBody_11 (tgt := 92) (by decide) (fun h11 => ?_) (fun h11 => ?_)
      · exact CM.retv E hr hlk hA (by rw [hv]; exact hP) hS rfl dX2_readBody_92
      · exact absurd h11 (by omega)
    | succ n ih2 =>
      intro k τ H locs ls hT hk hv hP hS hl
      have hL := hT.1.2.1 b
      refine lv_iload_n E.1.1 E.1.2.1 dX2_readBody_2 rfl (lv_at hl 2 rfl) ?_
      refine lv_aload_n E.1.1 E.1.2.1 dX2_readBody_3 rfl (lv_at hl 0 rfl) ?_
      refine gt_X2_program E fl_X2_18 hP dX2_readBody_4 ?_
      refine lv_iload_n E.1.1 E.1.2.1 dX2_readBody_7 rfl (lv_at hl 1 rfl) ?_
      refine CM.callVi (n := 1) E (c_X1_length l D cI cJ cZ ad τ b (by omega)) ml_X2_82 im_X1_length se_X1_length ini_X1 co_X1_length hd_X1_length ⟨Nat.le_of_ble_eq_true rfl, Nat.le_of_ble_eq_true rfl⟩ ⟨Nat.le_refl _, Nat.le_refl _⟩ 1 rfl rfl hP (hD _) hS hA2 rfl hl.1 (Nat.le_of_ble_eq_true rfl) dX2_readBody_8 rfl (fun H locs hP hS => ?_)
      refine nv_icmp_ge (by omega) (by omega) E dX2_readBody_11 (tgt := 92) (by decide) (fun h11 => ?_) (fun h11 => ?_)
      · exact absurd h11 (by omega)
      · refine lv_iload_n E.1.1 E.1.2.1 dX2_readBody_14 rfl (lv_at hl 1 rfl) ?_
        refine lv_iload_n E.1.1 E.1.2.1 dX2_readBody_15 rfl (lv_at hl 2 rfl) ?_
        refine CM.callSi (n := 2) E (c_X1_placeOf l D cI cJ cZ ad τ b k) ml_X2_29 st_X1_placeOf ini_X1 co_X1_placeOf hd_X1_placeOf ⟨Nat.le_of_ble_eq_true rfl, Nat.le_of_ble_eq_true rfl⟩ ⟨Nat.le_refl _, Nat.le_refl _⟩ hP (hD _) hS hA2 rfl hl.1 (Nat.le_of_ble_eq_true rfl) dX2_readBody_16 rfl (fun H locs hP hS => ?_)
        refine lv_istore_n (lv' := [(3, .int (nI (b * 10 + k))), (0, .ref (ad 2)), (1, .int (nI b)), (2, .int (nI k))]) E.1.1 E.1.2.1 dX2_readBody_19 rfl hl (by decide) rfl (fun ls hl => ?_)
        have hKk := hT.1.2.2.1 (b * 10 + k)
        refine lv_aload_n E.1.1 E.1.2.1 dX2_readBody_20 rfl (lv_at hl 1 rfl) ?_
        refine gt_X2_program E fl_X2_18 hP dX2_readBody_21 ?_
        refine lv_iload_n E.1.1 E.1.2.1 dX2_readBody_24 rfl (lv_at hl 0 rfl) ?_
        refine CM.callVi (n := 1) E (c_X1_kind l D cI cJ cZ ad τ (b * 10 + k) (by omega)) ml_X2_85 im_X1_kind se_X1_kind ini_X1 co_X1_kind hd_X1_kind ⟨Nat.le_of_ble_eq_true rfl, Nat.le_of_ble_eq_true rfl⟩ ⟨Nat.le_refl _, Nat.le_refl _⟩ 1 rfl rfl hP (hD _) hS hA2 rfl hl.1 (Nat.le_of_ble_eq_true rfl) dX2_readBody_25 rfl (fun H locs hP hS => ?_)
        refine lv_iconst (v := nI 4) E.1.1 E.1.2.1 dX2_readBody_28 rfl ?_
        refine nv_icmp_ne (by omega) (by omega) E dX2_readBody_29 (tgt := 54) (by decide) (fun h29 => ?_) (fun h29 => ?_)
        · refine lv_aload_n E.1.1 E.1.2.1 dX2_readBody_54 rfl (lv_at hl 1 rfl) ?_
          refine gt_X2_program E fl_X2_18 hP dX2_readBody_55 ?_
          refine lv_iload_n E.1.1 E.1.2.1 dX2_readBody_58 rfl (lv_at hl 0 rfl) ?_
          refine CM.callVi (n := 1) E (c_X1_kind l D cI cJ cZ ad τ (b * 10 + k) (by omega)) ml_X2_85 im_X1_kind se_X1_kind ini_X1 co_X1_kind hd_X1_kind ⟨Nat.le_of_ble_eq_true rfl, Nat.le_of_ble_eq_true rfl⟩ ⟨Nat.le_refl _, Nat.le_refl _⟩ 1 rfl rfl hP (hD _) hS hA2 rfl hl.1 (Nat.le_of_ble_eq_true rfl) dX2_readBody_59 rfl (fun H locs hP hS => ?_)
          refine lv_bipush (v := nI 7) E.1.1 E.1.2.1 dX2_readBody_62 rfl ?_
          refine nv_icmp_ne (by omega) (by omega) E dX2_readBody_64 (tgt := 86) (by decide) (fun h64 => ?_) (fun h64 => ?_)
          · refine lv_iinc (v := nI (k + 1)) (lv' := [(2, .int (nI (k + 1))), (3, .int (nI (b * 10 + k))), (0, .ref (ad 2)), (1, .int (nI b))]) E.1.1 E.1.2.1 dX2_readBody_86 hl (k := 3) rfl (nI_add k 1) (by decide) rfl (fun ls hl => ?_)
            refine lv_goto (tgt := 2) E.1.1 E.1.2.1 dX2_readBody_89 (by decide) ?_
            exact ih2 (k + 1) τ _ _ _ (by have q9 := Kp_rb (b := b) (k := k) hT; rw [rbS] at q9; first | (rw [if_pos h29] at q9; exact q9) | (rw [if_neg h29, if_pos h64] at q9; exact q9) | (rw [if_neg h29, if_neg h64] at q9; exact q9)) (by show _ = gcL τ b; omega) (by rw [hv, itN, rbS]; first | (rw [if_pos h29]; done) | (rw [if_neg h29, if_pos h64]; done) | rw [if_neg h29, if_neg h64]) hP hS (lv_sub hl [2, 3, 0] rfl)
          · refine lv_aload_n E.1.1 E.1.2.1 dX2_readBody_67 rfl (lv_at hl 1 rfl) ?_
            refine lv_dup E.1.1 E.1.2.1 dX2_readBody_68 rfl ?_
            refine gt_X2_called E fl_X2_64 hP dX2_readBody_69 ?_
            refine lv_iconst (v := nI 1) E.1.1 E.1.2.1 dX2_readBody_72 rfl ?_
            refine lv_aload_n E.1.1 E.1.2.1 dX2_readBody_73 rfl (lv_at hl 1 rfl) ?_
            refine gt_X2_program E fl_X2_18 hP dX2_readBody_74 ?_
            refine lv_iload_n E.1.1 E.1.2.1 dX2_readBody_77 rfl (lv_at hl 0 rfl) ?_
            refine CM.callVi (n := 1) E (c_X1_z l D cI cJ cZ ad τ (b * 10 + k) (by omega)) ml_X2_91 im_X1_z se_X1_z ini_X1 co_X1_z hd_X1_z ⟨Nat.le_of_ble_eq_true rfl, Nat.le_of_ble_eq_true rfl⟩ ⟨Nat.le_refl _, Nat.le_refl _⟩ 1 rfl rfl hP (hD _) hS hA2 rfl hl.1 (Nat.le_of_ble_eq_true rfl) dX2_readBody_78 rfl (fun H locs hP hS => ?_)
            refine tpi (y := nI (zN τ (b * 10 + k))) ((WI_z4 hT.2.1 h64).1) ?_
            refine nv_ishl (by have := (WI_z4 hT.2.1 h64).2; omega) E dX2_readBody_81 ?_
            refine nv_ior E dX2_readBody_82 ?_
            refine pt_X2_called (v := (gcca τ) ||| (1 <<< (zN τ (b * 10 + k)))) E fl_X2_64 hP hD hS dX2_readBody_83 (fun H locs hP hS => ?_)
            refine lv_iinc (v := nI (k + 1)) (lv' := [(2, .int (nI (k + 1))), (3, .int (nI (b * 10 + k))), (0, .ref (ad 2)), (1, .int (nI b))]) E.1.1 E.1.2.1 dX2_readBody_86 hl (k := 3) rfl (nI_add k 1) (by decide) rfl (fun ls hl => ?_)
            refine lv_goto (tgt := 2) E.1.1 E.1.2.1 dX2_readBody_89 (by decide) ?_
            exact ih2 (k + 1) (scca τ ((gcca τ) ||| (1 <<< (zN τ (b * 10 + k))))) _ _ _ (by have q9 := Kp_rb (b := b) (k := k) hT; rw [rbS] at q9; first | (rw [if_pos h29] at q9; exact q9) | (rw [if_neg h29, if_pos h64] at q9; exact q9) | (rw [if_neg h29, if_neg h64] at q9; exact q9)) (by show _ = gcL τ b; omega) (by rw [hv, itN, rbS]; first | (rw [if_pos h29]; done) | (rw [if_neg h29, if_pos h64]; done) | rw [if_neg h29, if_neg h64]) hP hS (lv_sub hl [2, 3, 0] rfl)
        · refine lv_aload_n E.1.1 E.1.2.1 dX2_readBody_32 rfl (lv_at hl 1 rfl) ?_
          refine lv_dup E.1.1 E.1.2.1 dX2_readBody_33 rfl ?_
          refine gt_X2_made E fl_X2_22 hP dX2_readBody_34 ?_
          refine lv_iconst (v := nI 1) E.1.1 E.1.2.1 dX2_readBody_37 rfl ?_
          refine lv_aload_n E.1.1 E.1.2.1 dX2_readBody_38 rfl (lv_at hl 1 rfl) ?_
          refine gt_X2_program E fl_X2_18 hP dX2_readBody_39 ?_
          refine lv_iload_n E.1.1 E.1.2.1 dX2_readBody_42 rfl (lv_at hl 0 rfl) ?_
          refine CM.callVi (n := 1) E (c_X1_y l D cI cJ cZ ad τ (b * 10 + k) (by omega)) ml_X2_88 im_X1_y se_X1_y ini_X1 co_X1_y hd_X1_y ⟨Nat.le_of_ble_eq_true rfl, Nat.le_of_ble_eq_true rfl⟩ ⟨Nat.le_refl _, Nat.le_refl _⟩ 1 rfl rfl hP (hD _) hS hA2 rfl hl.1 (Nat.le_of_ble_eq_true rfl) dX2_readBody_43 rfl (fun H locs hP hS => ?_)
          refine tpi (y := nI (yN τ (b * 10 + k))) ((WI_y hT.2.1 (by omega)).1) ?_
          refine nv_ishl (by have := (WI_y hT.2.1 (p := b * 10 + k) (by omega)).2; omega) E dX2_readBody_46 ?_
          refine nv_ior E dX2_readBody_47 ?_
          refine pt_X2_made (v := (gcma τ) ||| (1 <<< (yN τ (b * 10 + k)))) E fl_X2_22 hP hD hS dX2_readBody_48 (fun H locs hP hS => ?_)
          refine lv_goto (tgt := 86) E.1.1 E.1.2.1 dX2_readBody_51 (by decide) ?_
          refine lv_iinc (v := nI (k + 1)) (lv' := [(2, .int (nI (k + 1))), (3, .int (nI (b * 10 + k))), (0, .ref (ad 2)), (1, .int (nI b))]) E.1.1 E.1.2.1 dX2_readBody_86 hl (k := 3) rfl (nI_add k 1) (by decide) rfl (fun ls hl => ?_)
          refine lv_goto (tgt := 2) E.1.1 E.1.2.1 dX2_readBody_89 (by decide) ?_
          exact ih2 (k + 1) (scma τ ((gcma τ) ||| (1 <<< (yN τ (b * 10 + k))))) _ _ _ (by have q9 := Kp_rb (b := b) (k := k) hT; rw [rbS] at q9; first | (rw [if_pos h29] at q9; exact q9) | (rw [if_neg h29, if_pos h64] at q9; exact q9) | (rw [if_neg h29, if_neg h64] at q9; exact q9)) (by show _ = gcL τ b; omega) (by rw [hv, itN, rbS]; first | (rw [if_pos h29]; done) | (rw [if_neg h29, if_pos h64]; done) | rw [if_neg h29, if_neg h64]) hP hS (lv_sub hl [2, 3, 0] rfl)
  exact LP2 (gcL σ b) 0 σ _ _ _ hK (by omega) rfl hP hS (lv_sub hl [1, 2, 0] rfl)
set_option maxRecDepth 100000 in
set_option maxHeartbeats 4000000 in
theorem c_X2_readBodies (l : Launch) (D : va_G) (cI cJ cZ : ClassId) (ad : Nat → Nat) (σ : CS) (f : Nat)  (hf : f < 16777216) (hK : Kp σ σ) : CM l D (t3 cI cJ cZ) yX2_readBodies cX2_readBodies 3 none 2 [.ref (ad 2), .int (nI f)] (wC ad cI cJ cZ σ) (none) (wC ad cI cJ cZ (rsF f σ)) := by
  refine CM.of (by decide) (Nat.le_of_ble_eq_true rfl) ?_
  intro p e s m below meth c A ls E hr hlk hP hD0 hA hA2 hS hl
  have hD := wC_D hD0
  have hl : lv_has ls 3 [(0, .ref (ad 2)), (1, .int (nI f))] := hl
  refine lv_iconst (v := nI 0) E.1.1 E.1.2.1 dX2_readBodies_0 rfl ?_
  refine lv_istore_n (lv' := [(2, .int (nI 0)), (0, .ref (ad 2)), (1, .int (nI f))]) E.1.1 E.1.2.1 dX2_readBodies_1 rfl hl (by decide) rfl (fun ls hl => ?_)
  have LP2 : ∀ (n : Nat) (k : Nat) (τ : CS) (H : Heap) (locs : List Loc) (ls : Array Slot), (Kp σ τ) → (k + n = 24) → (rsF f σ = itN (rsS f) n k τ) → va_P D vwCl (wC ad cI cJ cZ τ) H → va_S A s.heap H locs → lv_has ls 3 [(0, .ref (ad 2)), (1, .int (nI f)), (2, .int (nI k))] → W p l e { frames := 2, cells := 0, slots := 0, locals := 40 * 2 } s m [.ref (ad 2), .int (nI f)].toArray below meth c H locs 0 0 (MQ below (Qcm D (wC ad cI cJ cZ σ) s.heap.size (none) (wC ad cI cJ cZ (rsF f σ))) [.ref (ad 2), .int (nI f)].toArray s 0 0 A) (F0 m 2 ls []) := by
    intro n
    induction n with
    | zero =>
      intro k τ H locs ls hT hk hv hP hS hl
      refine lv_iload_n E.1.1 E.1.2.1 dX2_readBodies_2 rfl (lv_at hl 2 rfl) ?_
      refine lv_bipush (v := nI 24) E.1.1 E.1.2.1 dX2_readBodies_3 rfl ?_
      refine nv_icmp_ge (by omega) (by omega) E dX2_readBodies_5 (tgt := 27) (by decide) (fun h5 => ?_) (fun h5 => ?_)
      · exact CM.retv E hr hlk hA (by rw [hv]; exact hP) hS rfl dX2_readBodies_27
      · exact absurd h5 (by omega)
    | succ n ih2 =>
      intro k τ H locs ls hT hk hv hP hS hl
      refine lv_iload_n E.1.1 E.1.2.1 dX2_readBodies_2 rfl (lv_at hl 2 rfl) ?_
      refine lv_bipush (v := nI 24) E.1.1 E.1.2.1 dX2_readBodies_3 rfl ?_
      refine nv_icmp_ge (by omega) (by omega) E dX2_readBodies_5 (tgt := 27) (by decide) (fun h5 => ?_) (fun h5 => ?_)
      · exact absurd h5 (by omega)
      · refine lv_iload_n E.1.1 E.1.2.1 dX2_readBodies_8 rfl (lv_at hl 1 rfl) ?_
        refine lv_iload_n E.1.1 E.1.2.1 dX2_readBodies_9 rfl (lv_at hl 2 rfl) ?_
        refine CM.callSi (n := 2) E (c_X2_isIn l D cI cJ cZ ad τ f k (by omega) (by omega)) ml_X2_51 st_X2_isIn ini_X2 co_X2_isIn hd_X2_isIn ⟨Nat.le_of_ble_eq_true rfl, Nat.le_of_ble_eq_true rfl⟩ ⟨Nat.le_refl _, Nat.le_refl _⟩ hP (hD _) hS hA2 rfl hl.1 (Nat.le_of_ble_eq_true rfl) dX2_readBodies_10 rfl (fun H locs hP hS => ?_)
        refine bv_if_eq (x := f.testBit k) E dX2_readBodies_13 (tgt := 21) (by decide) (fun h13 => ?_) (fun h13 => ?_)
        · refine lv_iinc (v := nI (k + 1)) (lv' := [(2, .int (nI (k + 1))), (0, .ref (ad 2)), (1, .int (nI f))]) E.1.1 E.1.2.1 dX2_readBodies_21 hl (k := 2) rfl (nI_add k 1) (by decide) rfl (fun ls hl => ?_)
          refine lv_goto (tgt := 2) E.1.1 E.1.2.1 dX2_readBodies_24 (by decide) ?_
          exact ih2 (k + 1) τ _ _ _ (hT) (by omega) (by rw [hv, itN, rsS, if_neg (by rw [h13]; decide)]) hP hS (lv_sub hl [1, 2, 0] rfl)
        · refine lv_aload_n E.1.1 E.1.2.1 dX2_readBodies_16 rfl (lv_at hl 0 rfl) ?_
          refine lv_iload_n E.1.1 E.1.2.1 dX2_readBodies_17 rfl (lv_at hl 2 rfl) ?_
          refine CM.callVv (n := 1) E (c_X2_readBody l D cI cJ cZ ad τ k (by omega) (Kp_rf hT.1 hT.2.1 hT.2.2.1)) ml_X2_79 im_X2_readBody se_X2_readBody ini_X2 co_X2_readBody hd_X2_readBody ⟨Nat.le_of_ble_eq_true rfl, Nat.le_of_ble_eq_true rfl⟩ ⟨Nat.le_refl _, Nat.le_refl _⟩ 2 rfl rfl hP (hD _) hS hA2 rfl hl.1 (Nat.le_of_ble_eq_true rfl) dX2_readBodies_18 rfl (fun H locs hP hS => ?_)
          refine lv_iinc (v := nI (k + 1)) (lv' := [(2, .int (nI (k + 1))), (0, .ref (ad 2)), (1, .int (nI f))]) E.1.1 E.1.2.1 dX2_readBodies_21 hl (k := 2) rfl (nI_add k 1) (by decide) rfl (fun ls hl => ?_)
          refine lv_goto (tgt := 2) E.1.1 E.1.2.1 dX2_readBodies_24 (by decide) ?_
          exact ih2 (k + 1) (rbF k τ) _ _ _ (Kp_rbF hT) (by omega) (by rw [hv, itN, rsS, if_pos h13]) hP hS (lv_sub hl [1, 2, 0] rfl)
  exact LP2 24 0 σ _ _ _ hK (by omega) rfl hP hS (lv_sub hl [1, 2, 0] rfl)
set_option maxRecDepth 100000 in
set_option maxHeartbeats 4000000 in
theorem c_X2_reachTargets (l : Launch) (D : va_G) (cI cJ cZ : ClassId) (ad : Nat → Nat) (σ : CS)   (hK : Kp σ σ) : CM l D (t3 cI cJ cZ) yX2_reachTargets cX2_reachTargets 3 none 3 [.ref (ad 2)] (wC ad cI cJ cZ σ) (none) (wC ad cI cJ cZ (rtF σ)) := by
  refine CM.of (by decide) (Nat.le_of_ble_eq_true rfl) ?_
  intro p e s m below meth c A ls E hr hlk hP hD0 hA hA2 hS hl
  have hD := wC_D hD0
  have hl : lv_has ls 3 [(0, .ref (ad 2))] := hl
  refine lv_iconst (v := nI 0) E.1.1 E.1.2.1 dX2_reachTargets_0 rfl ?_
  refine lv_istore_n (lv' := [(1, .int (nI 0)), (0, .ref (ad 2))]) E.1.1 E.1.2.1 dX2_reachTargets_1 rfl hl (by decide) rfl (fun ls hl => ?_)
  have LP2 : ∀ (n : Nat) (t : Nat) (τ : CS) (H : Heap) (locs : List Loc) (ls : Array Slot), (Kp σ τ) → (t + n = 6) → (rtF σ = itN (fun t τ => itN (rtS t) 4 0 τ) n t τ) → va_P D vwCl (wC ad cI cJ cZ τ) H → va_S A s.heap H locs → lv_has ls 3 [(0, .ref (ad 2)), (1, .int (nI t))] → W p l e { frames := 3, cells := 0, slots := 0, locals := 40 * 3 } s m [.ref (ad 2)].toArray below meth c H locs 0 0 (MQ below (Qcm D (wC ad cI cJ cZ σ) s.heap.size (none) (wC ad cI cJ cZ (rtF σ))) [.ref (ad 2)].toArray s 0 0 A) (F0 m 2 ls []) := by
    intro n
    induction n with
    | zero =>
      intro t τ H locs ls hT hk hv hP hS hl
      refine lv_iload_n E.1.1 E.1.2.1 dX2_reachTargets_2 rfl (lv_at hl 1 rfl) ?_
      refine lv_bipush (v := nI 6) E.1.1 E.1.2.1 dX2_reachTargets_3 rfl ?_
      refine nv_icmp_ge (by omega) (by omega) E dX2_reachTargets_5 (tgt := 64) (by decide) (fun h5 => ?_) (fun h5 => ?_)
      · exact CM.retv E hr hlk hA (by rw [hv]; exact hP) hS rfl dX2_reachTargets_64
      · exact absurd h5 (by omega)
    | succ n ih2 =>
      intro t τ H locs ls hT hk hv hP hS hl
      refine lv_iload_n E.1.1 E.1.2.1 dX2_reachTargets_2 rfl (lv_at hl 1 rfl) ?_
      refine lv_bipush (v := nI 6) E.1.1 E.1.2.1 dX2_reachTargets_3 rfl ?_
      refine nv_icmp_ge (by omega) (by omega) E dX2_reachTargets_5 (tgt := 64) (by decide) (fun h5 => ?_) (fun h5 => ?_)
      · exact absurd h5 (by omega)
      · refine lv_iconst (v := nI 0) E.1.1 E.1.2.1 dX2_reachTargets_8 rfl ?_
        refine lv_istore_n (lv' := [(2, .int (nI 0)), (0, .ref (ad 2)), (1, .int (nI t))]) E.1.1 E.1.2.1 dX2_reachTargets_9 rfl hl (by decide) rfl (fun ls hl => ?_)
        have LP10 : ∀ (n2 : Nat) (q : Nat) (τ2 : CS) (H : Heap) (locs : List Loc) (ls : Array Slot), (Kp σ τ2) → (q + n2 = 4) → (itN (rtS t) 4 0 τ = itN (rtS t) n2 q τ2) → va_P D vwCl (wC ad cI cJ cZ τ2) H → va_S A s.heap H locs → lv_has ls 3 [(0, .ref (ad 2)), (1, .int (nI t)), (2, .int (nI q))] → W p l e { frames := 3, cells := 0, slots := 0, locals := 40 * 3 } s m [.ref (ad 2)].toArray below meth c H locs 0 0 (MQ below (Qcm D (wC ad cI cJ cZ σ) s.heap.size (none) (wC ad cI cJ cZ (rtF σ))) [.ref (ad 2)].toArray s 0 0 A) (F0 m 10 ls []) := by
          intro n2
          induction n2 with
          | zero =>
            intro q τ2 H locs ls hT2 hk2 hv2 hP hS hl
            have hB := hT2.2.2.1
            refine lv_iload_n E.1.1 E.1.2.1 dX2_reachTargets_10 rfl (lv_at hl 2 rfl) ?_
            refine lv_iconst (v := nI 4) E.1.1 E.1.2.1 dX2_reachTargets_11 rfl ?_
            refine nv_icmp_ge (by omega) (by omega) E dX2_reachTargets_12 (tgt := 58) (by decide) (fun h12 => ?_) (fun h12 => ?_)
            · refine lv_iinc (v := nI (t + 1)) (lv' := [(1, .int (nI (t + 1))), (0, .ref (ad 2)), (2, .int (nI q))]) E.1.1 E.1.2.1 dX2_reachTargets_58 hl (k := 1) rfl (nI_add t 1) (by decide) rfl (fun ls hl => ?_)
              refine lv_goto (tgt := 2) E.1.1 E.1.2.1 dX2_reachTargets_61 (by decide) ?_
              exact ih2 (t + 1) τ2 _ _ _ hT2 (by omega) (by rw [hv, itN, hv2]; rfl) hP hS (lv_sub hl [1, 0] rfl)
            · exact absurd h12 (by omega)
          | succ n2 ih10 =>
            intro q τ2 H locs ls hT2 hk2 hv2 hP hS hl
            have hB := hT2.2.2.1
            refine lv_iload_n E.1.1 E.1.2.1 dX2_reachTargets_10 rfl (lv_at hl 2 rfl) ?_
            refine lv_iconst (v := nI 4) E.1.1 E.1.2.1 dX2_reachTargets_11 rfl ?_
            refine nv_icmp_ge (by omega) (by omega) E dX2_reachTargets_12 (tgt := 58) (by decide) (fun h12 => ?_) (fun h12 => ?_)
            · exact absurd h12 (by omega)
            · refine lv_aload_n E.1.1 E.1.2.1 dX2_reachTargets_15 rfl (lv_at hl 0 rfl) ?_
              refine gt_X2_made E fl_X2_22 hP dX2_reachTargets_16 ?_
              refine lv_iload_n E.1.1 E.1.2.1 dX2_reachTargets_19 rfl (lv_at hl 1 rfl) ?_
              refine CM.callSi (n := 2) E (c_X2_isIn l D cI cJ cZ ad τ2 (gcma τ2) t (by have := hB.1; omega) (by omega)) ml_X2_51 st_X2_isIn ini_X2 co_X2_isIn hd_X2_isIn ⟨Nat.le_of_ble_eq_true rfl, Nat.le_of_ble_eq_true rfl⟩ ⟨Nat.le_refl _, Nat.le_refl _⟩ hP (hD _) hS hA2 rfl hl.1 (Nat.le_of_ble_eq_true rfl) dX2_reachTargets_20 rfl (fun H locs hP hS => ?_)
              refine bv_if_eq (x := (gcma τ2).testBit t) E dX2_reachTargets_23 (tgt := 52) (by decide) (fun h23 => ?_) (fun h23 => ?_)
              · refine lv_iinc (v := nI (q + 1)) (lv' := [(2, .int (nI (q + 1))), (0, .ref (ad 2)), (1, .int (nI t))]) E.1.1 E.1.2.1 dX2_reachTargets_52 hl (k := 2) rfl (nI_add q 1) (by decide) rfl (fun ls hl => ?_)
                refine lv_goto (tgt := 10) E.1.1 E.1.2.1 dX2_reachTargets_55 (by decide) ?_
                exact ih10 (q + 1) τ2 _ _ _ (hT2) (by omega) (by rw [hv2, itN, rtS]; first | rw [if_pos h23, if_pos h34] | rw [if_pos h23, if_neg (by rw [h34]; decide)] | rw [if_neg (by rw [h23]; decide)]) hP hS (lv_sub hl [1, 2, 0] rfl)
              · refine lv_aload_n E.1.1 E.1.2.1 dX2_reachTargets_26 rfl (lv_at hl 0 rfl) ?_
                refine gt_X2_called E fl_X2_64 hP dX2_reachTargets_27 ?_
                refine lv_iload_n E.1.1 E.1.2.1 dX2_reachTargets_30 rfl (lv_at hl 2 rfl) ?_
                refine CM.callSi (n := 2) E (c_X2_isIn l D cI cJ cZ ad τ2 (gcca τ2) q (by have := hB.2.2; omega) (by omega)) ml_X2_51 st_X2_isIn ini_X2 co_X2_isIn hd_X2_isIn ⟨Nat.le_of_ble_eq_true rfl, Nat.le_of_ble_eq_true rfl⟩ ⟨Nat.le_refl _, Nat.le_refl _⟩ hP (hD _) hS hA2 rfl hl.1 (Nat.le_of_ble_eq_true rfl) dX2_reachTargets_31 rfl (fun H locs hP hS => ?_)
                refine bv_if_eq (x := (gcca τ2).testBit q) E dX2_reachTargets_34 (tgt := 52) (by decide) (fun h34 => ?_) (fun h34 => ?_)
                · refine lv_iinc (v := nI (q + 1)) (lv' := [(2, .int (nI (q + 1))), (0, .ref (ad 2)), (1, .int (nI t))]) E.1.1 E.1.2.1 dX2_reachTargets_52 hl (k := 2) rfl (nI_add q 1) (by decide) rfl (fun ls hl => ?_)
                  refine lv_goto (tgt := 10) E.1.1 E.1.2.1 dX2_reachTargets_55 (by decide) ?_
                  exact ih10 (q + 1) τ2 _ _ _ (hT2) (by omega) (by rw [hv2, itN, rtS]; first | rw [if_pos h23, if_pos h34] | rw [if_pos h23, if_neg (by rw [h34]; decide)] | rw [if_neg (by rw [h23]; decide)]) hP hS (lv_sub hl [1, 2, 0] rfl)
                · refine lv_aload_n E.1.1 E.1.2.1 dX2_reachTargets_37 rfl (lv_at hl 0 rfl) ?_
                  refine lv_dup E.1.1 E.1.2.1 dX2_reachTargets_38 rfl ?_
                  refine gt_X2_reached E fl_X2_26 hP dX2_reachTargets_39 ?_
                  refine lv_aload_n E.1.1 E.1.2.1 dX2_reachTargets_42 rfl (lv_at hl 0 rfl) ?_
                  refine lv_iload_n E.1.1 E.1.2.1 dX2_reachTargets_43 rfl (lv_at hl 1 rfl) ?_
                  refine lv_iload_n E.1.1 E.1.2.1 dX2_reachTargets_44 rfl (lv_at hl 2 rfl) ?_
                  refine CM.callVi (n := 2) E (c_X2_targetSet l D cI cJ cZ ad τ2 t q (by omega) (by omega) hT2.1) ml_X2_67 im_X2_targetSet se_X2_targetSet ini_X2 co_X2_targetSet hd_X2_targetSet ⟨Nat.le_of_ble_eq_true rfl, Nat.le_of_ble_eq_true rfl⟩ ⟨Nat.le_refl _, Nat.le_refl _⟩ 2 rfl rfl hP (hD _) hS hA2 rfl hl.1 (Nat.le_of_ble_eq_true rfl) dX2_reachTargets_45 rfl (fun H locs hP hS => ?_)
                  refine nv_ior E dX2_reachTargets_48 ?_
                  refine pt_X2_reached (v := (gcre τ2) ||| (tsF τ2 t q)) E fl_X2_26 hP hD hS dX2_reachTargets_49 (fun H locs hP hS => ?_)
                  refine lv_iinc (v := nI (q + 1)) (lv' := [(2, .int (nI (q + 1))), (0, .ref (ad 2)), (1, .int (nI t))]) E.1.1 E.1.2.1 dX2_reachTargets_52 hl (k := 2) rfl (nI_add q 1) (by decide) rfl (fun ls hl => ?_)
                  refine lv_goto (tgt := 10) E.1.1 E.1.2.1 dX2_reachTargets_55 (by decide) ?_
                  exact ih10 (q + 1) (scre τ2 ((gcre τ2) ||| (tsF τ2 t q))) _ _ _ (Kp_re hT2 (or_lt24 hT2.2.2.1.2.1 (tsF_lt hT2.1 (by omega) (by omega)))) (by omega) (by rw [hv2, itN, rtS]; first | rw [if_pos h23, if_pos h34] | rw [if_pos h23, if_neg (by rw [h34]; decide)] | rw [if_neg (by rw [h23]; decide)]) hP hS (lv_sub hl [1, 2, 0] rfl)
        exact LP10 4 0 τ _ _ _ hT (by omega) rfl hP hS (lv_sub hl [1, 2, 0] rfl)
  exact LP2 6 0 σ _ _ _ hK (by omega) rfl hP hS (lv_sub hl [1, 0] rfl)
set_option maxRecDepth 100000 in
set_option maxHeartbeats 4000000 in
theorem c_X2_findReached (l : Launch) (D : va_G) (cI cJ cZ : ClassId) (ad : Nat → Nat) (σ : CS)   (hI : PI σ) (hW : WI σ) : CM l D (t3 cI cJ cZ) yX2_findReached cX2_findReached 4 none 4 [.ref (ad 2)] (wC ad cI cJ cZ σ) (none) (wC ad cI cJ cZ (frF σ)) := by
  refine CM.of (by decide) (Nat.le_of_ble_eq_true rfl) ?_
  intro p e s m below meth c A ls E hr hlk hP hD0 hA hA2 hS hl
  have hD := wC_D hD0
  have hl : lv_has ls 4 [(0, .ref (ad 2))] := hl
  refine lv_aload_n E.1.1 E.1.2.1 dX2_findReached_0 rfl (lv_at hl 0 rfl) ?_
  refine lv_iconst (v := nI 1) E.1.1 E.1.2.1 dX2_findReached_1 rfl ?_
  refine pt_X2_made (v := 1) E fl_X2_22 hP hD hS dX2_findReached_2 (fun H locs hP hS => ?_)
  refine lv_aload_n E.1.1 E.1.2.1 dX2_findReached_5 rfl (lv_at hl 0 rfl) ?_
  refine lv_iconst (v := nI 0) E.1.1 E.1.2.1 dX2_findReached_6 rfl ?_
  refine pt_X2_called (v := 0) E fl_X2_64 hP hD hS dX2_findReached_7 (fun H locs hP hS => ?_)
  refine lv_aload_n E.1.1 E.1.2.1 dX2_findReached_10 rfl (lv_at hl 0 rfl) ?_
  refine lv_aload_n E.1.1 E.1.2.1 dX2_findReached_11 rfl (lv_at hl 0 rfl) ?_
  refine lv_iconst (v := nI 0) E.1.1 E.1.2.1 dX2_findReached_12 rfl ?_
  refine lv_iconst (v := nI 0) E.1.1 E.1.2.1 dX2_findReached_13 rfl ?_
  refine CM.callVi (n := 2) E (c_X2_targetSet l D cI cJ cZ ad (scca (scma σ 1) 0) 0 0 (by decide) (by decide) hI) ml_X2_67 im_X2_targetSet se_X2_targetSet ini_X2 co_X2_targetSet hd_X2_targetSet ⟨Nat.le_of_ble_eq_true rfl, Nat.le_of_ble_eq_true rfl⟩ ⟨Nat.le_refl _, Nat.le_refl _⟩ 2 rfl rfl hP (hD _) hS hA2 rfl hl.1 (Nat.le_of_ble_eq_true rfl) dX2_findReached_14 rfl (fun H locs hP hS => ?_)
  refine pt_X2_reached (v := tsF (scca (scma σ 1) 0) 0 0) E fl_X2_26 hP hD hS dX2_findReached_17 (fun H locs hP hS => ?_)
  refine lv_iconst (v := nI 0) E.1.1 E.1.2.1 dX2_findReached_20 rfl ?_
  refine lv_istore_n (lv' := [(1, .int (nI 0)), (0, .ref (ad 2))]) E.1.1 E.1.2.1 dX2_findReached_21 rfl hl (by decide) rfl (fun ls hl => ?_)
  refine lv_iconst (v := nI 0) E.1.1 E.1.2.1 dX2_findReached_22 rfl ?_
  refine lv_istore_n (lv' := [(2, .int (nI 0)), (1, .int (nI 0)), (0, .ref (ad 2))]) E.1.1 E.1.2.1 dX2_findReached_23 rfl hl (by decide) rfl (fun ls hl => ?_)
  have LP24 : ∀ (n : Nat) (r : Nat) (rd : Nat) (τ : CS) (H : Heap) (locs : List Loc) (ls : Array Slot), (Kp σ τ) → (r + n = 24) → (rd < 16777216) → (frF σ = frL n rd τ) → va_P D vwCl (wC ad cI cJ cZ τ) H → va_S A s.heap H locs → lv_has ls 4 [(0, .ref (ad 2)), (1, .int (nI rd)), (2, .int (nI r))] → W p l e { frames := 4, cells := 0, slots := 0, locals := 40 * 4 } s m [.ref (ad 2)].toArray below meth c H locs 0 0 (MQ below (Qcm D (wC ad cI cJ cZ σ) s.heap.size (none) (wC ad cI cJ cZ (frF σ))) [.ref (ad 2)].toArray s 0 0 A) (F0 m 24 ls []) := by
    intro n
    induction n with
    | zero =>
      intro r rd τ H locs ls hT hk hrd hv hP hS hl
      refine lv_iload_n E.1.1 E.1.2.1 dX2_findReached_24 rfl (lv_at hl 2 rfl) ?_
      refine lv_bipush (v := nI 24) E.1.1 E.1.2.1 dX2_findReached_25 rfl ?_
      refine nv_icmp_ge (by omega) (by omega) E dX2_findReached_27 (tgt := 67) (by decide) (fun h27 => ?_) (fun h27 => ?_)
      · exact CM.retv E hr hlk hA (by rw [hv]; first | exact hP | (rw [frL, if_pos h35]; exact hP)) hS rfl dX2_findReached_67
      · exact absurd h27 (by omega)
    | succ n ih24 =>
      intro r rd τ H locs ls hT hk hrd hv hP hS hl
      refine lv_iload_n E.1.1 E.1.2.1 dX2_findReached_24 rfl (lv_at hl 2 rfl) ?_
      refine lv_bipush (v := nI 24) E.1.1 E.1.2.1 dX2_findReached_25 rfl ?_
      refine nv_icmp_ge (by omega) (by omega) E dX2_findReached_27 (tgt := 67) (by decide) (fun h27 => ?_) (fun h27 => ?_)
      · exact absurd h27 (by omega)
      · refine lv_iload_n E.1.1 E.1.2.1 dX2_findReached_30 rfl (lv_at hl 1 rfl) ?_
        refine lv_aload_n E.1.1 E.1.2.1 dX2_findReached_31 rfl (lv_at hl 0 rfl) ?_
        refine gt_X2_reached E fl_X2_26 hP dX2_findReached_32 ?_
        refine nv_icmp_eq (by omega) (by have := hT.2.2.1.2.1; omega) E dX2_findReached_35 (tgt := 67) (by decide) (fun h35 => ?_) (fun h35 => ?_)
        · exact CM.retv E hr hlk hA (by rw [hv]; first | exact hP | (rw [frL, if_pos h35]; exact hP)) hS rfl dX2_findReached_67
        · refine lv_aload_n E.1.1 E.1.2.1 dX2_findReached_38 rfl (lv_at hl 0 rfl) ?_
          refine gt_X2_reached E fl_X2_26 hP dX2_findReached_39 ?_
          refine lv_iload_n E.1.1 E.1.2.1 dX2_findReached_42 rfl (lv_at hl 1 rfl) ?_
          refine lv_iconst (v := nI 4294967295) E.1.1 E.1.2.1 dX2_findReached_43 rfl ?_
          refine nv_ixor E dX2_findReached_44 ?_
          refine nv_iand E dX2_findReached_45 ?_
          refine lv_istore_n (lv' := [(3, .int (nI ((gcre τ) &&& (rd ^^^ 4294967295)))), (0, .ref (ad 2)), (1, .int (nI rd)), (2, .int (nI r))]) E.1.1 E.1.2.1 dX2_findReached_46 rfl hl (by decide) rfl (fun ls hl => ?_)
          refine lv_aload_n E.1.1 E.1.2.1 dX2_findReached_47 rfl (lv_at hl 1 rfl) ?_
          refine gt_X2_reached E fl_X2_26 hP dX2_findReached_48 ?_
          refine lv_istore_n (lv' := [(1, .int (nI (gcre τ))), (3, .int (nI ((gcre τ) &&& (rd ^^^ 4294967295)))), (0, .ref (ad 2)), (2, .int (nI r))]) E.1.1 E.1.2.1 dX2_findReached_51 rfl hl (by decide) rfl (fun ls hl => ?_)
          refine lv_aload_n E.1.1 E.1.2.1 dX2_findReached_52 rfl (lv_at hl 2 rfl) ?_
          refine lv_iload_n E.1.1 E.1.2.1 dX2_findReached_53 rfl (lv_at hl 1 rfl) ?_
          refine CM.callVv (n := 1) E (c_X2_readBodies l D cI cJ cZ ad τ ((gcre τ) &&& (rd ^^^ 4294967295)) (fresh_lt hT.2.2.1.2.1) (Kp_rf hT.1 hT.2.1 hT.2.2.1)) ml_X2_70 im_X2_readBodies se_X2_readBodies ini_X2 co_X2_readBodies hd_X2_readBodies ⟨Nat.le_of_ble_eq_true rfl, Nat.le_of_ble_eq_true rfl⟩ ⟨Nat.le_refl _, Nat.le_refl _⟩ 2 rfl rfl hP (hD _) hS hA2 rfl hl.1 (Nat.le_of_ble_eq_true rfl) dX2_findReached_54 rfl (fun H locs hP hS => ?_)
          refine lv_aload_n E.1.1 E.1.2.1 dX2_findReached_57 rfl (lv_at hl 2 rfl) ?_
          refine CM.callVv (n := 0) E (c_X2_reachTargets l D cI cJ cZ ad (rsF ((gcre τ) &&& (rd ^^^ 4294967295)) τ) (Kp_rf (Kp_rsF hT).1 (Kp_rsF hT).2.1 (Kp_rsF hT).2.2.1)) ml_X2_73 im_X2_reachTargets se_X2_reachTargets ini_X2 co_X2_reachTargets hd_X2_reachTargets ⟨Nat.le_of_ble_eq_true rfl, Nat.le_of_ble_eq_true rfl⟩ ⟨Nat.le_refl _, Nat.le_refl _⟩ 2 rfl rfl hP (hD _) hS hA2 rfl hl.1 (Nat.le_of_ble_eq_true rfl) dX2_findReached_58 rfl (fun H locs hP hS => ?_)
          refine lv_iinc (v := nI (r + 1)) (lv' := [(2, .int (nI (r + 1))), (1, .int (nI (gcre τ))), (3, .int (nI ((gcre τ) &&& (rd ^^^ 4294967295)))), (0, .ref (ad 2))]) E.1.1 E.1.2.1 dX2_findReached_61 hl (k := 3) rfl (nI_add r 1) (by decide) rfl (fun ls hl => ?_)
          refine lv_goto (tgt := 24) E.1.1 E.1.2.1 dX2_findReached_64 (by decide) ?_
          exact ih24 (r + 1) (gcre τ) (rtF (rsF ((gcre τ) &&& (rd ^^^ 4294967295)) τ)) _ _ _ (Kp_rtF (Kp_rsF hT)) (by omega) hT.2.2.1.2.1 (by rw [hv, frL, if_neg h35]) hP hS (lv_sub hl [3, 1, 0] rfl)
  exact LP24 24 0 0 (fr0 σ) _ _ _ (Kp_fr0 hI hW) (by omega) (by omega) rfl hP hS (lv_sub hl [2, 1, 0] rfl)
set_option maxRecDepth 100000 in
set_option maxHeartbeats 4000000 in
theorem c_X2_verdictOfCalls (l : Launch) (D : va_G) (cI cJ cZ : ClassId) (ad : Nat → Nat) (σ : CS) (q : Nat)  (hq : q < 4) (hK : Kp σ σ) : CM l D (t3 cI cJ cZ) yX2_verdictOfCalls cX2_verdictOfCalls 5 (some .int) 2 [.ref (ad 2), .int (nI q)] (wC ad cI cJ cZ σ) (some (.int (nI (vcF σ q)))) (wC ad cI cJ cZ σ) := by
  refine CM.of (by decide) (Nat.le_of_ble_eq_true rfl) ?_
  intro p e s m below meth c A ls E hr hlk hP hD0 hA hA2 hS hl
  have hD := wC_D hD0
  have hl : lv_has ls 5 [(0, .ref (ad 2)), (1, .int (nI q))] := hl
  refine lv_iconst (v := -1) E.1.1 E.1.2.1 dX2_verdictOfCalls_0 rfl ?_
  refine lv_istore_n (lv' := [(2, .int (-1)), (0, .ref (ad 2)), (1, .int (nI q))]) E.1.1 E.1.2.1 dX2_verdictOfCalls_1 rfl hl (by decide) rfl (fun ls hl => ?_)
  refine lv_iconst (v := nI 0) E.1.1 E.1.2.1 dX2_verdictOfCalls_2 rfl ?_
  refine lv_istore_n (lv' := [(3, .int (nI 0)), (2, .int (-1)), (0, .ref (ad 2)), (1, .int (nI q))]) E.1.1 E.1.2.1 dX2_verdictOfCalls_3 rfl hl (by decide) rfl (fun ls hl => ?_)
  have LP4 : ∀ (n : Nat) (k : Nat) (o : Option Nat) (H : Heap) (locs : List Loc) (ls : Array Slot), (k + n = 6) → (∀ j, o = some j → j < 24) → (vcF σ q = vcL σ q n k o) → va_P D vwCl (wC ad cI cJ cZ σ) H → va_S A s.heap H locs → lv_has ls 5 [(0, .ref (ad 2)), (1, .int (nI q)), (2, .int (oI o)), (3, .int (nI k))] → W p l e { frames := 2, cells := 0, slots := 0, locals := 40 * 2 } s m [.ref (ad 2), .int (nI q)].toArray below meth c H locs 0 0 (MQ below (Qcm D (wC ad cI cJ cZ σ) s.heap.size (some (.int (nI (vcF σ q)))) (wC ad cI cJ cZ σ)) [.ref (ad 2), .int (nI q)].toArray s 0 0 A) (F0 m 4 ls []) := by
    intro n
    induction n with
    | zero =>
      intro k o H locs ls hk ho hv hP hS hl
      refine lv_iload_n E.1.1 E.1.2.1 dX2_verdictOfCalls_4 rfl (lv_at hl 3 rfl) ?_
      refine lv_bipush (v := nI 6) E.1.1 E.1.2.1 dX2_verdictOfCalls_5 rfl ?_
      refine nv_icmp_ge (by omega) (by omega) E dX2_verdictOfCalls_7 (tgt := 64) (by decide) (fun h7 => ?_) (fun h7 => ?_)
      · refine lv_iload_n E.1.1 E.1.2.1 dX2_verdictOfCalls_64 rfl (lv_at hl 2 rfl) ?_
        refine lv_iconst (v := -1) E.1.1 E.1.2.1 dX2_verdictOfCalls_65 rfl ?_
        refine ov_m1_ne (o := o) (fun j hj => by have := ho j hj; omega) E dX2_verdictOfCalls_66 (tgt := 71) (by decide) (fun k66 h66 => ?_) (fun h66 => ?_)
        · have hk66 := ho _ h66
          have hl : lv_has ls 5 [(0, .ref (ad 2)), (1, .int (nI q)), (2, .int (nI k66)), (3, .int (nI k))] := by have q9 := hl; rw [h66] at q9; exact q9
          refine lv_aload_n E.1.1 E.1.2.1 dX2_verdictOfCalls_71 rfl (lv_at hl 0 rfl) ?_
          refine gt_X2_program E fl_X2_18 hP dX2_verdictOfCalls_72 ?_
          refine lv_iload_n E.1.1 E.1.2.1 dX2_verdictOfCalls_75 rfl (lv_at hl 2 rfl) ?_
          refine CM.callVi (n := 1) E (c_X1_fitsInPlace l D cI cJ cZ ad σ k66 hk66 hK.1) ml_X2_94 im_X1_fitsInPlace se_X1_fitsInPlace ini_X1 co_X1_fitsInPlace hd_X1_fitsInPlace ⟨Nat.le_of_ble_eq_true rfl, Nat.le_of_ble_eq_true rfl⟩ ⟨Nat.le_refl _, Nat.le_refl _⟩ 1 rfl rfl hP (hD _) hS hA2 rfl hl.1 (Nat.le_of_ble_eq_true rfl) dX2_verdictOfCalls_76 rfl (fun H locs hP hS => ?_)
          refine bv_if_eq (x := fitF (gcL σ) (gcK σ) k66) E dX2_verdictOfCalls_79 (tgt := 86) (by decide) (fun h79 => ?_) (fun h79 => ?_)
          · refine lv_iconst (v := nI 2) E.1.1 E.1.2.1 dX2_verdictOfCalls_86 rfl ?_
            exact CM.reti E hr hlk hA hP hS (by rw [hv, h66, vcL]; first | (rw [if_pos h79]; done) | rw [if_neg (by rw [h79]; decide)]) dX2_verdictOfCalls_87
          · refine lv_iconst (v := nI 3) E.1.1 E.1.2.1 dX2_verdictOfCalls_82 rfl ?_
            refine lv_goto (tgt := 87) E.1.1 E.1.2.1 dX2_verdictOfCalls_83 (by decide) ?_
            exact CM.reti E hr hlk hA hP hS (by rw [hv, h66, vcL]; first | (rw [if_pos h79]; done) | rw [if_neg (by rw [h79]; decide)]) dX2_verdictOfCalls_87
        · refine lv_iconst (v := nI 4) E.1.1 E.1.2.1 dX2_verdictOfCalls_69 rfl ?_
          exact CM.reti E hr hlk hA hP hS (by rw [hv, h66]; rfl) dX2_verdictOfCalls_70
      · exact absurd h7 (by omega)
    | succ n ih4 =>
      intro k o H locs ls hk ho hv hP hS hl
      refine lv_iload_n E.1.1 E.1.2.1 dX2_verdictOfCalls_4 rfl (lv_at hl 3 rfl) ?_
      refine lv_bipush (v := nI 6) E.1.1 E.1.2.1 dX2_verdictOfCalls_5 rfl ?_
      refine nv_icmp_ge (by omega) (by omega) E dX2_verdictOfCalls_7 (tgt := 64) (by decide) (fun h7 => ?_) (fun h7 => ?_)
      · exact absurd h7 (by omega)
      · refine lv_aload_n E.1.1 E.1.2.1 dX2_verdictOfCalls_10 rfl (lv_at hl 0 rfl) ?_
        refine gt_X2_made E fl_X2_22 hP dX2_verdictOfCalls_11 ?_
        refine lv_iload_n E.1.1 E.1.2.1 dX2_verdictOfCalls_14 rfl (lv_at hl 3 rfl) ?_
        refine CM.callSi (n := 2) E (c_X2_isIn l D cI cJ cZ ad σ (gcma σ) k (by have := hK.2.2.1.1; omega) (by omega)) ml_X2_51 st_X2_isIn ini_X2 co_X2_isIn hd_X2_isIn ⟨Nat.le_of_ble_eq_true rfl, Nat.le_of_ble_eq_true rfl⟩ ⟨Nat.le_refl _, Nat.le_refl _⟩ hP (hD _) hS hA2 rfl hl.1 (Nat.le_of_ble_eq_true rfl) dX2_verdictOfCalls_15 rfl (fun H locs hP hS => ?_)
        refine bv_if_eq (x := (gcma σ).testBit k) E dX2_verdictOfCalls_18 (tgt := 33) (by decide) (fun h18 => ?_) (fun h18 => ?_)
        · refine lv_iconst (v := oI none) E.1.1 E.1.2.1 dX2_verdictOfCalls_33 rfl ?_
          refine lv_istore (lv' := [(4, .int (oI none)), (0, .ref (ad 2)), (1, .int (nI q)), (2, .int (oI o)), (3, .int (nI k))]) E.1.1 E.1.2.1 dX2_verdictOfCalls_34 hl (by decide) rfl (fun ls hl => ?_)
          refine lv_iload E.1.1 E.1.2.1 dX2_verdictOfCalls_36 (lv_at hl 0 rfl) ?_
          refine lv_iconst (v := -1) E.1.1 E.1.2.1 dX2_verdictOfCalls_38 rfl ?_
          refine ov_m1_eq (o := none) (fun j hj => by first | (cases hj; done) | (have := tgC_lt hK.1 (by omega) hq hj; omega)) E dX2_verdictOfCalls_39 (tgt := 58) (by decide) (fun h39 => ?_) (fun k39 h39 => ?_)
          · refine lv_iinc (v := nI (k + 1)) (lv' := [(3, .int (nI (k + 1))), (4, .int (oI none)), (0, .ref (ad 2)), (1, .int (nI q)), (2, .int (oI o))]) E.1.1 E.1.2.1 dX2_verdictOfCalls_58 hl (k := 4) rfl (nI_add k 1) (by decide) rfl (fun ls hl => ?_)
            refine lv_goto (tgt := 4) E.1.1 E.1.2.1 dX2_verdictOfCalls_61 (by decide) ?_
            exact ih4 (k + 1) o _ _ _ (by omega) (by first | exact ho | (intro j hj; cases hj; exact hk39)) (by first | (rw [hv]; simp [vcL, h18]; done) | (rw [hv]; simp [vcL, h18, h39]; done) | (rw [hv]; simp [vcL, h18, h39, h44]; done) | (rw [hv]; simp [vcL, h18, h39, h44, h50]; done)) hP hS (lv_sub hl [2, 3, 4, 0] rfl)
          · cases h39
        · refine lv_aload_n E.1.1 E.1.2.1 dX2_verdictOfCalls_21 rfl (lv_at hl 0 rfl) ?_
          refine gt_X2_program E fl_X2_18 hP dX2_verdictOfCalls_22 ?_
          refine lv_iload_n E.1.1 E.1.2.1 dX2_verdictOfCalls_25 rfl (lv_at hl 3 rfl) ?_
          refine lv_iload_n E.1.1 E.1.2.1 dX2_verdictOfCalls_26 rfl (lv_at hl 1 rfl) ?_
          refine CM.callVi (n := 2) E (c_X1_target l D cI cJ cZ ad σ k q (by omega) hq hK.1) ml_X2_76 im_X1_target se_X1_target ini_X1 co_X1_target hd_X1_target ⟨Nat.le_of_ble_eq_true rfl, Nat.le_of_ble_eq_true rfl⟩ ⟨Nat.le_refl _, Nat.le_refl _⟩ 1 rfl rfl hP (hD _) hS hA2 rfl hl.1 (Nat.le_of_ble_eq_true rfl) dX2_verdictOfCalls_27 rfl (fun H locs hP hS => ?_)
          refine W.eq (g2 := F0 m 30 ls [.int (oI (tgC σ k q))]) rfl ?_
          refine lv_goto (tgt := 34) E.1.1 E.1.2.1 dX2_verdictOfCalls_30 (by decide) ?_
          refine lv_istore (lv' := [(4, .int (oI (tgC σ k q))), (0, .ref (ad 2)), (1, .int (nI q)), (2, .int (oI o)), (3, .int (nI k))]) E.1.1 E.1.2.1 dX2_verdictOfCalls_34 hl (by decide) rfl (fun ls hl => ?_)
          refine lv_iload E.1.1 E.1.2.1 dX2_verdictOfCalls_36 (lv_at hl 0 rfl) ?_
          refine lv_iconst (v := -1) E.1.1 E.1.2.1 dX2_verdictOfCalls_38 rfl ?_
          refine ov_m1_eq (o := (tgC σ k q)) (fun j hj => by first | (cases hj; done) | (have := tgC_lt hK.1 (by omega) hq hj; omega)) E dX2_verdictOfCalls_39 (tgt := 58) (by decide) (fun h39 => ?_) (fun k39 h39 => ?_)
          · refine lv_iinc (v := nI (k + 1)) (lv' := [(3, .int (nI (k + 1))), (4, .int (oI (tgC σ k q))), (0, .ref (ad 2)), (1, .int (nI q)), (2, .int (oI o))]) E.1.1 E.1.2.1 dX2_verdictOfCalls_58 hl (k := 4) rfl (nI_add k 1) (by decide) rfl (fun ls hl => ?_)
            refine lv_goto (tgt := 4) E.1.1 E.1.2.1 dX2_verdictOfCalls_61 (by decide) ?_
            exact ih4 (k + 1) o _ _ _ (by omega) (by first | exact ho | (intro j hj; cases hj; exact hk39)) (by first | (rw [hv]; simp [vcL, h18]; done) | (rw [hv]; simp [vcL, h18, h39]; done) | (rw [hv]; simp [vcL, h18, h39, h44]; done) | (rw [hv]; simp [vcL, h18, h39, h44, h50]; done)) hP hS (lv_sub hl [2, 3, 4, 0] rfl)
          · have hk39 := tgC_lt hK.1 (by omega) hq h39
            have hl : lv_has ls 5 [(4, .int (nI k39)), (0, .ref (ad 2)), (1, .int (nI q)), (2, .int (oI o)), (3, .int (nI k))] := by have q9 := hl; rw [h39] at q9; exact q9
            refine lv_iload_n E.1.1 E.1.2.1 dX2_verdictOfCalls_42 rfl (lv_at hl 3 rfl) ?_
            refine lv_iconst (v := -1) E.1.1 E.1.2.1 dX2_verdictOfCalls_43 rfl ?_
            refine ov_m1_eq (o := o) (fun j hj => by have := ho j hj; omega) E dX2_verdictOfCalls_44 (tgt := 55) (by decide) (fun h44 => ?_) (fun k44 h44 => ?_)
            · refine lv_iload E.1.1 E.1.2.1 dX2_verdictOfCalls_55 (lv_at hl 0 rfl) ?_
              refine lv_istore_n (lv' := [(2, .int (nI k39)), (4, .int (nI k39)), (0, .ref (ad 2)), (1, .int (nI q)), (3, .int (nI k))]) E.1.1 E.1.2.1 dX2_verdictOfCalls_57 rfl hl (by decide) rfl (fun ls hl => ?_)
              refine lv_iinc (v := nI (k + 1)) (lv' := [(3, .int (nI (k + 1))), (2, .int (nI k39)), (4, .int (nI k39)), (0, .ref (ad 2)), (1, .int (nI q))]) E.1.1 E.1.2.1 dX2_verdictOfCalls_58 hl (k := 4) rfl (nI_add k 1) (by decide) rfl (fun ls hl => ?_)
              refine lv_goto (tgt := 4) E.1.1 E.1.2.1 dX2_verdictOfCalls_61 (by decide) ?_
              exact ih4 (k + 1) (some k39) _ _ _ (by omega) (by first | exact ho | (intro j hj; cases hj; exact hk39)) (by first | (rw [hv]; simp [vcL, h18]; done) | (rw [hv]; simp [vcL, h18, h39]; done) | (rw [hv]; simp [vcL, h18, h39, h44]; done) | (rw [hv]; simp [vcL, h18, h39, h44, h50]; done)) hP hS (lv_sub hl [3, 4, 1, 0] rfl)
            · have hk44 := ho _ h44
              have hl : lv_has ls 5 [(4, .int (nI k39)), (0, .ref (ad 2)), (1, .int (nI q)), (2, .int (nI k44)), (3, .int (nI k))] := by have q9 := hl; rw [h44] at q9; exact q9
              refine lv_iload_n E.1.1 E.1.2.1 dX2_verdictOfCalls_47 rfl (lv_at hl 3 rfl) ?_
              refine lv_iload E.1.1 E.1.2.1 dX2_verdictOfCalls_48 (lv_at hl 0 rfl) ?_
              refine nv_icmp_eq (by omega) (by omega) E dX2_verdictOfCalls_50 (tgt := 55) (by decide) (fun h50 => ?_) (fun h50 => ?_)
              · refine lv_iload E.1.1 E.1.2.1 dX2_verdictOfCalls_55 (lv_at hl 0 rfl) ?_
                refine lv_istore_n (lv' := [(2, .int (nI k39)), (4, .int (nI k39)), (0, .ref (ad 2)), (1, .int (nI q)), (3, .int (nI k))]) E.1.1 E.1.2.1 dX2_verdictOfCalls_57 rfl hl (by decide) rfl (fun ls hl => ?_)
                refine lv_iinc (v := nI (k + 1)) (lv' := [(3, .int (nI (k + 1))), (2, .int (nI k39)), (4, .int (nI k39)), (0, .ref (ad 2)), (1, .int (nI q))]) E.1.1 E.1.2.1 dX2_verdictOfCalls_58 hl (k := 4) rfl (nI_add k 1) (by decide) rfl (fun ls hl => ?_)
                refine lv_goto (tgt := 4) E.1.1 E.1.2.1 dX2_verdictOfCalls_61 (by decide) ?_
                exact ih4 (k + 1) (some k39) _ _ _ (by omega) (by first | exact ho | (intro j hj; cases hj; exact hk39)) (by first | (rw [hv]; simp [vcL, h18]; done) | (rw [hv]; simp [vcL, h18, h39]; done) | (rw [hv]; simp [vcL, h18, h39, h44]; done) | (rw [hv]; simp [vcL, h18, h39, h44, h50]; done)) hP hS (lv_sub hl [3, 4, 1, 0] rfl)
              · refine lv_iconst (v := nI 1) E.1.1 E.1.2.1 dX2_verdictOfCalls_53 rfl ?_
                exact CM.reti E hr hlk hA hP hS (by rw [hv]; simp [vcL, h18, h39, h44, h50]) dX2_verdictOfCalls_54
  exact LP4 6 0 none _ _ _ (by omega) (fun j hj => by cases hj) rfl hP hS (lv_sub hl [2, 3, 1, 0] rfl)
set_option maxRecDepth 100000 in
set_option maxHeartbeats 4000000 in
theorem c_X2_waysOut (l : Launch) (D : va_G) (cI cJ cZ : ClassId) (ad : Nat → Nat) (σ : CS) (b : Nat)  (hb : b < 24) (hI : PI σ) (hW : WI σ) : CM l D (t3 cI cJ cZ) yX2_waysOut cX2_waysOut 6 (some .int) 1 [.ref (ad 2), .int (nI b)] (wC ad cI cJ cZ σ) (some (.int (nI (woF σ b)))) (wC ad cI cJ cZ σ) := by
  refine CM.of (by decide) (Nat.le_of_ble_eq_true rfl) ?_
  intro p e s m below meth c A ls E hr hlk hP hD0 hA hA2 hS hl
  have hD := wC_D hD0
  have hl : lv_has ls 6 [(0, .ref (ad 2)), (1, .int (nI b))] := hl
  have hL := hI.2.1 b
  refine lv_iconst (v := nI 0) E.1.1 E.1.2.1 dX2_waysOut_0 rfl ?_
  refine lv_istore_n (lv' := [(2, .int (nI 0)), (0, .ref (ad 2)), (1, .int (nI b))]) E.1.1 E.1.2.1 dX2_waysOut_1 rfl hl (by decide) rfl (fun ls hl => ?_)
  refine lv_iconst (v := nI 0) E.1.1 E.1.2.1 dX2_waysOut_2 rfl ?_
  refine lv_istore_n (lv' := [(3, .int (nI 0)), (2, .int (nI 0)), (0, .ref (ad 2)), (1, .int (nI b))]) E.1.1 E.1.2.1 dX2_waysOut_3 rfl hl (by decide) rfl (fun ls hl => ?_)
  have LP4 : ∀ (n : Nat) (k : Nat) (w : Nat) (H : Heap) (locs : List Loc) (ls : Array Slot), (k + n = gcL σ b) → (woF σ b = itN (woS σ b) n k w) → va_P D vwCl (wC ad cI cJ cZ σ) H → va_S A s.heap H locs → lv_has ls 6 [(0, .ref (ad 2)), (1, .int (nI b)), (2, .int (nI w)), (3, .int (nI k))] → W p l e { frames := 1, cells := 0, slots := 0, locals := 40 * 1 } s m [.ref (ad 2), .int (nI b)].toArray below meth c H locs 0 0 (MQ below (Qcm D (wC ad cI cJ cZ σ) s.heap.size (some (.int (nI (woF σ b)))) (wC ad cI cJ cZ σ)) [.ref (ad 2), .int (nI b)].toArray s 0 0 A) (F0 m 4 ls []) := by
    intro n
    induction n with
    | zero =>
      intro k w H locs ls hk hv hP hS hl
      refine lv_iload_n E.1.1 E.1.2.1 dX2_waysOut_4 rfl (lv_at hl 3 rfl) ?_
      refine lv_aload_n E.1.1 E.1.2.1 dX2_waysOut_5 rfl (lv_at hl 0 rfl) ?_
      refine gt_X2_program E fl_X2_18 hP dX2_waysOut_6 ?_
      refine lv_iload_n E.1.1 E.1.2.1 dX2_waysOut_9 rfl (lv_at hl 1 rfl) ?_
      refine CM.callVi (n := 1) E (c_X1_length l D cI cJ cZ ad σ b (by omega)) ml_X2_82 im_X1_length se_X1_length ini_X1 co_X1_length hd_X1_length ⟨Nat.le_of_ble_eq_true rfl, Nat.le_of_ble_eq_true rfl⟩ ⟨Nat.le_refl _, Nat.le_refl _⟩ 1 rfl rfl hP (hD _) hS hA2 rfl hl.1 (Nat.le_of_ble_eq_true rfl) dX2_waysOut_10 rfl (fun H locs hP hS => ?_)
      refine nv_icmp_ge (by omega) (by omega) E dX2_waysOut_13 (tgt := 112) (by decide) (fun h13 => ?_) (fun h13 => ?_)
      · refine lv_iload_n E.1.1 E.1.2.1 dX2_waysOut_112 rfl (lv_at hl 2 rfl) ?_
        exact CM.reti E hr hlk hA hP hS (by rw [hv]; rfl) dX2_waysOut_113
      · exact absurd h13 (by omega)
    | succ n ih4 =>
      intro k w H locs ls hk hv hP hS hl
      refine lv_iload_n E.1.1 E.1.2.1 dX2_waysOut_4 rfl (lv_at hl 3 rfl) ?_
      refine lv_aload_n E.1.1 E.1.2.1 dX2_waysOut_5 rfl (lv_at hl 0 rfl) ?_
      refine gt_X2_program E fl_X2_18 hP dX2_waysOut_6 ?_
      refine lv_iload_n E.1.1 E.1.2.1 dX2_waysOut_9 rfl (lv_at hl 1 rfl) ?_
      refine CM.callVi (n := 1) E (c_X1_length l D cI cJ cZ ad σ b (by omega)) ml_X2_82 im_X1_length se_X1_length ini_X1 co_X1_length hd_X1_length ⟨Nat.le_of_ble_eq_true rfl, Nat.le_of_ble_eq_true rfl⟩ ⟨Nat.le_refl _, Nat.le_refl _⟩ 1 rfl rfl hP (hD _) hS hA2 rfl hl.1 (Nat.le_of_ble_eq_true rfl) dX2_waysOut_10 rfl (fun H locs hP hS => ?_)
      refine nv_icmp_ge (by omega) (by omega) E dX2_waysOut_13 (tgt := 112) (by decide) (fun h13 => ?_) (fun h13 => ?_)
      · exact absurd h13 (by omega)
      · refine lv_iload_n E.1.1 E.1.2.1 dX2_waysOut_16 rfl (lv_at hl 1 rfl) ?_
        refine lv_iload_n E.1.1 E.1.2.1 dX2_waysOut_17 rfl (lv_at hl 3 rfl) ?_
        refine CM.callSi (n := 2) E (c_X1_placeOf l D cI cJ cZ ad σ b k) ml_X2_29 st_X1_placeOf ini_X1 co_X1_placeOf hd_X1_placeOf ⟨Nat.le_of_ble_eq_true rfl, Nat.le_of_ble_eq_true rfl⟩ ⟨Nat.le_refl _, Nat.le_refl _⟩ hP (hD _) hS hA2 rfl hl.1 (Nat.le_of_ble_eq_true rfl) dX2_waysOut_18 rfl (fun H locs hP hS => ?_)
        refine lv_istore (lv' := [(4, .int (nI (b * 10 + k))), (0, .ref (ad 2)), (1, .int (nI b)), (2, .int (nI w)), (3, .int (nI k))]) E.1.1 E.1.2.1 dX2_waysOut_21 hl (by decide) rfl (fun ls hl => ?_)
        have hKk := hI.2.2.1 (b * 10 + k)
        refine lv_aload_n E.1.1 E.1.2.1 dX2_waysOut_23 rfl (lv_at hl 1 rfl) ?_
        refine gt_X2_program E fl_X2_18 hP dX2_waysOut_24 ?_
        refine lv_iload E.1.1 E.1.2.1 dX2_waysOut_27 (lv_at hl 0 rfl) ?_
        refine CM.callVi (n := 1) E (c_X1_kind l D cI cJ cZ ad σ (b * 10 + k) (by omega)) ml_X2_85 im_X1_kind se_X1_kind ini_X1 co_X1_kind hd_X1_kind ⟨Nat.le_of_ble_eq_true rfl, Nat.le_of_ble_eq_true rfl⟩ ⟨Nat.le_refl _, Nat.le_refl _⟩ 1 rfl rfl hP (hD _) hS hA2 rfl hl.1 (Nat.le_of_ble_eq_true rfl) dX2_waysOut_29 rfl (fun H locs hP hS => ?_)
        refine lv_istore (lv' := [(5, .int (nI (gcK σ (b * 10 + k)))), (4, .int (nI (b * 10 + k))), (0, .ref (ad 2)), (1, .int (nI b)), (2, .int (nI w)), (3, .int (nI k))]) E.1.1 E.1.2.1 dX2_waysOut_32 hl (by decide) rfl (fun ls hl => ?_)
        refine lv_iload E.1.1 E.1.2.1 dX2_waysOut_34 (lv_at hl 0 rfl) ?_
        refine lv_bipush (v := nI 6) E.1.1 E.1.2.1 dX2_waysOut_36 rfl ?_
        refine nv_icmp_ne (by omega) (by omega) E dX2_waysOut_38 (tgt := 58) (by decide) (fun h38 => ?_) (fun h38 => ?_)
        · refine lv_iload E.1.1 E.1.2.1 dX2_waysOut_58 (lv_at hl 0 rfl) ?_
          refine lv_bipush (v := nI 7) E.1.1 E.1.2.1 dX2_waysOut_60 rfl ?_
          refine nv_icmp_ne (by omega) (by omega) E dX2_waysOut_62 (tgt := 85) (by decide) (fun h62 => ?_) (fun h62 => ?_)
          · refine lv_iload E.1.1 E.1.2.1 dX2_waysOut_85 (lv_at hl 0 rfl) ?_
            refine lv_bipush (v := nI 11) E.1.1 E.1.2.1 dX2_waysOut_87 rfl ?_
            refine nv_icmp_ne (by omega) (by omega) E dX2_waysOut_89 (tgt := 106) (by decide) (fun h89 => ?_) (fun h89 => ?_)
            · refine lv_iinc (v := nI (k + 1)) (lv' := [(3, .int (nI (k + 1))), (5, .int (nI (gcK σ (b * 10 + k)))), (4, .int (nI (b * 10 + k))), (0, .ref (ad 2)), (1, .int (nI b)), (2, .int (nI w))]) E.1.1 E.1.2.1 dX2_waysOut_106 hl (k := 5) rfl (nI_add k 1) (by decide) rfl (fun ls hl => ?_)
              refine lv_goto (tgt := 4) E.1.1 E.1.2.1 dX2_waysOut_109 (by decide) ?_
              exact ih4 (k + 1) w _ _ _ (by omega) (by rw [hv, itN, woS]; first | (rw [if_pos h38]; done) | (rw [if_neg h38, if_pos h62]; done) | (rw [if_neg h38, if_neg h62, if_pos h89]; done) | rw [if_neg h38, if_neg h62, if_neg h89]) hP hS (lv_sub hl [3, 4, 5, 0] rfl)
            · refine lv_iload_n E.1.1 E.1.2.1 dX2_waysOut_92 rfl (lv_at hl 4 rfl) ?_
              refine lv_iconst (v := nI 1) E.1.1 E.1.2.1 dX2_waysOut_93 rfl ?_
              refine lv_aload_n E.1.1 E.1.2.1 dX2_waysOut_94 rfl (lv_at hl 2 rfl) ?_
              refine gt_X2_program E fl_X2_18 hP dX2_waysOut_95 ?_
              refine lv_iload E.1.1 E.1.2.1 dX2_waysOut_98 (lv_at hl 1 rfl) ?_
              refine CM.callVi (n := 1) E (c_X1_x l D cI cJ cZ ad σ (b * 10 + k) (by omega)) ml_X2_101 im_X1_x se_X1_x ini_X1 co_X1_x hd_X1_x ⟨Nat.le_of_ble_eq_true rfl, Nat.le_of_ble_eq_true rfl⟩ ⟨Nat.le_refl _, Nat.le_refl _⟩ 1 rfl rfl hP (hD _) hS hA2 rfl hl.1 (Nat.le_of_ble_eq_true rfl) dX2_waysOut_100 rfl (fun H locs hP hS => ?_)
              refine nv_ishl (by have := hI.2.2.2.1 (b * 10 + k); omega) E dX2_waysOut_103 ?_
              refine nv_ior E dX2_waysOut_104 ?_
              refine lv_istore_n (lv' := [(2, .int (nI (w ||| (1 <<< (gcX σ (b * 10 + k)))))), (5, .int (nI (gcK σ (b * 10 + k)))), (4, .int (nI (b * 10 + k))), (0, .ref (ad 2)), (1, .int (nI b)), (3, .int (nI k))]) E.1.1 E.1.2.1 dX2_waysOut_105 rfl hl (by decide) rfl (fun ls hl => ?_)
              refine lv_iinc (v := nI (k + 1)) (lv' := [(3, .int (nI (k + 1))), (2, .int (nI (w ||| (1 <<< (gcX σ (b * 10 + k)))))), (5, .int (nI (gcK σ (b * 10 + k)))), (4, .int (nI (b * 10 + k))), (0, .ref (ad 2)), (1, .int (nI b))]) E.1.1 E.1.2.1 dX2_waysOut_106 hl (k := 5) rfl (nI_add k 1) (by decide) rfl (fun ls hl => ?_)
              refine lv_goto (tgt := 4) E.1.1 E.1.2.1 dX2_waysOut_109 (by decide) ?_
              exact ih4 (k + 1) (w ||| (1 <<< (gcX σ (b * 10 + k)))) _ _ _ (by omega) (by rw [hv, itN, woS]; first | (rw [if_pos h38]; done) | (rw [if_neg h38, if_pos h62]; done) | (rw [if_neg h38, if_neg h62, if_pos h89]; done) | rw [if_neg h38, if_neg h62, if_neg h89]) hP hS (lv_sub hl [4, 5, 1, 0] rfl)
          · refine lv_iload_n E.1.1 E.1.2.1 dX2_waysOut_65 rfl (lv_at hl 4 rfl) ?_
            refine lv_iconst (v := nI 1) E.1.1 E.1.2.1 dX2_waysOut_66 rfl ?_
            refine lv_aload_n E.1.1 E.1.2.1 dX2_waysOut_67 rfl (lv_at hl 2 rfl) ?_
            refine gt_X2_program E fl_X2_18 hP dX2_waysOut_68 ?_
            refine lv_iload E.1.1 E.1.2.1 dX2_waysOut_71 (lv_at hl 1 rfl) ?_
            refine CM.callVi (n := 1) E (c_X1_y l D cI cJ cZ ad σ (b * 10 + k) (by omega)) ml_X2_88 im_X1_y se_X1_y ini_X1 co_X1_y hd_X1_y ⟨Nat.le_of_ble_eq_true rfl, Nat.le_of_ble_eq_true rfl⟩ ⟨Nat.le_refl _, Nat.le_refl _⟩ 1 rfl rfl hP (hD _) hS hA2 rfl hl.1 (Nat.le_of_ble_eq_true rfl) dX2_waysOut_73 rfl (fun H locs hP hS => ?_)
            refine tpi (y := nI (yN σ (b * 10 + k))) ((WI_y hW (by omega)).1) ?_
            refine nv_ishl (by have := (WI_y hW (p := b * 10 + k) (by omega)).2; omega) E dX2_waysOut_76 ?_
            refine lv_bipush (v := nI 32) E.1.1 E.1.2.1 dX2_waysOut_77 rfl ?_
            refine nv_ior E dX2_waysOut_79 ?_
            refine nv_ior E dX2_waysOut_80 ?_
            refine lv_istore_n (lv' := [(2, .int (nI (w ||| ((1 <<< (yN σ (b * 10 + k))) ||| 32)))), (5, .int (nI (gcK σ (b * 10 + k)))), (4, .int (nI (b * 10 + k))), (0, .ref (ad 2)), (1, .int (nI b)), (3, .int (nI k))]) E.1.1 E.1.2.1 dX2_waysOut_81 rfl hl (by decide) rfl (fun ls hl => ?_)
            refine lv_goto (tgt := 106) E.1.1 E.1.2.1 dX2_waysOut_82 (by decide) ?_
            refine lv_iinc (v := nI (k + 1)) (lv' := [(3, .int (nI (k + 1))), (2, .int (nI (w ||| ((1 <<< (yN σ (b * 10 + k))) ||| 32)))), (5, .int (nI (gcK σ (b * 10 + k)))), (4, .int (nI (b * 10 + k))), (0, .ref (ad 2)), (1, .int (nI b))]) E.1.1 E.1.2.1 dX2_waysOut_106 hl (k := 5) rfl (nI_add k 1) (by decide) rfl (fun ls hl => ?_)
            refine lv_goto (tgt := 4) E.1.1 E.1.2.1 dX2_waysOut_109 (by decide) ?_
            exact ih4 (k + 1) (w ||| ((1 <<< (yN σ (b * 10 + k))) ||| 32)) _ _ _ (by omega) (by rw [hv, itN, woS]; first | (rw [if_pos h38]; done) | (rw [if_neg h38, if_pos h62]; done) | (rw [if_neg h38, if_neg h62, if_pos h89]; done) | rw [if_neg h38, if_neg h62, if_neg h89]) hP hS (lv_sub hl [4, 5, 1, 0] rfl)
        · refine lv_iload_n E.1.1 E.1.2.1 dX2_waysOut_41 rfl (lv_at hl 4 rfl) ?_
          refine lv_iconst (v := nI 1) E.1.1 E.1.2.1 dX2_waysOut_42 rfl ?_
          refine lv_aload_n E.1.1 E.1.2.1 dX2_waysOut_43 rfl (lv_at hl 2 rfl) ?_
          refine gt_X2_program E fl_X2_18 hP dX2_waysOut_44 ?_
          refine lv_iload E.1.1 E.1.2.1 dX2_waysOut_47 (lv_at hl 1 rfl) ?_
          refine CM.callVi (n := 1) E (c_X1_y l D cI cJ cZ ad σ (b * 10 + k) (by omega)) ml_X2_88 im_X1_y se_X1_y ini_X1 co_X1_y hd_X1_y ⟨Nat.le_of_ble_eq_true rfl, Nat.le_of_ble_eq_true rfl⟩ ⟨Nat.le_refl _, Nat.le_refl _⟩ 1 rfl rfl hP (hD _) hS hA2 rfl hl.1 (Nat.le_of_ble_eq_true rfl) dX2_waysOut_49 rfl (fun H locs hP hS => ?_)
          refine tpi (y := nI (yN σ (b * 10 + k))) ((WI_y hW (by omega)).1) ?_
          refine nv_ishl (by have := (WI_y hW (p := b * 10 + k) (by omega)).2; omega) E dX2_waysOut_52 ?_
          refine nv_ior E dX2_waysOut_53 ?_
          refine lv_istore_n (lv' := [(2, .int (nI (w ||| (1 <<< (yN σ (b * 10 + k)))))), (5, .int (nI (gcK σ (b * 10 + k)))), (4, .int (nI (b * 10 + k))), (0, .ref (ad 2)), (1, .int (nI b)), (3, .int (nI k))]) E.1.1 E.1.2.1 dX2_waysOut_54 rfl hl (by decide) rfl (fun ls hl => ?_)
          refine lv_goto (tgt := 106) E.1.1 E.1.2.1 dX2_waysOut_55 (by decide) ?_
          refine lv_iinc (v := nI (k + 1)) (lv' := [(3, .int (nI (k + 1))), (2, .int (nI (w ||| (1 <<< (yN σ (b * 10 + k)))))), (5, .int (nI (gcK σ (b * 10 + k)))), (4, .int (nI (b * 10 + k))), (0, .ref (ad 2)), (1, .int (nI b))]) E.1.1 E.1.2.1 dX2_waysOut_106 hl (k := 5) rfl (nI_add k 1) (by decide) rfl (fun ls hl => ?_)
          refine lv_goto (tgt := 4) E.1.1 E.1.2.1 dX2_waysOut_109 (by decide) ?_
          exact ih4 (k + 1) (w ||| (1 <<< (yN σ (b * 10 + k)))) _ _ _ (by omega) (by rw [hv, itN, woS]; first | (rw [if_pos h38]; done) | (rw [if_neg h38, if_pos h62]; done) | (rw [if_neg h38, if_neg h62, if_pos h89]; done) | rw [if_neg h38, if_neg h62, if_neg h89]) hP hS (lv_sub hl [4, 5, 1, 0] rfl)
  exact LP4 (gcL σ b) 0 0 _ _ _ (by omega) rfl hP hS (lv_sub hl [2, 3, 1, 0] rfl)
set_option maxRecDepth 100000 in
set_option maxHeartbeats 4000000 in
theorem c_X2_holders (l : Launch) (D : va_G) (cI cJ cZ : ClassId) (ad : Nat → Nat) (σ : CS) (b : Nat) (r : Nat)  (hb : b < 24) (hr0 : r < 6) (hI : PI σ) (hW : WI σ) : CM l D (t3 cI cJ cZ) yX2_holders cX2_holders 7 (some .int) 1 [.ref (ad 2), .int (nI b), .int (nI r)] (wC ad cI cJ cZ σ) (some (.int (nI (hoF σ b r)))) (wC ad cI cJ cZ σ) := by
  refine CM.of (by decide) (Nat.le_of_ble_eq_true rfl) ?_
  intro p e s m below meth c A ls E hr hlk hP hD0 hA hA2 hS hl
  have hD := wC_D hD0
  have hl : lv_has ls 7 [(0, .ref (ad 2)), (1, .int (nI b)), (2, .int (nI r))] := hl
  have hL := hI.2.1 b
  refine lv_iconst (v := nI 1) E.1.1 E.1.2.1 dX2_holders_0 rfl ?_
  refine lv_iload_n E.1.1 E.1.2.1 dX2_holders_1 rfl (lv_at hl 2 rfl) ?_
  refine nv_ishl (by omega) E dX2_holders_2 ?_
  refine lv_istore_n (lv' := [(3, .int (nI (1 <<< r))), (0, .ref (ad 2)), (1, .int (nI b)), (2, .int (nI r))]) E.1.1 E.1.2.1 dX2_holders_3 rfl hl (by decide) rfl (fun ls hl => ?_)
  refine lv_iconst (v := nI 1) E.1.1 E.1.2.1 dX2_holders_4 rfl ?_
  refine lv_istore (lv' := [(4, .int (nI 1)), (3, .int (nI (1 <<< r))), (0, .ref (ad 2)), (1, .int (nI b)), (2, .int (nI r))]) E.1.1 E.1.2.1 dX2_holders_5 hl (by decide) rfl (fun ls hl => ?_)
  have LP7 : ∀ (n : Nat) (t : Nat) (w : Nat) (H : Heap) (locs : List Loc) (ls : Array Slot), (t + n = 6) → (w < 64) → (hoF σ b r = itN (hoR σ b) n t w) → va_P D vwCl (wC ad cI cJ cZ σ) H → va_S A s.heap H locs → lv_has ls 7 [(0, .ref (ad 2)), (1, .int (nI b)), (2, .int (nI r)), (3, .int (nI w)), (4, .int (nI t))] → W p l e { frames := 1, cells := 0, slots := 0, locals := 40 * 1 } s m [.ref (ad 2), .int (nI b), .int (nI r)].toArray below meth c H locs 0 0 (MQ below (Qcm D (wC ad cI cJ cZ σ) s.heap.size (some (.int (nI (hoF σ b r)))) (wC ad cI cJ cZ σ)) [.ref (ad 2), .int (nI b), .int (nI r)].toArray s 0 0 A) (F0 m 7 ls []) := by
    intro n
    induction n with
    | zero =>
      intro t w H locs ls hk hw hv hP hS hl
      refine lv_iload E.1.1 E.1.2.1 dX2_holders_7 (lv_at hl 4 rfl) ?_
      refine lv_bipush (v := nI 6) E.1.1 E.1.2.1 dX2_holders_9 rfl ?_
      refine nv_icmp_ge (by omega) (by omega) E dX2_holders_11 (tgt := 93) (by decide) (fun h11 => ?_) (fun h11 => ?_)
      · refine lv_iload_n E.1.1 E.1.2.1 dX2_holders_93 rfl (lv_at hl 3 rfl) ?_
        exact CM.reti E hr hlk hA hP hS (by rw [hv]; rfl) dX2_holders_94
      · exact absurd h11 (by omega)
    | succ n ih7 =>
      intro t w H locs ls hk hw hv hP hS hl
      refine lv_iload E.1.1 E.1.2.1 dX2_holders_7 (lv_at hl 4 rfl) ?_
      refine lv_bipush (v := nI 6) E.1.1 E.1.2.1 dX2_holders_9 rfl ?_
      refine nv_icmp_ge (by omega) (by omega) E dX2_holders_11 (tgt := 93) (by decide) (fun h11 => ?_) (fun h11 => ?_)
      · exact absurd h11 (by omega)
      · refine lv_iconst (v := nI 0) E.1.1 E.1.2.1 dX2_holders_14 rfl ?_
        refine lv_istore (lv' := [(5, .int (nI 0)), (0, .ref (ad 2)), (1, .int (nI b)), (2, .int (nI r)), (3, .int (nI w)), (4, .int (nI t))]) E.1.1 E.1.2.1 dX2_holders_15 hl (by decide) rfl (fun ls hl => ?_)
        have LP17 : ∀ (n2 : Nat) (k : Nat) (w2 : Nat) (H : Heap) (locs : List Loc) (ls : Array Slot), (k + n2 = gcL σ b) → (w2 < 64) → (itN (hoS σ b) (gcL σ b) 0 w = itN (hoS σ b) n2 k w2) → va_P D vwCl (wC ad cI cJ cZ σ) H → va_S A s.heap H locs → lv_has ls 7 [(0, .ref (ad 2)), (1, .int (nI b)), (2, .int (nI r)), (3, .int (nI w2)), (4, .int (nI t)), (5, .int (nI k))] → W p l e { frames := 1, cells := 0, slots := 0, locals := 40 * 1 } s m [.ref (ad 2), .int (nI b), .int (nI r)].toArray below meth c H locs 0 0 (MQ below (Qcm D (wC ad cI cJ cZ σ) s.heap.size (some (.int (nI (hoF σ b r)))) (wC ad cI cJ cZ σ)) [.ref (ad 2), .int (nI b), .int (nI r)].toArray s 0 0 A) (F0 m 17 ls []) := by
          intro n2
          induction n2 with
          | zero =>
            intro k w2 H locs ls hk2 hw2 hv2 hP hS hl
            refine lv_iload E.1.1 E.1.2.1 dX2_holders_17 (lv_at hl 5 rfl) ?_
            refine lv_aload_n E.1.1 E.1.2.1 dX2_holders_19 rfl (lv_at hl 0 rfl) ?_
            refine gt_X2_program E fl_X2_18 hP dX2_holders_20 ?_
            refine lv_iload_n E.1.1 E.1.2.1 dX2_holders_23 rfl (lv_at hl 1 rfl) ?_
            refine CM.callVi (n := 1) E (c_X1_length l D cI cJ cZ ad σ b (by omega)) ml_X2_82 im_X1_length se_X1_length ini_X1 co_X1_length hd_X1_length ⟨Nat.le_of_ble_eq_true rfl, Nat.le_of_ble_eq_true rfl⟩ ⟨Nat.le_refl _, Nat.le_refl _⟩ 1 rfl rfl hP (hD _) hS hA2 rfl hl.1 (Nat.le_of_ble_eq_true rfl) dX2_holders_24 rfl (fun H locs hP hS => ?_)
            refine nv_icmp_ge (by omega) (by omega) E dX2_holders_27 (tgt := 87) (by decide) (fun h27 => ?_) (fun h27 => ?_)
            · refine lv_iinc (v := nI (t + 1)) (lv' := [(4, .int (nI (t + 1))), (0, .ref (ad 2)), (1, .int (nI b)), (2, .int (nI r)), (3, .int (nI w2)), (5, .int (nI k))]) E.1.1 E.1.2.1 dX2_holders_87 hl (k := 4) rfl (nI_add t 1) (by decide) rfl (fun ls hl => ?_)
              refine lv_goto (tgt := 7) E.1.1 E.1.2.1 dX2_holders_90 (by decide) ?_
              exact ih7 (t + 1) w2 _ _ _ (by omega) hw2 (by rw [hv, itN, hoR, hv2]; rfl) hP hS (lv_sub hl [1, 2, 3, 4, 0] rfl)
            · exact absurd h27 (by omega)
          | succ n2 ih17 =>
            intro k w2 H locs ls hk2 hw2 hv2 hP hS hl
            refine lv_iload E.1.1 E.1.2.1 dX2_holders_17 (lv_at hl 5 rfl) ?_
            refine lv_aload_n E.1.1 E.1.2.1 dX2_holders_19 rfl (lv_at hl 0 rfl) ?_
            refine gt_X2_program E fl_X2_18 hP dX2_holders_20 ?_
            refine lv_iload_n E.1.1 E.1.2.1 dX2_holders_23 rfl (lv_at hl 1 rfl) ?_
            refine CM.callVi (n := 1) E (c_X1_length l D cI cJ cZ ad σ b (by omega)) ml_X2_82 im_X1_length se_X1_length ini_X1 co_X1_length hd_X1_length ⟨Nat.le_of_ble_eq_true rfl, Nat.le_of_ble_eq_true rfl⟩ ⟨Nat.le_refl _, Nat.le_refl _⟩ 1 rfl rfl hP (hD _) hS hA2 rfl hl.1 (Nat.le_of_ble_eq_true rfl) dX2_holders_24 rfl (fun H locs hP hS => ?_)
            refine nv_icmp_ge (by omega) (by omega) E dX2_holders_27 (tgt := 87) (by decide) (fun h27 => ?_) (fun h27 => ?_)
            · exact absurd h27 (by omega)
            · refine lv_iload_n E.1.1 E.1.2.1 dX2_holders_30 rfl (lv_at hl 1 rfl) ?_
              refine lv_iload E.1.1 E.1.2.1 dX2_holders_31 (lv_at hl 5 rfl) ?_
              refine CM.callSi (n := 2) E (c_X1_placeOf l D cI cJ cZ ad σ b k) ml_X2_29 st_X1_placeOf ini_X1 co_X1_placeOf hd_X1_placeOf ⟨Nat.le_of_ble_eq_true rfl, Nat.le_of_ble_eq_true rfl⟩ ⟨Nat.le_refl _, Nat.le_refl _⟩ hP (hD _) hS hA2 rfl hl.1 (Nat.le_of_ble_eq_true rfl) dX2_holders_33 rfl (fun H locs hP hS => ?_)
              refine lv_istore (lv' := [(6, .int (nI (b * 10 + k))), (0, .ref (ad 2)), (1, .int (nI b)), (2, .int (nI r)), (3, .int (nI w2)), (4, .int (nI t)), (5, .int (nI k))]) E.1.1 E.1.2.1 dX2_holders_36 hl (by decide) rfl (fun ls hl => ?_)
              have hKk := hI.2.2.1 (b * 10 + k)
              refine lv_aload_n E.1.1 E.1.2.1 dX2_holders_38 rfl (lv_at hl 1 rfl) ?_
              refine gt_X2_program E fl_X2_18 hP dX2_holders_39 ?_
              refine lv_iload E.1.1 E.1.2.1 dX2_holders_42 (lv_at hl 0 rfl) ?_
              refine CM.callVi (n := 1) E (c_X1_kind l D cI cJ cZ ad σ (b * 10 + k) (by omega)) ml_X2_85 im_X1_kind se_X1_kind ini_X1 co_X1_kind hd_X1_kind ⟨Nat.le_of_ble_eq_true rfl, Nat.le_of_ble_eq_true rfl⟩ ⟨Nat.le_refl _, Nat.le_refl _⟩ 1 rfl rfl hP (hD _) hS hA2 rfl hl.1 (Nat.le_of_ble_eq_true rfl) dX2_holders_44 rfl (fun H locs hP hS => ?_)
              refine lv_iconst (v := nI 1) E.1.1 E.1.2.1 dX2_holders_47 rfl ?_
              refine nv_icmp_ne (by omega) (by omega) E dX2_holders_48 (tgt := 81) (by decide) (fun h48 => ?_) (fun h48 => ?_)
              · refine lv_iinc (v := nI (k + 1)) (lv' := [(5, .int (nI (k + 1))), (6, .int (nI (b * 10 + k))), (0, .ref (ad 2)), (1, .int (nI b)), (2, .int (nI r)), (3, .int (nI w2)), (4, .int (nI t))]) E.1.1 E.1.2.1 dX2_holders_81 hl (k := 6) rfl (nI_add k 1) (by decide) rfl (fun ls hl => ?_)
                refine lv_goto (tgt := 17) E.1.1 E.1.2.1 dX2_holders_84 (by decide) ?_
                exact ih17 (k + 1) w2 _ _ _ (by omega) (hw2) (by rw [hv2, itN, hoS]; first | (rw [if_pos h48, if_pos h64]; done) | (rw [if_pos h48, if_neg (by rw [h64]; decide)]; done) | rw [if_neg h48]) hP hS (lv_sub hl [2, 3, 4, 5, 6, 0] rfl)
              · refine lv_iload_n E.1.1 E.1.2.1 dX2_holders_51 rfl (lv_at hl 4 rfl) ?_
                refine lv_aload_n E.1.1 E.1.2.1 dX2_holders_52 rfl (lv_at hl 1 rfl) ?_
                refine gt_X2_program E fl_X2_18 hP dX2_holders_53 ?_
                refine lv_iload E.1.1 E.1.2.1 dX2_holders_56 (lv_at hl 0 rfl) ?_
                refine CM.callVi (n := 1) E (c_X1_y l D cI cJ cZ ad σ (b * 10 + k) (by omega)) ml_X2_88 im_X1_y se_X1_y ini_X1 co_X1_y hd_X1_y ⟨Nat.le_of_ble_eq_true rfl, Nat.le_of_ble_eq_true rfl⟩ ⟨Nat.le_refl _, Nat.le_refl _⟩ 1 rfl rfl hP (hD _) hS hA2 rfl hl.1 (Nat.le_of_ble_eq_true rfl) dX2_holders_58 rfl (fun H locs hP hS => ?_)
                refine tpi (y := nI (yN σ (b * 10 + k))) ((WI_y hW (by omega)).1) ?_
                refine CM.callSi (n := 2) E (c_X2_isIn l D cI cJ cZ ad σ w2 (yN σ (b * 10 + k)) (by omega) (by have := (WI_y hW (p := b * 10 + k) (by omega)).2; omega)) ml_X2_51 st_X2_isIn ini_X2 co_X2_isIn hd_X2_isIn ⟨Nat.le_of_ble_eq_true rfl, Nat.le_of_ble_eq_true rfl⟩ ⟨Nat.le_refl _, Nat.le_refl _⟩ hP (hD _) hS hA2 rfl hl.1 (Nat.le_of_ble_eq_true rfl) dX2_holders_61 rfl (fun H locs hP hS => ?_)
                refine bv_if_eq (x := w2.testBit (yN σ (b * 10 + k))) E dX2_holders_64 (tgt := 81) (by decide) (fun h64 => ?_) (fun h64 => ?_)
                · refine lv_iinc (v := nI (k + 1)) (lv' := [(5, .int (nI (k + 1))), (6, .int (nI (b * 10 + k))), (0, .ref (ad 2)), (1, .int (nI b)), (2, .int (nI r)), (3, .int (nI w2)), (4, .int (nI t))]) E.1.1 E.1.2.1 dX2_holders_81 hl (k := 6) rfl (nI_add k 1) (by decide) rfl (fun ls hl => ?_)
                  refine lv_goto (tgt := 17) E.1.1 E.1.2.1 dX2_holders_84 (by decide) ?_
                  exact ih17 (k + 1) w2 _ _ _ (by omega) (hw2) (by rw [hv2, itN, hoS]; first | (rw [if_pos h48, if_pos h64]; done) | (rw [if_pos h48, if_neg (by rw [h64]; decide)]; done) | rw [if_neg h48]) hP hS (lv_sub hl [2, 3, 4, 5, 6, 0] rfl)
                · refine lv_iload_n E.1.1 E.1.2.1 dX2_holders_67 rfl (lv_at hl 4 rfl) ?_
                  refine lv_iconst (v := nI 1) E.1.1 E.1.2.1 dX2_holders_68 rfl ?_
                  refine lv_aload_n E.1.1 E.1.2.1 dX2_holders_69 rfl (lv_at hl 1 rfl) ?_
                  refine gt_X2_program E fl_X2_18 hP dX2_holders_70 ?_
                  refine lv_iload E.1.1 E.1.2.1 dX2_holders_73 (lv_at hl 0 rfl) ?_
                  refine CM.callVi (n := 1) E (c_X1_x l D cI cJ cZ ad σ (b * 10 + k) (by omega)) ml_X2_101 im_X1_x se_X1_x ini_X1 co_X1_x hd_X1_x ⟨Nat.le_of_ble_eq_true rfl, Nat.le_of_ble_eq_true rfl⟩ ⟨Nat.le_refl _, Nat.le_refl _⟩ 1 rfl rfl hP (hD _) hS hA2 rfl hl.1 (Nat.le_of_ble_eq_true rfl) dX2_holders_75 rfl (fun H locs hP hS => ?_)
                  refine nv_ishl (by have := hI.2.2.2.1 (b * 10 + k); omega) E dX2_holders_78 ?_
                  refine nv_ior E dX2_holders_79 ?_
                  refine lv_istore_n (lv' := [(3, .int (nI (w2 ||| (1 <<< (gcX σ (b * 10 + k)))))), (6, .int (nI (b * 10 + k))), (0, .ref (ad 2)), (1, .int (nI b)), (2, .int (nI r)), (4, .int (nI t)), (5, .int (nI k))]) E.1.1 E.1.2.1 dX2_holders_80 rfl hl (by decide) rfl (fun ls hl => ?_)
                  refine lv_iinc (v := nI (k + 1)) (lv' := [(5, .int (nI (k + 1))), (3, .int (nI (w2 ||| (1 <<< (gcX σ (b * 10 + k)))))), (6, .int (nI (b * 10 + k))), (0, .ref (ad 2)), (1, .int (nI b)), (2, .int (nI r)), (4, .int (nI t))]) E.1.1 E.1.2.1 dX2_holders_81 hl (k := 6) rfl (nI_add k 1) (by decide) rfl (fun ls hl => ?_)
                  refine lv_goto (tgt := 17) E.1.1 E.1.2.1 dX2_holders_84 (by decide) ?_
                  exact ih17 (k + 1) (w2 ||| (1 <<< (gcX σ (b * 10 + k)))) _ _ _ (by omega) (or_lt6 hw2 (hI.2.2.2.1 _)) (by rw [hv2, itN, hoS]; first | (rw [if_pos h48, if_pos h64]; done) | (rw [if_pos h48, if_neg (by rw [h64]; decide)]; done) | rw [if_neg h48]) hP hS (lv_sub hl [3, 4, 5, 1, 6, 0] rfl)
        exact LP17 (gcL σ b) 0 w _ _ _ (by omega) hw rfl hP hS (lv_sub hl [1, 2, 3, 4, 5, 0] rfl)
  exact LP7 5 1 (1 <<< r) _ _ _ (by omega) (shl_lt hr0) rfl hP hS (lv_sub hl [2, 3, 4, 1, 0] rfl)
set_option maxRecDepth 100000 in
set_option maxHeartbeats 4000000 in
theorem c_X2_judge (l : Launch) (D : va_G) (cI cJ cZ : ClassId) (ad : Nat → Nat) (σ : CS) (b : Nat)  (hb : b < 24) (hK : Kp σ σ) : CM l D (t3 cI cJ cZ) yX2_judge cX2_judge 6 none 2 [.ref (ad 2), .int (nI b)] (wC ad cI cJ cZ σ) (none) (wC ad cI cJ cZ (jdF b σ)) := by
  refine CM.of (by decide) (Nat.le_of_ble_eq_true rfl) ?_
  intro p e s m below meth c A ls E hr hlk hP hD0 hA hA2 hS hl
  have hD := wC_D hD0
  have hl : lv_has ls 6 [(0, .ref (ad 2)), (1, .int (nI b))] := hl
  refine lv_aload_n E.1.1 E.1.2.1 dX2_judge_0 rfl (lv_at hl 0 rfl) ?_
  refine lv_iload_n E.1.1 E.1.2.1 dX2_judge_1 rfl (lv_at hl 1 rfl) ?_
  refine CM.callVi (n := 1) E (c_X2_waysOut l D cI cJ cZ ad σ b hb hK.1 hK.2.1) ml_X2_98 im_X2_waysOut se_X2_waysOut ini_X2 co_X2_waysOut hd_X2_waysOut ⟨Nat.le_of_ble_eq_true rfl, Nat.le_of_ble_eq_true rfl⟩ ⟨Nat.le_refl _, Nat.le_refl _⟩ 2 rfl rfl hP (hD _) hS hA2 rfl hl.1 (Nat.le_of_ble_eq_true rfl) dX2_judge_2 rfl (fun H locs hP hS => ?_)
  refine lv_istore_n (lv' := [(2, .int (nI (woF σ b))), (0, .ref (ad 2)), (1, .int (nI b))]) E.1.1 E.1.2.1 dX2_judge_5 rfl hl (by decide) rfl (fun ls hl => ?_)
  refine lv_iconst (v := nI 0) E.1.1 E.1.2.1 dX2_judge_6 rfl ?_
  refine lv_istore_n (lv' := [(3, .int (nI 0)), (2, .int (nI (woF σ b))), (0, .ref (ad 2)), (1, .int (nI b))]) E.1.1 E.1.2.1 dX2_judge_7 rfl hl (by decide) rfl (fun ls hl => ?_)
  have LP8 : ∀ (n : Nat) (k : Nat) (τ : CS) (H : Heap) (locs : List Loc) (ls : Array Slot), (Kp σ τ) → (k + n = gcL τ b) → (jdF b σ = itN (jdS b (woF σ b)) n k τ) → va_P D vwCl (wC ad cI cJ cZ τ) H → va_S A s.heap H locs → lv_has ls 6 [(0, .ref (ad 2)), (1, .int (nI b)), (2, .int (nI (woF σ b))), (3, .int (nI k))] → W p l e { frames := 2, cells := 0, slots := 0, locals := 40 * 2 } s m [.ref (ad 2), .int (nI b)].toArray below meth c H locs 0 0 (MQ below (Qcm D (wC ad cI cJ cZ σ) s.heap.size (none) (wC ad cI cJ cZ (jdF b σ))) [.ref (ad 2), .int (nI b)].toArray s 0 0 A) (F0 m 8 ls []) := by
    intro n
    induction n with
    | zero =>
      intro k τ H locs ls hT hk hv hP hS hl
      have hL := hT.1.2.1 b
      refine lv_iload_n E.1.1 E.1.2.1 dX2_judge_8 rfl (lv_at hl 3 rfl) ?_
      refine lv_aload_n E.1.1 E.1.2.1 dX2_judge_9 rfl (lv_at hl 0 rfl) ?_
      refine gt_X2_program E fl_X2_18 hP dX2_judge_10 ?_
      refine lv_iload_n E.1.1 E.1.2.1 dX2_judge_13 rfl (lv_at hl 1 rfl) ?_
      refine CM.callVi (n := 1) E (c_X1_length l D cI cJ cZ ad τ b (by omega)) ml_X2_82 im_X1_length se_X1_length ini_X1 co_X1_length hd_X1_length ⟨Nat.le_of_ble_eq_true rfl, Nat.le_of_ble_eq_true rfl⟩ ⟨Nat.le_refl _, Nat.le_refl _⟩ 1 rfl rfl hP (hD _) hS hA2 rfl hl.1 (Nat.le_of_ble_eq_true rfl) dX2_judge_14 rfl (fun H locs hP hS => ?_)
      refine nv_icmp_ge (by omega) (by omega) E dX2_judge_17 (tgt := 128) (by decide) (fun h17 => ?_) (fun h17 => ?_)
      · exact CM.retv E hr hlk hA (by rw [hv]; exact hP) hS rfl dX2_judge_128
      · exact absurd h17 (by omega)
    | succ n ih8 =>
      intro k τ H locs ls hT hk hv hP hS hl
      have hL := hT.1.2.1 b
      refine lv_iload_n E.1.1 E.1.2.1 dX2_judge_8 rfl (lv_at hl 3 rfl) ?_
      refine lv_aload_n E.1.1 E.1.2.1 dX2_judge_9 rfl (lv_at hl 0 rfl) ?_
      refine gt_X2_program E fl_X2_18 hP dX2_judge_10 ?_
      refine lv_iload_n E.1.1 E.1.2.1 dX2_judge_13 rfl (lv_at hl 1 rfl) ?_
      refine CM.callVi (n := 1) E (c_X1_length l D cI cJ cZ ad τ b (by omega)) ml_X2_82 im_X1_length se_X1_length ini_X1 co_X1_length hd_X1_length ⟨Nat.le_of_ble_eq_true rfl, Nat.le_of_ble_eq_true rfl⟩ ⟨Nat.le_refl _, Nat.le_refl _⟩ 1 rfl rfl hP (hD _) hS hA2 rfl hl.1 (Nat.le_of_ble_eq_true rfl) dX2_judge_14 rfl (fun H locs hP hS => ?_)
      refine nv_icmp_ge (by omega) (by omega) E dX2_judge_17 (tgt := 128) (by decide) (fun h17 => ?_) (fun h17 => ?_)
      · exact absurd h17 (by omega)
      · refine lv_iload_n E.1.1 E.1.2.1 dX2_judge_20 rfl (lv_at hl 1 rfl) ?_
        refine lv_iload_n E.1.1 E.1.2.1 dX2_judge_21 rfl (lv_at hl 3 rfl) ?_
        refine CM.callSi (n := 2) E (c_X1_placeOf l D cI cJ cZ ad τ b k) ml_X2_29 st_X1_placeOf ini_X1 co_X1_placeOf hd_X1_placeOf ⟨Nat.le_of_ble_eq_true rfl, Nat.le_of_ble_eq_true rfl⟩ ⟨Nat.le_refl _, Nat.le_refl _⟩ hP (hD _) hS hA2 rfl hl.1 (Nat.le_of_ble_eq_true rfl) dX2_judge_22 rfl (fun H locs hP hS => ?_)
        refine lv_istore (lv' := [(4, .int (nI (b * 10 + k))), (0, .ref (ad 2)), (1, .int (nI b)), (2, .int (nI (woF σ b))), (3, .int (nI k))]) E.1.1 E.1.2.1 dX2_judge_25 hl (by decide) rfl (fun ls hl => ?_)
        have hKk := hT.1.2.2.1 (b * 10 + k)
        refine lv_aload_n E.1.1 E.1.2.1 dX2_judge_27 rfl (lv_at hl 1 rfl) ?_
        refine gt_X2_program E fl_X2_18 hP dX2_judge_28 ?_
        refine lv_iload E.1.1 E.1.2.1 dX2_judge_31 (lv_at hl 0 rfl) ?_
        refine CM.callVi (n := 1) E (c_X1_kind l D cI cJ cZ ad τ (b * 10 + k) (by omega)) ml_X2_85 im_X1_kind se_X1_kind ini_X1 co_X1_kind hd_X1_kind ⟨Nat.le_of_ble_eq_true rfl, Nat.le_of_ble_eq_true rfl⟩ ⟨Nat.le_refl _, Nat.le_refl _⟩ 1 rfl rfl hP (hD _) hS hA2 rfl hl.1 (Nat.le_of_ble_eq_true rfl) dX2_judge_33 rfl (fun H locs hP hS => ?_)
        refine lv_bipush (v := nI 7) E.1.1 E.1.2.1 dX2_judge_36 rfl ?_
        refine nv_icmp_ne (by omega) (by omega) E dX2_judge_38 (tgt := 65) (by decide) (fun h38 => ?_) (fun h38 => ?_)
        · refine lv_aload_n E.1.1 E.1.2.1 dX2_judge_65 rfl (lv_at hl 1 rfl) ?_
          refine gt_X2_program E fl_X2_18 hP dX2_judge_66 ?_
          refine lv_iload E.1.1 E.1.2.1 dX2_judge_69 (lv_at hl 0 rfl) ?_
          refine CM.callVi (n := 1) E (c_X1_kind l D cI cJ cZ ad τ (b * 10 + k) (by omega)) ml_X2_85 im_X1_kind se_X1_kind ini_X1 co_X1_kind hd_X1_kind ⟨Nat.le_of_ble_eq_true rfl, Nat.le_of_ble_eq_true rfl⟩ ⟨Nat.le_refl _, Nat.le_refl _⟩ 1 rfl rfl hP (hD _) hS hA2 rfl hl.1 (Nat.le_of_ble_eq_true rfl) dX2_judge_71 rfl (fun H locs hP hS => ?_)
          refine lv_iconst (v := nI 4) E.1.1 E.1.2.1 dX2_judge_74 rfl ?_
          refine nv_icmp_ne (by omega) (by omega) E dX2_judge_75 (tgt := 122) (by decide) (fun h75 => ?_) (fun h75 => ?_)
          · refine lv_iinc (v := nI (k + 1)) (lv' := [(3, .int (nI (k + 1))), (4, .int (nI (b * 10 + k))), (0, .ref (ad 2)), (1, .int (nI b)), (2, .int (nI (woF σ b)))]) E.1.1 E.1.2.1 dX2_judge_122 hl (k := 4) rfl (nI_add k 1) (by decide) rfl (fun ls hl => ?_)
            refine lv_goto (tgt := 8) E.1.1 E.1.2.1 dX2_judge_125 (by decide) ?_
            exact ih8 (k + 1) τ _ _ _ hT (by show _ = gcL τ b; omega) (by rw [hv, itN, jdS]; first | (rw [if_pos h38]; done) | (rw [if_neg h38, if_pos h75]; first | (rw [if_pos h94]; done) | rw [if_neg (by omega)]) | rw [if_neg h38, if_neg h75]) hP hS (lv_sub hl [2, 3, 4, 0] rfl)
          · refine lv_aload_n E.1.1 E.1.2.1 dX2_judge_78 rfl (lv_at hl 1 rfl) ?_
            refine lv_iload_n E.1.1 E.1.2.1 dX2_judge_79 rfl (lv_at hl 2 rfl) ?_
            refine lv_aload_n E.1.1 E.1.2.1 dX2_judge_80 rfl (lv_at hl 1 rfl) ?_
            refine gt_X2_program E fl_X2_18 hP dX2_judge_81 ?_
            refine lv_iload E.1.1 E.1.2.1 dX2_judge_84 (lv_at hl 0 rfl) ?_
            refine CM.callVi (n := 1) E (c_X1_x l D cI cJ cZ ad τ (b * 10 + k) (by omega)) ml_X2_101 im_X1_x se_X1_x ini_X1 co_X1_x hd_X1_x ⟨Nat.le_of_ble_eq_true rfl, Nat.le_of_ble_eq_true rfl⟩ ⟨Nat.le_refl _, Nat.le_refl _⟩ 1 rfl rfl hP (hD _) hS hA2 rfl hl.1 (Nat.le_of_ble_eq_true rfl) dX2_judge_86 rfl (fun H locs hP hS => ?_)
            refine CM.callVi (n := 2) E (c_X2_holders l D cI cJ cZ ad τ b (gcX τ (b * 10 + k)) hb (hT.1.2.2.2.1 _) hT.1 hT.2.1) ml_X2_104 im_X2_holders se_X2_holders ini_X2 co_X2_holders hd_X2_holders ⟨Nat.le_of_ble_eq_true rfl, Nat.le_of_ble_eq_true rfl⟩ ⟨Nat.le_refl _, Nat.le_refl _⟩ 2 rfl rfl hP (hD _) hS hA2 rfl hl.1 (Nat.le_of_ble_eq_true rfl) dX2_judge_89 rfl (fun H locs hP hS => ?_)
            refine lv_iload_n E.1.1 E.1.2.1 dX2_judge_92 rfl (lv_at hl 3 rfl) ?_
            refine nv_iand E dX2_judge_93 ?_
            refine nv_if_eq (Nat.lt_of_le_of_lt Nat.and_le_left (by have := hoF_lt hT.1 (b := b) (hT.1.2.2.2.1 (b * 10 + k)); omega)) E dX2_judge_94 (tgt := 101) (by decide) (fun h94 => ?_) (fun h94 => ?_)
            · refine lv_iconst (v := nI 0) E.1.1 E.1.2.1 dX2_judge_101 rfl ?_
              refine lv_istore (lv' := [(5, .int (nI 0)), (4, .int (nI (b * 10 + k))), (0, .ref (ad 2)), (1, .int (nI b)), (2, .int (nI (woF σ b))), (3, .int (nI k))]) E.1.1 E.1.2.1 dX2_judge_102 hl (by decide) rfl (fun ls hl => ?_)
              refine lv_aload_n E.1.1 E.1.2.1 dX2_judge_104 rfl (lv_at hl 2 rfl) ?_
              refine gt_X2_verdicts E fl_X2_9 hP dX2_judge_105 ?_
              refine lv_iload E.1.1 E.1.2.1 dX2_judge_108 (lv_at hl 1 rfl) ?_
              refine lv_iload E.1.1 E.1.2.1 dX2_judge_110 (lv_at hl 0 rfl) ?_
              refine nv_if_eq (by omega) E dX2_judge_112 (tgt := 120) (by decide) (fun h112 => ?_) (fun h112 => ?_)
              · refine lv_iconst (v := nI 5) E.1.1 E.1.2.1 dX2_judge_120 rfl ?_
                refine as_CS_V (i := b * 10 + k) (v := 5) E hP hD hS (by omega) dX2_judge_121 (fun H locs hP hS => ?_)
                refine lv_iinc (v := nI (k + 1)) (lv' := [(3, .int (nI (k + 1))), (5, .int (nI 0)), (4, .int (nI (b * 10 + k))), (0, .ref (ad 2)), (1, .int (nI b)), (2, .int (nI (woF σ b)))]) E.1.1 E.1.2.1 dX2_judge_122 hl (k := 5) rfl (nI_add k 1) (by decide) rfl (fun ls hl => ?_)
                refine lv_goto (tgt := 8) E.1.1 E.1.2.1 dX2_judge_125 (by decide) ?_
                exact ih8 (k + 1) (scV τ (va_up (gcV τ) (b * 10 + k) 5)) _ _ _ hT (by show _ = gcL τ b; omega) (by rw [hv, itN, jdS]; first | (rw [if_pos h38]; done) | (rw [if_neg h38, if_pos h75]; first | (rw [if_pos h94]; done) | rw [if_neg (by omega)]) | rw [if_neg h38, if_neg h75]) hP hS (lv_sub hl [3, 4, 5, 0] rfl)
              · exact absurd h112 (by omega)
            · refine lv_iconst (v := nI 1) E.1.1 E.1.2.1 dX2_judge_97 rfl ?_
              refine lv_goto (tgt := 102) E.1.1 E.1.2.1 dX2_judge_98 (by decide) ?_
              refine lv_istore (lv' := [(5, .int (nI 1)), (4, .int (nI (b * 10 + k))), (0, .ref (ad 2)), (1, .int (nI b)), (2, .int (nI (woF σ b))), (3, .int (nI k))]) E.1.1 E.1.2.1 dX2_judge_102 hl (by decide) rfl (fun ls hl => ?_)
              refine lv_aload_n E.1.1 E.1.2.1 dX2_judge_104 rfl (lv_at hl 2 rfl) ?_
              refine gt_X2_verdicts E fl_X2_9 hP dX2_judge_105 ?_
              refine lv_iload E.1.1 E.1.2.1 dX2_judge_108 (lv_at hl 1 rfl) ?_
              refine lv_iload E.1.1 E.1.2.1 dX2_judge_110 (lv_at hl 0 rfl) ?_
              refine nv_if_eq (by omega) E dX2_judge_112 (tgt := 120) (by decide) (fun h112 => ?_) (fun h112 => ?_)
              · exact absurd h112 (by omega)
              · refine lv_bipush (v := nI 6) E.1.1 E.1.2.1 dX2_judge_115 rfl ?_
                refine lv_goto (tgt := 121) E.1.1 E.1.2.1 dX2_judge_117 (by decide) ?_
                refine as_CS_V (i := b * 10 + k) (v := 6) E hP hD hS (by omega) dX2_judge_121 (fun H locs hP hS => ?_)
                refine lv_iinc (v := nI (k + 1)) (lv' := [(3, .int (nI (k + 1))), (5, .int (nI 1)), (4, .int (nI (b * 10 + k))), (0, .ref (ad 2)), (1, .int (nI b)), (2, .int (nI (woF σ b)))]) E.1.1 E.1.2.1 dX2_judge_122 hl (k := 5) rfl (nI_add k 1) (by decide) rfl (fun ls hl => ?_)
                refine lv_goto (tgt := 8) E.1.1 E.1.2.1 dX2_judge_125 (by decide) ?_
                exact ih8 (k + 1) (scV τ (va_up (gcV τ) (b * 10 + k) 6)) _ _ _ hT (by show _ = gcL τ b; omega) (by rw [hv, itN, jdS]; first | (rw [if_pos h38]; done) | (rw [if_neg h38, if_pos h75]; first | (rw [if_pos h94]; done) | rw [if_neg (by omega)]) | rw [if_neg h38, if_neg h75]) hP hS (lv_sub hl [3, 4, 5, 0] rfl)
        · refine lv_aload_n E.1.1 E.1.2.1 dX2_judge_41 rfl (lv_at hl 1 rfl) ?_
          refine gt_X2_verdicts E fl_X2_9 hP dX2_judge_42 ?_
          refine lv_iload E.1.1 E.1.2.1 dX2_judge_45 (lv_at hl 0 rfl) ?_
          refine lv_aload_n E.1.1 E.1.2.1 dX2_judge_47 rfl (lv_at hl 1 rfl) ?_
          refine gt_X2_callVerdicts E fl_X2_15 hP dX2_judge_48 ?_
          refine lv_aload_n E.1.1 E.1.2.1 dX2_judge_51 rfl (lv_at hl 1 rfl) ?_
          refine gt_X2_program E fl_X2_18 hP dX2_judge_52 ?_
          refine lv_iload E.1.1 E.1.2.1 dX2_judge_55 (lv_at hl 0 rfl) ?_
          refine CM.callVi (n := 1) E (c_X1_z l D cI cJ cZ ad τ (b * 10 + k) (by omega)) ml_X2_91 im_X1_z se_X1_z ini_X1 co_X1_z hd_X1_z ⟨Nat.le_of_ble_eq_true rfl, Nat.le_of_ble_eq_true rfl⟩ ⟨Nat.le_refl _, Nat.le_refl _⟩ 1 rfl rfl hP (hD _) hS hA2 rfl hl.1 (Nat.le_of_ble_eq_true rfl) dX2_judge_57 rfl (fun H locs hP hS => ?_)
          refine tpi (y := nI (zN τ (b * 10 + k))) ((WI_z4 hT.2.1 h38).1) ?_
          refine ld_CS_CV (i := zN τ (b * 10 + k)) E hP (by have := (WI_z4 hT.2.1 h38).2; omega) dX2_judge_60 ?_
          refine as_CS_V (i := b * 10 + k) (v := gcCV τ (zN τ (b * 10 + k))) E hP hD hS (by omega) dX2_judge_61 (fun H locs hP hS => ?_)
          refine lv_goto (tgt := 122) E.1.1 E.1.2.1 dX2_judge_62 (by decide) ?_
          refine lv_iinc (v := nI (k + 1)) (lv' := [(3, .int (nI (k + 1))), (4, .int (nI (b * 10 + k))), (0, .ref (ad 2)), (1, .int (nI b)), (2, .int (nI (woF σ b)))]) E.1.1 E.1.2.1 dX2_judge_122 hl (k := 4) rfl (nI_add k 1) (by decide) rfl (fun ls hl => ?_)
          refine lv_goto (tgt := 8) E.1.1 E.1.2.1 dX2_judge_125 (by decide) ?_
          exact ih8 (k + 1) (scV τ (va_up (gcV τ) (b * 10 + k) (gcCV τ (zN τ (b * 10 + k))))) _ _ _ hT (by show _ = gcL τ b; omega) (by rw [hv, itN, jdS]; first | (rw [if_pos h38]; done) | (rw [if_neg h38, if_pos h75]; first | (rw [if_pos h94]; done) | rw [if_neg (by omega)]) | rw [if_neg h38, if_neg h75]) hP hS (lv_sub hl [2, 3, 4, 0] rfl)
  exact LP8 (gcL σ b) 0 σ _ _ _ hK (by omega) rfl hP hS (lv_sub hl [2, 3, 1, 0] rfl)
set_option maxRecDepth 100000 in
set_option maxHeartbeats 4000000 in
theorem c_X2_renew (l : Launch) (D : va_G) (cI cJ cZ : ClassId) (ad : Nat → Nat) (σ : CS)   (hI : PI σ) (hW : WI σ) : CM l D (t3 cI cJ cZ) yX2_renew cX2_renew 2 (some .int) 5 [.ref (ad 2)] (wC ad cI cJ cZ σ) (some (.int (bcF (nI (gcre (rnF σ)))))) (wC ad cI cJ cZ (rnF σ)) := by
  refine CM.of (by decide) (Nat.le_of_ble_eq_true rfl) ?_
  intro p e s m below meth c A ls E hr hlk hP hD0 hA hA2 hS hl
  have hD := wC_D hD0
  have hl : lv_has ls 2 [(0, .ref (ad 2))] := hl
  refine lv_aload_n E.1.1 E.1.2.1 dX2_renew_0 rfl (lv_at hl 0 rfl) ?_
  refine gt_X2_verdicts E fl_X2_9 hP dX2_renew_1 ?_
  refine lv_iconst (v := nI 0) E.1.1 E.1.2.1 dX2_renew_4 rfl ?_
  refine CM.callSv (n := 2) E (c_J7_fill_53178_V l D cI cJ cZ ad σ 0) ml_X2_41 st_J7_fill_53178 ini_J7 co_J7_fill_53178 hd_J7_fill_53178 ⟨Nat.le_of_ble_eq_true rfl, Nat.le_of_ble_eq_true rfl⟩ ⟨Nat.le_refl _, Nat.le_refl _⟩ hP (hD _) hS hA2 rfl hl.1 (Nat.le_of_ble_eq_true rfl) dX2_renew_5 rfl (fun H locs hP hS => ?_)
  refine lv_aload_n E.1.1 E.1.2.1 dX2_renew_8 rfl (lv_at hl 0 rfl) ?_
  refine CM.callVv (n := 0) E (c_X2_findReached l D cI cJ cZ ad (scV σ (fillF (gcV σ) 0 240 0)) hI hW) ml_X2_44 im_X2_findReached se_X2_findReached ini_X2 co_X2_findReached hd_X2_findReached ⟨Nat.le_of_ble_eq_true rfl, Nat.le_of_ble_eq_true rfl⟩ ⟨Nat.le_refl _, Nat.le_refl _⟩ 2 rfl rfl hP (hD _) hS hA2 rfl hl.1 (Nat.le_of_ble_eq_true rfl) dX2_renew_9 rfl (fun H locs hP hS => ?_)
  refine lv_iconst (v := nI 0) E.1.1 E.1.2.1 dX2_renew_12 rfl ?_
  refine lv_istore_n (lv' := [(1, .int (nI 0)), (0, .ref (ad 2))]) E.1.1 E.1.2.1 dX2_renew_13 rfl hl (by decide) rfl (fun ls hl => ?_)
  have LP14 : ∀ (n : Nat) (k : Nat) (τ : CS) (H : Heap) (locs : List Loc) (ls : Array Slot), (Kp σ τ) → (k + n = 4) → (itN cvS 4 0 (frF (scV σ (fillF (gcV σ) 0 240 0))) = itN cvS n k τ) → va_P D vwCl (wC ad cI cJ cZ τ) H → va_S A s.heap H locs → lv_has ls 2 [(0, .ref (ad 2)), (1, .int (nI k))] → W p l e { frames := 5, cells := 0, slots := 0, locals := 40 * 5 } s m [.ref (ad 2)].toArray below meth c H locs 0 0 (MQ below (Qcm D (wC ad cI cJ cZ σ) s.heap.size (some (.int (bcF (nI (gcre (rnF σ)))))) (wC ad cI cJ cZ (rnF σ))) [.ref (ad 2)].toArray s 0 0 A) (F0 m 14 ls []) := by
    intro n
    induction n with
    | zero =>
      intro k τ H locs ls hT hk hv hP hS hl
      refine lv_iload_n E.1.1 E.1.2.1 dX2_renew_14 rfl (lv_at hl 1 rfl) ?_
      refine lv_iconst (v := nI 4) E.1.1 E.1.2.1 dX2_renew_15 rfl ?_
      refine nv_icmp_ge (by omega) (by omega) E dX2_renew_16 (tgt := 36) (by decide) (fun h16 => ?_) (fun h16 => ?_)
      · refine lv_iconst (v := nI 0) E.1.1 E.1.2.1 dX2_renew_36 rfl ?_
        refine lv_istore_n (lv' := [(1, .int (nI 0)), (0, .ref (ad 2))]) E.1.1 E.1.2.1 dX2_renew_37 rfl hl (by decide) rfl (fun ls hl => ?_)
        have LP38 : ∀ (n : Nat) (k : Nat) (τ : CS) (H : Heap) (locs : List Loc) (ls : Array Slot), (Kp σ τ) → (k + n = 24) → (rnF σ = itN jaS n k τ) → va_P D vwCl (wC ad cI cJ cZ τ) H → va_S A s.heap H locs → lv_has ls 2 [(0, .ref (ad 2)), (1, .int (nI k))] → W p l e { frames := 5, cells := 0, slots := 0, locals := 40 * 5 } s m [.ref (ad 2)].toArray below meth c H locs 0 0 (MQ below (Qcm D (wC ad cI cJ cZ σ) s.heap.size (some (.int (bcF (nI (gcre (rnF σ)))))) (wC ad cI cJ cZ (rnF σ))) [.ref (ad 2)].toArray s 0 0 A) (F0 m 38 ls []) := by
          intro n
          induction n with
          | zero =>
            intro k τ H locs ls hT hk hv hP hS hl
            refine lv_iload_n E.1.1 E.1.2.1 dX2_renew_38 rfl (lv_at hl 1 rfl) ?_
            refine lv_bipush (v := nI 24) E.1.1 E.1.2.1 dX2_renew_39 rfl ?_
            refine nv_icmp_ge (by omega) (by omega) E dX2_renew_41 (tgt := 66) (by decide) (fun h41 => ?_) (fun h41 => ?_)
            · refine lv_aload_n E.1.1 E.1.2.1 dX2_renew_66 rfl (lv_at hl 0 rfl) ?_
              refine gt_X2_reached E fl_X2_26 hP dX2_renew_67 ?_
              refine CM.callSi (n := 1) E (c_J6_bitCount_0f7a4 l D cI cJ cZ ad τ (nI (gcre τ))) ml_X2_59 st_J6_bitCount_0f7a4 ini_J6 co_J6_bitCount_0f7a4 hd_J6_bitCount_0f7a4 ⟨Nat.le_of_ble_eq_true rfl, Nat.le_of_ble_eq_true rfl⟩ ⟨Nat.le_refl _, Nat.le_refl _⟩ hP (hD _) hS hA2 rfl hl.1 (Nat.le_of_ble_eq_true rfl) dX2_renew_70 rfl (fun H locs hP hS => ?_)
              exact CM.reti E hr hlk hA (by rw [hv]; exact hP) hS (by rw [hv]; rfl) dX2_renew_73
            · exact absurd h41 (by omega)
          | succ n ih38 =>
            intro k τ H locs ls hT hk hv hP hS hl
            refine lv_iload_n E.1.1 E.1.2.1 dX2_renew_38 rfl (lv_at hl 1 rfl) ?_
            refine lv_bipush (v := nI 24) E.1.1 E.1.2.1 dX2_renew_39 rfl ?_
            refine nv_icmp_ge (by omega) (by omega) E dX2_renew_41 (tgt := 66) (by decide) (fun h41 => ?_) (fun h41 => ?_)
            · exact absurd h41 (by omega)
            · refine lv_aload_n E.1.1 E.1.2.1 dX2_renew_44 rfl (lv_at hl 0 rfl) ?_
              refine gt_X2_reached E fl_X2_26 hP dX2_renew_45 ?_
              refine lv_iload_n E.1.1 E.1.2.1 dX2_renew_48 rfl (lv_at hl 1 rfl) ?_
              refine CM.callSi (n := 2) E (c_X2_isIn l D cI cJ cZ ad τ (gcre τ) k (by have := hT.2.2.1.2.1; omega) (by omega)) ml_X2_51 st_X2_isIn ini_X2 co_X2_isIn hd_X2_isIn ⟨Nat.le_of_ble_eq_true rfl, Nat.le_of_ble_eq_true rfl⟩ ⟨Nat.le_refl _, Nat.le_refl _⟩ hP (hD _) hS hA2 rfl hl.1 (Nat.le_of_ble_eq_true rfl) dX2_renew_49 rfl (fun H locs hP hS => ?_)
              refine bv_if_eq (x := (gcre τ).testBit k) E dX2_renew_52 (tgt := 60) (by decide) (fun h52 => ?_) (fun h52 => ?_)
              · refine lv_iinc (v := nI (k + 1)) (lv' := [(1, .int (nI (k + 1))), (0, .ref (ad 2))]) E.1.1 E.1.2.1 dX2_renew_60 hl (k := 1) rfl (nI_add k 1) (by decide) rfl (fun ls hl => ?_)
                refine lv_goto (tgt := 38) E.1.1 E.1.2.1 dX2_renew_63 (by decide) ?_
                exact ih38 (k + 1) τ _ _ _ (hT) (by omega) (by rw [hv, itN, jaS, if_neg (by rw [h52]; decide)]) hP hS (lv_sub hl [1, 0] rfl)
              · refine lv_aload_n E.1.1 E.1.2.1 dX2_renew_55 rfl (lv_at hl 0 rfl) ?_
                refine lv_iload_n E.1.1 E.1.2.1 dX2_renew_56 rfl (lv_at hl 1 rfl) ?_
                refine CM.callVv (n := 1) E (c_X2_judge l D cI cJ cZ ad τ k (by omega) (Kp_rf hT.1 hT.2.1 hT.2.2.1)) ml_X2_55 im_X2_judge se_X2_judge ini_X2 co_X2_judge hd_X2_judge ⟨Nat.le_of_ble_eq_true rfl, Nat.le_of_ble_eq_true rfl⟩ ⟨Nat.le_refl _, Nat.le_refl _⟩ 2 rfl rfl hP (hD _) hS hA2 rfl hl.1 (Nat.le_of_ble_eq_true rfl) dX2_renew_57 rfl (fun H locs hP hS => ?_)
                refine lv_iinc (v := nI (k + 1)) (lv' := [(1, .int (nI (k + 1))), (0, .ref (ad 2))]) E.1.1 E.1.2.1 dX2_renew_60 hl (k := 1) rfl (nI_add k 1) (by decide) rfl (fun ls hl => ?_)
                refine lv_goto (tgt := 38) E.1.1 E.1.2.1 dX2_renew_63 (by decide) ?_
                exact ih38 (k + 1) (jdF k τ) _ _ _ (Kp_jdF hT) (by omega) (by rw [hv, itN, jaS, if_pos h52]) hP hS (lv_sub hl [1, 0] rfl)
        exact LP38 24 0 τ _ _ _ hT (by omega) (by rw [rnF, hv]; rfl) hP hS (lv_sub hl [1, 0] rfl)
      · exact absurd h16 (by omega)
    | succ n ih14 =>
      intro k τ H locs ls hT hk hv hP hS hl
      refine lv_iload_n E.1.1 E.1.2.1 dX2_renew_14 rfl (lv_at hl 1 rfl) ?_
      refine lv_iconst (v := nI 4) E.1.1 E.1.2.1 dX2_renew_15 rfl ?_
      refine nv_icmp_ge (by omega) (by omega) E dX2_renew_16 (tgt := 36) (by decide) (fun h16 => ?_) (fun h16 => ?_)
      · exact absurd h16 (by omega)
      · refine lv_aload_n E.1.1 E.1.2.1 dX2_renew_19 rfl (lv_at hl 0 rfl) ?_
        refine gt_X2_callVerdicts E fl_X2_15 hP dX2_renew_20 ?_
        refine lv_iload_n E.1.1 E.1.2.1 dX2_renew_23 rfl (lv_at hl 1 rfl) ?_
        refine lv_aload_n E.1.1 E.1.2.1 dX2_renew_24 rfl (lv_at hl 0 rfl) ?_
        refine lv_iload_n E.1.1 E.1.2.1 dX2_renew_25 rfl (lv_at hl 1 rfl) ?_
        refine CM.callVi (n := 1) E (c_X2_verdictOfCalls l D cI cJ cZ ad τ k (by omega) (Kp_rf hT.1 hT.2.1 hT.2.2.1)) ml_X2_47 im_X2_verdictOfCalls se_X2_verdictOfCalls ini_X2 co_X2_verdictOfCalls hd_X2_verdictOfCalls ⟨Nat.le_of_ble_eq_true rfl, Nat.le_of_ble_eq_true rfl⟩ ⟨Nat.le_refl _, Nat.le_refl _⟩ 2 rfl rfl hP (hD _) hS hA2 rfl hl.1 (Nat.le_of_ble_eq_true rfl) dX2_renew_26 rfl (fun H locs hP hS => ?_)
        refine as_CS_CV (i := k) (v := vcF τ k) E hP hD hS (by omega) dX2_renew_29 (fun H locs hP hS => ?_)
        refine lv_iinc (v := nI (k + 1)) (lv' := [(1, .int (nI (k + 1))), (0, .ref (ad 2))]) E.1.1 E.1.2.1 dX2_renew_30 hl (k := 1) rfl (nI_add k 1) (by decide) rfl (fun ls hl => ?_)
        refine lv_goto (tgt := 14) E.1.1 E.1.2.1 dX2_renew_33 (by decide) ?_
        exact ih14 (k + 1) (scCV τ (va_up (gcCV τ) k (vcF τ k))) _ _ _ hT (by omega) (by rw [hv]; rfl) hP hS (lv_sub hl [1, 0] rfl)
  exact LP14 4 0 (frF (scV σ (fillF (gcV σ) 0 240 0))) _ _ _ (Kp_frF (σ := scV σ (fillF (gcV σ) 0 240 0)) hI hW) (by omega) rfl hP hS (lv_sub hl [1, 0] rfl)
end
section
def objI (v : Val) : Bool := match v with
  | .inl _ => false
  | .inr _ => true
theorem objI_f {v : Val} (h : objI v = false) : ∃ a, v = .inl a := by
  cases v with
  | inl a => exact ⟨a, rfl⟩
  | inr k => cases h
theorem objI_t {v : Val} (h : objI v = true) : ∃ k, v = .inr k := by
  cases v with
  | inl a => cases h
  | inr k => exact ⟨k, rfl⟩
theorem i32_rng (a : Int32) : -2147483648 ≤ a.toInt ∧ a.toInt < 2147483648 := ⟨a.le_toInt, a.toInt_lt⟩
theorem vJ_l (a : Int32) : (vJ (.inl a)).toInt = a.toInt := Int32.toInt_toInt64 a
theorem vJ_r {k : Nat} (h : k < 401) : (vJ (.inr k)).toInt = 4294967296 + (k : Int) := by
  show (lN (4294967296 + k)).toInt = _
  rw [pk_lT (by omega)]
  omega
theorem cmp_lt (x y : Int64) : lg_cmp x y < 0 ↔ x < y := by
  have h := lg_cmp_ge x y
  rw [Int32.lt_iff_toInt_lt, Int64.lt_iff_toInt_lt]
  rw [Int32.le_iff_toInt_le, Int64.le_iff_toInt_le] at h
  have h0 : (0 : Int32).toInt = 0 := by decide
  rw [h0] at h ⊢
  omega
theorem cmp_obj {v : Val} (hv : ∀ k, v = .inr k → k < 401) : lg_cmp (vJ v) 4294967296 < 0 ↔ objI v = false := by
  rw [cmp_lt, Int64.lt_iff_toInt_lt]
  have h0 : (4294967296 : Int64).toInt = 4294967296 := by decide
  rw [h0]
  cases v with
  | inl a =>
    rw [vJ_l]
    have := i32_rng a
    exact ⟨fun _ => rfl, fun _ => by omega⟩
  | inr k =>
    rw [vJ_r (hv k rfl)]
    exact ⟨fun h => by omega, fun h => by cases h⟩
theorem cmp_ll (a b : Int32) : 0 ≤ lg_cmp (vJ (.inl a)) (vJ (.inl b)) ↔ ¬ a < b := by
  rw [lg_cmp_ge, Int64.le_iff_toInt_le, vJ_l, vJ_l, Int32.lt_iff_toInt_lt]
  omega
theorem l2i_l (a : Int32) : (vJ (.inl a)).toInt32 = a := by
  show a.toInt64.toInt32 = a
  simp
theorem sub_obj {k : Nat} (h : k < 401) : (vJ (.inr k) - 4294967296).toInt32 = nI k := by
  have h1 : vJ (.inr k) - 4294967296 = lN k := by
    show lN (4294967296 + k) - lN 4294967296 = lN k
    rw [lN_sub (by omega), Nat.add_sub_cancel_left]
  rw [h1, lN_i]
theorem add_obj {k : Nat} (h : k < 2147483648) : (4294967296 : Int64) + (nI k).toInt64 = vJ (.inr k) := by
  rw [nI_l h]
  show lN 4294967296 + lN k = lN (4294967296 + k)
  rw [lN_add]
theorem cmp_z (x : Val) (hv : ∀ k, x = .inr k → k < 401) : lg_cmp (vJ x) (vJ (.inl 0)) = 0 ↔ x = .inl 0 := by
  have h0 : (vJ (.inl 0)).toInt = 0 := by decide
  have h1 : lg_cmp (vJ x) (vJ (.inl 0)) = 0 ↔ vJ x = vJ (.inl 0) := by
    unfold lg_cmp
    by_cases h : vJ x > vJ (.inl 0)
    · rw [if_pos h]
      refine ⟨fun e => absurd e (by decide), fun e => ?_⟩
      rw [e, gt_iff_lt, Int64.lt_iff_toInt_lt] at h
      omega
    · rw [if_neg h]
      by_cases h2 : vJ x = vJ (.inl 0)
      · rw [if_pos h2]; exact ⟨fun _ => h2, fun _ => rfl⟩
      · rw [if_neg h2]; exact ⟨fun e => absurd e (by decide), fun e => absurd e h2⟩
  rw [h1, ← Int64.toInt_inj, h0]
  cases x with
  | inl a =>
    rw [vJ_l]
    refine ⟨fun e => ?_, fun e => ?_⟩
    · have : a = 0 := Int32.toInt_inj.mp (by rw [e]; decide)
      rw [this]
    · cases e; decide
  | inr k =>
    rw [vJ_r (hv k rfl)]
    exact ⟨fun e => by omega, fun e => by cases e⟩
theorem max_n {a b : Nat} (ha : a < 2147483648) (hb : b < 2147483648) : (if nI a < nI b then nI b else nI a) = nI (max a b) := by
  by_cases h : a < b
  · rw [if_pos ((nI_ltI ha hb).mpr h), Nat.max_eq_right (by omega)]
  · rw [if_neg (fun z => h ((nI_ltI ha hb).mp z)), Nat.max_eq_left (by omega)]
/-- what holds of the run's rows in every state -/
def RI (σ : CS) : Prop := (PI σ ∧ WI σ) ∧ (∀ i, gcV σ i ≤ 6) ∧ ((∀ i, gcBo σ i < 24) ∧ (∀ i, gcNe σ i ≤ 19) ∧ (∀ i, gcAn σ i < 72) ∧ (∀ i, gcCl σ i < 6)) ∧ ((∀ i k, gcRg σ i = .inr k → k < 401) ∧ (∀ i k, gcFl σ i = .inr k → k < 401)) ∧ (gcCt σ 0 ≤ 40 ∧ gcCt σ 5 ≤ 12 ∧ gcCt σ 4 ≤ 400 ∧ gcCt σ 1 ≤ gcob σ) ∧ gcfr σ ≤ 12 ∧ gcrm σ ≤ 60 ∧ gcob σ ≤ 401 ∧ gctr σ ≤ 7
def rkF (pl ba : Nat) (σ : CS) : CS := match gcRg σ (ba + yN σ pl), gcRg σ (ba + zN σ pl) with
  | .inl a, .inl b => if gcK σ pl = 2 then scRg σ (va_up (gcRg σ) (ba + gcX σ pl) (.inl (a + b))) else scRg σ (va_up (gcRg σ) (ba + gcX σ pl) (.inl (if a < b then 1 else 0)))
  | _, _ => sctr σ 1
def noF (t : Nat) (σ : CS) : CS := scFl (scCl (scob σ (gcob σ + 1)) (va_up (gcCl σ) (gcob σ) t)) (fillF (gcFl σ) (gcob σ * 3) (gcob σ * 3 + 3) (.inl 0))
def inc (j : Nat) (σ : CS) : CS := scCt σ (va_up (gcCt σ) j (gcCt σ j + 1))
def mk2 (t r : Nat) (σ : CS) : CS := scRg (noF t σ) (va_up (gcRg σ) r (.inr (gcob σ)))
def mkF (pl r : Nat) (σ : CS) : CS := if gcsh σ = true ∧ gcV σ pl = 5 then mk2 (yN σ pl) r σ else if gcrm σ ≤ gcCt σ 1 then sctr σ 3 else mk2 (yN σ pl) r (inc 1 σ)
def rfF (pl ba : Nat) (σ : CS) : CS := match gcRg σ (ba + yN σ pl) with
  | .inr k => scRg σ (va_up (gcRg σ) (ba + gcX σ pl) (gcFl σ (k * 3 + zN σ pl)))
  | .inl _ => sctr σ 1
def wfF2 (pl ba : Nat) (σ : CS) : CS := match gcRg σ (ba + gcX σ pl) with
  | .inr k => scFl σ (va_up (gcFl σ) (k * 3 + zN σ pl) (gcRg σ (ba + yN σ pl)))
  | .inl _ => sctr σ 1
def ccF (v : Nat) (σ : CS) : CS := if v = 2 then inc 3 σ else if v = 3 then σ else inc 3 (inc 2 σ)
def enF (b : Nat) (x y : Val) (σ : CS) : CS := scCt (scfr (scNe (scBo (scRg σ (va_up (va_up (fillF (gcRg σ) (gcfr σ * 6) (gcfr σ * 6 + 6) (.inl 0)) (gcfr σ * 6) x) (gcfr σ * 6 + 1) y)) (va_up (gcBo σ) (gcfr σ) b)) (va_up (gcNe σ) (gcfr σ) 0)) (gcfr σ + 1)) (va_up (gcCt σ) 5 (max (gcCt σ 5) (gcfr σ + 1)))
def sdF (pl ba : Nat) (σ : CS) : CS := match gcRg σ (ba + yN σ pl) with
  | .inl _ => sctr σ 1
  | .inr k => match tgC σ (gcCl σ k) (zN σ pl) with
    | none => sctr σ 6
    | some b => if 12 ≤ gcfr σ then sctr σ 4 else enF b (.inr k) (gcRg σ (ba + 5)) (scAn (ccF (if gcsh σ = true then gcV σ pl else 0) σ) (va_up (gcAn σ) (gcfr σ) (ba + gcX σ pl)))
def anF (v : Val) (σ : CS) : CS := if 0 < gcfr σ - 1 then scRg (scfr σ (gcfr σ - 1)) (va_up (gcRg σ) (gcAn σ (gcfr σ - 1)) v) else scfr σ (gcfr σ - 1)
def poV (v : Val) (σ : CS) : Int32 := match v with
  | .inr k => nI (1000 + gcCl σ k)
  | .inl x => x
def prF (v : Val) (σ : CS) : CS := if 40 ≤ gcCt σ 0 then sctr σ 7 else inc 0 (scPo σ (va_up (gcPo σ) (gcCt σ 0) (poV v σ)))
def ckF (v : Val) (t : Nat) (σ : CS) : CS := match v with
  | .inl _ => sctr σ 1
  | .inr k => if isF (gcP σ) t 6 (some (gcCl σ k)) = true then σ else sctr σ 2
def skF (pl x : Nat) (σ : CS) : CS := if gcRg σ x = .inl 0 then scNe σ (va_up (gcNe σ) (gcfr σ - 1) (gcNe σ (gcfr σ - 1) + yN σ pl)) else σ
def pfF (pl ba : Nat) (σ : CS) : CS := match gcK σ pl with
  | 0 => scRg σ (va_up (gcRg σ) (ba + gcX σ pl) (.inl (gcY σ pl)))
  | 1 => scRg σ (va_up (gcRg σ) (ba + gcX σ pl) (gcRg σ (ba + yN σ pl)))
  | 2 => rkF pl ba σ
  | 3 => rkF pl ba σ
  | 4 => mkF pl (ba + gcX σ pl) σ
  | 5 => rfF pl ba σ
  | 6 => wfF2 pl ba σ
  | 7 => sdF pl ba σ
  | 8 => prF (gcRg σ (ba + gcX σ pl)) σ
  | 9 => skF pl (ba + gcX σ pl) σ
  | 10 => ckF (gcRg σ (ba + gcX σ pl)) (yN σ pl) σ
  | _ => anF (gcRg σ (ba + gcX σ pl)) σ
def nxF (j : Nat) (σ : CS) : CS := scNe σ (va_up (gcNe σ) j (gcNe σ j + 1))
def stF (σ : CS) : CS := if 400 ≤ gcCt σ 4 then sctr σ 5 else pfF (gcBo σ (gcfr σ - 1) * 10 + gcNe σ (gcfr σ - 1)) ((gcfr σ - 1) * 6) (nxF (gcfr σ - 1) (inc 4 σ))
def igL : Nat → CS → CS
  | 0, τ => τ
  | n + 1, τ => if gctr τ = 0 then (if gcL τ (gcBo τ n) ≤ gcNe τ n then igL n (anF (.inl 0) τ) else τ) else τ
def igF (σ : CS) : CS := igL (gcfr σ) σ
def igB (σ : CS) : Bool := decide (gctr (igF σ) = 0) && decide (0 < gcfr (igF σ))
def bgF (σ : CS) : CS := if gcrm σ < 1 then sctr σ 3 else match tgC σ 0 0 with
  | none => sctr (inc 1 (noF 0 σ)) 6
  | some b => enF b (.inr (gcob σ)) (.inl 0) (inc 3 (inc 1 (noF 0 σ)))
def exL : Nat → CS → CS
  | 0, τ => τ
  | n + 1, τ => if igB τ = true then exL n (stF (igF τ)) else igF τ
def ex0 (b : Bool) (h : Nat) (σ : CS) : CS := scCt (sctr (scob (scfr (scrm (scsh σ b) h) 0) 0) 0) (fillF (gcCt σ) 0 6 0)
def exF (b : Bool) (h : Nat) (σ : CS) : CS := exL 401 (bgF (ex0 b h σ))

theorem va_up_i {α : Type} (f : Nat → α) (k : Nat) (v : α) (j : Nat) (P : α → Prop) (h1 : P v) (h2 : P (f j)) : P (va_up f k v j) := by
  unfold va_up
  by_cases h : j = k
  · rw [if_pos h]; exact h1
  · rw [if_neg h]; exact h2
theorem fillF_i {α : Type} (f : Nat → α) (a b : Nat) (v : α) (j : Nat) (P : α → Prop) (h1 : P v) (h2 : P (f j)) : P (fillF f a b v j) := by
  unfold fillF
  by_cases h : a ≤ j ∧ j < b
  · rw [if_pos h]; exact h1
  · rw [if_neg h]; exact h2
set_option maxHeartbeats 100000 in
theorem en_get (b : Nat) (x y : Val) (τ : CS) : gcob (enF b x y τ) = gcob τ ∧ gcCt (enF b x y τ) 4 = gcCt τ 4 := by
  simp only [enF, gcP, gcL, gcK, gcX, gcY, gcZ, gcn, gcV, gcCV, gcma, gcre, gcca, gcRg, gcBo, gcNe, gcAn, gcCl, gcFl, gcPo, gcCt, gcsh, gcrm, gcfr, gcob, gctr, scP, scL, scK, scX, scY, scZ, scn, scV, scCV, scma, scre, scca, scRg, scBo, scNe, scAn, scCl, scFl, scPo, scCt, scsh, scrm, scfr, scob, sctr, va_up, and_self]
  simp
set_option maxHeartbeats 100000 in
theorem ex0_get (b : Bool) (h : Nat) (σ : CS) : gcob (ex0 b h σ) = 0 ∧ gcfr (ex0 b h σ) = 0 ∧ gctr (ex0 b h σ) = 0 ∧ gcrm (ex0 b h σ) = h ∧ gcsh (ex0 b h σ) = b ∧ gcCt (ex0 b h σ) = fillF (gcCt σ) 0 6 0 := by
  simp only [ex0, gcP, gcL, gcK, gcX, gcY, gcZ, gcn, gcV, gcCV, gcma, gcre, gcca, gcRg, gcBo, gcNe, gcAn, gcCl, gcFl, gcPo, gcCt, gcsh, gcrm, gcfr, gcob, gctr, scP, scL, scK, scX, scY, scZ, scn, scV, scCV, scma, scre, scca, scRg, scBo, scNe, scAn, scCl, scFl, scPo, scCt, scsh, scrm, scfr, scob, sctr, and_self]
set_option maxHeartbeats 100000 in
theorem mk2_get (t r : Nat) (τ : CS) : gcob (mk2 t r τ) = gcob τ + 1 ∧ gcCt (mk2 t r τ) = gcCt τ ∧ gcfr (mk2 t r τ) = gcfr τ := by
  simp only [mk2, noF, gcP, gcL, gcK, gcX, gcY, gcZ, gcn, gcV, gcCV, gcma, gcre, gcca, gcRg, gcBo, gcNe, gcAn, gcCl, gcFl, gcPo, gcCt, gcsh, gcrm, gcfr, gcob, gctr, scP, scL, scK, scX, scY, scZ, scn, scV, scCV, scma, scre, scca, scRg, scBo, scNe, scAn, scCl, scFl, scPo, scCt, scsh, scrm, scfr, scob, sctr, and_self]
set_option maxHeartbeats 100000 in
theorem inc_get (j : Nat) (τ : CS) : gcob (inc j τ) = gcob τ ∧ gcCt (inc j τ) = va_up (gcCt τ) j (gcCt τ j + 1) ∧ gcfr (inc j τ) = gcfr τ ∧ gcRg (inc j τ) = gcRg τ := by
  simp only [inc, gcP, gcL, gcK, gcX, gcY, gcZ, gcn, gcV, gcCV, gcma, gcre, gcca, gcRg, gcBo, gcNe, gcAn, gcCl, gcFl, gcPo, gcCt, gcsh, gcrm, gcfr, gcob, gctr, scP, scL, scK, scX, scY, scZ, scn, scV, scCV, scma, scre, scca, scRg, scBo, scNe, scAn, scCl, scFl, scPo, scCt, scsh, scrm, scfr, scob, sctr, and_self]
set_option maxHeartbeats 100000 in
theorem tr_get (v : Nat) (τ : CS) : gcob (sctr τ v) = gcob τ ∧ gcCt (sctr τ v) = gcCt τ ∧ gcfr (sctr τ v) = gcfr τ := by
  simp only [gcP, gcL, gcK, gcX, gcY, gcZ, gcn, gcV, gcCV, gcma, gcre, gcca, gcRg, gcBo, gcNe, gcAn, gcCl, gcFl, gcPo, gcCt, gcsh, gcrm, gcfr, gcob, gctr, scP, scL, scK, scX, scY, scZ, scn, scV, scCV, scma, scre, scca, scRg, scBo, scNe, scAn, scCl, scFl, scPo, scCt, scsh, scrm, scfr, scob, sctr, and_self]
set_option maxHeartbeats 100000 in
theorem mk2_inc (t r : Nat) (σ : CS) : mk2 t r (inc 1 σ) = scRg (inc 1 (noF t σ)) (va_up (gcRg σ) r (.inr (gcob σ))) := by
  simp only [mk2, inc, noF, gcP, gcL, gcK, gcX, gcY, gcZ, gcn, gcV, gcCV, gcma, gcre, gcca, gcRg, gcBo, gcNe, gcAn, gcCl, gcFl, gcPo, gcCt, gcsh, gcrm, gcfr, gcob, gctr, scP, scL, scK, scX, scY, scZ, scn, scV, scCV, scma, scre, scca, scRg, scBo, scNe, scAn, scCl, scFl, scPo, scCt, scsh, scrm, scfr, scob, sctr]
theorem RI_tr {σ : CS} {v : Nat} (h : RI σ) (hv : v ≤ 7) : RI (sctr σ v) := ⟨h.1, h.2.1, h.2.2.1, h.2.2.2.1, h.2.2.2.2.1, h.2.2.2.2.2.1, h.2.2.2.2.2.2.1, h.2.2.2.2.2.2.2.1, hv⟩
theorem RI_Rg {σ : CS} {f : Nat → Val} (h : RI σ) (hf : ∀ i k, f i = .inr k → k < 401) : RI (scRg σ f) := ⟨h.1, h.2.1, h.2.2.1, ⟨hf, h.2.2.2.1.2⟩, h.2.2.2.2⟩
theorem up_rg {f : Nat → Val} (hf : ∀ i k, f i = .inr k → k < 401) (x : Nat) {v : Val} (hv : ∀ k, v = .inr k → k < 401) : ∀ i k, va_up f x v i = .inr k → k < 401 := fun i => va_up_i f x v i (fun z => ∀ k, z = .inr k → k < 401) hv (hf i)
theorem RI_Fl {σ : CS} {f : Nat → Val} (h : RI σ) (hf : ∀ i k, f i = .inr k → k < 401) : RI (scFl σ f) := ⟨h.1, h.2.1, h.2.2.1, ⟨h.2.2.2.1.1, hf⟩, h.2.2.2.2⟩
theorem RI_Ne {σ : CS} {x v : Nat} (h : RI σ) (hv : v ≤ 19) : RI (scNe σ (va_up (gcNe σ) x v)) := ⟨h.1, h.2.1, ⟨h.2.2.1.1, fun i => va_up_i _ _ _ i (fun z => z ≤ 19) hv (h.2.2.1.2.1 i), h.2.2.1.2.2⟩, h.2.2.2⟩
theorem RI_Bo {σ : CS} {x v : Nat} (h : RI σ) (hv : v < 24) : RI (scBo σ (va_up (gcBo σ) x v)) := ⟨h.1, h.2.1, ⟨fun i => va_up_i _ _ _ i (fun z => z < 24) hv (h.2.2.1.1 i), h.2.2.1.2⟩, h.2.2.2⟩
theorem RI_An {σ : CS} {x v : Nat} (h : RI σ) (hv : v < 72) : RI (scAn σ (va_up (gcAn σ) x v)) := ⟨h.1, h.2.1, ⟨h.2.2.1.1, h.2.2.1.2.1, fun i => va_up_i _ _ _ i (fun z => z < 72) hv (h.2.2.1.2.2.1 i), h.2.2.1.2.2.2⟩, h.2.2.2⟩
theorem RI_Po {σ : CS} {f : Nat → Int32} (h : RI σ) : RI (scPo σ f) := h
theorem RI_fr {σ : CS} {v : Nat} (h : RI σ) (hv : v ≤ 12) : RI (scfr σ v) := ⟨h.1, h.2.1, h.2.2.1, h.2.2.2.1, h.2.2.2.2.1, hv, h.2.2.2.2.2.2⟩
theorem RI_Ct {σ : CS} {f : Nat → Nat} (h : RI σ) (h0 : f 0 ≤ 40) (h5 : f 5 ≤ 12) (h4 : f 4 ≤ 400) (h1 : f 1 ≤ gcob σ) : RI (scCt σ f) := ⟨h.1, h.2.1, h.2.2.1, h.2.2.2.1, ⟨h0, h5, h4, h1⟩, h.2.2.2.2.2⟩
theorem RI_ob {σ : CS} {v : Nat} (h : RI σ) (h1 : gcob σ ≤ v) (h2 : v ≤ 401) : RI (scob σ v) := ⟨h.1, h.2.1, h.2.2.1, h.2.2.2.1, ⟨h.2.2.2.2.1.1, h.2.2.2.2.1.2.1, h.2.2.2.2.1.2.2.1, Nat.le_trans h.2.2.2.2.1.2.2.2 h1⟩, h.2.2.2.2.2.1, h.2.2.2.2.2.2.1, h2, h.2.2.2.2.2.2.2.2⟩
theorem RI_Cl {σ : CS} {x v : Nat} (h : RI σ) (hv : v < 6) : RI (scCl σ (va_up (gcCl σ) x v)) := ⟨h.1, h.2.1, ⟨h.2.2.1.1, h.2.2.1.2.1, h.2.2.1.2.2.1, fun i => va_up_i _ _ _ i (fun z => z < 6) hv (h.2.2.1.2.2.2 i)⟩, h.2.2.2⟩
theorem fill_rg {f : Nat → Val} (hf : ∀ i k, f i = Sum.inr k → k < 401) (a b : Nat) : ∀ i k, fillF f a b (Sum.inl 0) i = Sum.inr k → k < 401 := fun i => fillF_i f a b (Sum.inl 0) i (fun z => ∀ k, z = Sum.inr k → k < 401) (fun k hk => by cases hk) (hf i)
set_option maxHeartbeats 100000 in
theorem RI_no {σ : CS} {t : Nat} (h : RI σ) (ht : t < 6) (hob : gcob σ < 401) : RI (noF t σ) := by
  have h1 : RI (scob σ (gcob σ + 1)) := RI_ob h (Nat.le_succ _) hob
  have h2 : RI (scCl (scob σ (gcob σ + 1)) (va_up (gcCl (scob σ (gcob σ + 1))) (gcob σ) t)) := RI_Cl h1 ht
  exact RI_Fl h2 (fill_rg h.2.2.2.1.2 _ _)
theorem RI_inc2 {σ : CS} (h : RI σ) : RI (inc 2 σ) := RI_Ct h h.2.2.2.2.1.1 h.2.2.2.2.1.2.1 h.2.2.2.2.1.2.2.1 h.2.2.2.2.1.2.2.2
theorem RI_inc3 {σ : CS} (h : RI σ) : RI (inc 3 σ) := RI_Ct h h.2.2.2.2.1.1 h.2.2.2.2.1.2.1 h.2.2.2.2.1.2.2.1 h.2.2.2.2.1.2.2.2
theorem RI_inc4 {σ : CS} (h : RI σ) (h4 : gcCt σ 4 < 400) : RI (inc 4 σ) := RI_Ct h h.2.2.2.2.1.1 h.2.2.2.2.1.2.1 h4 h.2.2.2.2.1.2.2.2
theorem RI_cc {σ : CS} {v : Nat} (h : RI σ) : RI (ccF v σ) := by
  unfold ccF
  by_cases e : v = 2
  · rw [if_pos e]; exact RI_inc3 h
  · rw [if_neg e]
    by_cases e3 : v = 3
    · rw [if_pos e3]; exact h
    · rw [if_neg e3]; exact RI_inc3 (RI_inc2 h)
theorem cc_ob (v : Nat) (σ : CS) : gcob (ccF v σ) = gcob σ ∧ gcCt (ccF v σ) 4 = gcCt σ 4 ∧ gcfr (ccF v σ) = gcfr σ ∧ gcRg (ccF v σ) = gcRg σ ∧ gcAn (ccF v σ) = gcAn σ := by
  unfold ccF
  by_cases e : v = 2
  · rw [if_pos e]; exact ⟨rfl, rfl, rfl, rfl, rfl⟩
  · rw [if_neg e]
    by_cases e3 : v = 3
    · rw [if_pos e3]; exact ⟨rfl, rfl, rfl, rfl, rfl⟩
    · rw [if_neg e3]; exact ⟨rfl, rfl, rfl, rfl, rfl⟩
set_option maxHeartbeats 100000 in
theorem RI_en {σ : CS} {b : Nat} {x y : Val} (h : RI σ) (hb : b < 24) (hx : ∀ k, x = .inr k → k < 401) (hy : ∀ k, y = .inr k → k < 401) (hf : gcfr σ < 12) : RI (enF b x y σ) := by
  have h1 := RI_Rg h (up_rg (up_rg (fill_rg h.2.2.2.1.1 (gcfr σ * 6) (gcfr σ * 6 + 6)) (gcfr σ * 6) hx) (gcfr σ * 6 + 1) hy)
  have h2 := RI_Bo (x := gcfr σ) h1 hb
  have h3 := RI_Ne (x := gcfr σ) h2 (Nat.zero_le 19)
  have h4 := RI_fr h3 (v := gcfr σ + 1) hf
  exact RI_Ct h4 h.2.2.2.2.1.1 (show max (gcCt σ 5) (gcfr σ + 1) ≤ 12 from Nat.max_le.mpr ⟨h.2.2.2.2.1.2.1, hf⟩) h.2.2.2.2.1.2.2.1 h.2.2.2.2.1.2.2.2
/-- the run's states: and no more objects than operations and one -/
def GI (σ : CS) : Prop := RI σ ∧ gcob σ ≤ 1 + gcCt σ 4
theorem GI_an {σ : CS} {v : Val} (h : GI σ) (hv : ∀ k, v = .inr k → k < 401) : GI (anF v σ) := by
  have hf := h.1.2.2.2.2.2.1
  unfold anF
  by_cases e : 0 < gcfr σ - 1
  · rw [if_pos e]; exact ⟨RI_Rg (RI_fr h.1 (by omega)) (up_rg h.1.2.2.2.1.1 _ hv), h.2⟩
  · rw [if_neg e]; exact ⟨RI_fr h.1 (by omega), h.2⟩
theorem GI_igL : ∀ (n : Nat) (τ : CS), GI τ → GI (igL n τ) := by
  intro n
  induction n with
  | zero => intro τ h; exact h
  | succ n ih =>
    intro τ h
    unfold igL
    by_cases e : gctr τ = 0
    · rw [if_pos e]
      by_cases e2 : gcL τ (gcBo τ n) ≤ gcNe τ n
      · rw [if_pos e2]; exact ih _ (GI_an h (fun k hk => by cases hk))
      · rw [if_neg e2]; exact h
    · rw [if_neg e]; exact h
theorem GI_ig {σ : CS} (h : GI σ) : GI (igF σ) := GI_igL _ _ h
theorem an_fr (v : Val) (σ : CS) : gcfr (anF v σ) = gcfr σ - 1 ∧ gctr (anF v σ) = gctr σ ∧ gcL (anF v σ) = gcL σ ∧ gcBo (anF v σ) = gcBo σ ∧ gcNe (anF v σ) = gcNe σ := by
  unfold anF
  by_cases e : 0 < gcfr σ - 1
  · rw [if_pos e]; exact ⟨rfl, rfl, rfl, rfl, rfl⟩
  · rw [if_neg e]; exact ⟨rfl, rfl, rfl, rfl, rfl⟩
theorem ig_top : ∀ (n : Nat) (τ : CS), gcfr τ = n → gctr (igL n τ) = 0 → 0 < gcfr (igL n τ) → gcNe (igL n τ) (gcfr (igL n τ) - 1) < gcL (igL n τ) (gcBo (igL n τ) (gcfr (igL n τ) - 1)) := by
  intro n
  induction n with
  | zero => intro τ hf _ h0; exact absurd h0 (by show ¬ 0 < gcfr τ; omega)
  | succ n ih =>
    intro τ hf
    unfold igL
    by_cases e : gctr τ = 0
    · rw [if_pos e]
      by_cases e2 : gcL τ (gcBo τ n) ≤ gcNe τ n
      · rw [if_pos e2]; exact ih _ (by rw [(an_fr _ τ).1]; omega)
      · rw [if_neg e2]
        intro _ _
        rw [hf]
        exact Nat.lt_of_not_le e2
    · rw [if_neg e]; intro h; exact absurd h e
theorem igB_top {σ : CS} (h : igB σ = true) : 0 < gcfr (igF σ) ∧ gcNe (igF σ) (gcfr (igF σ) - 1) < gcL (igF σ) (gcBo (igF σ) (gcfr (igF σ) - 1)) := by
  simp only [igB, Bool.and_eq_true, decide_eq_true_eq] at h
  exact ⟨h.2, ig_top _ _ rfl h.1 h.2⟩
/-- what a performed operation needs -/
def OI (pl ba : Nat) (σ : CS) : Prop := RI σ ∧ pl < 240 ∧ ba ≤ 66 ∧ 0 < gcfr σ ∧ gcob σ ≤ 400 ∧ gcob σ ≤ gcCt σ 4 ∧ gcNe σ (gcfr σ - 1) ≤ 10
theorem GI_tr {σ : CS} {v : Nat} (h : GI σ) (hv : v ≤ 7) : GI (sctr σ v) := ⟨RI_tr h.1 hv, h.2⟩
set_option maxHeartbeats 100000 in
theorem GI_mk2 {σ : CS} {t r : Nat} (h : RI σ) (ht : t < 6) (hob : gcob σ ≤ 400) (h4 : gcob σ ≤ gcCt σ 4) : GI (mk2 t r σ) := by
  have h1 := RI_no h ht (Nat.lt_succ_of_le hob)
  have h2 : ∀ k, (Sum.inr (gcob σ) : Val) = Sum.inr k → k < 401 := fun k hk => by
    cases hk
    exact Nat.lt_succ_of_le hob
  refine ⟨RI_Rg h1 (up_rg h.2.2.2.1.1 r h2), ?_⟩
  rw [(mk2_get t r σ).1, (mk2_get t r σ).2.1]
  omega
set_option maxHeartbeats 100000 in
theorem GI_mk2i {σ : CS} {t r : Nat} (h : RI σ) (ht : t < 6) (hob : gcob σ ≤ 400) (h4 : gcob σ ≤ gcCt σ 4) : GI (mk2 t r (inc 1 σ)) := by
  have h1 := RI_no h ht (Nat.lt_succ_of_le hob)
  have h2 : ∀ k, (Sum.inr (gcob σ) : Val) = Sum.inr k → k < 401 := fun k hk => by
    cases hk
    exact Nat.lt_succ_of_le hob
  have h3 : RI (inc 1 (noF t σ)) := RI_Ct h1 h1.2.2.2.2.1.1 h1.2.2.2.2.1.2.1 h1.2.2.2.2.1.2.2.1 (Nat.succ_le_succ h.2.2.2.2.1.2.2.2)
  refine ⟨by rw [mk2_inc]; exact RI_Rg h3 (up_rg h.2.2.2.1.1 r h2), ?_⟩
  rw [(mk2_get t r _).1, (mk2_get t r _).2.1, (inc_get 1 σ).1, (inc_get 1 σ).2.1, va_up_ne _ _ (by decide)]
  omega
theorem GI_Rg {σ : CS} {x : Nat} {v : Val} (h : GI σ) (hv : ∀ k, v = .inr k → k < 401) : GI (scRg σ (va_up (gcRg σ) x v)) := ⟨RI_Rg h.1 (up_rg h.1.2.2.2.1.1 x hv), h.2⟩
theorem inl_no (a : Int32) : ∀ k, (Sum.inl a : Val) = Sum.inr k → k < 401 := fun k hk => by cases hk
theorem GI_rk {σ : CS} {pl ba : Nat} (h : GI σ) : GI (rkF pl ba σ) := by
  unfold rkF
  split
  · split
    · exact GI_Rg h (inl_no _)
    · exact GI_Rg h (inl_no _)
  · exact GI_tr h (by decide)
theorem GI_mk {σ : CS} {pl r : Nat} (h : RI σ) (ht : yN σ pl < 6) (hob : gcob σ ≤ 400) (h4 : gcob σ ≤ gcCt σ 4) : GI (mkF pl r σ) := by
  unfold mkF
  split
  · exact GI_mk2 h ht hob h4
  · split
    · exact GI_tr ⟨h, by omega⟩ (by decide)
    · exact GI_mk2i h ht hob h4
theorem GI_rf {σ : CS} {pl ba : Nat} (h : GI σ) : GI (rfF pl ba σ) := by
  unfold rfF
  split
  · exact GI_Rg h (h.1.2.2.2.1.2 _)
  · exact GI_tr h (by decide)
theorem GI_wf {σ : CS} {pl ba : Nat} (h : GI σ) : GI (wfF2 pl ba σ) := by
  unfold wfF2
  split
  · exact ⟨RI_Fl h.1 (up_rg h.1.2.2.2.1.2 _ (h.1.2.2.2.1.1 _)), h.2⟩
  · exact GI_tr h (by decide)
set_option maxHeartbeats 100000 in
theorem GI_sd2 {σ : CS} {v b a : Nat} {x y : Val} (h : GI σ) (hb : b < 24) (hx : ∀ k, x = .inr k → k < 401) (hy : ∀ k, y = .inr k → k < 401) (hf : gcfr σ < 12) (ha : a < 72) : GI (enF b x y (scAn (ccF v σ) (va_up (gcAn σ) (gcfr σ) a))) := by
  have hc := cc_ob v σ
  have h1 : RI (scAn (ccF v σ) (va_up (gcAn (ccF v σ)) (gcfr σ) a)) := RI_An (RI_cc h.1) ha
  rw [hc.2.2.2.2] at h1
  refine ⟨RI_en h1 hb hx hy (by show gcfr (ccF v σ) < 12; rw [hc.2.2.1]; exact hf), ?_⟩
  rw [(en_get b x y _).1, (en_get b x y _).2]
  show gcob (ccF v σ) ≤ 1 + gcCt (ccF v σ) 4
  rw [hc.1, hc.2.1]
  exact h.2
set_option maxHeartbeats 100000 in
theorem GI_sd {σ : CS} {pl ba : Nat} (h : GI σ) (hz : zN σ pl < 4) (ha : ba + gcX σ pl < 72) : GI (sdF pl ba σ) := by
  unfold sdF
  split
  · exact GI_tr h (by decide)
  · rename_i k hk
    split
    · exact GI_tr h (by decide)
    · rename_i b hb
      split
      · exact GI_tr h (by decide)
      · rename_i h12
        refine GI_sd2 h (tgC_lt h.1.1.1 (h.1.2.2.1.2.2.2 k) hz hb) (fun k9 hk9 => ?_) (h.1.2.2.2.1.1 _) (Nat.lt_of_not_le h12) ha
        cases hk9
        exact h.1.2.2.2.1.1 _ _ hk
theorem GI_pr {σ : CS} {v : Val} (h : GI σ) : GI (prF v σ) := by
  unfold prF
  split
  · exact GI_tr h (by decide)
  · rename_i h40
    have h1 : RI (scPo σ (va_up (gcPo σ) (gcCt σ 0) (poV v σ))) := RI_Po h.1
    exact ⟨RI_Ct h1 (show gcCt σ 0 + 1 ≤ 40 from Nat.lt_of_not_le h40) h.1.2.2.2.2.1.2.1 h.1.2.2.2.2.1.2.2.1 h.1.2.2.2.2.1.2.2.2, h.2⟩
theorem GI_sk {σ : CS} {pl x : Nat} (h : GI σ) (hy : yN σ pl < 10) (hn : gcNe σ (gcfr σ - 1) ≤ 10) : GI (skF pl x σ) := by
  unfold skF
  split
  · exact ⟨RI_Ne h.1 (by omega), h.2⟩
  · exact h
theorem GI_ck {σ : CS} {v : Val} {t : Nat} (h : GI σ) : GI (ckF v t σ) := by
  unfold ckF
  split
  · exact GI_tr h (by decide)
  · split
    · exact h
    · exact GI_tr h (by decide)
set_option maxHeartbeats 100000 in
theorem GI_pf {σ : CS} {pl ba : Nat} (h : OI pl ba σ) : GI (pfF pl ba σ) := by
  obtain ⟨hR, hpl, hba, hfr, hob, h4, hne⟩ := h
  have hG : GI σ := ⟨hR, by omega⟩
  have hX := hR.1.1.2.2.2.1 pl
  unfold pfF
  split
  · exact GI_Rg hG (inl_no _)
  · exact GI_Rg hG (hR.2.2.2.1.1 _)
  · exact GI_rk hG
  · exact GI_rk hG
  · rename_i e; exact GI_mk hR (WI_y hR.1.2 (p := pl) (by omega)).2 hob h4
  · exact GI_rf hG
  · exact GI_wf hG
  · rename_i e; exact GI_sd hG (WI_z4 hR.1.2 e).2 (by omega)
  · exact GI_pr hG
  · rename_i e; exact GI_sk hG (WI_y9 hR.1.2 e).2 hne
  · exact GI_ck hG
  · exact GI_an hG (hR.2.2.2.1.1 _)
set_option maxHeartbeats 100000 in
theorem OI_st {σ : CS} (h : GI σ) (hf : 0 < gcfr σ) (hn : gcNe σ (gcfr σ - 1) < gcL σ (gcBo σ (gcfr σ - 1))) (h4 : gcCt σ 4 < 400) : OI (gcBo σ (gcfr σ - 1) * 10 + gcNe σ (gcfr σ - 1)) ((gcfr σ - 1) * 6) (nxF (gcfr σ - 1) (inc 4 σ)) := by
  have hL := h.1.1.1.2.1 (gcBo σ (gcfr σ - 1))
  have hB := h.1.2.2.1.1 (gcfr σ - 1)
  have hF := h.1.2.2.2.2.2.1
  have hO := h.2
  refine ⟨RI_Ne (RI_inc4 h.1 h4) (by show gcNe σ (gcfr σ - 1) + 1 ≤ 19; omega), by omega, by omega, hf, (by show gcob σ ≤ 400; omega), (by show gcob σ ≤ gcCt σ 4 + 1; omega), ?_⟩
  show va_up (gcNe σ) (gcfr σ - 1) (gcNe σ (gcfr σ - 1) + 1) (gcfr σ - 1) ≤ 10
  rw [va_up_self]
  omega
set_option maxHeartbeats 100000 in
theorem GI_st {σ : CS} (h : GI σ) (hf : 0 < gcfr σ) (hn : gcNe σ (gcfr σ - 1) < gcL σ (gcBo σ (gcfr σ - 1))) : GI (stF σ) := by
  unfold stF
  by_cases e : 400 ≤ gcCt σ 4
  · rw [if_pos e]; exact GI_tr h (by decide)
  · rw [if_neg e]; exact GI_pf (OI_st h hf hn (by omega))
set_option maxHeartbeats 100000 in
theorem RI_rm {σ : CS} {v : Nat} (h : RI σ) (hv : v ≤ 60) : RI (scrm σ v) := ⟨h.1, h.2.1, h.2.2.1, h.2.2.2.1, h.2.2.2.2.1, h.2.2.2.2.2.1, hv, h.2.2.2.2.2.2.2⟩
set_option maxHeartbeats 100000 in
theorem RI_sh {σ : CS} {v : Bool} (h : RI σ) : RI (scsh σ v) := h
set_option maxHeartbeats 100000 in
theorem RI_oC {σ : CS} {v : Nat} {f : Nat → Nat} (h : RI σ) (h2 : v ≤ 401) (h0 : f 0 ≤ 40) (h5 : f 5 ≤ 12) (h4 : f 4 ≤ 400) (h1 : f 1 ≤ v) : RI (scob (scCt σ f) v) := ⟨h.1, h.2.1, h.2.2.1, h.2.2.2.1, ⟨h0, h5, h4, h1⟩, h.2.2.2.2.2.1, h.2.2.2.2.2.2.1, h2, h.2.2.2.2.2.2.2.2⟩
set_option maxHeartbeats 100000 in
theorem ex0_eq (b : Bool) (h : Nat) (σ : CS) : ex0 b h σ = sctr (scob (scCt (scfr (scrm (scsh σ b) h) 0) (fillF (gcCt σ) 0 6 0)) 0) 0 := by
  simp only [ex0, gcP, gcL, gcK, gcX, gcY, gcZ, gcn, gcV, gcCV, gcma, gcre, gcca, gcRg, gcBo, gcNe, gcAn, gcCl, gcFl, gcPo, gcCt, gcsh, gcrm, gcfr, gcob, gctr, scP, scL, scK, scX, scY, scZ, scn, scV, scCV, scma, scre, scca, scRg, scBo, scNe, scAn, scCl, scFl, scPo, scCt, scsh, scrm, scfr, scob, sctr]
set_option maxHeartbeats 100000 in
theorem RI_ex0 {σ : CS} {b : Bool} {h : Nat} (hR : RI σ) (hh : h ≤ 60) : RI (ex0 b h σ) := by
  rw [ex0_eq]
  exact RI_tr (RI_oC (RI_fr (RI_rm (RI_sh hR) hh) (Nat.zero_le 12)) (Nat.zero_le 401) (Nat.zero_le 40) (Nat.zero_le 12) (Nat.zero_le 400) (Nat.zero_le 0)) (Nat.zero_le 7)
set_option maxHeartbeats 100000 in
theorem no_get (t : Nat) (τ : CS) : gcob (noF t τ) = gcob τ + 1 ∧ gcCt (noF t τ) = gcCt τ ∧ gcfr (noF t τ) = gcfr τ ∧ gcRg (noF t τ) = gcRg τ := by
  simp only [noF, gcP, gcL, gcK, gcX, gcY, gcZ, gcn, gcV, gcCV, gcma, gcre, gcca, gcRg, gcBo, gcNe, gcAn, gcCl, gcFl, gcPo, gcCt, gcsh, gcrm, gcfr, gcob, gctr, scP, scL, scK, scX, scY, scZ, scn, scV, scCV, scma, scre, scca, scRg, scBo, scNe, scAn, scCl, scFl, scPo, scCt, scsh, scrm, scfr, scob, sctr, and_self]
set_option maxHeartbeats 100000 in
theorem RI_i1 {τ : CS} (h : RI τ) (h1 : gcCt τ 1 + 1 ≤ gcob τ) : RI (inc 1 τ) := RI_Ct h h.2.2.2.2.1.1 h.2.2.2.2.1.2.1 h.2.2.2.2.1.2.2.1 h1
set_option maxHeartbeats 100000 in
theorem GI_b1 {τ : CS} (h : RI τ) (h2 : gcob τ ≤ 1 + gcCt τ 4) (h1 : gcCt τ 1 + 1 ≤ gcob τ) : GI (sctr (inc 1 τ) 6) := by
  refine ⟨RI_tr (RI_i1 h h1) (by decide), ?_⟩
  rw [(tr_get _ _).1, (tr_get _ _).2.1, (inc_get 1 _).1, (inc_get 1 _).2.1, va_up_ne _ _ (by decide)]
  exact h2
set_option maxHeartbeats 100000 in
theorem GI_b2 {τ : CS} {b : Nat} {x y : Val} (h : RI τ) (h2 : gcob τ ≤ 1 + gcCt τ 4) (h1 : gcCt τ 1 + 1 ≤ gcob τ) (hb : b < 24) (hx : ∀ k, x = .inr k → k < 401) (hy : ∀ k, y = .inr k → k < 401) (hf : gcfr τ = 0) : GI (enF b x y (inc 3 (inc 1 τ))) := by
  refine ⟨RI_en (RI_inc3 (RI_i1 h h1)) hb hx hy ?_, ?_⟩
  · rw [(inc_get 3 _).2.2.1, (inc_get 1 _).2.2.1, hf]; decide
  · rw [(en_get _ _ _ _).1, (en_get _ _ _ _).2, (inc_get 3 _).1, (inc_get 3 _).2.1, va_up_ne _ _ (by decide), (inc_get 1 _).1, (inc_get 1 _).2.1, va_up_ne _ _ (by decide)]
    exact h2
set_option maxHeartbeats 100000 in
theorem GI_b0 {τ : CS} (h0 : RI τ) (hb0 : gcob τ = 0) (hf0 : gcfr τ = 0) (hc0 : gcCt τ 4 = 0) (hc1 : gcCt τ 1 = 0) : GI (bgF τ) := by
  obtain ⟨g1, g2, g3, g4⟩ := no_get 0 τ
  have h1 : RI (noF 0 τ) := RI_no h0 (by decide) (by omega)
  have q1 : gcob (noF 0 τ) ≤ 1 + gcCt (noF 0 τ) 4 := by rw [g1, g2]; omega
  have q2 : gcCt (noF 0 τ) 1 + 1 ≤ gcob (noF 0 τ) := by rw [g1, g2]; omega
  unfold bgF
  split
  · exact GI_tr ⟨h0, by omega⟩ (by decide)
  · split
    · exact GI_b1 h1 q1 q2
    · rename_i b9 hb9
      exact GI_b2 h1 q1 q2 (tgC_lt h0.1.1 (by decide) (by decide) hb9) (fun k hk => by cases hk; omega) (inl_no _) (by rw [g3]; exact hf0)
set_option maxHeartbeats 100000 in
theorem GI_bg {σ : CS} {b : Bool} {h : Nat} (hR : RI σ) (hh : h ≤ 60) : GI (bgF (ex0 b h σ)) := by
  have hg := ex0_get b h σ
  exact GI_b0 (RI_ex0 hR hh) hg.1 hg.2.1 (by rw [hg.2.2.2.2.2]; simp [fillF]) (by rw [hg.2.2.2.2.2]; simp [fillF])
end
section
set_option maxRecDepth 100000 in
set_option maxHeartbeats 400000 in
theorem c_X0_tally (l : Launch) (D : va_G) (cI cJ cZ : ClassId) (ad : Nat → Nat) (σ : CS) (i : Nat)  (hi : i < 6) : CM l D (t3 cI cJ cZ) yX0_tally cX0_tally 2 (some .int) 0 [.ref (ad 3), .int (nI i)] (wC ad cI cJ cZ σ) (some (.int (nI (gcCt σ i)))) (wC ad cI cJ cZ σ) := by
  refine CM.of (by decide) (Nat.le_of_ble_eq_true rfl) ?_
  intro p e s m below meth c A ls E hr hlk hP hD0 hA hA2 hS hl
  have hD := wC_D hD0
  have hl : lv_has ls 2 [(0, .ref (ad 3)), (1, .int (nI i))] := hl
  refine lv_aload_n E.1.1 E.1.2.1 dX0_tally_0 rfl (lv_at hl 0 rfl) ?_
  refine gt_X0_counts E fl_X0_34 hP dX0_tally_1 ?_
  refine lv_iload_n E.1.1 E.1.2.1 dX0_tally_4 rfl (lv_at hl 1 rfl) ?_
  refine ld_CS_Ct (i := i) E hP (by omega) dX0_tally_5 ?_
  exact CM.reti E hr hlk hA hP hS rfl dX0_tally_6
set_option maxRecDepth 100000 in
set_option maxHeartbeats 400000 in
theorem c_X0_valuePutOut (l : Launch) (D : va_G) (cI cJ cZ : ClassId) (ad : Nat → Nat) (σ : CS) (i : Nat)  (hi : i < 40) : CM l D (t3 cI cJ cZ) yX0_valuePutOut cX0_valuePutOut 2 (some .int) 0 [.ref (ad 3), .int (nI i)] (wC ad cI cJ cZ σ) (some (.int (gcPo σ i))) (wC ad cI cJ cZ σ) := by
  refine CM.of (by decide) (Nat.le_of_ble_eq_true rfl) ?_
  intro p e s m below meth c A ls E hr hlk hP hD0 hA hA2 hS hl
  have hD := wC_D hD0
  have hl : lv_has ls 2 [(0, .ref (ad 3)), (1, .int (nI i))] := hl
  refine lv_aload_n E.1.1 E.1.2.1 dX0_valuePutOut_0 rfl (lv_at hl 0 rfl) ?_
  refine gt_X0_putOut E fl_X0_31 hP dX0_valuePutOut_1 ?_
  refine lv_iload_n E.1.1 E.1.2.1 dX0_valuePutOut_4 rfl (lv_at hl 1 rfl) ?_
  refine ld_CS_Po (i := i) E hP (by omega) dX0_valuePutOut_5 ?_
  exact CM.reti E hr hlk hA hP hS rfl dX0_valuePutOut_6
set_option maxRecDepth 100000 in
set_option maxHeartbeats 400000 in
theorem c_X0_isObject (l : Launch) (D : va_G) (cI cJ cZ : ClassId) (ad : Nat → Nat) (σ : CS) (v : Val)  (hv : ∀ k, v = .inr k → k < 401) : CM l D (t3 cI cJ cZ) yX0_isObject cX0_isObject 2 (some .boolean) 0 [.long (vJ v)] (wC ad cI cJ cZ σ) (some (.int (bI (objI v)))) (wC ad cI cJ cZ σ) := by
  refine CM.of (by decide) (Nat.le_of_ble_eq_true rfl) ?_
  intro p e s m below meth c A ls E hr hlk hP hD0 hA hA2 hS hl
  have hD := wC_D hD0
  have hl : lv_has ls 2 [(0, .long (vJ v))] := hl
  refine lv_lload_n E.1.1 E.1.2.1 dX0_isObject_0 rfl (lv_at hl 0 rfl) ?_
  refine lv_ldc2 E.1.1 E.1.2.1 E.1.2.2.2.1 (E.1.2.2.2.2 _ (List.mem_cons_of_mem _ kl_X0_142)) dX0_isObject_1 ?_
  refine W.lcmp E.1.1 E.1.2.1 dX0_isObject_4 ?_
  refine lv_if_lt (tgt := 12) E.1.1 E.1.2.1 dX0_isObject_5 (by decide) (fun h5 => ?_) (fun h5 => ?_)
  · refine lv_iconst (v := nI 0) E.1.1 E.1.2.1 dX0_isObject_12 rfl ?_
    exact CM.retz E hr hlk hA hP hS (er_f (by first | exact (cmp_obj hv).mp h5 | exact ts_nf9 (fun z => h5 ((cmp_obj hv).mpr z)))) rfl dX0_isObject_13
  · refine lv_iconst (v := nI 1) E.1.1 E.1.2.1 dX0_isObject_8 rfl ?_
    refine lv_goto (tgt := 13) E.1.1 E.1.2.1 dX0_isObject_9 (by decide) ?_
    exact CM.retz E hr hlk hA hP hS (er_t (by first | exact (cmp_obj hv).mp h5 | exact ts_nf9 (fun z => h5 ((cmp_obj hv).mpr z)))) rfl dX0_isObject_13
set_option maxRecDepth 100000 in
set_option maxHeartbeats 400000 in
theorem c_X0_objectOf (l : Launch) (D : va_G) (cI cJ cZ : ClassId) (ad : Nat → Nat) (σ : CS) (v : Val) (k : Nat) (hv : v = .inr k) (hk : k < 401) : CM l D (t3 cI cJ cZ) yX0_objectOf cX0_objectOf 2 (some .int) 0 [.long (vJ v)] (wC ad cI cJ cZ σ) (some (.int (nI k))) (wC ad cI cJ cZ σ) := by
  refine CM.of (by decide) (Nat.le_of_ble_eq_true rfl) ?_
  intro p e s m below meth c A ls E hr hlk hP hD0 hA hA2 hS hl
  have hD := wC_D hD0
  have hl : lv_has ls 2 [(0, .long (vJ v))] := hl
  refine lv_lload_n E.1.1 E.1.2.1 dX0_objectOf_0 rfl (lv_at hl 0 rfl) ?_
  refine lv_ldc2 E.1.1 E.1.2.1 E.1.2.2.2.1 (E.1.2.2.2.2 _ (List.mem_cons_of_mem _ kl_X0_142)) dX0_objectOf_1 ?_
  refine lv_lsub E.1.1 E.1.2.1 dX0_objectOf_4 ?_
  refine lv_l2i (v := ((vJ v) - 4294967296).toInt32) E.1.1 E.1.2.1 dX0_objectOf_5 rfl ?_
  exact CM.reti E hr hlk hA hP hS (by subst hv; rw [sub_obj hk]) dX0_objectOf_6
set_option maxRecDepth 100000 in
set_option maxHeartbeats 400000 in
theorem c_X0_countCall (l : Launch) (D : va_G) (cI cJ cZ : ClassId) (ad : Nat → Nat) (σ : CS) (v : Nat)  (hv : v ≤ 6) : CM l D (t3 cI cJ cZ) yX0_countCall cX0_countCall 2 none 0 [.ref (ad 3), .int (nI v)] (wC ad cI cJ cZ σ) (none) (wC ad cI cJ cZ (ccF v σ)) := by
  refine CM.of (by decide) (Nat.le_of_ble_eq_true rfl) ?_
  intro p e s m below meth c A ls E hr hlk hP hD0 hA hA2 hS hl
  have hD := wC_D hD0
  have hl : lv_has ls 2 [(0, .ref (ad 3)), (1, .int (nI v))] := hl
  refine lv_iload_n E.1.1 E.1.2.1 dX0_countCall_0 rfl (lv_at hl 1 rfl) ?_
  refine lv_iconst (v := nI 2) E.1.1 E.1.2.1 dX0_countCall_1 rfl ?_
  refine nv_icmp_eq (by omega) (by omega) E dX0_countCall_2 (tgt := 20) (by decide) (fun h2 => ?_) (fun h2 => ?_)
  · refine lv_iload_n E.1.1 E.1.2.1 dX0_countCall_20 rfl (lv_at hl 1 rfl) ?_
    refine lv_iconst (v := nI 3) E.1.1 E.1.2.1 dX0_countCall_21 rfl ?_
    refine nv_icmp_eq (by omega) (by omega) E dX0_countCall_22 (tgt := 35) (by decide) (fun h22 => ?_) (fun h22 => ?_)
    · exact CM.retv E hr hlk hA (by unfold ccF; first | (exfalso; omega) | (rw [if_pos h2]; exact hP) | (rw [if_neg h2, if_pos h7]; exact hP) | (rw [if_neg h2, if_neg h7]; exact hP)) hS rfl dX0_countCall_35
    · refine lv_aload_n E.1.1 E.1.2.1 dX0_countCall_25 rfl (lv_at hl 0 rfl) ?_
      refine gt_X0_counts E fl_X0_34 hP dX0_countCall_26 ?_
      refine lv_iconst (v := nI 3) E.1.1 E.1.2.1 dX0_countCall_29 rfl ?_
      refine lv_dup2_11 E.1.1 E.1.2.1 dX0_countCall_30 rfl rfl ?_
      refine ld_CS_Ct (i := 3) E hP (by omega) dX0_countCall_31 ?_
      refine lv_iconst (v := nI 1) E.1.1 E.1.2.1 dX0_countCall_32 rfl ?_
      refine nv_iadd E dX0_countCall_33 ?_
      refine as_CS_Ct (i := 3) (v := (gcCt σ 3) + 1) E hP hD hS (by omega) dX0_countCall_34 (fun H locs hP hS => ?_)
      exact CM.retv E hr hlk hA (by unfold ccF; first | (exfalso; omega) | (rw [if_pos h2]; exact hP) | (rw [if_neg h2, if_pos h7]; exact hP) | (rw [if_neg h2, if_neg h7]; exact hP)) hS rfl dX0_countCall_35
  · refine lv_iload_n E.1.1 E.1.2.1 dX0_countCall_5 rfl (lv_at hl 1 rfl) ?_
    refine lv_iconst (v := nI 3) E.1.1 E.1.2.1 dX0_countCall_6 rfl ?_
    refine nv_icmp_eq (by omega) (by omega) E dX0_countCall_7 (tgt := 20) (by decide) (fun h7 => ?_) (fun h7 => ?_)
    · refine lv_iload_n E.1.1 E.1.2.1 dX0_countCall_20 rfl (lv_at hl 1 rfl) ?_
      refine lv_iconst (v := nI 3) E.1.1 E.1.2.1 dX0_countCall_21 rfl ?_
      refine nv_icmp_eq (by omega) (by omega) E dX0_countCall_22 (tgt := 35) (by decide) (fun h22 => ?_) (fun h22 => ?_)
      · exact CM.retv E hr hlk hA (by unfold ccF; first | (exfalso; omega) | (rw [if_pos h2]; exact hP) | (rw [if_neg h2, if_pos h7]; exact hP) | (rw [if_neg h2, if_neg h7]; exact hP)) hS rfl dX0_countCall_35
      · refine lv_aload_n E.1.1 E.1.2.1 dX0_countCall_25 rfl (lv_at hl 0 rfl) ?_
        refine gt_X0_counts E fl_X0_34 hP dX0_countCall_26 ?_
        refine lv_iconst (v := nI 3) E.1.1 E.1.2.1 dX0_countCall_29 rfl ?_
        refine lv_dup2_11 E.1.1 E.1.2.1 dX0_countCall_30 rfl rfl ?_
        refine ld_CS_Ct (i := 3) E hP (by omega) dX0_countCall_31 ?_
        refine lv_iconst (v := nI 1) E.1.1 E.1.2.1 dX0_countCall_32 rfl ?_
        refine nv_iadd E dX0_countCall_33 ?_
        refine as_CS_Ct (i := 3) (v := (gcCt σ 3) + 1) E hP hD hS (by omega) dX0_countCall_34 (fun H locs hP hS => ?_)
        exact CM.retv E hr hlk hA (by unfold ccF; first | (exfalso; omega) | (rw [if_pos h2]; exact hP) | (rw [if_neg h2, if_pos h7]; exact hP) | (rw [if_neg h2, if_neg h7]; exact hP)) hS rfl dX0_countCall_35
    · refine lv_aload_n E.1.1 E.1.2.1 dX0_countCall_10 rfl (lv_at hl 0 rfl) ?_
      refine gt_X0_counts E fl_X0_34 hP dX0_countCall_11 ?_
      refine lv_iconst (v := nI 2) E.1.1 E.1.2.1 dX0_countCall_14 rfl ?_
      refine lv_dup2_11 E.1.1 E.1.2.1 dX0_countCall_15 rfl rfl ?_
      refine ld_CS_Ct (i := 2) E hP (by omega) dX0_countCall_16 ?_
      refine lv_iconst (v := nI 1) E.1.1 E.1.2.1 dX0_countCall_17 rfl ?_
      refine nv_iadd E dX0_countCall_18 ?_
      refine as_CS_Ct (i := 2) (v := (gcCt σ 2) + 1) E hP hD hS (by omega) dX0_countCall_19 (fun H locs hP hS => ?_)
      refine lv_iload_n E.1.1 E.1.2.1 dX0_countCall_20 rfl (lv_at hl 1 rfl) ?_
      refine lv_iconst (v := nI 3) E.1.1 E.1.2.1 dX0_countCall_21 rfl ?_
      refine nv_icmp_eq (by omega) (by omega) E dX0_countCall_22 (tgt := 35) (by decide) (fun h22 => ?_) (fun h22 => ?_)
      · exact CM.retv E hr hlk hA (by unfold ccF; first | (exfalso; omega) | (rw [if_pos h2]; exact hP) | (rw [if_neg h2, if_pos h7]; exact hP) | (rw [if_neg h2, if_neg h7]; exact hP)) hS rfl dX0_countCall_35
      · refine lv_aload_n E.1.1 E.1.2.1 dX0_countCall_25 rfl (lv_at hl 0 rfl) ?_
        refine gt_X0_counts E fl_X0_34 hP dX0_countCall_26 ?_
        refine lv_iconst (v := nI 3) E.1.1 E.1.2.1 dX0_countCall_29 rfl ?_
        refine lv_dup2_11 E.1.1 E.1.2.1 dX0_countCall_30 rfl rfl ?_
        refine ld_CS_Ct (i := 3) E hP (by omega) dX0_countCall_31 ?_
        refine lv_iconst (v := nI 1) E.1.1 E.1.2.1 dX0_countCall_32 rfl ?_
        refine nv_iadd E dX0_countCall_33 ?_
        refine as_CS_Ct (i := 3) (v := (gcCt (scCt σ (va_up (gcCt σ) 2 ((gcCt σ 2) + 1))) 3) + 1) E hP hD hS (by omega) dX0_countCall_34 (fun H locs hP hS => ?_)
        exact CM.retv E hr hlk hA (by unfold ccF; first | (exfalso; omega) | (rw [if_pos h2]; exact hP) | (rw [if_neg h2, if_pos h7]; exact hP) | (rw [if_neg h2, if_neg h7]; exact hP)) hS rfl dX0_countCall_35
set_option maxRecDepth 100000 in
set_option maxHeartbeats 400000 in
theorem c_X0_answer (l : Launch) (D : va_G) (cI cJ cZ : ClassId) (ad : Nat → Nat) (σ : CS) (v : Val)  (hf : 0 < gcfr σ) (hf2 : gcfr σ ≤ 12) (hA9 : ∀ i, gcAn σ i < 72) : CM l D (t3 cI cJ cZ) yX0_answer cX0_answer 3 none 0 [.ref (ad 3), .long (vJ v)] (wC ad cI cJ cZ σ) (none) (wC ad cI cJ cZ (anF v σ)) := by
  refine CM.of (by decide) (Nat.le_of_ble_eq_true rfl) ?_
  intro p e s m below meth c A ls E hr hlk hP hD0 hA hA2 hS hl
  have hD := wC_D hD0
  have hl : lv_has ls 3 [(0, .ref (ad 3)), (1, .long (vJ v))] := hl
  refine lv_aload_n E.1.1 E.1.2.1 dX0_answer_0 rfl (lv_at hl 0 rfl) ?_
  refine lv_dup E.1.1 E.1.2.1 dX0_answer_1 rfl ?_
  refine gt_X0_frames E fl_X0_53 hP dX0_answer_2 ?_
  refine lv_iconst (v := nI 1) E.1.1 E.1.2.1 dX0_answer_5 rfl ?_
  refine nv_isub (by omega) E dX0_answer_6 ?_
  refine pt_X0_frames (v := (gcfr σ) - 1) E fl_X0_53 hP hD hS dX0_answer_7 (fun H locs hP hS => ?_)
  refine lv_aload_n E.1.1 E.1.2.1 dX0_answer_10 rfl (lv_at hl 0 rfl) ?_
  refine gt_X0_frames E fl_X0_53 hP dX0_answer_11 ?_
  refine nv_if_le (by show gcfr σ - 1 < 2147483648; omega) E dX0_answer_14 (tgt := 32) (by decide) (fun h14 => ?_) (fun h14 => ?_)
  · exact CM.retv E hr hlk hA (by unfold anF; first | (rw [if_neg (show ¬ 0 < gcfr σ - 1 from (by have e9 : gcfr σ - 1 = 0 := h14; omega))]; exact hP) | (rw [if_pos (show 0 < gcfr σ - 1 from h14)]; exact hP)) hS rfl dX0_answer_32
  · refine lv_aload_n E.1.1 E.1.2.1 dX0_answer_17 rfl (lv_at hl 0 rfl) ?_
    refine gt_X0_registers E fl_X0_9 hP dX0_answer_18 ?_
    refine lv_aload_n E.1.1 E.1.2.1 dX0_answer_21 rfl (lv_at hl 0 rfl) ?_
    refine gt_X0_answersTo E fl_X0_22 hP dX0_answer_22 ?_
    refine lv_aload_n E.1.1 E.1.2.1 dX0_answer_25 rfl (lv_at hl 0 rfl) ?_
    refine gt_X0_frames E fl_X0_53 hP dX0_answer_26 ?_
    refine ld_CS_An (i := gcfr (scfr σ ((gcfr σ) - 1))) E hP (by show gcfr σ - 1 < 12; omega) dX0_answer_29 ?_
    refine lv_lload_n E.1.1 E.1.2.1 dX0_answer_30 rfl (lv_at hl 1 rfl) ?_
    refine as_CS_Rg (i := gcAn (scfr σ ((gcfr σ) - 1)) (gcfr (scfr σ ((gcfr σ) - 1)))) (v := v) E hP hD hS (hA9 _) dX0_answer_31 (fun H locs hP hS => ?_)
    exact CM.retv E hr hlk hA (by unfold anF; first | (rw [if_neg (show ¬ 0 < gcfr σ - 1 from (by have e9 : gcfr σ - 1 = 0 := h14; omega))]; exact hP) | (rw [if_pos (show 0 < gcfr σ - 1 from h14)]; exact hP)) hS rfl dX0_answer_32
set_option maxRecDepth 100000 in
set_option maxHeartbeats 400000 in
theorem c_X0_reckon (l : Launch) (D : va_G) (cI cJ cZ : ClassId) (ad : Nat → Nat) (σ : CS) (pl : Nat) (ba : Nat)  (hpl : pl < 240) (hba : ba ≤ 66) (hR : RI σ) (hk : gcK σ pl = 2 ∨ gcK σ pl = 3) : CM l D (t3 cI cJ cZ) yX0_reckon cX0_reckon 7 none 1 [.ref (ad 3), .int (nI pl), .int (nI ba)] (wC ad cI cJ cZ σ) (none) (wC ad cI cJ cZ (rkF pl ba σ)) := by
  refine CM.of (by decide) (Nat.le_of_ble_eq_true rfl) ?_
  intro p e s m below meth c A ls E hr hlk hP hD0 hA hA2 hS hl
  have hD := wC_D hD0
  have hl : lv_has ls 7 [(0, .ref (ad 3)), (1, .int (nI pl)), (2, .int (nI ba))] := hl
  refine lv_aload_n E.1.1 E.1.2.1 dX0_reckon_0 rfl (lv_at hl 0 rfl) ?_
  refine gt_X0_registers E fl_X0_9 hP dX0_reckon_1 ?_
  refine lv_iload_n E.1.1 E.1.2.1 dX0_reckon_4 rfl (lv_at hl 2 rfl) ?_
  refine lv_aload_n E.1.1 E.1.2.1 dX0_reckon_5 rfl (lv_at hl 0 rfl) ?_
  refine gt_X0_program E fl_X0_37 hP dX0_reckon_6 ?_
  refine lv_iload_n E.1.1 E.1.2.1 dX0_reckon_9 rfl (lv_at hl 1 rfl) ?_
  refine CM.callVi (n := 1) E (c_X1_y l D cI cJ cZ ad σ pl (by omega)) ml_X0_117 im_X1_y se_X1_y ini_X1 co_X1_y hd_X1_y ⟨Nat.le_of_ble_eq_true rfl, Nat.le_of_ble_eq_true rfl⟩ ⟨Nat.le_refl _, Nat.le_refl _⟩ 1 rfl rfl hP (hD _) hS hA2 rfl hl.1 (Nat.le_of_ble_eq_true rfl) dX0_reckon_10 rfl (fun H locs hP hS => ?_)
  refine tpi (y := nI (yN σ pl)) ((WI_y hR.1.2 (by omega)).1) ?_
  refine nv_iadd E dX0_reckon_13 ?_
  refine ld_CS_Rg (i := ba + (yN σ pl)) E hP (by have := (WI_y hR.1.2 (p := pl) (by omega)).2; omega) dX0_reckon_14 ?_
  refine lv_lstore_n (lv' := [(3, .long (vJ (gcRg σ (ba + (yN σ pl))))), (0, .ref (ad 3)), (1, .int (nI pl)), (2, .int (nI ba))]) E.1.1 E.1.2.1 dX0_reckon_15 rfl hl (by decide) rfl (fun ls hl => ?_)
  refine lv_aload_n E.1.1 E.1.2.1 dX0_reckon_16 rfl (lv_at hl 1 rfl) ?_
  refine gt_X0_registers E fl_X0_9 hP dX0_reckon_17 ?_
  refine lv_iload_n E.1.1 E.1.2.1 dX0_reckon_20 rfl (lv_at hl 3 rfl) ?_
  refine lv_aload_n E.1.1 E.1.2.1 dX0_reckon_21 rfl (lv_at hl 1 rfl) ?_
  refine gt_X0_program E fl_X0_37 hP dX0_reckon_22 ?_
  refine lv_iload_n E.1.1 E.1.2.1 dX0_reckon_25 rfl (lv_at hl 2 rfl) ?_
  refine CM.callVi (n := 1) E (c_X1_z l D cI cJ cZ ad σ pl (by omega)) ml_X0_144 im_X1_z se_X1_z ini_X1 co_X1_z hd_X1_z ⟨Nat.le_of_ble_eq_true rfl, Nat.le_of_ble_eq_true rfl⟩ ⟨Nat.le_refl _, Nat.le_refl _⟩ 1 rfl rfl hP (hD _) hS hA2 rfl hl.1 (Nat.le_of_ble_eq_true rfl) dX0_reckon_26 rfl (fun H locs hP hS => ?_)
  refine tpi (y := nI (zN σ pl)) ((WI_z6 hR.1.2 hk).1) ?_
  refine nv_iadd E dX0_reckon_29 ?_
  refine ld_CS_Rg (i := ba + (zN σ pl)) E hP (by have := (WI_z6 hR.1.2 hk).2; omega) dX0_reckon_30 ?_
  refine lv_lstore (lv' := [(5, .long (vJ (gcRg σ (ba + (zN σ pl))))), (3, .long (vJ (gcRg σ (ba + (yN σ pl))))), (0, .ref (ad 3)), (1, .int (nI pl)), (2, .int (nI ba))]) E.1.1 E.1.2.1 dX0_reckon_31 hl (by decide) rfl (fun ls hl => ?_)
  refine lv_lload_n E.1.1 E.1.2.1 dX0_reckon_33 rfl (lv_at hl 1 rfl) ?_
  refine CM.callSi (n := 1) E (c_X0_isObject l D cI cJ cZ ad σ (gcRg σ (ba + (yN σ pl))) (fun k9 hk9 => hR.2.2.2.1.1 _ k9 hk9)) ml_X0_147 st_X0_isObject ini_X0 co_X0_isObject hd_X0_isObject ⟨Nat.le_of_ble_eq_true rfl, Nat.le_of_ble_eq_true rfl⟩ ⟨Nat.le_refl _, Nat.le_refl _⟩ hP (hD _) hS hA2 rfl hl.1 (Nat.le_of_ble_eq_true rfl) dX0_reckon_34 rfl (fun H locs hP hS => ?_)
  refine bv_if_ne (x := objI (gcRg σ (ba + (yN σ pl)))) E dX0_reckon_37 (tgt := 48) (by decide) (fun h37 => ?_) (fun h37 => ?_)
  · refine lv_aload_n E.1.1 E.1.2.1 dX0_reckon_48 rfl (lv_at hl 2 rfl) ?_
    refine lv_iconst (v := nI 1) E.1.1 E.1.2.1 dX0_reckon_49 rfl ?_
    refine pt_X0_trap (v := 1) E fl_X0_59 hP hD hS dX0_reckon_50 (fun H locs hP hS => ?_)
    refine lv_goto (tgt := 120) E.1.1 E.1.2.1 dX0_reckon_53 (by decide) ?_
    exact CM.retv E hr hlk hA (by first | (obtain ⟨k9, hk9⟩ := objI_t h37; simp only [rkF, hk9]; exact hP) | (obtain ⟨k9, hk9⟩ := objI_t h45; simp only [rkF, ha1, hk9]; exact hP) | (simp only [rkF, ha1, ha2, if_pos h65]; exact hP) | (simp only [rkF, ha1, ha2, if_neg h65, if_pos h111]; exact hP) | (simp only [rkF, ha1, ha2, if_neg h65, if_neg h111]; exact hP)) hS rfl dX0_reckon_120
  · obtain ⟨a1, ha1⟩ := objI_f h37
    have hl : lv_has ls 7 [(5, .long (vJ (gcRg σ (ba + (zN σ pl))))), (3, .long (vJ (.inl a1))), (0, .ref (ad 3)), (1, .int (nI pl)), (2, .int (nI ba))] := by have q9 := hl; rw [ha1] at q9; exact q9
    refine lv_lload E.1.1 E.1.2.1 dX0_reckon_40 (lv_at hl 0 rfl) ?_
    refine CM.callSi (n := 1) E (c_X0_isObject l D cI cJ cZ ad σ (gcRg σ (ba + (zN σ pl))) (fun k9 hk9 => hR.2.2.2.1.1 _ k9 hk9)) ml_X0_147 st_X0_isObject ini_X0 co_X0_isObject hd_X0_isObject ⟨Nat.le_of_ble_eq_true rfl, Nat.le_of_ble_eq_true rfl⟩ ⟨Nat.le_refl _, Nat.le_refl _⟩ hP (hD _) hS hA2 rfl hl.1 (Nat.le_of_ble_eq_true rfl) dX0_reckon_42 rfl (fun H locs hP hS => ?_)
    refine bv_if_eq (x := objI (gcRg σ (ba + (zN σ pl)))) E dX0_reckon_45 (tgt := 56) (by decide) (fun h45 => ?_) (fun h45 => ?_)
    · obtain ⟨a2, ha2⟩ := objI_f h45
      have hl : lv_has ls 7 [(5, .long (vJ (.inl a2))), (3, .long (vJ (.inl a1))), (0, .ref (ad 3)), (1, .int (nI pl)), (2, .int (nI ba))] := by have q9 := hl; rw [ha2] at q9; exact q9
      refine lv_aload_n E.1.1 E.1.2.1 dX0_reckon_56 rfl (lv_at hl 2 rfl) ?_
      refine gt_X0_program E fl_X0_37 hP dX0_reckon_57 ?_
      refine lv_iload_n E.1.1 E.1.2.1 dX0_reckon_60 rfl (lv_at hl 3 rfl) ?_
      refine CM.callVi (n := 1) E (c_X1_kind l D cI cJ cZ ad σ pl (by omega)) ml_X0_114 im_X1_kind se_X1_kind ini_X1 co_X1_kind hd_X1_kind ⟨Nat.le_of_ble_eq_true rfl, Nat.le_of_ble_eq_true rfl⟩ ⟨Nat.le_refl _, Nat.le_refl _⟩ 1 rfl rfl hP (hD _) hS hA2 rfl hl.1 (Nat.le_of_ble_eq_true rfl) dX0_reckon_61 rfl (fun H locs hP hS => ?_)
      refine lv_iconst (v := nI 2) E.1.1 E.1.2.1 dX0_reckon_64 rfl ?_
      refine nv_icmp_ne (by omega) (by omega) E dX0_reckon_65 (tgt := 93) (by decide) (fun h65 => ?_) (fun h65 => ?_)
      · refine lv_aload_n E.1.1 E.1.2.1 dX0_reckon_93 rfl (lv_at hl 2 rfl) ?_
        refine gt_X0_registers E fl_X0_9 hP dX0_reckon_94 ?_
        refine lv_iload_n E.1.1 E.1.2.1 dX0_reckon_97 rfl (lv_at hl 4 rfl) ?_
        refine lv_aload_n E.1.1 E.1.2.1 dX0_reckon_98 rfl (lv_at hl 2 rfl) ?_
        refine gt_X0_program E fl_X0_37 hP dX0_reckon_99 ?_
        refine lv_iload_n E.1.1 E.1.2.1 dX0_reckon_102 rfl (lv_at hl 3 rfl) ?_
        refine CM.callVi (n := 1) E (c_X1_x l D cI cJ cZ ad σ pl (by omega)) ml_X0_111 im_X1_x se_X1_x ini_X1 co_X1_x hd_X1_x ⟨Nat.le_of_ble_eq_true rfl, Nat.le_of_ble_eq_true rfl⟩ ⟨Nat.le_refl _, Nat.le_refl _⟩ 1 rfl rfl hP (hD _) hS hA2 rfl hl.1 (Nat.le_of_ble_eq_true rfl) dX0_reckon_103 rfl (fun H locs hP hS => ?_)
        refine nv_iadd E dX0_reckon_106 ?_
        refine lv_lload_n E.1.1 E.1.2.1 dX0_reckon_107 rfl (lv_at hl 1 rfl) ?_
        refine lv_lload E.1.1 E.1.2.1 dX0_reckon_108 (lv_at hl 0 rfl) ?_
        refine W.lcmp E.1.1 E.1.2.1 dX0_reckon_110 ?_
        refine lv_if_ge (tgt := 118) E.1.1 E.1.2.1 dX0_reckon_111 (by decide) (fun h111 => ?_) (fun h111 => ?_)
        · have h111 := (cmp_ll a1 a2).mp h111
          refine lv_lconst (v := vJ (.inl 0)) E.1.1 E.1.2.1 dX0_reckon_118 rfl ?_
          refine as_CS_Rg (i := ba + (gcX σ pl)) (v := (.inl 0)) E hP hD hS (by have := hR.1.1.2.2.2.1 pl; omega) dX0_reckon_119 (fun H locs hP hS => ?_)
          exact CM.retv E hr hlk hA (by first | (obtain ⟨k9, hk9⟩ := objI_t h37; simp only [rkF, hk9]; exact hP) | (obtain ⟨k9, hk9⟩ := objI_t h45; simp only [rkF, ha1, hk9]; exact hP) | (simp only [rkF, ha1, ha2, if_pos h65]; exact hP) | (simp only [rkF, ha1, ha2, if_neg h65, if_pos h111]; exact hP) | (simp only [rkF, ha1, ha2, if_neg h65, if_neg h111]; exact hP)) hS rfl dX0_reckon_120
        · have h111 := Decidable.not_not.mp (fun z => h111 ((cmp_ll a1 a2).mpr z))
          refine lv_lconst (v := vJ (.inl 1)) E.1.1 E.1.2.1 dX0_reckon_114 rfl ?_
          refine lv_goto (tgt := 119) E.1.1 E.1.2.1 dX0_reckon_115 (by decide) ?_
          refine as_CS_Rg (i := ba + (gcX σ pl)) (v := (.inl 1)) E hP hD hS (by have := hR.1.1.2.2.2.1 pl; omega) dX0_reckon_119 (fun H locs hP hS => ?_)
          exact CM.retv E hr hlk hA (by first | (obtain ⟨k9, hk9⟩ := objI_t h37; simp only [rkF, hk9]; exact hP) | (obtain ⟨k9, hk9⟩ := objI_t h45; simp only [rkF, ha1, hk9]; exact hP) | (simp only [rkF, ha1, ha2, if_pos h65]; exact hP) | (simp only [rkF, ha1, ha2, if_neg h65, if_pos h111]; exact hP) | (simp only [rkF, ha1, ha2, if_neg h65, if_neg h111]; exact hP)) hS rfl dX0_reckon_120
      · refine lv_aload_n E.1.1 E.1.2.1 dX0_reckon_68 rfl (lv_at hl 2 rfl) ?_
        refine gt_X0_registers E fl_X0_9 hP dX0_reckon_69 ?_
        refine lv_iload_n E.1.1 E.1.2.1 dX0_reckon_72 rfl (lv_at hl 4 rfl) ?_
        refine lv_aload_n E.1.1 E.1.2.1 dX0_reckon_73 rfl (lv_at hl 2 rfl) ?_
        refine gt_X0_program E fl_X0_37 hP dX0_reckon_74 ?_
        refine lv_iload_n E.1.1 E.1.2.1 dX0_reckon_77 rfl (lv_at hl 3 rfl) ?_
        refine CM.callVi (n := 1) E (c_X1_x l D cI cJ cZ ad σ pl (by omega)) ml_X0_111 im_X1_x se_X1_x ini_X1 co_X1_x hd_X1_x ⟨Nat.le_of_ble_eq_true rfl, Nat.le_of_ble_eq_true rfl⟩ ⟨Nat.le_refl _, Nat.le_refl _⟩ 1 rfl rfl hP (hD _) hS hA2 rfl hl.1 (Nat.le_of_ble_eq_true rfl) dX0_reckon_78 rfl (fun H locs hP hS => ?_)
        refine nv_iadd E dX0_reckon_81 ?_
        refine lv_lload_n E.1.1 E.1.2.1 dX0_reckon_82 rfl (lv_at hl 1 rfl) ?_
        refine lv_l2i (v := (vJ (.inl a1)).toInt32) E.1.1 E.1.2.1 dX0_reckon_83 rfl ?_
        refine tpi (y := a1) (l2i_l a1) ?_
        refine lv_lload E.1.1 E.1.2.1 dX0_reckon_84 (lv_at hl 0 rfl) ?_
        refine lv_l2i (v := (vJ (.inl a2)).toInt32) E.1.1 E.1.2.1 dX0_reckon_86 rfl ?_
        refine tpi (y := a2) (l2i_l a2) ?_
        refine lv_iadd E.1.1 E.1.2.1 dX0_reckon_87 ?_
        refine lv_i2l (v := vJ (.inl (a1 + a2))) E.1.1 E.1.2.1 dX0_reckon_88 rfl ?_
        refine as_CS_Rg (i := ba + (gcX σ pl)) (v := .inl (a1 + a2)) E hP hD hS (by have := hR.1.1.2.2.2.1 pl; omega) dX0_reckon_89 (fun H locs hP hS => ?_)
        refine lv_goto (tgt := 120) E.1.1 E.1.2.1 dX0_reckon_90 (by decide) ?_
        exact CM.retv E hr hlk hA (by first | (obtain ⟨k9, hk9⟩ := objI_t h37; simp only [rkF, hk9]; exact hP) | (obtain ⟨k9, hk9⟩ := objI_t h45; simp only [rkF, ha1, hk9]; exact hP) | (simp only [rkF, ha1, ha2, if_pos h65]; exact hP) | (simp only [rkF, ha1, ha2, if_neg h65, if_pos h111]; exact hP) | (simp only [rkF, ha1, ha2, if_neg h65, if_neg h111]; exact hP)) hS rfl dX0_reckon_120
    · refine lv_aload_n E.1.1 E.1.2.1 dX0_reckon_48 rfl (lv_at hl 2 rfl) ?_
      refine lv_iconst (v := nI 1) E.1.1 E.1.2.1 dX0_reckon_49 rfl ?_
      refine pt_X0_trap (v := 1) E fl_X0_59 hP hD hS dX0_reckon_50 (fun H locs hP hS => ?_)
      refine lv_goto (tgt := 120) E.1.1 E.1.2.1 dX0_reckon_53 (by decide) ?_
      exact CM.retv E hr hlk hA (by first | (obtain ⟨k9, hk9⟩ := objI_t h37; simp only [rkF, hk9]; exact hP) | (obtain ⟨k9, hk9⟩ := objI_t h45; simp only [rkF, ha1, hk9]; exact hP) | (simp only [rkF, ha1, ha2, if_pos h65]; exact hP) | (simp only [rkF, ha1, ha2, if_neg h65, if_pos h111]; exact hP) | (simp only [rkF, ha1, ha2, if_neg h65, if_neg h111]; exact hP)) hS rfl dX0_reckon_120
set_option maxRecDepth 100000 in
set_option maxHeartbeats 400000 in
theorem c_X0_readField (l : Launch) (D : va_G) (cI cJ cZ : ClassId) (ad : Nat → Nat) (σ : CS) (pl : Nat) (ba : Nat)  (hpl : pl < 240) (hba : ba ≤ 66) (hR : RI σ) (hk : gcK σ pl = 5) : CM l D (t3 cI cJ cZ) yX0_readField cX0_readField 5 none 1 [.ref (ad 3), .int (nI pl), .int (nI ba)] (wC ad cI cJ cZ σ) (none) (wC ad cI cJ cZ (rfF pl ba σ)) := by
  refine CM.of (by decide) (Nat.le_of_ble_eq_true rfl) ?_
  intro p e s m below meth c A ls E hr hlk hP hD0 hA hA2 hS hl
  have hD := wC_D hD0
  have hl : lv_has ls 5 [(0, .ref (ad 3)), (1, .int (nI pl)), (2, .int (nI ba))] := hl
  refine lv_aload_n E.1.1 E.1.2.1 dX0_readField_0 rfl (lv_at hl 0 rfl) ?_
  refine gt_X0_registers E fl_X0_9 hP dX0_readField_1 ?_
  refine lv_iload_n E.1.1 E.1.2.1 dX0_readField_4 rfl (lv_at hl 2 rfl) ?_
  refine lv_aload_n E.1.1 E.1.2.1 dX0_readField_5 rfl (lv_at hl 0 rfl) ?_
  refine gt_X0_program E fl_X0_37 hP dX0_readField_6 ?_
  refine lv_iload_n E.1.1 E.1.2.1 dX0_readField_9 rfl (lv_at hl 1 rfl) ?_
  refine CM.callVi (n := 1) E (c_X1_y l D cI cJ cZ ad σ pl (by omega)) ml_X0_117 im_X1_y se_X1_y ini_X1 co_X1_y hd_X1_y ⟨Nat.le_of_ble_eq_true rfl, Nat.le_of_ble_eq_true rfl⟩ ⟨Nat.le_refl _, Nat.le_refl _⟩ 1 rfl rfl hP (hD _) hS hA2 rfl hl.1 (Nat.le_of_ble_eq_true rfl) dX0_readField_10 rfl (fun H locs hP hS => ?_)
  refine tpi (y := nI (yN σ pl)) ((WI_y hR.1.2 (by omega)).1) ?_
  refine nv_iadd E dX0_readField_13 ?_
  refine ld_CS_Rg (i := ba + (yN σ pl)) E hP (by have := (WI_y hR.1.2 (p := pl) (by omega)).2; omega) dX0_readField_14 ?_
  refine lv_lstore_n (lv' := [(3, .long (vJ (gcRg σ (ba + (yN σ pl))))), (0, .ref (ad 3)), (1, .int (nI pl)), (2, .int (nI ba))]) E.1.1 E.1.2.1 dX0_readField_15 rfl hl (by decide) rfl (fun ls hl => ?_)
  refine lv_lload_n E.1.1 E.1.2.1 dX0_readField_16 rfl (lv_at hl 0 rfl) ?_
  refine CM.callSi (n := 1) E (c_X0_isObject l D cI cJ cZ ad σ (gcRg σ (ba + (yN σ pl))) (fun k9 hk9 => hR.2.2.2.1.1 _ k9 hk9)) ml_X0_147 st_X0_isObject ini_X0 co_X0_isObject hd_X0_isObject ⟨Nat.le_of_ble_eq_true rfl, Nat.le_of_ble_eq_true rfl⟩ ⟨Nat.le_refl _, Nat.le_refl _⟩ hP (hD _) hS hA2 rfl hl.1 (Nat.le_of_ble_eq_true rfl) dX0_readField_17 rfl (fun H locs hP hS => ?_)
  refine bv_if_eq (x := objI (gcRg σ (ba + (yN σ pl)))) E dX0_readField_20 (tgt := 61) (by decide) (fun h20 => ?_) (fun h20 => ?_)
  · refine lv_aload_n E.1.1 E.1.2.1 dX0_readField_61 rfl (lv_at hl 1 rfl) ?_
    refine lv_iconst (v := nI 1) E.1.1 E.1.2.1 dX0_readField_62 rfl ?_
    refine pt_X0_trap (v := 1) E fl_X0_59 hP hD hS dX0_readField_63 (fun H locs hP hS => ?_)
    exact CM.retv E hr hlk hA (by first | (obtain ⟨a9, ha9⟩ := objI_f h20; simp only [rfF, ha9]; exact hP) | (simp only [rfF, hk1]; exact hP)) hS rfl dX0_readField_66
  · obtain ⟨k1, hk1⟩ := objI_t h20
    have hk401 := hR.2.2.2.1.1 _ _ hk1
    have hl : lv_has ls 5 [(3, .long (vJ (.inr k1))), (0, .ref (ad 3)), (1, .int (nI pl)), (2, .int (nI ba))] := by have q9 := hl; rw [hk1] at q9; exact q9
    refine lv_aload_n E.1.1 E.1.2.1 dX0_readField_23 rfl (lv_at hl 1 rfl) ?_
    refine gt_X0_registers E fl_X0_9 hP dX0_readField_24 ?_
    refine lv_iload_n E.1.1 E.1.2.1 dX0_readField_27 rfl (lv_at hl 3 rfl) ?_
    refine lv_aload_n E.1.1 E.1.2.1 dX0_readField_28 rfl (lv_at hl 1 rfl) ?_
    refine gt_X0_program E fl_X0_37 hP dX0_readField_29 ?_
    refine lv_iload_n E.1.1 E.1.2.1 dX0_readField_32 rfl (lv_at hl 2 rfl) ?_
    refine CM.callVi (n := 1) E (c_X1_x l D cI cJ cZ ad σ pl (by omega)) ml_X0_111 im_X1_x se_X1_x ini_X1 co_X1_x hd_X1_x ⟨Nat.le_of_ble_eq_true rfl, Nat.le_of_ble_eq_true rfl⟩ ⟨Nat.le_refl _, Nat.le_refl _⟩ 1 rfl rfl hP (hD _) hS hA2 rfl hl.1 (Nat.le_of_ble_eq_true rfl) dX0_readField_33 rfl (fun H locs hP hS => ?_)
    refine nv_iadd E dX0_readField_36 ?_
    refine lv_aload_n E.1.1 E.1.2.1 dX0_readField_37 rfl (lv_at hl 1 rfl) ?_
    refine gt_X0_fields E fl_X0_28 hP dX0_readField_38 ?_
    refine lv_lload_n E.1.1 E.1.2.1 dX0_readField_41 rfl (lv_at hl 0 rfl) ?_
    refine CM.callSi (n := 1) E (c_X0_objectOf l D cI cJ cZ ad σ (.inr k1) k1 rfl hk401) ml_X0_159 st_X0_objectOf ini_X0 co_X0_objectOf hd_X0_objectOf ⟨Nat.le_of_ble_eq_true rfl, Nat.le_of_ble_eq_true rfl⟩ ⟨Nat.le_refl _, Nat.le_refl _⟩ hP (hD _) hS hA2 rfl hl.1 (Nat.le_of_ble_eq_true rfl) dX0_readField_42 rfl (fun H locs hP hS => ?_)
    refine lv_iconst (v := nI 3) E.1.1 E.1.2.1 dX0_readField_45 rfl ?_
    refine nv_imul E dX0_readField_46 ?_
    refine lv_aload_n E.1.1 E.1.2.1 dX0_readField_47 rfl (lv_at hl 1 rfl) ?_
    refine gt_X0_program E fl_X0_37 hP dX0_readField_48 ?_
    refine lv_iload_n E.1.1 E.1.2.1 dX0_readField_51 rfl (lv_at hl 2 rfl) ?_
    refine CM.callVi (n := 1) E (c_X1_z l D cI cJ cZ ad σ pl (by omega)) ml_X0_144 im_X1_z se_X1_z ini_X1 co_X1_z hd_X1_z ⟨Nat.le_of_ble_eq_true rfl, Nat.le_of_ble_eq_true rfl⟩ ⟨Nat.le_refl _, Nat.le_refl _⟩ 1 rfl rfl hP (hD _) hS hA2 rfl hl.1 (Nat.le_of_ble_eq_true rfl) dX0_readField_52 rfl (fun H locs hP hS => ?_)
    refine tpi (y := nI (zN σ pl)) ((WI_z3 hR.1.2 (by omega)).1) ?_
    refine nv_iadd E dX0_readField_55 ?_
    refine ld_CS_Fl (i := (k1 * 3) + (zN σ pl)) E hP (by have := (WI_z3 hR.1.2 (p := pl) (by omega)).2; omega) dX0_readField_56 ?_
    refine as_CS_Rg (i := ba + (gcX σ pl)) (v := gcFl σ ((k1 * 3) + (zN σ pl))) E hP hD hS (by have := hR.1.1.2.2.2.1 pl; omega) dX0_readField_57 (fun H locs hP hS => ?_)
    refine lv_goto (tgt := 66) E.1.1 E.1.2.1 dX0_readField_58 (by decide) ?_
    exact CM.retv E hr hlk hA (by first | (obtain ⟨a9, ha9⟩ := objI_f h20; simp only [rfF, ha9]; exact hP) | (simp only [rfF, hk1]; exact hP)) hS rfl dX0_readField_66
set_option maxRecDepth 100000 in
set_option maxHeartbeats 400000 in
theorem c_X0_writeField (l : Launch) (D : va_G) (cI cJ cZ : ClassId) (ad : Nat → Nat) (σ : CS) (pl : Nat) (ba : Nat)  (hpl : pl < 240) (hba : ba ≤ 66) (hR : RI σ) (hk : gcK σ pl = 6) : CM l D (t3 cI cJ cZ) yX0_writeField cX0_writeField 5 none 1 [.ref (ad 3), .int (nI pl), .int (nI ba)] (wC ad cI cJ cZ σ) (none) (wC ad cI cJ cZ (wfF2 pl ba σ)) := by
  refine CM.of (by decide) (Nat.le_of_ble_eq_true rfl) ?_
  intro p e s m below meth c A ls E hr hlk hP hD0 hA hA2 hS hl
  have hD := wC_D hD0
  have hl : lv_has ls 5 [(0, .ref (ad 3)), (1, .int (nI pl)), (2, .int (nI ba))] := hl
  refine lv_aload_n E.1.1 E.1.2.1 dX0_writeField_0 rfl (lv_at hl 0 rfl) ?_
  refine gt_X0_registers E fl_X0_9 hP dX0_writeField_1 ?_
  refine lv_iload_n E.1.1 E.1.2.1 dX0_writeField_4 rfl (lv_at hl 2 rfl) ?_
  refine lv_aload_n E.1.1 E.1.2.1 dX0_writeField_5 rfl (lv_at hl 0 rfl) ?_
  refine gt_X0_program E fl_X0_37 hP dX0_writeField_6 ?_
  refine lv_iload_n E.1.1 E.1.2.1 dX0_writeField_9 rfl (lv_at hl 1 rfl) ?_
  refine CM.callVi (n := 1) E (c_X1_x l D cI cJ cZ ad σ pl (by omega)) ml_X0_111 im_X1_x se_X1_x ini_X1 co_X1_x hd_X1_x ⟨Nat.le_of_ble_eq_true rfl, Nat.le_of_ble_eq_true rfl⟩ ⟨Nat.le_refl _, Nat.le_refl _⟩ 1 rfl rfl hP (hD _) hS hA2 rfl hl.1 (Nat.le_of_ble_eq_true rfl) dX0_writeField_10 rfl (fun H locs hP hS => ?_)
  refine nv_iadd E dX0_writeField_13 ?_
  refine ld_CS_Rg (i := ba + (gcX σ pl)) E hP (by have := hR.1.1.2.2.2.1 pl; omega) dX0_writeField_14 ?_
  refine lv_lstore_n (lv' := [(3, .long (vJ (gcRg σ (ba + (gcX σ pl))))), (0, .ref (ad 3)), (1, .int (nI pl)), (2, .int (nI ba))]) E.1.1 E.1.2.1 dX0_writeField_15 rfl hl (by decide) rfl (fun ls hl => ?_)
  refine lv_lload_n E.1.1 E.1.2.1 dX0_writeField_16 rfl (lv_at hl 0 rfl) ?_
  refine CM.callSi (n := 1) E (c_X0_isObject l D cI cJ cZ ad σ (gcRg σ (ba + (gcX σ pl))) (fun k9 hk9 => hR.2.2.2.1.1 _ k9 hk9)) ml_X0_147 st_X0_isObject ini_X0 co_X0_isObject hd_X0_isObject ⟨Nat.le_of_ble_eq_true rfl, Nat.le_of_ble_eq_true rfl⟩ ⟨Nat.le_refl _, Nat.le_refl _⟩ hP (hD _) hS hA2 rfl hl.1 (Nat.le_of_ble_eq_true rfl) dX0_writeField_17 rfl (fun H locs hP hS => ?_)
  refine bv_if_eq (x := objI (gcRg σ (ba + (gcX σ pl)))) E dX0_writeField_20 (tgt := 61) (by decide) (fun h20 => ?_) (fun h20 => ?_)
  · refine lv_aload_n E.1.1 E.1.2.1 dX0_writeField_61 rfl (lv_at hl 1 rfl) ?_
    refine lv_iconst (v := nI 1) E.1.1 E.1.2.1 dX0_writeField_62 rfl ?_
    refine pt_X0_trap (v := 1) E fl_X0_59 hP hD hS dX0_writeField_63 (fun H locs hP hS => ?_)
    exact CM.retv E hr hlk hA (by first | (obtain ⟨a9, ha9⟩ := objI_f h20; simp only [wfF2, ha9]; exact hP) | (simp only [wfF2, hk1]; exact hP)) hS rfl dX0_writeField_66
  · obtain ⟨k1, hk1⟩ := objI_t h20
    have hk401 := hR.2.2.2.1.1 _ _ hk1
    have hl : lv_has ls 5 [(3, .long (vJ (.inr k1))), (0, .ref (ad 3)), (1, .int (nI pl)), (2, .int (nI ba))] := by have q9 := hl; rw [hk1] at q9; exact q9
    refine lv_aload_n E.1.1 E.1.2.1 dX0_writeField_23 rfl (lv_at hl 1 rfl) ?_
    refine gt_X0_fields E fl_X0_28 hP dX0_writeField_24 ?_
    refine lv_lload_n E.1.1 E.1.2.1 dX0_writeField_27 rfl (lv_at hl 0 rfl) ?_
    refine CM.callSi (n := 1) E (c_X0_objectOf l D cI cJ cZ ad σ (.inr k1) k1 rfl hk401) ml_X0_159 st_X0_objectOf ini_X0 co_X0_objectOf hd_X0_objectOf ⟨Nat.le_of_ble_eq_true rfl, Nat.le_of_ble_eq_true rfl⟩ ⟨Nat.le_refl _, Nat.le_refl _⟩ hP (hD _) hS hA2 rfl hl.1 (Nat.le_of_ble_eq_true rfl) dX0_writeField_28 rfl (fun H locs hP hS => ?_)
    refine lv_iconst (v := nI 3) E.1.1 E.1.2.1 dX0_writeField_31 rfl ?_
    refine nv_imul E dX0_writeField_32 ?_
    refine lv_aload_n E.1.1 E.1.2.1 dX0_writeField_33 rfl (lv_at hl 1 rfl) ?_
    refine gt_X0_program E fl_X0_37 hP dX0_writeField_34 ?_
    refine lv_iload_n E.1.1 E.1.2.1 dX0_writeField_37 rfl (lv_at hl 2 rfl) ?_
    refine CM.callVi (n := 1) E (c_X1_z l D cI cJ cZ ad σ pl (by omega)) ml_X0_144 im_X1_z se_X1_z ini_X1 co_X1_z hd_X1_z ⟨Nat.le_of_ble_eq_true rfl, Nat.le_of_ble_eq_true rfl⟩ ⟨Nat.le_refl _, Nat.le_refl _⟩ 1 rfl rfl hP (hD _) hS hA2 rfl hl.1 (Nat.le_of_ble_eq_true rfl) dX0_writeField_38 rfl (fun H locs hP hS => ?_)
    refine tpi (y := nI (zN σ pl)) ((WI_z3 hR.1.2 (by omega)).1) ?_
    refine nv_iadd E dX0_writeField_41 ?_
    refine lv_aload_n E.1.1 E.1.2.1 dX0_writeField_42 rfl (lv_at hl 1 rfl) ?_
    refine gt_X0_registers E fl_X0_9 hP dX0_writeField_43 ?_
    refine lv_iload_n E.1.1 E.1.2.1 dX0_writeField_46 rfl (lv_at hl 3 rfl) ?_
    refine lv_aload_n E.1.1 E.1.2.1 dX0_writeField_47 rfl (lv_at hl 1 rfl) ?_
    refine gt_X0_program E fl_X0_37 hP dX0_writeField_48 ?_
    refine lv_iload_n E.1.1 E.1.2.1 dX0_writeField_51 rfl (lv_at hl 2 rfl) ?_
    refine CM.callVi (n := 1) E (c_X1_y l D cI cJ cZ ad σ pl (by omega)) ml_X0_117 im_X1_y se_X1_y ini_X1 co_X1_y hd_X1_y ⟨Nat.le_of_ble_eq_true rfl, Nat.le_of_ble_eq_true rfl⟩ ⟨Nat.le_refl _, Nat.le_refl _⟩ 1 rfl rfl hP (hD _) hS hA2 rfl hl.1 (Nat.le_of_ble_eq_true rfl) dX0_writeField_52 rfl (fun H locs hP hS => ?_)
    refine tpi (y := nI (yN σ pl)) ((WI_y hR.1.2 (by omega)).1) ?_
    refine nv_iadd E dX0_writeField_55 ?_
    refine ld_CS_Rg (i := ba + (yN σ pl)) E hP (by have := (WI_y hR.1.2 (p := pl) (by omega)).2; omega) dX0_writeField_56 ?_
    refine as_CS_Fl (i := (k1 * 3) + (zN σ pl)) (v := gcRg σ (ba + (yN σ pl))) E hP hD hS (by have := (WI_z3 hR.1.2 (p := pl) (by omega)).2; omega) dX0_writeField_57 (fun H locs hP hS => ?_)
    refine lv_goto (tgt := 66) E.1.1 E.1.2.1 dX0_writeField_58 (by decide) ?_
    exact CM.retv E hr hlk hA (by first | (obtain ⟨a9, ha9⟩ := objI_f h20; simp only [wfF2, ha9]; exact hP) | (simp only [wfF2, hk1]; exact hP)) hS rfl dX0_writeField_66
set_option maxRecDepth 100000 in
set_option maxHeartbeats 400000 in
theorem c_X0_print (l : Launch) (D : va_G) (cI cJ cZ : ClassId) (ad : Nat → Nat) (σ : CS) (v : Val)  (hR : RI σ) (hv : ∀ k, v = .inr k → k < 401) : CM l D (t3 cI cJ cZ) yX0_print cX0_print 4 none 1 [.ref (ad 3), .long (vJ v)] (wC ad cI cJ cZ σ) (none) (wC ad cI cJ cZ (prF v σ)) := by
  refine CM.of (by decide) (Nat.le_of_ble_eq_true rfl) ?_
  intro p e s m below meth c A ls E hr hlk hP hD0 hA hA2 hS hl
  have hD := wC_D hD0
  have hl : lv_has ls 4 [(0, .ref (ad 3)), (1, .long (vJ v))] := hl
  refine lv_aload_n E.1.1 E.1.2.1 dX0_print_0 rfl (lv_at hl 0 rfl) ?_
  refine gt_X0_counts E fl_X0_34 hP dX0_print_1 ?_
  refine lv_iconst (v := nI 0) E.1.1 E.1.2.1 dX0_print_4 rfl ?_
  refine ld_CS_Ct (i := 0) E hP (by omega) dX0_print_5 ?_
  refine lv_istore_n (lv' := [(3, .int (nI (gcCt σ 0))), (0, .ref (ad 3)), (1, .long (vJ v))]) E.1.1 E.1.2.1 dX0_print_6 rfl hl (by decide) rfl (fun ls hl => ?_)
  refine lv_iload_n E.1.1 E.1.2.1 dX0_print_7 rfl (lv_at hl 0 rfl) ?_
  refine lv_bipush (v := nI 40) E.1.1 E.1.2.1 dX0_print_8 rfl ?_
  refine nv_icmp_lt (by have := hR.2.2.2.2.1.1; omega) (by omega) E dX0_print_10 (tgt := 20) (by decide) (fun h10 => ?_) (fun h10 => ?_)
  · refine lv_aload_n E.1.1 E.1.2.1 dX0_print_20 rfl (lv_at hl 1 rfl) ?_
    refine gt_X0_putOut E fl_X0_31 hP dX0_print_21 ?_
    refine lv_iload_n E.1.1 E.1.2.1 dX0_print_24 rfl (lv_at hl 0 rfl) ?_
    refine lv_lload_n E.1.1 E.1.2.1 dX0_print_25 rfl (lv_at hl 2 rfl) ?_
    refine CM.callSi (n := 1) E (c_X0_isObject l D cI cJ cZ ad σ v hv) ml_X0_147 st_X0_isObject ini_X0 co_X0_isObject hd_X0_isObject ⟨Nat.le_of_ble_eq_true rfl, Nat.le_of_ble_eq_true rfl⟩ ⟨Nat.le_refl _, Nat.le_refl _⟩ hP (hD _) hS hA2 rfl hl.1 (Nat.le_of_ble_eq_true rfl) dX0_print_26 rfl (fun H locs hP hS => ?_)
    refine bv_if_eq (x := objI v) E dX0_print_29 (tgt := 48) (by decide) (fun h29 => ?_) (fun h29 => ?_)
    · obtain ⟨a1, ha1⟩ := objI_f h29
      subst ha1
      have hl : lv_has ls 4 [(3, .int (nI (gcCt σ 0))), (0, .ref (ad 3)), (1, .long (vJ (.inl a1)))] := hl
      refine lv_lload_n E.1.1 E.1.2.1 dX0_print_48 rfl (lv_at hl 2 rfl) ?_
      refine lv_l2i (v := (vJ (.inl a1)).toInt32) E.1.1 E.1.2.1 dX0_print_49 rfl ?_
      refine tpi (y := a1) (l2i_l a1) ?_
      refine as_CS_Po (i := gcCt σ 0) (v := a1) E hP hD hS (by omega) dX0_print_50 (fun H locs hP hS => ?_)
      refine lv_aload_n E.1.1 E.1.2.1 dX0_print_51 rfl (lv_at hl 1 rfl) ?_
      refine gt_X0_counts E fl_X0_34 hP dX0_print_52 ?_
      refine lv_iconst (v := nI 0) E.1.1 E.1.2.1 dX0_print_55 rfl ?_
      refine lv_iload_n E.1.1 E.1.2.1 dX0_print_56 rfl (lv_at hl 0 rfl) ?_
      refine lv_iconst (v := nI 1) E.1.1 E.1.2.1 dX0_print_57 rfl ?_
      refine nv_iadd E dX0_print_58 ?_
      refine as_CS_Ct (i := 0) (v := (gcCt σ 0) + 1) E hP hD hS (by omega) dX0_print_59 (fun H locs hP hS => ?_)
      exact CM.retv E hr hlk hA (by unfold prF; rw [if_neg (show ¬ 40 ≤ gcCt σ 0 from (by omega))]; exact hP) hS rfl dX0_print_60
    · obtain ⟨k1, hk1⟩ := objI_t h29
      have hk401 := hv _ hk1
      subst hk1
      have hl : lv_has ls 4 [(3, .int (nI (gcCt σ 0))), (0, .ref (ad 3)), (1, .long (vJ (.inr k1)))] := hl
      refine lv_sipush (v := nI 1000) E.1.1 E.1.2.1 dX0_print_32 rfl ?_
      refine lv_aload_n E.1.1 E.1.2.1 dX0_print_35 rfl (lv_at hl 1 rfl) ?_
      refine gt_X0_classes E fl_X0_25 hP dX0_print_36 ?_
      refine lv_lload_n E.1.1 E.1.2.1 dX0_print_39 rfl (lv_at hl 2 rfl) ?_
      refine CM.callSi (n := 1) E (c_X0_objectOf l D cI cJ cZ ad σ (.inr k1) k1 rfl hk401) ml_X0_159 st_X0_objectOf ini_X0 co_X0_objectOf hd_X0_objectOf ⟨Nat.le_of_ble_eq_true rfl, Nat.le_of_ble_eq_true rfl⟩ ⟨Nat.le_refl _, Nat.le_refl _⟩ hP (hD _) hS hA2 rfl hl.1 (Nat.le_of_ble_eq_true rfl) dX0_print_40 rfl (fun H locs hP hS => ?_)
      refine ld_CS_Cl (i := k1) E hP (by omega) dX0_print_43 ?_
      refine nv_iadd E dX0_print_44 ?_
      refine lv_goto (tgt := 50) E.1.1 E.1.2.1 dX0_print_45 (by decide) ?_
      skip
      refine as_CS_Po (i := gcCt σ 0) (v := nI (1000 + (gcCl σ k1))) E hP hD hS (by omega) dX0_print_50 (fun H locs hP hS => ?_)
      refine lv_aload_n E.1.1 E.1.2.1 dX0_print_51 rfl (lv_at hl 1 rfl) ?_
      refine gt_X0_counts E fl_X0_34 hP dX0_print_52 ?_
      refine lv_iconst (v := nI 0) E.1.1 E.1.2.1 dX0_print_55 rfl ?_
      refine lv_iload_n E.1.1 E.1.2.1 dX0_print_56 rfl (lv_at hl 0 rfl) ?_
      refine lv_iconst (v := nI 1) E.1.1 E.1.2.1 dX0_print_57 rfl ?_
      refine nv_iadd E dX0_print_58 ?_
      refine as_CS_Ct (i := 0) (v := (gcCt σ 0) + 1) E hP hD hS (by omega) dX0_print_59 (fun H locs hP hS => ?_)
      exact CM.retv E hr hlk hA (by unfold prF; rw [if_neg (show ¬ 40 ≤ gcCt σ 0 from (by omega))]; exact hP) hS rfl dX0_print_60
  · refine lv_aload_n E.1.1 E.1.2.1 dX0_print_13 rfl (lv_at hl 1 rfl) ?_
    refine lv_bipush (v := nI 7) E.1.1 E.1.2.1 dX0_print_14 rfl ?_
    refine pt_X0_trap (v := 7) E fl_X0_59 hP hD hS dX0_print_16 (fun H locs hP hS => ?_)
    exact CM.retv E hr hlk hA (by unfold prF; rw [if_pos h10]; exact hP) hS rfl dX0_print_19
set_option maxRecDepth 100000 in
set_option maxHeartbeats 400000 in
theorem c_X0_checkClass (l : Launch) (D : va_G) (cI cJ cZ : ClassId) (ad : Nat → Nat) (σ : CS) (v : Val) (t : Nat)  (hR : RI σ) (hv : ∀ k, v = .inr k → k < 401) (ht : t < 6) : CM l D (t3 cI cJ cZ) yX0_checkClass cX0_checkClass 4 none 1 [.ref (ad 3), .long (vJ v), .int (nI t)] (wC ad cI cJ cZ σ) (none) (wC ad cI cJ cZ (ckF v t σ)) := by
  refine CM.of (by decide) (Nat.le_of_ble_eq_true rfl) ?_
  intro p e s m below meth c A ls E hr hlk hP hD0 hA hA2 hS hl
  have hD := wC_D hD0
  have hl : lv_has ls 4 [(0, .ref (ad 3)), (1, .long (vJ v)), (3, .int (nI t))] := hl
  refine lv_lload_n E.1.1 E.1.2.1 dX0_checkClass_0 rfl (lv_at hl 1 rfl) ?_
  refine CM.callSi (n := 1) E (c_X0_isObject l D cI cJ cZ ad σ v hv) ml_X0_147 st_X0_isObject ini_X0 co_X0_isObject hd_X0_isObject ⟨Nat.le_of_ble_eq_true rfl, Nat.le_of_ble_eq_true rfl⟩ ⟨Nat.le_refl _, Nat.le_refl _⟩ hP (hD _) hS hA2 rfl hl.1 (Nat.le_of_ble_eq_true rfl) dX0_checkClass_1 rfl (fun H locs hP hS => ?_)
  refine bv_if_ne (x := objI v) E dX0_checkClass_4 (tgt := 15) (by decide) (fun h4 => ?_) (fun h4 => ?_)
  · obtain ⟨k1, hk1⟩ := objI_t h4
    have hk401 := hv _ hk1
    subst hk1
    have hl : lv_has ls 4 [(0, .ref (ad 3)), (1, .long (vJ (.inr k1))), (3, .int (nI t))] := hl
    refine lv_aload_n E.1.1 E.1.2.1 dX0_checkClass_15 rfl (lv_at hl 0 rfl) ?_
    refine gt_X0_program E fl_X0_37 hP dX0_checkClass_16 ?_
    refine lv_aload_n E.1.1 E.1.2.1 dX0_checkClass_19 rfl (lv_at hl 0 rfl) ?_
    refine gt_X0_classes E fl_X0_25 hP dX0_checkClass_20 ?_
    refine lv_lload_n E.1.1 E.1.2.1 dX0_checkClass_23 rfl (lv_at hl 1 rfl) ?_
    refine CM.callSi (n := 1) E (c_X0_objectOf l D cI cJ cZ ad σ (.inr k1) k1 rfl hk401) ml_X0_159 st_X0_objectOf ini_X0 co_X0_objectOf hd_X0_objectOf ⟨Nat.le_of_ble_eq_true rfl, Nat.le_of_ble_eq_true rfl⟩ ⟨Nat.le_refl _, Nat.le_refl _⟩ hP (hD _) hS hA2 rfl hl.1 (Nat.le_of_ble_eq_true rfl) dX0_checkClass_24 rfl (fun H locs hP hS => ?_)
    refine ld_CS_Cl (i := k1) E hP (by omega) dX0_checkClass_27 ?_
    refine lv_iload_n E.1.1 E.1.2.1 dX0_checkClass_28 rfl (lv_at hl 2 rfl) ?_
    refine CM.callVi (n := 2) E (c_X1_classIs l D cI cJ cZ ad σ (gcCl σ k1) t (hR.2.2.1.2.2.2 k1) ht hR.1.1) ml_X0_172 im_X1_classIs se_X1_classIs ini_X1 co_X1_classIs hd_X1_classIs ⟨Nat.le_of_ble_eq_true rfl, Nat.le_of_ble_eq_true rfl⟩ ⟨Nat.le_refl _, Nat.le_refl _⟩ 1 rfl rfl hP (hD _) hS hA2 rfl hl.1 (Nat.le_of_ble_eq_true rfl) dX0_checkClass_29 rfl (fun H locs hP hS => ?_)
    refine bv_if_ne (x := isF (gcP σ) t 6 (some (gcCl σ k1))) E dX0_checkClass_32 (tgt := 40) (by decide) (fun h32 => ?_) (fun h32 => ?_)
    · exact CM.retv E hr hlk hA (by first | exact hP | (simp only [ckF, if_pos h32]; exact hP) | (simp only [ckF, if_neg (show ¬ isF (gcP σ) t 6 (some (gcCl σ k1)) = true from (by rw [h32]; decide))]; exact hP)) hS rfl dX0_checkClass_40
    · refine lv_aload_n E.1.1 E.1.2.1 dX0_checkClass_35 rfl (lv_at hl 0 rfl) ?_
      refine lv_iconst (v := nI 2) E.1.1 E.1.2.1 dX0_checkClass_36 rfl ?_
      refine pt_X0_trap (v := 2) E fl_X0_59 hP hD hS dX0_checkClass_37 (fun H locs hP hS => ?_)
      exact CM.retv E hr hlk hA (by first | exact hP | (simp only [ckF, if_pos h32]; exact hP) | (simp only [ckF, if_neg (show ¬ isF (gcP σ) t 6 (some (gcCl σ k1)) = true from (by rw [h32]; decide))]; exact hP)) hS rfl dX0_checkClass_40
  · obtain ⟨a1, ha1⟩ := objI_f h4
    subst ha1
    refine lv_aload_n E.1.1 E.1.2.1 dX0_checkClass_7 rfl (lv_at hl 0 rfl) ?_
    refine lv_iconst (v := nI 1) E.1.1 E.1.2.1 dX0_checkClass_8 rfl ?_
    refine pt_X0_trap (v := 1) E fl_X0_59 hP hD hS dX0_checkClass_9 (fun H locs hP hS => ?_)
    refine lv_goto (tgt := 40) E.1.1 E.1.2.1 dX0_checkClass_12 (by decide) ?_
    exact CM.retv E hr hlk hA (by first | exact hP | (simp only [ckF, if_pos h32]; exact hP) | (simp only [ckF, if_neg (show ¬ isF (gcP σ) t 6 (some (gcCl σ k1)) = true from (by rw [h32]; decide))]; exact hP)) hS rfl dX0_checkClass_40
set_option maxRecDepth 100000 in
set_option maxHeartbeats 400000 in
theorem c_X0_isBehindLast (l : Launch) (D : va_G) (cI cJ cZ : ClassId) (ad : Nat → Nat) (σ : CS) (f : Nat)  (hf : f < 12) (hR : RI σ) : CM l D (t3 cI cJ cZ) yX0_isBehindLast cX0_isBehindLast 2 (some .boolean) 1 [.ref (ad 3), .int (nI f)] (wC ad cI cJ cZ σ) (some (.int (bI (decide (gcL σ (gcBo σ f) ≤ gcNe σ f))))) (wC ad cI cJ cZ σ) := by
  refine CM.of (by decide) (Nat.le_of_ble_eq_true rfl) ?_
  intro p e s m below meth c A ls E hr hlk hP hD0 hA hA2 hS hl
  have hD := wC_D hD0
  have hl : lv_has ls 2 [(0, .ref (ad 3)), (1, .int (nI f))] := hl
  refine lv_aload_n E.1.1 E.1.2.1 dX0_isBehindLast_0 rfl (lv_at hl 0 rfl) ?_
  refine gt_X0_nexts E fl_X0_19 hP dX0_isBehindLast_1 ?_
  refine lv_iload_n E.1.1 E.1.2.1 dX0_isBehindLast_4 rfl (lv_at hl 1 rfl) ?_
  refine ld_CS_Ne (i := f) E hP (by omega) dX0_isBehindLast_5 ?_
  refine lv_aload_n E.1.1 E.1.2.1 dX0_isBehindLast_6 rfl (lv_at hl 0 rfl) ?_
  refine gt_X0_program E fl_X0_37 hP dX0_isBehindLast_7 ?_
  refine lv_aload_n E.1.1 E.1.2.1 dX0_isBehindLast_10 rfl (lv_at hl 0 rfl) ?_
  refine gt_X0_bodies E fl_X0_15 hP dX0_isBehindLast_11 ?_
  refine lv_iload_n E.1.1 E.1.2.1 dX0_isBehindLast_14 rfl (lv_at hl 1 rfl) ?_
  refine ld_CS_Bo (i := f) E hP (by omega) dX0_isBehindLast_15 ?_
  refine CM.callVi (n := 1) E (c_X1_length l D cI cJ cZ ad σ (gcBo σ f) (hR.2.2.1.1 f)) ml_X0_100 im_X1_length se_X1_length ini_X1 co_X1_length hd_X1_length ⟨Nat.le_of_ble_eq_true rfl, Nat.le_of_ble_eq_true rfl⟩ ⟨Nat.le_refl _, Nat.le_refl _⟩ 1 rfl rfl hP (hD _) hS hA2 rfl hl.1 (Nat.le_of_ble_eq_true rfl) dX0_isBehindLast_16 rfl (fun H locs hP hS => ?_)
  refine nv_icmp_lt (by have := hR.2.2.1.2.1 f; omega) (by have := hR.1.1.2.1 (gcBo σ f); omega) E dX0_isBehindLast_19 (tgt := 26) (by decide) (fun h19 => ?_) (fun h19 => ?_)
  · refine lv_iconst (v := nI 0) E.1.1 E.1.2.1 dX0_isBehindLast_26 rfl ?_
    exact CM.retz E hr hlk hA hP hS (er_f (by first | (simp [*]; done) | (simp; omega))) rfl dX0_isBehindLast_27
  · refine lv_iconst (v := nI 1) E.1.1 E.1.2.1 dX0_isBehindLast_22 rfl ?_
    refine lv_goto (tgt := 27) E.1.1 E.1.2.1 dX0_isBehindLast_23 (by decide) ?_
    exact CM.retz E hr hlk hA hP hS (er_t (by first | (simp [*]; done) | (simp; omega))) rfl dX0_isBehindLast_27
end
