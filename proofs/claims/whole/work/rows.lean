section
-- ===== PART A: goes FIRST, ahead of the names: the tables' words, and 'selects' of the private methods out of them =====
/-- a private method of a class that the tables say can be made, by its rows of tables_1 -/
def lw_okq (q : MethodName × Nat) : Prop := (q.1.cls ≠ "java/lang/invoke/MethodHandle" ∧ q.1.cls ≠ "java/lang/invoke/VarHandle") ∧ Cond.instantiable q.1.cls q.2 ∈ tables_1 ∧ Cond.privateMethod q.1 ∈ tables_1 ∧ Cond.instanceMethod q.1 ∈ tables_1
theorem lw_p0 : lw_okq (⟨"CallShaper$Shaping", "findReached", "()V"⟩, 6) := ⟨⟨by decide +kernel, by decide +kernel⟩, List.mem_of_getElem? (i := 64) (by decide +kernel), List.mem_of_getElem? (i := 161) (by decide +kernel), List.mem_of_getElem? (i := 162) (by decide +kernel)⟩
theorem lw_p1 : lw_okq (⟨"CallShaper$Shaping", "targetSet", "(II)I"⟩, 6) := ⟨⟨by decide +kernel, by decide +kernel⟩, List.mem_of_getElem? (i := 64) (by decide +kernel), List.mem_of_getElem? (i := 165) (by decide +kernel), List.mem_of_getElem? (i := 166) (by decide +kernel)⟩
theorem lw_p2 : lw_okq (⟨"CallShaper$Shaping", "readBodies", "(I)V"⟩, 6) := ⟨⟨by decide +kernel, by decide +kernel⟩, List.mem_of_getElem? (i := 64) (by decide +kernel), List.mem_of_getElem? (i := 176) (by decide +kernel), List.mem_of_getElem? (i := 177) (by decide +kernel)⟩
theorem lw_p3 : lw_okq (⟨"CallShaper$Shaping", "readBody", "(I)V"⟩, 6) := ⟨⟨by decide +kernel, by decide +kernel⟩, List.mem_of_getElem? (i := 64) (by decide +kernel), List.mem_of_getElem? (i := 183) (by decide +kernel), List.mem_of_getElem? (i := 184) (by decide +kernel)⟩
theorem lw_p4 : lw_okq (⟨"CallShaper$Shaping", "reachTargets", "()V"⟩, 6) := ⟨⟨by decide +kernel, by decide +kernel⟩, List.mem_of_getElem? (i := 64) (by decide +kernel), List.mem_of_getElem? (i := 206) (by decide +kernel), List.mem_of_getElem? (i := 207) (by decide +kernel)⟩
theorem lw_p5 : lw_okq (⟨"CallShaper$Shaping", "verdictOfCalls", "(I)I"⟩, 6) := ⟨⟨by decide +kernel, by decide +kernel⟩, List.mem_of_getElem? (i := 64) (by decide +kernel), List.mem_of_getElem? (i := 210) (by decide +kernel), List.mem_of_getElem? (i := 211) (by decide +kernel)⟩
theorem lw_p6 : lw_okq (⟨"CallShaper$Shaping", "judge", "(I)V"⟩, 6) := ⟨⟨by decide +kernel, by decide +kernel⟩, List.mem_of_getElem? (i := 64) (by decide +kernel), List.mem_of_getElem? (i := 219) (by decide +kernel), List.mem_of_getElem? (i := 220) (by decide +kernel)⟩
theorem lw_p7 : lw_okq (⟨"CallShaper$Shaping", "waysOut", "(I)I"⟩, 6) := ⟨⟨by decide +kernel, by decide +kernel⟩, List.mem_of_getElem? (i := 64) (by decide +kernel), List.mem_of_getElem? (i := 223) (by decide +kernel), List.mem_of_getElem? (i := 224) (by decide +kernel)⟩
theorem lw_p8 : lw_okq (⟨"CallShaper$Shaping", "holders", "(II)I"⟩, 6) := ⟨⟨by decide +kernel, by decide +kernel⟩, List.mem_of_getElem? (i := 64) (by decide +kernel), List.mem_of_getElem? (i := 231) (by decide +kernel), List.mem_of_getElem? (i := 232) (by decide +kernel)⟩
theorem lw_p9 : lw_okq (⟨"java/lang/Throwable", "fillInStackTrace", "(I)Ljava/lang/Throwable;"⟩, 6) := ⟨⟨by decide +kernel, by decide +kernel⟩, List.mem_of_getElem? (i := 303) (by decide +kernel), List.mem_of_getElem? (i := 301) (by decide +kernel), List.mem_of_getElem? (i := 302) (by decide +kernel)⟩
theorem lw_p10 : lw_okq (⟨"CallShaper$Machine", "begin", "()V"⟩, 15) := ⟨⟨by decide +kernel, by decide +kernel⟩, List.mem_of_getElem? (i := 89) (by decide +kernel), List.mem_of_getElem? (i := 690) (by decide +kernel), List.mem_of_getElem? (i := 691) (by decide +kernel)⟩
theorem lw_p11 : lw_okq (⟨"CallShaper$Machine", "newObject", "(I)J"⟩, 15) := ⟨⟨by decide +kernel, by decide +kernel⟩, List.mem_of_getElem? (i := 89) (by decide +kernel), List.mem_of_getElem? (i := 694) (by decide +kernel), List.mem_of_getElem? (i := 695) (by decide +kernel)⟩
theorem lw_p12 : lw_okq (⟨"CallShaper$Machine", "enter", "(IJJ)V"⟩, 15) := ⟨⟨by decide +kernel, by decide +kernel⟩, List.mem_of_getElem? (i := 89) (by decide +kernel), List.mem_of_getElem? (i := 703) (by decide +kernel), List.mem_of_getElem? (i := 704) (by decide +kernel)⟩
theorem lw_p13 : lw_okq (⟨"CallShaper$Machine", "isGoing", "()Z"⟩, 15) := ⟨⟨by decide +kernel, by decide +kernel⟩, List.mem_of_getElem? (i := 89) (by decide +kernel), List.mem_of_getElem? (i := 708) (by decide +kernel), List.mem_of_getElem? (i := 709) (by decide +kernel)⟩
theorem lw_p14 : lw_okq (⟨"CallShaper$Machine", "isBehindLast", "(I)Z"⟩, 15) := ⟨⟨by decide +kernel, by decide +kernel⟩, List.mem_of_getElem? (i := 89) (by decide +kernel), List.mem_of_getElem? (i := 712) (by decide +kernel), List.mem_of_getElem? (i := 713) (by decide +kernel)⟩
theorem lw_p15 : lw_okq (⟨"CallShaper$Machine", "answer", "(J)V"⟩, 15) := ⟨⟨by decide +kernel, by decide +kernel⟩, List.mem_of_getElem? (i := 89) (by decide +kernel), List.mem_of_getElem? (i := 717) (by decide +kernel), List.mem_of_getElem? (i := 718) (by decide +kernel)⟩
def lw_privs_1 : List (MethodName × Nat) := [(⟨"CallShaper$Shaping", "findReached", "()V"⟩, 6), (⟨"CallShaper$Shaping", "targetSet", "(II)I"⟩, 6), (⟨"CallShaper$Shaping", "readBodies", "(I)V"⟩, 6), (⟨"CallShaper$Shaping", "readBody", "(I)V"⟩, 6), (⟨"CallShaper$Shaping", "reachTargets", "()V"⟩, 6), (⟨"CallShaper$Shaping", "verdictOfCalls", "(I)I"⟩, 6), (⟨"CallShaper$Shaping", "judge", "(I)V"⟩, 6), (⟨"CallShaper$Shaping", "waysOut", "(I)I"⟩, 6), (⟨"CallShaper$Shaping", "holders", "(II)I"⟩, 6), (⟨"java/lang/Throwable", "fillInStackTrace", "(I)Ljava/lang/Throwable;"⟩, 6), (⟨"CallShaper$Machine", "begin", "()V"⟩, 15), (⟨"CallShaper$Machine", "newObject", "(I)J"⟩, 15), (⟨"CallShaper$Machine", "enter", "(IJJ)V"⟩, 15), (⟨"CallShaper$Machine", "isGoing", "()Z"⟩, 15), (⟨"CallShaper$Machine", "isBehindLast", "(I)Z"⟩, 15), (⟨"CallShaper$Machine", "answer", "(J)V"⟩, 15)]
theorem lw_r1 : ∀ q ∈ lw_privs_1, lw_okq q := List.forall_mem_cons.mpr ⟨lw_p0, List.forall_mem_cons.mpr ⟨lw_p1, List.forall_mem_cons.mpr ⟨lw_p2, List.forall_mem_cons.mpr ⟨lw_p3, List.forall_mem_cons.mpr ⟨lw_p4, List.forall_mem_cons.mpr ⟨lw_p5, List.forall_mem_cons.mpr ⟨lw_p6, List.forall_mem_cons.mpr ⟨lw_p7, List.forall_mem_cons.mpr ⟨lw_p8, List.forall_mem_cons.mpr ⟨lw_p9, List.forall_mem_cons.mpr ⟨lw_p10, List.forall_mem_cons.mpr ⟨lw_p11, List.forall_mem_cons.mpr ⟨lw_p12, List.forall_mem_cons.mpr ⟨lw_p13, List.forall_mem_cons.mpr ⟨lw_p14, List.forall_mem_cons.mpr ⟨lw_p15, fun _ h => absurd h List.not_mem_nil⟩⟩⟩⟩⟩⟩⟩⟩⟩⟩⟩⟩⟩⟩⟩⟩
theorem lw_p16 : lw_okq (⟨"CallShaper$Machine", "step", "()V"⟩, 15) := ⟨⟨by decide +kernel, by decide +kernel⟩, List.mem_of_getElem? (i := 89) (by decide +kernel), List.mem_of_getElem? (i := 721) (by decide +kernel), List.mem_of_getElem? (i := 722) (by decide +kernel)⟩
theorem lw_p17 : lw_okq (⟨"CallShaper$Machine", "perform", "(II)V"⟩, 15) := ⟨⟨by decide +kernel, by decide +kernel⟩, List.mem_of_getElem? (i := 89) (by decide +kernel), List.mem_of_getElem? (i := 726) (by decide +kernel), List.mem_of_getElem? (i := 727) (by decide +kernel)⟩
theorem lw_p18 : lw_okq (⟨"CallShaper$Machine", "reckon", "(II)V"⟩, 15) := ⟨⟨by decide +kernel, by decide +kernel⟩, List.mem_of_getElem? (i := 89) (by decide +kernel), List.mem_of_getElem? (i := 733) (by decide +kernel), List.mem_of_getElem? (i := 734) (by decide +kernel)⟩
theorem lw_p19 : lw_okq (⟨"CallShaper$Machine", "make", "(II)V"⟩, 15) := ⟨⟨by decide +kernel, by decide +kernel⟩, List.mem_of_getElem? (i := 89) (by decide +kernel), List.mem_of_getElem? (i := 741) (by decide +kernel), List.mem_of_getElem? (i := 742) (by decide +kernel)⟩
theorem lw_p20 : lw_okq (⟨"CallShaper$Machine", "readField", "(II)V"⟩, 15) := ⟨⟨by decide +kernel, by decide +kernel⟩, List.mem_of_getElem? (i := 89) (by decide +kernel), List.mem_of_getElem? (i := 746) (by decide +kernel), List.mem_of_getElem? (i := 747) (by decide +kernel)⟩
theorem lw_p21 : lw_okq (⟨"CallShaper$Machine", "writeField", "(II)V"⟩, 15) := ⟨⟨by decide +kernel, by decide +kernel⟩, List.mem_of_getElem? (i := 89) (by decide +kernel), List.mem_of_getElem? (i := 753) (by decide +kernel), List.mem_of_getElem? (i := 754) (by decide +kernel)⟩
theorem lw_p22 : lw_okq (⟨"CallShaper$Machine", "send", "(II)V"⟩, 15) := ⟨⟨by decide +kernel, by decide +kernel⟩, List.mem_of_getElem? (i := 89) (by decide +kernel), List.mem_of_getElem? (i := 757) (by decide +kernel), List.mem_of_getElem? (i := 758) (by decide +kernel)⟩
theorem lw_p23 : lw_okq (⟨"CallShaper$Machine", "countCall", "(I)V"⟩, 15) := ⟨⟨by decide +kernel, by decide +kernel⟩, List.mem_of_getElem? (i := 89) (by decide +kernel), List.mem_of_getElem? (i := 761) (by decide +kernel), List.mem_of_getElem? (i := 762) (by decide +kernel)⟩
theorem lw_p24 : lw_okq (⟨"CallShaper$Machine", "print", "(J)V"⟩, 15) := ⟨⟨by decide +kernel, by decide +kernel⟩, List.mem_of_getElem? (i := 89) (by decide +kernel), List.mem_of_getElem? (i := 765) (by decide +kernel), List.mem_of_getElem? (i := 766) (by decide +kernel)⟩
theorem lw_p25 : lw_okq (⟨"CallShaper$Machine", "checkClass", "(JI)V"⟩, 15) := ⟨⟨by decide +kernel, by decide +kernel⟩, List.mem_of_getElem? (i := 89) (by decide +kernel), List.mem_of_getElem? (i := 769) (by decide +kernel), List.mem_of_getElem? (i := 770) (by decide +kernel)⟩
theorem lw_p26 : lw_okq (⟨"CallShaperModel", "fails", "(ZZ)Z"⟩, 23) := ⟨⟨by decide +kernel, by decide +kernel⟩, List.mem_of_getElem? (i := 801) (by decide +kernel), List.mem_of_getElem? (i := 889) (by decide +kernel), List.mem_of_getElem? (i := 890) (by decide +kernel)⟩
theorem lw_p27 : lw_okq (⟨"CallShaperModel", "isBody", "(II)Z"⟩, 23) := ⟨⟨by decide +kernel, by decide +kernel⟩, List.mem_of_getElem? (i := 801) (by decide +kernel), List.mem_of_getElem? (i := 897) (by decide +kernel), List.mem_of_getElem? (i := 898) (by decide +kernel)⟩
theorem lw_p28 : lw_okq (⟨"CallShaperModel", "target", "(II)I"⟩, 23) := ⟨⟨by decide +kernel, by decide +kernel⟩, List.mem_of_getElem? (i := 801) (by decide +kernel), List.mem_of_getElem? (i := 918) (by decide +kernel), List.mem_of_getElem? (i := 919) (by decide +kernel)⟩
theorem lw_p29 : lw_okq (⟨"CallShaperModel", "grows", "(I)Z"⟩, 23) := ⟨⟨by decide +kernel, by decide +kernel⟩, List.mem_of_getElem? (i := 801) (by decide +kernel), List.mem_of_getElem? (i := 922) (by decide +kernel), List.mem_of_getElem? (i := 923) (by decide +kernel)⟩
theorem lw_p30 : lw_okq (⟨"CallShaperModel", "at", "(III)I"⟩, 23) := ⟨⟨by decide +kernel, by decide +kernel⟩, List.mem_of_getElem? (i := 801) (by decide +kernel), List.mem_of_getElem? (i := 926) (by decide +kernel), List.mem_of_getElem? (i := 927) (by decide +kernel)⟩
theorem lw_p31 : lw_okq (⟨"CallShaperModel", "reachAll", "(I)Z"⟩, 23) := ⟨⟨by decide +kernel, by decide +kernel⟩, List.mem_of_getElem? (i := 801) (by decide +kernel), List.mem_of_getElem? (i := 930) (by decide +kernel), List.mem_of_getElem? (i := 931) (by decide +kernel)⟩
def lw_privs_2 : List (MethodName × Nat) := [(⟨"CallShaper$Machine", "step", "()V"⟩, 15), (⟨"CallShaper$Machine", "perform", "(II)V"⟩, 15), (⟨"CallShaper$Machine", "reckon", "(II)V"⟩, 15), (⟨"CallShaper$Machine", "make", "(II)V"⟩, 15), (⟨"CallShaper$Machine", "readField", "(II)V"⟩, 15), (⟨"CallShaper$Machine", "writeField", "(II)V"⟩, 15), (⟨"CallShaper$Machine", "send", "(II)V"⟩, 15), (⟨"CallShaper$Machine", "countCall", "(I)V"⟩, 15), (⟨"CallShaper$Machine", "print", "(J)V"⟩, 15), (⟨"CallShaper$Machine", "checkClass", "(JI)V"⟩, 15), (⟨"CallShaperModel", "fails", "(ZZ)Z"⟩, 23), (⟨"CallShaperModel", "isBody", "(II)Z"⟩, 23), (⟨"CallShaperModel", "target", "(II)I"⟩, 23), (⟨"CallShaperModel", "grows", "(I)Z"⟩, 23), (⟨"CallShaperModel", "at", "(III)I"⟩, 23), (⟨"CallShaperModel", "reachAll", "(I)Z"⟩, 23)]
theorem lw_r2 : ∀ q ∈ lw_privs_2, lw_okq q := List.forall_mem_cons.mpr ⟨lw_p16, List.forall_mem_cons.mpr ⟨lw_p17, List.forall_mem_cons.mpr ⟨lw_p18, List.forall_mem_cons.mpr ⟨lw_p19, List.forall_mem_cons.mpr ⟨lw_p20, List.forall_mem_cons.mpr ⟨lw_p21, List.forall_mem_cons.mpr ⟨lw_p22, List.forall_mem_cons.mpr ⟨lw_p23, List.forall_mem_cons.mpr ⟨lw_p24, List.forall_mem_cons.mpr ⟨lw_p25, List.forall_mem_cons.mpr ⟨lw_p26, List.forall_mem_cons.mpr ⟨lw_p27, List.forall_mem_cons.mpr ⟨lw_p28, List.forall_mem_cons.mpr ⟨lw_p29, List.forall_mem_cons.mpr ⟨lw_p30, List.forall_mem_cons.mpr ⟨lw_p31, fun _ h => absurd h List.not_mem_nil⟩⟩⟩⟩⟩⟩⟩⟩⟩⟩⟩⟩⟩⟩⟩⟩
theorem lw_p32 : lw_okq (⟨"CallShaperModel", "call", "(I)I"⟩, 23) := ⟨⟨by decide +kernel, by decide +kernel⟩, List.mem_of_getElem? (i := 801) (by decide +kernel), List.mem_of_getElem? (i := 934) (by decide +kernel), List.mem_of_getElem? (i := 935) (by decide +kernel)⟩
theorem lw_p33 : lw_okq (⟨"CallShaperModel", "stays", "(II)Z"⟩, 23) := ⟨⟨by decide +kernel, by decide +kernel⟩, List.mem_of_getElem? (i := 801) (by decide +kernel), List.mem_of_getElem? (i := 938) (by decide +kernel), List.mem_of_getElem? (i := 939) (by decide +kernel)⟩
theorem lw_p34 : lw_okq (⟨"CallShaperModel", "siteOf", "(II)I"⟩, 23) := ⟨⟨by decide +kernel, by decide +kernel⟩, List.mem_of_getElem? (i := 801) (by decide +kernel), List.mem_of_getElem? (i := 950) (by decide +kernel), List.mem_of_getElem? (i := 951) (by decide +kernel)⟩
theorem lw_p35 : lw_okq (⟨"CallShaperModel", "makes", "(IZ)I"⟩, 23) := ⟨⟨by decide +kernel, by decide +kernel⟩, List.mem_of_getElem? (i := 801) (by decide +kernel), List.mem_of_getElem? (i := 958) (by decide +kernel), List.mem_of_getElem? (i := 959) (by decide +kernel)⟩
theorem lw_p36 : lw_okq (⟨"CallShaperModel", "enters", "(IIZII)V"⟩, 23) := ⟨⟨by decide +kernel, by decide +kernel⟩, List.mem_of_getElem? (i := 801) (by decide +kernel), List.mem_of_getElem? (i := 962) (by decide +kernel), List.mem_of_getElem? (i := 963) (by decide +kernel)⟩
theorem lw_p37 : lw_okq (⟨"CallShaperModel", "answers", "(ZI)V"⟩, 23) := ⟨⟨by decide +kernel, by decide +kernel⟩, List.mem_of_getElem? (i := 801) (by decide +kernel), List.mem_of_getElem? (i := 966) (by decide +kernel), List.mem_of_getElem? (i := 967) (by decide +kernel)⟩
theorem lw_p38 : lw_okq (⟨"CallShaperModel", "set", "(IZI)V"⟩, 23) := ⟨⟨by decide +kernel, by decide +kernel⟩, List.mem_of_getElem? (i := 801) (by decide +kernel), List.mem_of_getElem? (i := 970) (by decide +kernel), List.mem_of_getElem? (i := 971) (by decide +kernel)⟩
theorem lw_p39 : lw_okq (⟨"CallShaperModel", "does", "(Z)I"⟩, 23) := ⟨⟨by decide +kernel, by decide +kernel⟩, List.mem_of_getElem? (i := 801) (by decide +kernel), List.mem_of_getElem? (i := 974) (by decide +kernel), List.mem_of_getElem? (i := 975) (by decide +kernel)⟩
theorem lw_p40 : lw_okq (⟨"CallShaperModel", "sums", "(IZIII)I"⟩, 23) := ⟨⟨by decide +kernel, by decide +kernel⟩, List.mem_of_getElem? (i := 801) (by decide +kernel), List.mem_of_getElem? (i := 978) (by decide +kernel), List.mem_of_getElem? (i := 979) (by decide +kernel)⟩
theorem lw_p41 : lw_okq (⟨"CallShaperModel", "news", "(III)I"⟩, 23) := ⟨⟨by decide +kernel, by decide +kernel⟩, List.mem_of_getElem? (i := 801) (by decide +kernel), List.mem_of_getElem? (i := 982) (by decide +kernel), List.mem_of_getElem? (i := 983) (by decide +kernel)⟩
theorem lw_p42 : lw_okq (⟨"CallShaperModel", "calls", "(IIIII)I"⟩, 23) := ⟨⟨by decide +kernel, by decide +kernel⟩, List.mem_of_getElem? (i := 801) (by decide +kernel), List.mem_of_getElem? (i := 986) (by decide +kernel), List.mem_of_getElem? (i := 987) (by decide +kernel)⟩
theorem lw_p43 : lw_okq (⟨"CallShaperModel", "puts", "(I)I"⟩, 23) := ⟨⟨by decide +kernel, by decide +kernel⟩, List.mem_of_getElem? (i := 801) (by decide +kernel), List.mem_of_getElem? (i := 990) (by decide +kernel), List.mem_of_getElem? (i := 991) (by decide +kernel)⟩
theorem lw_p44 : lw_okq (⟨"CallShaperModel", "isAnother", "(II)Z"⟩, 23) := ⟨⟨by decide +kernel, by decide +kernel⟩, List.mem_of_getElem? (i := 801) (by decide +kernel), List.mem_of_getElem? (i := 994) (by decide +kernel), List.mem_of_getElem? (i := 995) (by decide +kernel)⟩
def lw_privs_3 : List (MethodName × Nat) := [(⟨"CallShaperModel", "call", "(I)I"⟩, 23), (⟨"CallShaperModel", "stays", "(II)Z"⟩, 23), (⟨"CallShaperModel", "siteOf", "(II)I"⟩, 23), (⟨"CallShaperModel", "makes", "(IZ)I"⟩, 23), (⟨"CallShaperModel", "enters", "(IIZII)V"⟩, 23), (⟨"CallShaperModel", "answers", "(ZI)V"⟩, 23), (⟨"CallShaperModel", "set", "(IZI)V"⟩, 23), (⟨"CallShaperModel", "does", "(Z)I"⟩, 23), (⟨"CallShaperModel", "sums", "(IZIII)I"⟩, 23), (⟨"CallShaperModel", "news", "(III)I"⟩, 23), (⟨"CallShaperModel", "calls", "(IIIII)I"⟩, 23), (⟨"CallShaperModel", "puts", "(I)I"⟩, 23), (⟨"CallShaperModel", "isAnother", "(II)Z"⟩, 23)]
theorem lw_r3 : ∀ q ∈ lw_privs_3, lw_okq q := List.forall_mem_cons.mpr ⟨lw_p32, List.forall_mem_cons.mpr ⟨lw_p33, List.forall_mem_cons.mpr ⟨lw_p34, List.forall_mem_cons.mpr ⟨lw_p35, List.forall_mem_cons.mpr ⟨lw_p36, List.forall_mem_cons.mpr ⟨lw_p37, List.forall_mem_cons.mpr ⟨lw_p38, List.forall_mem_cons.mpr ⟨lw_p39, List.forall_mem_cons.mpr ⟨lw_p40, List.forall_mem_cons.mpr ⟨lw_p41, List.forall_mem_cons.mpr ⟨lw_p42, List.forall_mem_cons.mpr ⟨lw_p43, List.forall_mem_cons.mpr ⟨lw_p44, fun _ h => absurd h List.not_mem_nil⟩⟩⟩⟩⟩⟩⟩⟩⟩⟩⟩⟩⟩
def lw_privs : List (MethodName × Nat) := lw_privs_1 ++ (lw_privs_2 ++ (lw_privs_3))
def lw_tbl : List Cond := k2_sels lw_privs ++ tables_1
theorem lw_privs_ok : ∀ q ∈ lw_privs, lw_okq q := by
  show ∀ q ∈ lw_privs_1 ++ (lw_privs_2 ++ (lw_privs_3)), lw_okq q
  exact List.forall_mem_append.mpr ⟨lw_r1, List.forall_mem_append.mpr ⟨lw_r2, lw_r3⟩⟩
/-! ===== BEGIN words of one list among another's, by their places ===== -/
theorem goodIn_r {big : List Cond} (ws : List Cond) (ps : List Nat) (hp : ws = ps.filterMap (fun i => big[i]?)) (h : ws.all goodWord = true) : GoodIn big ws := by
  intro w hw
  have h1 := List.all_eq_true.mp h w hw
  rw [hp] at hw
  obtain ⟨i, -, hi⟩ := List.mem_filterMap.mp hw
  have hm : w ∈ big := by first | exact List.mem_of_getElem? hi | exact List.getElem?_mem hi
  exact ⟨hm, good_of_word h1⟩
theorem goodIn_app {big a b : List Cond} (ha : GoodIn big a) (hb : GoodIn big b) : GoodIn big (a ++ b) := fun w h => (List.mem_append.mp h).elim (ha w) (hb w)
theorem goodIn_ca {big a b : List Cond} {c : Cond} (ha : GoodIn big (c :: a)) (hb : GoodIn big b) : GoodIn big (c :: (a ++ b)) := fun w h => (List.mem_cons.mp h).elim (fun e => ha w (List.mem_cons.mpr (Or.inl e))) (fun h => (List.mem_append.mp h).elim (fun h => ha w (List.mem_cons.mpr (Or.inr h))) (hb w))
theorem goodIn_sub {big ws : List Cond} (hm : ∀ w ∈ ws, w ∈ big) (h : ws.all goodWord = true) : GoodIn big ws := fun w hw => ⟨hm w hw, good_of_word (List.all_eq_true.mp h w hw)⟩
/-! ===== END ===== -/
end
section
def RX0 : String := "CallShaper$Machine"
def TX0 : u_T := fun k => match k with
  | 0 => ("CallShaper$Machine", "program", "LCallShaper$Program;", true)
  | 1 => ("CallShaper$Machine", "shaping", "LCallShaper$Shaping;", true)
  | 2 => ("CallShaper$Machine", "registers", "[J", true)
  | 3 => ("CallShaper$Machine", "bodies", "[I", true)
  | 4 => ("CallShaper$Machine", "nexts", "[I", true)
  | 5 => ("CallShaper$Machine", "answersTo", "[I", true)
  | 6 => ("CallShaper$Machine", "classes", "[I", true)
  | 7 => ("CallShaper$Machine", "fields", "[J", true)
  | 8 => ("CallShaper$Machine", "putOut", "[I", true)
  | 9 => ("CallShaper$Machine", "counts", "[I", true)
  | 10 => ("CallShaper$Machine", "asShaped", "Z", false)
  | 11 => ("CallShaper$Machine", "room", "I", false)
  | 12 => ("CallShaper$Machine", "frames", "I", false)
  | 13 => ("CallShaper$Machine", "objects", "I", false)
  | _ => ("CallShaper$Machine", "trap", "I", false)
def tyX0 : Nat → FieldType := fun k => match k with
  | 0 => .object "CallShaper$Program"
  | 1 => .object "CallShaper$Shaping"
  | 2 => .array .long
  | 3 => .array .int
  | 4 => .array .int
  | 5 => .array .int
  | 6 => .array .int
  | 7 => .array .long
  | 8 => .array .int
  | 9 => .array .int
  | 10 => .boolean
  | 11 => .int
  | 12 => .int
  | 13 => .int
  | _ => .int
abbrev wsX00 : List Cond := u_ws RX0 TX0 15
theorem nmX0 : ∀ a, a < 15 → ∀ b, b < 15 → a ≠ b → (TX0 a).2.1 ≠ (TX0 b).2.1 := by decide +kernel
theorem tyX0_ok : ∀ k, k < 15 → parseFieldDescriptor (TX0 k).2.2.1 = some (tyX0 k) := by decide +kernel
abbrev cX0_init : ByteArray := prog_2_method_1_code
def yX0_init : MethodName := ⟨RX0, "<init>", "(LCallShaper$Program;LCallShaper$Shaping;)V"⟩
abbrev cX0_tally : ByteArray := prog_2_method_2_code
def yX0_tally : MethodName := ⟨RX0, "tally", "(I)I"⟩
abbrev cX0_valuePutOut : ByteArray := prog_2_method_3_code
def yX0_valuePutOut : MethodName := ⟨RX0, "valuePutOut", "(I)I"⟩
abbrev cX0_execute : ByteArray := prog_2_method_4_code
def yX0_execute : MethodName := ⟨RX0, "execute", "(ZI)I"⟩
abbrev cX0_begin : ByteArray := prog_2_method_5_code
def yX0_begin : MethodName := ⟨RX0, "begin", "()V"⟩
abbrev cX0_isGoing : ByteArray := prog_2_method_6_code
def yX0_isGoing : MethodName := ⟨RX0, "isGoing", "()Z"⟩
abbrev cX0_isBehindLast : ByteArray := prog_2_method_7_code
def yX0_isBehindLast : MethodName := ⟨RX0, "isBehindLast", "(I)Z"⟩
abbrev cX0_step : ByteArray := prog_2_method_8_code
def yX0_step : MethodName := ⟨RX0, "step", "()V"⟩
abbrev cX0_perform : ByteArray := prog_2_method_9_code
def yX0_perform : MethodName := ⟨RX0, "perform", "(II)V"⟩
abbrev cX0_isObject : ByteArray := prog_2_method_10_code
def yX0_isObject : MethodName := ⟨RX0, "isObject", "(J)Z"⟩
abbrev cX0_objectOf : ByteArray := prog_2_method_11_code
def yX0_objectOf : MethodName := ⟨RX0, "objectOf", "(J)I"⟩
abbrev cX0_reckon : ByteArray := prog_2_method_12_code
def yX0_reckon : MethodName := ⟨RX0, "reckon", "(II)V"⟩
abbrev cX0_make : ByteArray := prog_2_method_13_code
def yX0_make : MethodName := ⟨RX0, "make", "(II)V"⟩
abbrev cX0_newObject : ByteArray := prog_2_method_14_code
def yX0_newObject : MethodName := ⟨RX0, "newObject", "(I)J"⟩
abbrev cX0_readField : ByteArray := prog_2_method_15_code
def yX0_readField : MethodName := ⟨RX0, "readField", "(II)V"⟩
abbrev cX0_writeField : ByteArray := prog_2_method_16_code
def yX0_writeField : MethodName := ⟨RX0, "writeField", "(II)V"⟩
abbrev cX0_send : ByteArray := prog_2_method_17_code
def yX0_send : MethodName := ⟨RX0, "send", "(II)V"⟩
abbrev cX0_countCall : ByteArray := prog_2_method_18_code
def yX0_countCall : MethodName := ⟨RX0, "countCall", "(I)V"⟩
abbrev cX0_enter : ByteArray := prog_2_method_19_code
def yX0_enter : MethodName := ⟨RX0, "enter", "(IJJ)V"⟩
abbrev cX0_answer : ByteArray := prog_2_method_20_code
def yX0_answer : MethodName := ⟨RX0, "answer", "(J)V"⟩
abbrev cX0_print : ByteArray := prog_2_method_21_code
def yX0_print : MethodName := ⟨RX0, "print", "(J)V"⟩
abbrev cX0_checkClass : ByteArray := prog_2_method_22_code
def yX0_checkClass : MethodName := ⟨RX0, "checkClass", "(JI)V"⟩
def RX1 : String := "CallShaper$Program"
def TX1 : u_T := fun k => match k with
  | 0 => ("CallShaper$Program", "parents", "[I", true)
  | 1 => ("CallShaper$Program", "lengths", "[I", true)
  | 2 => ("CallShaper$Program", "kinds", "[I", true)
  | 3 => ("CallShaper$Program", "xs", "[I", true)
  | 4 => ("CallShaper$Program", "ys", "[I", true)
  | 5 => ("CallShaper$Program", "zs", "[I", true)
  | _ => ("CallShaper$Program", "classes", "I", false)
def tyX1 : Nat → FieldType := fun k => match k with
  | 0 => .array .int
  | 1 => .array .int
  | 2 => .array .int
  | 3 => .array .int
  | 4 => .array .int
  | 5 => .array .int
  | _ => .int
abbrev wsX10 : List Cond := u_ws RX1 TX1 7
theorem nmX1 : ∀ a, a < 7 → ∀ b, b < 7 → a ≠ b → (TX1 a).2.1 ≠ (TX1 b).2.1 := by decide +kernel
theorem tyX1_ok : ∀ k, k < 7 → parseFieldDescriptor (TX1 k).2.2.1 = some (tyX1 k) := by decide +kernel
abbrev cX1_init : ByteArray := prog_3_method_1_code
def yX1_init : MethodName := ⟨RX1, "<init>", "()V"⟩
abbrev cX1_bodyOf : ByteArray := prog_3_method_2_code
def yX1_bodyOf : MethodName := ⟨RX1, "bodyOf", "(II)I"⟩
abbrev cX1_placeOf : ByteArray := prog_3_method_3_code
def yX1_placeOf : MethodName := ⟨RX1, "placeOf", "(II)I"⟩
abbrev cX1_isWellFormed : ByteArray := prog_3_method_4_code
def yX1_isWellFormed : MethodName := ⟨RX1, "isWellFormed", "(IIII)Z"⟩
abbrev cX1_isWithin : ByteArray := prog_3_method_5_code
def yX1_isWithin : MethodName := ⟨RX1, "isWithin", "(II)Z"⟩
abbrev cX1_hasClass : ByteArray := prog_3_method_6_code
def yX1_hasClass : MethodName := ⟨RX1, "hasClass", "(I)Z"⟩
abbrev cX1_hasPlaceFor : ByteArray := prog_3_method_7_code
def yX1_hasPlaceFor : MethodName := ⟨RX1, "hasPlaceFor", "(II)Z"⟩
abbrev cX1_isFullOfClasses : ByteArray := prog_3_method_8_code
def yX1_isFullOfClasses : MethodName := ⟨RX1, "isFullOfClasses", "()Z"⟩
abbrev cX1_addClass : ByteArray := prog_3_method_9_code
def yX1_addClass : MethodName := ⟨RX1, "addClass", "(I)I"⟩
abbrev cX1_isFull : ByteArray := prog_3_method_10_code
def yX1_isFull : MethodName := ⟨RX1, "isFull", "(I)Z"⟩
abbrev cX1_append : ByteArray := prog_3_method_11_code
def yX1_append : MethodName := ⟨RX1, "append", "(IIIII)I"⟩
abbrev cX1_empty : ByteArray := prog_3_method_12_code
def yX1_empty : MethodName := ⟨RX1, "empty", "(I)I"⟩
abbrev cX1_length : ByteArray := prog_3_method_13_code
def yX1_length : MethodName := ⟨RX1, "length", "(I)I"⟩
abbrev cX1_kind : ByteArray := prog_3_method_14_code
def yX1_kind : MethodName := ⟨RX1, "kind", "(I)I"⟩
abbrev cX1_x : ByteArray := prog_3_method_15_code
def yX1_x : MethodName := ⟨RX1, "x", "(I)I"⟩
abbrev cX1_y : ByteArray := prog_3_method_16_code
def yX1_y : MethodName := ⟨RX1, "y", "(I)I"⟩
abbrev cX1_z : ByteArray := prog_3_method_17_code
def yX1_z : MethodName := ⟨RX1, "z", "(I)I"⟩
abbrev cX1_target : ByteArray := prog_3_method_18_code
def yX1_target : MethodName := ⟨RX1, "target", "(II)I"⟩
abbrev cX1_classIs : ByteArray := prog_3_method_19_code
def yX1_classIs : MethodName := ⟨RX1, "classIs", "(II)Z"⟩
abbrev cX1_fitsInPlace : ByteArray := prog_3_method_20_code
def yX1_fitsInPlace : MethodName := ⟨RX1, "fitsInPlace", "(I)Z"⟩
def RX2 : String := "CallShaper$Shaping"
def TX2 : u_T := fun k => match k with
  | 0 => ("CallShaper$Shaping", "program", "LCallShaper$Program;", true)
  | 1 => ("CallShaper$Shaping", "verdicts", "[I", true)
  | 2 => ("CallShaper$Shaping", "callVerdicts", "[I", true)
  | 3 => ("CallShaper$Shaping", "made", "I", false)
  | 4 => ("CallShaper$Shaping", "reached", "I", false)
  | _ => ("CallShaper$Shaping", "called", "I", false)
def tyX2 : Nat → FieldType := fun k => match k with
  | 0 => .object "CallShaper$Program"
  | 1 => .array .int
  | 2 => .array .int
  | 3 => .int
  | 4 => .int
  | _ => .int
abbrev wsX20 : List Cond := u_ws RX2 TX2 6
theorem nmX2 : ∀ a, a < 6 → ∀ b, b < 6 → a ≠ b → (TX2 a).2.1 ≠ (TX2 b).2.1 := by decide +kernel
theorem tyX2_ok : ∀ k, k < 6 → parseFieldDescriptor (TX2 k).2.2.1 = some (tyX2 k) := by decide +kernel
abbrev cX2_init : ByteArray := prog_4_method_1_code
def yX2_init : MethodName := ⟨RX2, "<init>", "(LCallShaper$Program;)V"⟩
abbrev cX2_isIn : ByteArray := prog_4_method_2_code
def yX2_isIn : MethodName := ⟨RX2, "isIn", "(II)Z"⟩
abbrev cX2_bits : ByteArray := prog_4_method_3_code
def yX2_bits : MethodName := ⟨RX2, "bits", "()I"⟩
abbrev cX2_verdictAt : ByteArray := prog_4_method_4_code
def yX2_verdictAt : MethodName := ⟨RX2, "verdictAt", "(I)I"⟩
abbrev cX2_forget : ByteArray := prog_4_method_5_code
def yX2_forget : MethodName := ⟨RX2, "forget", "(I)V"⟩
abbrev cX2_renew : ByteArray := prog_4_method_6_code
def yX2_renew : MethodName := ⟨RX2, "renew", "()I"⟩
abbrev cX2_findReached : ByteArray := prog_4_method_7_code
def yX2_findReached : MethodName := ⟨RX2, "findReached", "()V"⟩
abbrev cX2_targetSet : ByteArray := prog_4_method_8_code
def yX2_targetSet : MethodName := ⟨RX2, "targetSet", "(II)I"⟩
abbrev cX2_readBodies : ByteArray := prog_4_method_9_code
def yX2_readBodies : MethodName := ⟨RX2, "readBodies", "(I)V"⟩
abbrev cX2_readBody : ByteArray := prog_4_method_10_code
def yX2_readBody : MethodName := ⟨RX2, "readBody", "(I)V"⟩
abbrev cX2_reachTargets : ByteArray := prog_4_method_11_code
def yX2_reachTargets : MethodName := ⟨RX2, "reachTargets", "()V"⟩
abbrev cX2_verdictOfCalls : ByteArray := prog_4_method_12_code
def yX2_verdictOfCalls : MethodName := ⟨RX2, "verdictOfCalls", "(I)I"⟩
abbrev cX2_judge : ByteArray := prog_4_method_13_code
def yX2_judge : MethodName := ⟨RX2, "judge", "(I)V"⟩
abbrev cX2_waysOut : ByteArray := prog_4_method_14_code
def yX2_waysOut : MethodName := ⟨RX2, "waysOut", "(I)I"⟩
abbrev cX2_holders : ByteArray := prog_4_method_15_code
def yX2_holders : MethodName := ⟨RX2, "holders", "(II)I"⟩
def RX3 : String := "CallShaper"
def TX3 : u_T := fun k => match k with
  | 0 => ("CallShaper", "program", "LCallShaper$Program;", true)
  | 1 => ("CallShaper", "shaping", "LCallShaper$Shaping;", true)
  | _ => ("CallShaper", "machine", "LCallShaper$Machine;", true)
def tyX3 : Nat → FieldType := fun k => match k with
  | 0 => .object "CallShaper$Program"
  | 1 => .object "CallShaper$Shaping"
  | _ => .object "CallShaper$Machine"
abbrev wsX30 : List Cond := u_ws RX3 TX3 3
theorem nmX3 : ∀ a, a < 3 → ∀ b, b < 3 → a ≠ b → (TX3 a).2.1 ≠ (TX3 b).2.1 := by decide +kernel
theorem tyX3_ok : ∀ k, k < 3 → parseFieldDescriptor (TX3 k).2.2.1 = some (tyX3 k) := by decide +kernel
abbrev cX3_init : ByteArray := prog_1_method_1_code
def yX3_init : MethodName := ⟨RX3, "<init>", "()V"⟩
abbrev cX3_type : ByteArray := prog_1_method_2_code
def yX3_type : MethodName := ⟨RX3, "type", "(I)I"⟩
abbrev cX3_operation : ByteArray := prog_1_method_3_code
def yX3_operation : MethodName := ⟨RX3, "operation", "(IIIIII)I"⟩
abbrev cX3_strip : ByteArray := prog_1_method_4_code
def yX3_strip : MethodName := ⟨RX3, "strip", "(II)I"⟩
abbrev cX3_shape : ByteArray := prog_1_method_5_code
def yX3_shape : MethodName := ⟨RX3, "shape", "()I"⟩
abbrev cX3_reach : ByteArray := prog_1_method_6_code
def yX3_reach : MethodName := ⟨RX3, "reach", "()I"⟩
abbrev cX3_site : ByteArray := prog_1_method_7_code
def yX3_site : MethodName := ⟨RX3, "site", "(III)I"⟩
abbrev cX3_run : ByteArray := prog_1_method_8_code
def yX3_run : MethodName := ⟨RX3, "run", "(ZI)I"⟩
abbrev cX3_count : ByteArray := prog_1_method_9_code
def yX3_count : MethodName := ⟨RX3, "count", "(I)I"⟩
abbrev cX3_out : ByteArray := prog_1_method_10_code
def yX3_out : MethodName := ⟨RX3, "out", "(I)I"⟩
def RX4 : String := "CallShaperModel"
def TX4 : u_T := fun k => match k with
  | 0 => ("CallShaperModel", "thrown", "I", false)
  | 1 => ("CallShaperModel", "types", "I", false)
  | 2 => ("CallShaperModel", "parent", "[I", true)
  | 3 => ("CallShaperModel", "many", "[I", true)
  | 4 => ("CallShaperModel", "code", "[I", true)
  | 5 => ("CallShaperModel", "made", "[Z", true)
  | 6 => ("CallShaperModel", "reached", "[Z", true)
  | 7 => ("CallShaperModel", "changed", "[Z", true)
  | 8 => ("CallShaperModel", "sites", "[I", true)
  | 9 => ("CallShaperModel", "holder", "[Z", true)
  | 10 => ("CallShaperModel", "objects", "I", false)
  | 11 => ("CallShaperModel", "room", "I", false)
  | 12 => ("CallShaperModel", "classOf", "[I", true)
  | 13 => ("CallShaperModel", "fieldIs", "[Z", true)
  | 14 => ("CallShaperModel", "field", "[I", true)
  | 15 => ("CallShaperModel", "frames", "I", false)
  | 16 => ("CallShaperModel", "body", "[I", true)
  | 17 => ("CallShaperModel", "place", "[I", true)
  | 18 => ("CallShaperModel", "wants", "[I", true)
  | 19 => ("CallShaperModel", "is", "[Z", true)
  | 20 => ("CallShaperModel", "value", "[I", true)
  | 21 => ("CallShaperModel", "outs", "[I", true)
  | _ => ("CallShaperModel", "counts", "[I", true)
def tyX4 : Nat → FieldType := fun k => match k with
  | 0 => .int
  | 1 => .int
  | 2 => .array .int
  | 3 => .array .int
  | 4 => .array .int
  | 5 => .array .boolean
  | 6 => .array .boolean
  | 7 => .array .boolean
  | 8 => .array .int
  | 9 => .array .boolean
  | 10 => .int
  | 11 => .int
  | 12 => .array .int
  | 13 => .array .boolean
  | 14 => .array .int
  | 15 => .int
  | 16 => .array .int
  | 17 => .array .int
  | 18 => .array .int
  | 19 => .array .boolean
  | 20 => .array .int
  | 21 => .array .int
  | _ => .array .int
abbrev wsX40 : List Cond := u_ws RX4 TX4 23
theorem nmX4 : ∀ a, a < 23 → ∀ b, b < 23 → a ≠ b → (TX4 a).2.1 ≠ (TX4 b).2.1 := by decide +kernel
theorem tyX4_ok : ∀ k, k < 23 → parseFieldDescriptor (TX4 k).2.2.1 = some (tyX4 k) := by decide +kernel
abbrev cX4_init : ByteArray := prog_6_method_1_code
def yX4_init : MethodName := ⟨RX4, "<init>", "()V"⟩
abbrev cX4_thrown : ByteArray := prog_6_method_2_code
def yX4_thrown : MethodName := ⟨RX4, "thrown", "()I"⟩
abbrev cX4_fails : ByteArray := prog_6_method_3_code
def yX4_fails : MethodName := ⟨RX4, "fails", "(ZZ)Z"⟩
abbrev cX4_outside : ByteArray := prog_6_method_4_code
def yX4_outside : MethodName := ⟨RX4, "outside", "(III)Z"⟩
abbrev cX4_type : ByteArray := prog_6_method_5_code
def yX4_type : MethodName := ⟨RX4, "type", "(I)I"⟩
abbrev cX4_isRegister : ByteArray := prog_6_method_6_code
def yX4_isRegister : MethodName := ⟨RX4, "isRegister", "(I)Z"⟩
abbrev cX4_isField : ByteArray := prog_6_method_7_code
def yX4_isField : MethodName := ⟨RX4, "isField", "(I)Z"⟩
abbrev cX4_isGood : ByteArray := prog_6_method_8_code
def yX4_isGood : MethodName := ⟨RX4, "isGood", "(IIII)Z"⟩
abbrev cX4_isBody : ByteArray := prog_6_method_9_code
def yX4_isBody : MethodName := ⟨RX4, "isBody", "(II)Z"⟩
abbrev cX4_operation : ByteArray := prog_6_method_10_code
def yX4_operation : MethodName := ⟨RX4, "operation", "(IIIIII)I"⟩
abbrev cX4_strip : ByteArray := prog_6_method_11_code
def yX4_strip : MethodName := ⟨RX4, "strip", "(II)I"⟩
abbrev cX4_target : ByteArray := prog_6_method_12_code
def yX4_target : MethodName := ⟨RX4, "target", "(II)I"⟩
abbrev cX4_at : ByteArray := prog_6_method_13_code
def yX4_at : MethodName := ⟨RX4, "at", "(III)I"⟩
abbrev cX4_reachAll : ByteArray := prog_6_method_14_code
def yX4_reachAll : MethodName := ⟨RX4, "reachAll", "(I)Z"⟩
abbrev cX4_grows : ByteArray := prog_6_method_15_code
def yX4_grows : MethodName := ⟨RX4, "grows", "(I)Z"⟩
abbrev cX4_call : ByteArray := prog_6_method_16_code
def yX4_call : MethodName := ⟨RX4, "call", "(I)I"⟩
abbrev cX4_stays : ByteArray := prog_6_method_17_code
def yX4_stays : MethodName := ⟨RX4, "stays", "(II)Z"⟩
abbrev cX4_shape : ByteArray := prog_6_method_18_code
def yX4_shape : MethodName := ⟨RX4, "shape", "()I"⟩
abbrev cX4_reach : ByteArray := prog_6_method_19_code
def yX4_reach : MethodName := ⟨RX4, "reach", "()I"⟩
abbrev cX4_siteOf : ByteArray := prog_6_method_20_code
def yX4_siteOf : MethodName := ⟨RX4, "siteOf", "(II)I"⟩
abbrev cX4_site : ByteArray := prog_6_method_21_code
def yX4_site : MethodName := ⟨RX4, "site", "(III)I"⟩
abbrev cX4_makes : ByteArray := prog_6_method_22_code
def yX4_makes : MethodName := ⟨RX4, "makes", "(IZ)I"⟩
abbrev cX4_enters : ByteArray := prog_6_method_23_code
def yX4_enters : MethodName := ⟨RX4, "enters", "(IIZII)V"⟩
abbrev cX4_answers : ByteArray := prog_6_method_24_code
def yX4_answers : MethodName := ⟨RX4, "answers", "(ZI)V"⟩
abbrev cX4_set : ByteArray := prog_6_method_25_code
def yX4_set : MethodName := ⟨RX4, "set", "(IZI)V"⟩
abbrev cX4_calls : ByteArray := prog_6_method_26_code
def yX4_calls : MethodName := ⟨RX4, "calls", "(IIIII)I"⟩
abbrev cX4_puts : ByteArray := prog_6_method_27_code
def yX4_puts : MethodName := ⟨RX4, "puts", "(I)I"⟩
abbrev cX4_isAnother : ByteArray := prog_6_method_28_code
def yX4_isAnother : MethodName := ⟨RX4, "isAnother", "(II)Z"⟩
abbrev cX4_news : ByteArray := prog_6_method_29_code
def yX4_news : MethodName := ⟨RX4, "news", "(III)I"⟩
abbrev cX4_sums : ByteArray := prog_6_method_30_code
def yX4_sums : MethodName := ⟨RX4, "sums", "(IZIII)I"⟩
abbrev cX4_does : ByteArray := prog_6_method_31_code
def yX4_does : MethodName := ⟨RX4, "does", "(Z)I"⟩
abbrev cX4_run : ByteArray := prog_6_method_32_code
def yX4_run : MethodName := ⟨RX4, "run", "(ZI)I"⟩
abbrev cX4_count : ByteArray := prog_6_method_33_code
def yX4_count : MethodName := ⟨RX4, "count", "(I)I"⟩
abbrev cX4_out : ByteArray := prog_6_method_34_code
def yX4_out : MethodName := ⟨RX4, "out", "(I)I"⟩
def RJ6 : String := "java/lang/Integer"
def TJ6 : u_T := fun k => match k with
  | _ => ("", "", "", false)
def tyJ6 : Nat → FieldType := fun k => match k with
  | _ => .int
abbrev wsJ60 : List Cond := u_ws RJ6 TJ6 0
theorem nmJ6 : ∀ a, a < 0 → ∀ b, b < 0 → a ≠ b → (TJ6 a).2.1 ≠ (TJ6 b).2.1 := by decide +kernel
theorem tyJ6_ok : ∀ k, k < 0 → parseFieldDescriptor (TJ6 k).2.2.1 = some (tyJ6 k) := by decide +kernel
abbrev cJ6_bitCount_0f7a4 : ByteArray := prog_12_method_49_code
def yJ6_bitCount_0f7a4 : MethodName := ⟨RJ6, "bitCount", "(I)I"⟩
def RJ0 : String := "java/lang/String"
def TJ0 : u_T := fun k => match k with
  | 0 => ("java/lang/String", "value", "[B", true)
  | 1 => ("java/lang/String", "coder", "B", true)
  | 2 => ("java/lang/String", "hash", "I", false)
  | _ => ("java/lang/String", "hashIsZero", "Z", false)
def tyJ0 : Nat → FieldType := fun k => match k with
  | 0 => .array .byte
  | 1 => .byte
  | 2 => .int
  | _ => .boolean
abbrev wsJ00 : List Cond := u_ws RJ0 TJ0 4
theorem nmJ0 : ∀ a, a < 4 → ∀ b, b < 4 → a ≠ b → (TJ0 a).2.1 ≠ (TJ0 b).2.1 := by decide +kernel
theorem tyJ0_ok : ∀ k, k < 4 → parseFieldDescriptor (TJ0 k).2.2.1 = some (tyJ0 k) := by decide +kernel
def RJ4 : String := "java/lang/StringBuilder"
def TJ4 : u_T := fun k => match k with
  | 0 => ("java/lang/AbstractStringBuilder", "value", "[B", false)
  | 1 => ("java/lang/AbstractStringBuilder", "coder", "B", false)
  | 2 => ("java/lang/AbstractStringBuilder", "maybeLatin1", "Z", false)
  | _ => ("java/lang/AbstractStringBuilder", "count", "I", false)
def tyJ4 : Nat → FieldType := fun k => match k with
  | 0 => .array .byte
  | 1 => .byte
  | 2 => .boolean
  | _ => .int
abbrev wsJ40 : List Cond := u_ws RJ4 TJ4 4
theorem nmJ4 : ∀ a, a < 4 → ∀ b, b < 4 → a ≠ b → (TJ4 a).2.1 ≠ (TJ4 b).2.1 := by decide +kernel
theorem tyJ4_ok : ∀ k, k < 4 → parseFieldDescriptor (TJ4 k).2.2.1 = some (tyJ4 k) := by decide +kernel
def RJ7 : String := "java/util/Arrays"
def TJ7 : u_T := fun k => match k with
  | _ => ("", "", "", false)
def tyJ7 : Nat → FieldType := fun k => match k with
  | _ => .int
abbrev wsJ70 : List Cond := u_ws RJ7 TJ7 0
theorem nmJ7 : ∀ a, a < 0 → ∀ b, b < 0 → a ≠ b → (TJ7 a).2.1 ≠ (TJ7 b).2.1 := by decide +kernel
theorem tyJ7_ok : ∀ k, k < 0 → parseFieldDescriptor (TJ7 k).2.2.1 = some (tyJ7 k) := by decide +kernel
abbrev cJ7_rangeCheck_23922 : ByteArray := prog_21_method_30_code
def yJ7_rangeCheck_23922 : MethodName := ⟨RJ7, "rangeCheck", "(III)V"⟩
abbrev cJ7_fill_bad5a : ByteArray := prog_21_method_102_code
def yJ7_fill_bad5a : MethodName := ⟨RJ7, "fill", "([JIIJ)V"⟩
abbrev cJ7_fill_53178 : ByteArray := prog_21_method_103_code
def yJ7_fill_53178 : MethodName := ⟨RJ7, "fill", "([II)V"⟩
abbrev cJ7_fill_fda19 : ByteArray := prog_21_method_104_code
def yJ7_fill_fda19 : MethodName := ⟨RJ7, "fill", "([IIII)V"⟩
def RL : String := "CallShaperLaw"
abbrev cL_type : ByteArray := method_3_code
def yL_type : MethodName := ⟨RL, "type", "(LCallShaper;I[J)I"⟩
abbrev cL_operation : ByteArray := method_4_code
def yL_operation : MethodName := ⟨RL, "operation", "(LCallShaper;IIIIII[J)I"⟩
abbrev cL_strip : ByteArray := method_5_code
def yL_strip : MethodName := ⟨RL, "strip", "(LCallShaper;II[J)I"⟩
abbrev cL_site : ByteArray := method_6_code
def yL_site : MethodName := ⟨RL, "site", "(LCallShaper;III[J)I"⟩
abbrev cL_run : ByteArray := method_7_code
def yL_run : MethodName := ⟨RL, "run", "(LCallShaper;ZI[J)I"⟩
abbrev cL_count : ByteArray := method_8_code
def yL_count : MethodName := ⟨RL, "count", "(LCallShaper;I[J)I"⟩
abbrev cL_out : ByteArray := method_9_code
def yL_out : MethodName := ⟨RL, "out", "(LCallShaper;I[J)I"⟩
abbrev cL_law : ByteArray := code
def yL_law : MethodName := ⟨RL, "law", "([I)Z"⟩
abbrev vwCl : List vw_C := [(RJ0, TJ0, 4), (RJ4, TJ4, 4), (RX0, TX0, 15), (RX1, TX1, 7), (RX2, TX2, 6), (RX3, TX3, 3), (RX4, TX4, 23)]
end
section
/-! the words that every method takes: the tables' good ones -/
def G : List Cond := lw_tbl.filter goodWord
theorem mG {w : Cond} (h : w ∈ lw_tbl) (g : goodWord w = true) : w ∈ G := List.mem_filter.mpr ⟨h, g⟩
theorem G_good {w : Cond} (h : w ∈ G) : goodWord w = true := (List.mem_filter.mp h).2
theorem gdIn {x0 : Cond} {ws : List Cond} (h : ∀ w ∈ ws, w ∈ G) : GoodIn (x0 :: G) ws := fun w hw => ⟨List.mem_cons_of_mem _ (h w hw), good_of_word (G_good (h w hw))⟩
/-- what a walk stands on: the machine, the code, its class, the words, the classes' tables -/
abbrev Cx (p : Program) (s : State) (m : MethodId) (args : Array Value) (c : Code) (cc : ByteArray) (nL : Nat) (own : String) (x0 : Cond) (D : va_G) (tys : List (ClassId × FieldType)) : Prop :=
  CallFix p m c cc nL s args (x0 :: G) own ∧ va_K D vwCl tys s
/-- how a method ends: its answer, its world, nothing else changed -/
def Qcm (D : va_G) (w0 : va_W) (sz : Nat) (r : Option Value) (w1 : va_W) : Array Value → State → Outcome → State → Prop := fun _ st o t => o = .returned r ∧ va_P D vwCl w1 t.heap ∧ va_F (va_A w0 sz) st t
/-- a method that makes no cell: from the world w0 with the arguments av it answers r, and the world is w1 -/
def CM (l : Launch) (D : va_G) (tys : List (ClassId × FieldType)) (y : MethodName) (cd : ByteArray) (nL : Nat) (ret : Option FieldType) (lev : Nat) (av : List Value) (w0 : va_W) (r : Option Value) (w1 : va_W) : Prop :=
  ∀ sz : Nat, Met l y (.code y cd nL ret :: G) { frames := lev, cells := 0, slots := 0, locals := 40 * lev }
    (va_Pc av (fun U => U.heap.size = sz ∧ va_P D vwCl w0 U.heap ∧ va_K D vwCl tys U ∧ va_D (fun _ => True) w0)) (Qcm D w0 sz r w1) 0 0 (va_A w0 sz)
theorem CM.of {l : Launch} {D : va_G} {tys : List (ClassId × FieldType)} {y : MethodName} {cd : ByteArray} {nL : Nat} {ret : Option FieldType} {lev : Nat} {av : List Value} {w0 : va_W} {r : Option Value} {w1 : va_W} (hy : plainName y.cls = true) (hn : (lg_sl av).length ≤ nL)
    (body : ∀ (p : Program) (e : Env) (s : State) (m : MethodId) (below : List Frame) (meth : Method) (c : Code) (A : Nat → Prop) (ls : Array Slot), Cx p s m av.toArray c cd nL y.cls (.code y cd nL ret) D tys → meth.sig.returnType = ret → meth.locks = false → va_P D vwCl w0 s.heap → va_D A w0 → A = va_A w0 s.heap.size → (∀ q : Nat, s.heap.size ≤ q → A q) → va_S A s.heap s.heap [] → lv_has ls nL (lv_args 0 av) →
      W p l e { frames := lev, cells := 0, slots := 0, locals := 40 * lev } s m av.toArray below meth c s.heap [] 0 0 (MQ below (Qcm D w0 s.heap.size r w1) av.toArray s 0 0 A) (F0 m 0 ls [])) : CM l D tys y cd nL ret lev av w0 r w1 := by
  intro sz
  refine Met.ofW (cc := cd) (maxL := nL) (ret := ret) hy rfl ?_
  intro p e s m args below meth c s₁ B hml hv
  obtain ⟨rfl, hsz, hP, hK, hD0⟩ := hv
  subst hsz
  have hl := lv_entry av (n := nL) hn
  rw [lg_entry_eq]
  exact body p e s m below meth c _ _ ⟨⟨B.exec, B.bytes, hml, findClass_of_methodNamed B.named, atoms_spec (ws := .code y cd nL ret :: G) B.pre⟩, hK⟩ B.returns B.notSynchronized hP hD0.self rfl (fun q h => Or.inr h) va_S.rf hl
section CMR
variable {p : Program} {l : Launch} {e : Env} {R : Room} {s : State} {m : MethodId} {args : Array Value} {below : List Frame} {meth : Method} {c : Code} {H : Heap} {locs : List Loc} {cells slots : Nat} {Q : State → Prop}
variable {cc cd : ByteArray} {nL nLy n idx pc : Nat} {own C : String} {x0 : Cond} {D : va_G} {tys : List (ClassId × FieldType)} {w0 w1 : va_W} {r : Option Value} {A : Nat → Prop} {ls : Array Slot} {rest : List Value} {y : MethodName} {ret : Option FieldType} {lev : Nat} {H0 : Heap} {st0 : List Value}
theorem CM.reti {v : Int32} (E : Cx p s m args c cc nL own x0 D tys) (hr : meth.sig.returnType = some .int) (hlocks : meth.locks = false) (hA : A = va_A w0 s.heap.size) (hP : va_P D vwCl w1 H) (hS : va_S A s.heap H locs) (er : r = some (.int v)) (hd : decode cc pc = .ok (.ireturn, 1)) : W p l e R s m args below meth c H locs cells slots (MQ below (Qcm D w0 s.heap.size r w1) args s cells slots A) (F0 m pc ls [.int v]) := by
  subst hA; subst er
  exact W.iret E.1.1 E.1.2.1 hr (fun t ht hW => ⟨rfl, by rw [ht]; exact hP, hS.F ht⟩) hS.2.2 hd hlocks
theorem CM.retz {v : Int32} (E : Cx p s m args c cc nL own x0 D tys) (hr : meth.sig.returnType = some .boolean) (hlocks : meth.locks = false) (hA : A = va_A w0 s.heap.size) (hP : va_P D vwCl w1 H) (hS : va_S A s.heap H locs) (er : r = some (.int v)) (hn : narrow .boolean (.int v) = .int v) (hd : decode cc pc = .ok (.ireturn, 1)) : W p l e R s m args below meth c H locs cells slots (MQ below (Qcm D w0 s.heap.size r w1) args s cells slots A) (F0 m pc ls [.int v]) := by
  subst hA; subst er
  exact W.zret E.1.1 E.1.2.1 hr hn (fun t ht hW => ⟨rfl, by rw [ht]; exact hP, hS.F ht⟩) hS.2.2 hd hlocks
theorem CM.retl {v : Int64} (E : Cx p s m args c cc nL own x0 D tys) (hr : meth.sig.returnType = some .long) (hlocks : meth.locks = false) (hA : A = va_A w0 s.heap.size) (hP : va_P D vwCl w1 H) (hS : va_S A s.heap H locs) (er : r = some (.long v)) (hd : decode cc pc = .ok (.lreturn, 1)) : W p l e R s m args below meth c H locs cells slots (MQ below (Qcm D w0 s.heap.size r w1) args s cells slots A) (F0 m pc ls [.long v]) := by
  subst hA; subst er
  exact W.lret E.1.1 E.1.2.1 hr (fun t ht hW => ⟨rfl, by rw [ht]; exact hP, hS.F ht⟩) hS.2.2 hd hlocks
theorem CM.retv (E : Cx p s m args c cc nL own x0 D tys) (hr : meth.sig.returnType = none) (hlocks : meth.locks = false) (hA : A = va_A w0 s.heap.size) (hP : va_P D vwCl w1 H) (hS : va_S A s.heap H locs) (er : r = none) (hd : decode cc pc = .ok (.return_, 1)) : W p l e R s m args below meth c H locs cells slots (MQ below (Qcm D w0 s.heap.size r w1) args s cells slots A) (F0 m pc ls []) := by
  subst hA; subst er
  exact W.vret E.1.1 E.1.2.1 hr (fun t ht hW => ⟨rfl, by rw [ht]; exact hP, hS.F ht⟩) hS.2.2 hd hlocks
theorem CM.go {a : Array Value} (hr : va_Run p l e R s m args below meth c H locs cells slots 0 0 (F0 m pc ls st0) rest (Qcm D w0 H.size r w1 a) (va_A w0 H.size)) (hS : va_S A H0 H locs) (hF : ∀ q, va_A w0 H.size q → A q)
    (kk : ∀ (H1 : Heap) (locs1 : List Loc), va_P D vwCl w1 H1 → va_S A H0 H1 locs1 → W p l e R s m args below meth c H1 locs1 cells slots Q (F0 m (pc + 3) ls (r.toList ++ rest))) : W p l e R s m args below meth c H locs cells slots Q (F0 m pc ls st0) := by
  intro T hT X
  obtain ⟨v, st₀, t, T', L, h0, X', hL, e1, e2, ⟨hv, hp, hz, hk⟩, st⟩ := hr T hT X
  cases hv
  rw [h0] at hz hk
  obtain ⟨t2, a1, b1⟩ := kk T'.heap (locs ++ L) (by rw [e1]; exact hp)
    ⟨Nat.le_trans hS.1 (by rw [e1]; exact hz), fun q h1 h2 => by rw [e1, hk q (Nat.lt_of_lt_of_le h1 hS.1) (fun z => h2 (hF q z))]; exact hS.2.1 q h1 h2, fun q hq => by
      rcases List.mem_append.mp hq with h | h
      · exact hS.2.2 q h
      · exact hF _ (hL q h)⟩ T' rfl X'
  exact ⟨t2, st t2 a1, b1⟩
theorem CM.pre {av : List Value} (sz : Nat) : FrameBlind (va_Pc av (fun U => U.heap.size = sz ∧ va_P D vwCl w0 U.heap ∧ va_K D vwCl tys U ∧ va_D (fun _ => True) w0)) := fun a U g mk q => by
  obtain ⟨q0, q1, qP, qK, qD⟩ := q
  exact ⟨q0, q1, qP, va_K.moved (u := U) (U := U.calling g mk a) (Vm.Alike.refl U.vm) qK, qD⟩
theorem CM.fr (hD : va_D A w0) (hS : va_S A H0 H locs) (hA : ∀ q : Nat, H0.size ≤ q → A q) : ∀ q, va_A w0 H.size q → A q := fun q h => by
  rcases h with ⟨k, e, h⟩ | h
  · exact hD.2 k (q, e) h
  · exact hA q (Nat.le_trans hS.1 h)
theorem CM.callV {b : Nat} {As : List Value} {T : u_T} {N ci : Nat} {fs : List Value} (E : Cx p s m args c cc nL own x0 D tys) (hM : CM l D tys y cd nLy ret lev (.ref b :: As) w0 r w1)
    (hl : Cond.methodLink own idx y ∈ G) (hi : Cond.instanceMethod y ∈ G) (hse : Cond.selects C y y ∈ G) (hin : Cond.initialized C ∈ G) (hco : Cond.code y cd nLy ret ∈ G)
    (hd0 : y.cls = C ∧ y.cls ≠ "java/lang/invoke/MethodHandle" ∧ y.cls ≠ "java/lang/invoke/VarHandle" ∧ (parseMethodDescriptor y.desc).map (fun d => d.parameters.length) = some n)
    (hR : lev + 1 ≤ R.frames ∧ 8 + (nLy + 11) + 40 * lev ≤ R.locals) (hcs : cells ≤ R.cells ∧ slots ≤ R.slots) (q0 : Nat) (he : w0[q0]? = some (b, .inr (ci, fs))) (hc : vwCl[ci]? = some (C, T, N))
    (hP : va_P D vwCl w0 H) (hD : va_D A w0) (hS : va_S A H0 H locs) (hA : ∀ q : Nat, H0.size ≤ q → A q) (hn : As.length = n) (hsz : ls.size = nL) (hw : (rest.map fun v => v.category).sum ≤ 8) (hdg : decode cc pc = .ok (.invokevirtual idx, 3)) (hst : st0 = As.reverse ++ .ref b :: rest)
    (kk : ∀ (H1 : Heap) (locs1 : List Loc), va_P D vwCl w1 H1 → va_S A H0 H1 locs1 → W p l e R s m args below meth c H1 locs1 cells slots Q (F0 m (pc + 3) ls (r.toList ++ rest))) : W p l e R s m args below meth c H locs cells slots Q (F0 m pc ls st0) := by
  refine CM.go (va_runV (As := As) (rest := rest) E.1 (hM H.size) (cwV n E.1.2.2.2.2 (gdIn ?_) rfl rfl rfl hd0 hR) ⟨CM.pre _, va_recv E.2 hP hc he, fun U hU hW => ⟨rfl, by rw [hU], by rw [hU]; exact hP, va_K.moved hW.alike E.2, hD.weaken (fun _ _ _ _ => trivial)⟩⟩ rfl hn hsz hst (lv_room hw) hdg hcs) hS (CM.fr hD hS hA) kk
  intro w hw
  simp only [wsV, List.mem_append, List.mem_cons, List.not_mem_nil, or_false] at hw
  rcases hw with (rfl | rfl | rfl | rfl) | rfl | hw
  · exact hl
  · exact hi
  · exact hse
  · exact hin
  · exact hco
  · exact hw
theorem CM.callS {As : List Value} (E : Cx p s m args c cc nL own x0 D tys) (hM : CM l D tys y cd nLy ret lev As w0 r w1)
    (hl : Cond.methodLink own idx y ∈ G) (hs : Cond.static y ∈ G) (hin : Cond.initialized y.cls ∈ G) (hco : Cond.code y cd nLy ret ∈ G)
    (hd0 : y.cls ≠ "java/lang/invoke/MethodHandle" ∧ y.cls ≠ "java/lang/invoke/VarHandle" ∧ (parseMethodDescriptor y.desc).map (fun d => d.parameters.length) = some n)
    (hR : lev + 1 ≤ R.frames ∧ 8 + (nLy + 11) + 40 * lev ≤ R.locals) (hcs : cells ≤ R.cells ∧ slots ≤ R.slots)
    (hP : va_P D vwCl w0 H) (hD : va_D A w0) (hS : va_S A H0 H locs) (hA : ∀ q : Nat, H0.size ≤ q → A q) (hn : As.length = n) (hsz : ls.size = nL) (hw : (rest.map fun v => v.category).sum ≤ 8) (hdg : decode cc pc = .ok (.invokestatic idx, 3)) (hst : st0 = As.reverse ++ rest)
    (kk : ∀ (H1 : Heap) (locs1 : List Loc), va_P D vwCl w1 H1 → va_S A H0 H1 locs1 → W p l e R s m args below meth c H1 locs1 cells slots Q (F0 m (pc + 3) ls (r.toList ++ rest))) : W p l e R s m args below meth c H locs cells slots Q (F0 m pc ls st0) := by
  refine CM.go (va_runS (As := As) (rest := rest) E.1 (hM H.size) (va_cwS n E.1.2.2.2.2 (gdIn ?_) rfl rfl rfl hd0 hR) ⟨CM.pre _, fun U hU hW => ⟨rfl, by rw [hU], by rw [hU]; exact hP, va_K.moved hW.alike E.2, hD.weaken (fun _ _ _ _ => trivial)⟩⟩ rfl hn hsz hst (lv_room hw) hdg hcs) hS (CM.fr hD hS hA) kk
  intro w hw
  simp only [va_wsS, List.mem_append, List.mem_cons, List.not_mem_nil, or_false] at hw
  rcases hw with (rfl | rfl | rfl) | rfl | hw
  · exact hl
  · exact hs
  · exact hin
  · exact hco
  · exact hw
theorem CM.get {a ci N : Nat} {ref : String} {T : u_T} {fs : List Value} {v : Value} (E : Cx p s m args c cc nL own x0 D tys) (hP : va_P D vwCl w0 H) (q0 : Nat) (he : w0[q0]? = some (a, .inr (ci, fs))) (hc : vwCl[ci]? = some (C, T, N)) (hin : ∀ w ∈ u_ws C T N, w ∈ G) (k : Nat) (hk : k < N) (hl : Cond.fieldLink own idx (T k).1 (T k).2.1 (T k).2.2.1 ∈ G) (hv : fs[k]? = some v) (hd : decode cc pc = .ok (.getfield idx, 3))
    (kk : W p l e R s m args below meth c H locs cells slots Q (F0 m (pc + 3) ls (v :: rest))) : W p l e R s m args below meth c H locs cells slots Q (F0 m pc ls (.ref a :: rest)) :=
  va_get (T := T) (N := N) E.1.1 E.1.2.1 E.1.2.2.2.2 (fun w h => List.mem_cons_of_mem _ (hin w h)) E.1.2.2.2.1 E.2 hP q0 he hc k hk (E.1.2.2.2.2 _ (List.mem_cons_of_mem _ hl)) (fun _ h9 => h9) hv hd kk
theorem CM.put {a ci N : Nat} {T : u_T} {fs : List Value} {v : Value} {ty : FieldType} (E : Cx p s m args c cc nL own x0 D tys) (hP : va_P D vwCl w0 H) (hD : va_D A w0) (hS : va_S A H0 H locs) (q0 : Nat) (he : w0[q0]? = some (a, .inr (ci, fs))) (hc : vwCl[ci]? = some (C, T, N)) (hin : ∀ w ∈ u_ws C T N, w ∈ G) (ty0 : Nat → FieldType) (hty : ∀ k, k < N → parseFieldDescriptor (T k).2.2.1 = some (ty0 k)) (hnm : ∀ a, a < N → ∀ b, b < N → a ≠ b → (T a).2.1 ≠ (T b).2.1) (k : Nat) (hk : k < N) (hl : Cond.fieldLink own idx (T k).1 (T k).2.1 (T k).2.2.1 ∈ G) (hfin : (T k).2.2.2 = false) (hdt : parseFieldDescriptor (T k).2.2.1 = some ty) (hn : narrow ty v = v) (hfit : fits ty v = true) (hl2 : k < fs.length) (he1 : w0.set q0 (a, .inr (ci, fs.set k v)) = w1) (hd : decode cc pc = .ok (.putfield idx, 3))
    (kk : ∀ (H1 : Heap) (locs1 : List Loc), va_P D vwCl w1 H1 → va_D A w1 → va_S A H0 H1 locs1 → W p l e R s m args below meth c H1 locs1 cells slots Q (F0 m (pc + 3) ls rest)) : W p l e R s m args below meth c H locs cells slots Q (F0 m pc ls (v :: .ref a :: rest)) := by
  subst he1
  exact va_put (T := T) (N := N) E.1.1 E.1.2.1 E.1.2.2.2.2 (fun w h => List.mem_cons_of_mem _ (hin w h)) ty0 hty hnm E.1.2.2.2.1 E.2 hP hD hS q0 he hc k hk (E.1.2.2.2.2 _ (List.mem_cons_of_mem _ hl)) (fun _ h9 => h9) hfin hdt hn hfit hl2 hd kk
end CMR
end
section
theorem tb1 {w : Cond} (h : w ∈ tables_1_1) : w ∈ lw_tbl := List.mem_append_right _ (List.mem_append_left _ h)
theorem tb2 {w : Cond} (h : w ∈ tables_1_2) : w ∈ lw_tbl := List.mem_append_right _ (List.mem_append_right _ (List.mem_append_left _ h))
theorem tb3 {w : Cond} (h : w ∈ tables_1_3) : w ∈ lw_tbl := List.mem_append_right _ (List.mem_append_right _ (List.mem_append_right _ (List.mem_append_left _ h)))
theorem tb4 {w : Cond} (h : w ∈ tables_1_4) : w ∈ lw_tbl := List.mem_append_right _ (List.mem_append_right _ (List.mem_append_right _ (List.mem_append_right _ (List.mem_append_left _ h))))
theorem tb5 {w : Cond} (h : w ∈ tables_1_5) : w ∈ lw_tbl := List.mem_append_right _ (List.mem_append_right _ (List.mem_append_right _ (List.mem_append_right _ (List.mem_append_right _ h))))
theorem tbs {q : MethodName × Nat} (h : q ∈ lw_privs) : Cond.selects q.1.cls q.1 q.1 ∈ lw_tbl := List.mem_append_left _ (List.mem_map.mpr ⟨q, h, rfl⟩)
theorem pv1 {q : MethodName × Nat} (h : q ∈ lw_privs_1) : q ∈ lw_privs := (List.mem_append_left _ h)
theorem pv2 {q : MethodName × Nat} (h : q ∈ lw_privs_2) : q ∈ lw_privs := (List.mem_append_right _ (List.mem_append_left _ h))
theorem pv3 {q : MethodName × Nat} (h : q ∈ lw_privs_3) : q ∈ lw_privs := (List.mem_append_right _ (List.mem_append_right _ h))
theorem ini_L : Cond.initialized RL ∈ G := mG (tb1 (List.mem_of_getElem? (i := 0) rfl)) rfl
theorem ini_X3 : Cond.initialized RX3 ∈ G := mG (tb1 (List.mem_of_getElem? (i := 1) rfl)) rfl
theorem ini_X1 : Cond.initialized RX1 ∈ G := mG (tb1 (List.mem_of_getElem? (i := 2) rfl)) rfl
theorem ini_J7 : Cond.initialized RJ7 ∈ G := mG (tb1 (List.mem_of_getElem? (i := 3) rfl)) rfl
theorem ini_X2 : Cond.initialized RX2 ∈ G := mG (tb1 (List.mem_of_getElem? (i := 4) rfl)) rfl
theorem ini_X0 : Cond.initialized RX0 ∈ G := mG (tb1 (List.mem_of_getElem? (i := 5) rfl)) rfl
theorem ini_X4 : Cond.initialized RX4 ∈ G := mG (tb1 (List.mem_of_getElem? (i := 6) rfl)) rfl
theorem ini_J9 : Cond.initialized "java/lang/Math" ∈ G := mG (tb1 (List.mem_of_getElem? (i := 17) rfl)) rfl
theorem ini_J6 : Cond.initialized RJ6 ∈ G := mG (tb1 (List.mem_of_getElem? (i := 21) rfl)) rfl
theorem cl_L_8 : Cond.classLink RL 8 "CallShaper" ∈ G := mG (tb1 (List.mem_of_getElem? (i := 23) rfl)) rfl
theorem ib_X3 : Cond.instantiable RX3 3 ∈ G := mG (tb1 (List.mem_of_getElem? (i := 24) rfl)) rfl
theorem ml_L_41 : Cond.methodLink RL 41 yX3_init ∈ G := mG (tb1 (List.mem_of_getElem? (i := 25) rfl)) rfl
theorem im_X3_init : Cond.instanceMethod yX3_init ∈ G := mG (tb1 (List.mem_of_getElem? (i := 26) rfl)) rfl
theorem co_X3_init : Cond.code yX3_init cX3_init 1 none ∈ G := mG (tb1 (List.mem_of_getElem? (i := 27) rfl)) rfl
theorem ml_X3_3 : Cond.methodLink RX3 3 objectInit ∈ G := mG (tb1 (List.mem_of_getElem? (i := 28) rfl)) rfl
theorem im_objInit : Cond.instanceMethod objectInit ∈ G := mG (tb1 (List.mem_of_getElem? (i := 29) rfl)) rfl
theorem cl_X3_9 : Cond.classLink RX3 9 "CallShaper$Program" ∈ G := mG (tb1 (List.mem_of_getElem? (i := 31) rfl)) rfl
theorem ib_X1 : Cond.instantiable RX1 7 ∈ G := mG (tb1 (List.mem_of_getElem? (i := 32) rfl)) rfl
theorem ml_X3_11 : Cond.methodLink RX3 11 yX1_init ∈ G := mG (tb1 (List.mem_of_getElem? (i := 33) rfl)) rfl
theorem im_X1_init : Cond.instanceMethod yX1_init ∈ G := mG (tb1 (List.mem_of_getElem? (i := 34) rfl)) rfl
theorem co_X1_init : Cond.code yX1_init cX1_init 1 none ∈ G := mG (tb1 (List.mem_of_getElem? (i := 35) rfl)) rfl
theorem ml_X1_3 : Cond.methodLink RX1 3 objectInit ∈ G := mG (tb1 (List.mem_of_getElem? (i := 36) rfl)) rfl
theorem ml_X1_30 : Cond.methodLink RX1 30 yJ7_fill_53178 ∈ G := mG (tb1 (List.mem_of_getElem? (i := 37) rfl)) rfl
theorem st_J7_fill_53178 : Cond.static yJ7_fill_53178 ∈ G := mG (tb1 (List.mem_of_getElem? (i := 38) rfl)) rfl
theorem co_J7_fill_53178 : Cond.code yJ7_fill_53178 cJ7_fill_53178 4 none ∈ G := mG (tb1 (List.mem_of_getElem? (i := 39) rfl)) rfl
theorem fl_X1_9 : Cond.fieldLink RX1 9 "CallShaper$Program" "parents" "[I" ∈ G := mG (tb1 (List.mem_of_getElem? (i := 40) rfl)) rfl
theorem fl_X1_15 : Cond.fieldLink RX1 15 "CallShaper$Program" "lengths" "[I" ∈ G := mG (tb1 (List.mem_of_getElem? (i := 41) rfl)) rfl
theorem fl_X1_18 : Cond.fieldLink RX1 18 "CallShaper$Program" "kinds" "[I" ∈ G := mG (tb1 (List.mem_of_getElem? (i := 42) rfl)) rfl
theorem fl_X1_21 : Cond.fieldLink RX1 21 "CallShaper$Program" "xs" "[I" ∈ G := mG (tb1 (List.mem_of_getElem? (i := 43) rfl)) rfl
theorem fl_X1_24 : Cond.fieldLink RX1 24 "CallShaper$Program" "ys" "[I" ∈ G := mG (tb1 (List.mem_of_getElem? (i := 44) rfl)) rfl
theorem fl_X1_27 : Cond.fieldLink RX1 27 "CallShaper$Program" "zs" "[I" ∈ G := mG (tb1 (List.mem_of_getElem? (i := 45) rfl)) rfl
theorem fl_X1_36 : Cond.fieldLink RX1 36 "CallShaper$Program" "classes" "I" ∈ G := mG (tb1 (List.mem_of_getElem? (i := 46) rfl)) rfl
theorem ar_int : Cond.arrayClass .int ∈ G := mG (tb1 (List.mem_of_getElem? (i := 62) rfl)) rfl
theorem cl_X3_16 : Cond.classLink RX3 16 "CallShaper$Shaping" ∈ G := mG (tb1 (List.mem_of_getElem? (i := 63) rfl)) rfl
theorem ib_X2 : Cond.instantiable RX2 6 ∈ G := mG (tb1 (List.mem_of_getElem? (i := 64) rfl)) rfl
theorem ml_X3_18 : Cond.methodLink RX3 18 yX2_init ∈ G := mG (tb1 (List.mem_of_getElem? (i := 65) rfl)) rfl
theorem im_X2_init : Cond.instanceMethod yX2_init ∈ G := mG (tb1 (List.mem_of_getElem? (i := 66) rfl)) rfl
theorem co_X2_init : Cond.code yX2_init cX2_init 2 none ∈ G := mG (tb1 (List.mem_of_getElem? (i := 67) rfl)) rfl
theorem ml_X2_3 : Cond.methodLink RX2 3 objectInit ∈ G := mG (tb1 (List.mem_of_getElem? (i := 68) rfl)) rfl
theorem fl_X2_18 : Cond.fieldLink RX2 18 "CallShaper$Shaping" "program" "LCallShaper$Program;" ∈ G := mG (tb1 (List.mem_of_getElem? (i := 69) rfl)) rfl
theorem fl_X2_9 : Cond.fieldLink RX2 9 "CallShaper$Shaping" "verdicts" "[I" ∈ G := mG (tb1 (List.mem_of_getElem? (i := 70) rfl)) rfl
theorem fl_X2_15 : Cond.fieldLink RX2 15 "CallShaper$Shaping" "callVerdicts" "[I" ∈ G := mG (tb1 (List.mem_of_getElem? (i := 71) rfl)) rfl
theorem fl_X2_22 : Cond.fieldLink RX2 22 "CallShaper$Shaping" "made" "I" ∈ G := mG (tb1 (List.mem_of_getElem? (i := 72) rfl)) rfl
theorem fl_X2_26 : Cond.fieldLink RX2 26 "CallShaper$Shaping" "reached" "I" ∈ G := mG (tb1 (List.mem_of_getElem? (i := 73) rfl)) rfl
theorem fl_X2_64 : Cond.fieldLink RX2 64 "CallShaper$Shaping" "called" "I" ∈ G := mG (tb1 (List.mem_of_getElem? (i := 74) rfl)) rfl
theorem cl_X3_25 : Cond.classLink RX3 25 "CallShaper$Machine" ∈ G := mG (tb1 (List.mem_of_getElem? (i := 88) rfl)) rfl
theorem ib_X0 : Cond.instantiable RX0 15 ∈ G := mG (tb1 (List.mem_of_getElem? (i := 89) rfl)) rfl
theorem ml_X3_27 : Cond.methodLink RX3 27 yX0_init ∈ G := mG (tb1 (List.mem_of_getElem? (i := 90) rfl)) rfl
theorem im_X0_init : Cond.instanceMethod yX0_init ∈ G := mG (tb1 (List.mem_of_getElem? (i := 91) rfl)) rfl
theorem co_X0_init : Cond.code yX0_init cX0_init 3 none ∈ G := mG (tb1 (List.mem_of_getElem? (i := 92) rfl)) rfl
theorem ml_X0_3 : Cond.methodLink RX0 3 objectInit ∈ G := mG (tb1 (List.mem_of_getElem? (i := 93) rfl)) rfl
theorem fl_X0_37 : Cond.fieldLink RX0 37 "CallShaper$Machine" "program" "LCallShaper$Program;" ∈ G := mG (tb1 (List.mem_of_getElem? (i := 94) rfl)) rfl
theorem fl_X0_41 : Cond.fieldLink RX0 41 "CallShaper$Machine" "shaping" "LCallShaper$Shaping;" ∈ G := mG (tb1 (List.mem_of_getElem? (i := 95) rfl)) rfl
theorem fl_X0_9 : Cond.fieldLink RX0 9 "CallShaper$Machine" "registers" "[J" ∈ G := mG (tb1 (List.mem_of_getElem? (i := 96) rfl)) rfl
theorem fl_X0_15 : Cond.fieldLink RX0 15 "CallShaper$Machine" "bodies" "[I" ∈ G := mG (tb1 (List.mem_of_getElem? (i := 97) rfl)) rfl
theorem fl_X0_19 : Cond.fieldLink RX0 19 "CallShaper$Machine" "nexts" "[I" ∈ G := mG (tb1 (List.mem_of_getElem? (i := 98) rfl)) rfl
theorem fl_X0_22 : Cond.fieldLink RX0 22 "CallShaper$Machine" "answersTo" "[I" ∈ G := mG (tb1 (List.mem_of_getElem? (i := 99) rfl)) rfl
theorem fl_X0_25 : Cond.fieldLink RX0 25 "CallShaper$Machine" "classes" "[I" ∈ G := mG (tb1 (List.mem_of_getElem? (i := 100) rfl)) rfl
theorem fl_X0_28 : Cond.fieldLink RX0 28 "CallShaper$Machine" "fields" "[J" ∈ G := mG (tb1 (List.mem_of_getElem? (i := 101) rfl)) rfl
theorem fl_X0_31 : Cond.fieldLink RX0 31 "CallShaper$Machine" "putOut" "[I" ∈ G := mG (tb1 (List.mem_of_getElem? (i := 102) rfl)) rfl
theorem fl_X0_34 : Cond.fieldLink RX0 34 "CallShaper$Machine" "counts" "[I" ∈ G := mG (tb1 (List.mem_of_getElem? (i := 103) rfl)) rfl
theorem fl_X0_45 : Cond.fieldLink RX0 45 "CallShaper$Machine" "asShaped" "Z" ∈ G := mG (tb1 (List.mem_of_getElem? (i := 104) rfl)) rfl
theorem fl_X0_49 : Cond.fieldLink RX0 49 "CallShaper$Machine" "room" "I" ∈ G := mG (tb1 (List.mem_of_getElem? (i := 105) rfl)) rfl
theorem fl_X0_53 : Cond.fieldLink RX0 53 "CallShaper$Machine" "frames" "I" ∈ G := mG (tb1 (List.mem_of_getElem? (i := 106) rfl)) rfl
theorem fl_X0_56 : Cond.fieldLink RX0 56 "CallShaper$Machine" "objects" "I" ∈ G := mG (tb1 (List.mem_of_getElem? (i := 107) rfl)) rfl
theorem fl_X0_59 : Cond.fieldLink RX0 59 "CallShaper$Machine" "trap" "I" ∈ G := mG (tb1 (List.mem_of_getElem? (i := 108) rfl)) rfl
theorem ar_long : Cond.arrayClass .long ∈ G := mG (tb1 (List.mem_of_getElem? (i := 140) rfl)) rfl
theorem fl_X3_12 : Cond.fieldLink RX3 12 "CallShaper" "program" "LCallShaper$Program;" ∈ G := mG (tb1 (List.mem_of_getElem? (i := 141) rfl)) rfl
theorem fl_X3_21 : Cond.fieldLink RX3 21 "CallShaper" "shaping" "LCallShaper$Shaping;" ∈ G := mG (tb1 (List.mem_of_getElem? (i := 142) rfl)) rfl
theorem fl_X3_30 : Cond.fieldLink RX3 30 "CallShaper" "machine" "LCallShaper$Machine;" ∈ G := mG (tb1 (List.mem_of_getElem? (i := 143) rfl)) rfl
theorem ml_L_63 : Cond.methodLink RL 63 yX3_shape ∈ G := mG (tb1 (List.mem_of_getElem? (i := 151) rfl)) rfl
theorem im_X3_shape : Cond.instanceMethod yX3_shape ∈ G := mG (tb1 (List.mem_of_getElem? (i := 152) rfl)) rfl
theorem se_X3_shape : Cond.selects RX3 yX3_shape yX3_shape ∈ G := mG (tb1 (List.mem_of_getElem? (i := 153) rfl)) rfl
theorem co_X3_shape : Cond.code yX3_shape cX3_shape 1 (some .int) ∈ G := mG (tb1 (List.mem_of_getElem? (i := 154) rfl)) rfl
theorem ml_X3_90 : Cond.methodLink RX3 90 yX2_renew ∈ G := mG (tb1 (List.mem_of_getElem? (i := 155) rfl)) rfl
theorem im_X2_renew : Cond.instanceMethod yX2_renew ∈ G := mG (tb1 (List.mem_of_getElem? (i := 156) rfl)) rfl
theorem se_X2_renew : Cond.selects RX2 yX2_renew yX2_renew ∈ G := mG (tb1 (List.mem_of_getElem? (i := 157) rfl)) rfl
theorem co_X2_renew : Cond.code yX2_renew cX2_renew 2 (some .int) ∈ G := mG (tb1 (List.mem_of_getElem? (i := 158) rfl)) rfl
theorem ml_X2_41 : Cond.methodLink RX2 41 yJ7_fill_53178 ∈ G := mG (tb1 (List.mem_of_getElem? (i := 159) rfl)) rfl
theorem ml_X2_44 : Cond.methodLink RX2 44 yX2_findReached ∈ G := mG (tb1 (List.mem_of_getElem? (i := 160) rfl)) rfl
theorem im_X2_findReached : Cond.instanceMethod yX2_findReached ∈ G := mG (tb1 (List.mem_of_getElem? (i := 162) rfl)) rfl
theorem co_X2_findReached : Cond.code yX2_findReached cX2_findReached 4 none ∈ G := mG (tb1 (List.mem_of_getElem? (i := 163) rfl)) rfl
theorem ml_X2_67 : Cond.methodLink RX2 67 yX2_targetSet ∈ G := mG (tb1 (List.mem_of_getElem? (i := 164) rfl)) rfl
theorem im_X2_targetSet : Cond.instanceMethod yX2_targetSet ∈ G := mG (tb1 (List.mem_of_getElem? (i := 166) rfl)) rfl
theorem co_X2_targetSet : Cond.code yX2_targetSet cX2_targetSet 4 (some .int) ∈ G := mG (tb1 (List.mem_of_getElem? (i := 167) rfl)) rfl
theorem ml_X2_76 : Cond.methodLink RX2 76 yX1_target ∈ G := mG (tb1 (List.mem_of_getElem? (i := 168) rfl)) rfl
theorem im_X1_target : Cond.instanceMethod yX1_target ∈ G := mG (tb1 (List.mem_of_getElem? (i := 169) rfl)) rfl
theorem se_X1_target : Cond.selects RX1 yX1_target yX1_target ∈ G := mG (tb1 (List.mem_of_getElem? (i := 170) rfl)) rfl
theorem co_X1_target : Cond.code yX1_target cX1_target 6 (some .int) ∈ G := mG (tb1 (List.mem_of_getElem? (i := 171) rfl)) rfl
theorem ml_X1_52 : Cond.methodLink RX1 52 yX1_bodyOf ∈ G := mG (tb1 (List.mem_of_getElem? (i := 172) rfl)) rfl
theorem st_X1_bodyOf : Cond.static yX1_bodyOf ∈ G := mG (tb1 (List.mem_of_getElem? (i := 173) rfl)) rfl
theorem co_X1_bodyOf : Cond.code yX1_bodyOf cX1_bodyOf 2 (some .int) ∈ G := mG (tb1 (List.mem_of_getElem? (i := 174) rfl)) rfl
theorem ml_X2_70 : Cond.methodLink RX2 70 yX2_readBodies ∈ G := mG (tb1 (List.mem_of_getElem? (i := 175) rfl)) rfl
theorem im_X2_readBodies : Cond.instanceMethod yX2_readBodies ∈ G := mG (tb1 (List.mem_of_getElem? (i := 177) rfl)) rfl
theorem co_X2_readBodies : Cond.code yX2_readBodies cX2_readBodies 3 none ∈ G := mG (tb1 (List.mem_of_getElem? (i := 178) rfl)) rfl
theorem ml_X2_51 : Cond.methodLink RX2 51 yX2_isIn ∈ G := mG (tb1 (List.mem_of_getElem? (i := 179) rfl)) rfl
theorem st_X2_isIn : Cond.static yX2_isIn ∈ G := mG (tb1 (List.mem_of_getElem? (i := 180) rfl)) rfl
theorem co_X2_isIn : Cond.code yX2_isIn cX2_isIn 2 (some .boolean) ∈ G := mG (tb1 (List.mem_of_getElem? (i := 181) rfl)) rfl
theorem ml_X2_79 : Cond.methodLink RX2 79 yX2_readBody ∈ G := mG (tb1 (List.mem_of_getElem? (i := 182) rfl)) rfl
theorem im_X2_readBody : Cond.instanceMethod yX2_readBody ∈ G := mG (tb1 (List.mem_of_getElem? (i := 184) rfl)) rfl
theorem co_X2_readBody : Cond.code yX2_readBody cX2_readBody 4 none ∈ G := mG (tb1 (List.mem_of_getElem? (i := 185) rfl)) rfl
theorem ml_X2_82 : Cond.methodLink RX2 82 yX1_length ∈ G := mG (tb1 (List.mem_of_getElem? (i := 186) rfl)) rfl
theorem im_X1_length : Cond.instanceMethod yX1_length ∈ G := mG (tb1 (List.mem_of_getElem? (i := 187) rfl)) rfl
theorem se_X1_length : Cond.selects RX1 yX1_length yX1_length ∈ G := mG (tb1 (List.mem_of_getElem? (i := 188) rfl)) rfl
theorem co_X1_length : Cond.code yX1_length cX1_length 2 (some .int) ∈ G := mG (tb1 (List.mem_of_getElem? (i := 189) rfl)) rfl
theorem ml_X2_29 : Cond.methodLink RX2 29 yX1_placeOf ∈ G := mG (tb1 (List.mem_of_getElem? (i := 190) rfl)) rfl
theorem st_X1_placeOf : Cond.static yX1_placeOf ∈ G := mG (tb1 (List.mem_of_getElem? (i := 191) rfl)) rfl
theorem co_X1_placeOf : Cond.code yX1_placeOf cX1_placeOf 2 (some .int) ∈ G := mG (tb1 (List.mem_of_getElem? (i := 192) rfl)) rfl
theorem ml_X2_85 : Cond.methodLink RX2 85 yX1_kind ∈ G := mG (tb1 (List.mem_of_getElem? (i := 193) rfl)) rfl
theorem im_X1_kind : Cond.instanceMethod yX1_kind ∈ G := mG (tb1 (List.mem_of_getElem? (i := 194) rfl)) rfl
theorem se_X1_kind : Cond.selects RX1 yX1_kind yX1_kind ∈ G := mG (tb1 (List.mem_of_getElem? (i := 195) rfl)) rfl
theorem co_X1_kind : Cond.code yX1_kind cX1_kind 2 (some .int) ∈ G := mG (tb1 (List.mem_of_getElem? (i := 196) rfl)) rfl
theorem ml_X2_88 : Cond.methodLink RX2 88 yX1_y ∈ G := mG (tb1 (List.mem_of_getElem? (i := 197) rfl)) rfl
theorem im_X1_y : Cond.instanceMethod yX1_y ∈ G := mG (tb1 (List.mem_of_getElem? (i := 198) rfl)) rfl
theorem se_X1_y : Cond.selects RX1 yX1_y yX1_y ∈ G := mG (tb1 (List.mem_of_getElem? (i := 199) rfl)) rfl
theorem co_X1_y : Cond.code yX1_y cX1_y 2 (some .int) ∈ G := mG (tb1 (List.mem_of_getElem? (i := 200) rfl)) rfl
theorem ml_X2_91 : Cond.methodLink RX2 91 yX1_z ∈ G := mG (tb1 (List.mem_of_getElem? (i := 201) rfl)) rfl
theorem im_X1_z : Cond.instanceMethod yX1_z ∈ G := mG (tb1 (List.mem_of_getElem? (i := 202) rfl)) rfl
theorem se_X1_z : Cond.selects RX1 yX1_z yX1_z ∈ G := mG (tb1 (List.mem_of_getElem? (i := 203) rfl)) rfl
theorem co_X1_z : Cond.code yX1_z cX1_z 2 (some .int) ∈ G := mG (tb1 (List.mem_of_getElem? (i := 204) rfl)) rfl
theorem ml_X2_73 : Cond.methodLink RX2 73 yX2_reachTargets ∈ G := mG (tb1 (List.mem_of_getElem? (i := 205) rfl)) rfl
theorem im_X2_reachTargets : Cond.instanceMethod yX2_reachTargets ∈ G := mG (tb1 (List.mem_of_getElem? (i := 207) rfl)) rfl
theorem co_X2_reachTargets : Cond.code yX2_reachTargets cX2_reachTargets 3 none ∈ G := mG (tb1 (List.mem_of_getElem? (i := 208) rfl)) rfl
theorem ml_X2_47 : Cond.methodLink RX2 47 yX2_verdictOfCalls ∈ G := mG (tb1 (List.mem_of_getElem? (i := 209) rfl)) rfl
theorem im_X2_verdictOfCalls : Cond.instanceMethod yX2_verdictOfCalls ∈ G := mG (tb1 (List.mem_of_getElem? (i := 211) rfl)) rfl
theorem co_X2_verdictOfCalls : Cond.code yX2_verdictOfCalls cX2_verdictOfCalls 5 (some .int) ∈ G := mG (tb1 (List.mem_of_getElem? (i := 212) rfl)) rfl
theorem ml_X2_94 : Cond.methodLink RX2 94 yX1_fitsInPlace ∈ G := mG (tb1 (List.mem_of_getElem? (i := 213) rfl)) rfl
theorem im_X1_fitsInPlace : Cond.instanceMethod yX1_fitsInPlace ∈ G := mG (tb1 (List.mem_of_getElem? (i := 214) rfl)) rfl
theorem se_X1_fitsInPlace : Cond.selects RX1 yX1_fitsInPlace yX1_fitsInPlace ∈ G := mG (tb1 (List.mem_of_getElem? (i := 215) rfl)) rfl
theorem co_X1_fitsInPlace : Cond.code yX1_fitsInPlace cX1_fitsInPlace 4 (some .boolean) ∈ G := mG (tb1 (List.mem_of_getElem? (i := 216) rfl)) rfl
theorem ml_X1_48 : Cond.methodLink RX1 48 yX1_placeOf ∈ G := mG (tb1 (List.mem_of_getElem? (i := 217) rfl)) rfl
theorem ml_X2_55 : Cond.methodLink RX2 55 yX2_judge ∈ G := mG (tb1 (List.mem_of_getElem? (i := 218) rfl)) rfl
theorem im_X2_judge : Cond.instanceMethod yX2_judge ∈ G := mG (tb1 (List.mem_of_getElem? (i := 220) rfl)) rfl
theorem co_X2_judge : Cond.code yX2_judge cX2_judge 6 none ∈ G := mG (tb1 (List.mem_of_getElem? (i := 221) rfl)) rfl
theorem ml_X2_98 : Cond.methodLink RX2 98 yX2_waysOut ∈ G := mG (tb1 (List.mem_of_getElem? (i := 222) rfl)) rfl
theorem im_X2_waysOut : Cond.instanceMethod yX2_waysOut ∈ G := mG (tb1 (List.mem_of_getElem? (i := 224) rfl)) rfl
theorem co_X2_waysOut : Cond.code yX2_waysOut cX2_waysOut 6 (some .int) ∈ G := mG (tb1 (List.mem_of_getElem? (i := 225) rfl)) rfl
theorem ml_X2_101 : Cond.methodLink RX2 101 yX1_x ∈ G := mG (tb1 (List.mem_of_getElem? (i := 226) rfl)) rfl
theorem im_X1_x : Cond.instanceMethod yX1_x ∈ G := mG (tb1 (List.mem_of_getElem? (i := 227) rfl)) rfl
theorem se_X1_x : Cond.selects RX1 yX1_x yX1_x ∈ G := mG (tb1 (List.mem_of_getElem? (i := 228) rfl)) rfl
theorem co_X1_x : Cond.code yX1_x cX1_x 2 (some .int) ∈ G := mG (tb1 (List.mem_of_getElem? (i := 229) rfl)) rfl
theorem ml_X2_104 : Cond.methodLink RX2 104 yX2_holders ∈ G := mG (tb1 (List.mem_of_getElem? (i := 230) rfl)) rfl
theorem im_X2_holders : Cond.instanceMethod yX2_holders ∈ G := mG (tb1 (List.mem_of_getElem? (i := 232) rfl)) rfl
theorem co_X2_holders : Cond.code yX2_holders cX2_holders 7 (some .int) ∈ G := mG (tb1 (List.mem_of_getElem? (i := 233) rfl)) rfl
theorem ml_X2_59 : Cond.methodLink RX2 59 yJ6_bitCount_0f7a4 ∈ G := mG (tb1 (List.mem_of_getElem? (i := 234) rfl)) rfl
theorem st_J6_bitCount_0f7a4 : Cond.static yJ6_bitCount_0f7a4 ∈ G := mG (tb1 (List.mem_of_getElem? (i := 235) rfl)) rfl
theorem co_J6_bitCount_0f7a4 : Cond.code yJ6_bitCount_0f7a4 cJ6_bitCount_0f7a4 1 (some .int) ∈ G := mG (tb1 (List.mem_of_getElem? (i := 236) rfl)) rfl
theorem kc_J6_265 : Cond.constant RJ6 265 (1431655765 : Int32) ∈ G := mG (tb1 (List.mem_of_getElem? (i := 237) rfl)) rfl
theorem kc_J6_266 : Cond.constant RJ6 266 (858993459 : Int32) ∈ G := mG (tb1 (List.mem_of_getElem? (i := 238) rfl)) rfl
theorem kc_J6_267 : Cond.constant RJ6 267 (252645135 : Int32) ∈ G := mG (tb1 (List.mem_of_getElem? (i := 239) rfl)) rfl
theorem ml_L_67 : Cond.methodLink RL 67 yX3_reach ∈ G := mG (tb2 (List.mem_of_getElem? (i := 0) rfl)) rfl
theorem im_X3_reach : Cond.instanceMethod yX3_reach ∈ G := mG (tb2 (List.mem_of_getElem? (i := 1) rfl)) rfl
theorem se_X3_reach : Cond.selects RX3 yX3_reach yX3_reach ∈ G := mG (tb2 (List.mem_of_getElem? (i := 2) rfl)) rfl
theorem co_X3_reach : Cond.code yX3_reach cX3_reach 1 (some .int) ∈ G := mG (tb2 (List.mem_of_getElem? (i := 3) rfl)) rfl
theorem ml_X3_94 : Cond.methodLink RX3 94 yX2_bits ∈ G := mG (tb2 (List.mem_of_getElem? (i := 4) rfl)) rfl
theorem im_X2_bits : Cond.instanceMethod yX2_bits ∈ G := mG (tb2 (List.mem_of_getElem? (i := 5) rfl)) rfl
theorem se_X2_bits : Cond.selects RX2 yX2_bits yX2_bits ∈ G := mG (tb2 (List.mem_of_getElem? (i := 6) rfl)) rfl
theorem co_X2_bits : Cond.code yX2_bits cX2_bits 1 (some .int) ∈ G := mG (tb2 (List.mem_of_getElem? (i := 7) rfl)) rfl
theorem ml_L_45 : Cond.methodLink RL 45 yL_type ∈ G := mG (tb2 (List.mem_of_getElem? (i := 8) rfl)) rfl
theorem st_L_type : Cond.static yL_type ∈ G := mG (tb2 (List.mem_of_getElem? (i := 9) rfl)) rfl
theorem cl_L_13 : Cond.classLink RL 13 "java/lang/IllegalArgumentException" ∈ G := mG (tb2 (List.mem_of_getElem? (i := 11) rfl)) rfl
theorem cl_L_15 : Cond.classLink RL 15 "java/lang/IllegalStateException" ∈ G := mG (tb2 (List.mem_of_getElem? (i := 12) rfl)) rfl
theorem ml_L_7 : Cond.methodLink RL 7 yX3_type ∈ G := mG (tb2 (List.mem_of_getElem? (i := 13) rfl)) rfl
theorem im_X3_type : Cond.instanceMethod yX3_type ∈ G := mG (tb2 (List.mem_of_getElem? (i := 14) rfl)) rfl
theorem se_X3_type : Cond.selects RX3 yX3_type yX3_type ∈ G := mG (tb2 (List.mem_of_getElem? (i := 15) rfl)) rfl
theorem co_X3_type : Cond.code yX3_type cX3_type 2 (some .int) ∈ G := mG (tb2 (List.mem_of_getElem? (i := 16) rfl)) rfl
theorem ml_X3_34 : Cond.methodLink RX3 34 yX1_hasClass ∈ G := mG (tb2 (List.mem_of_getElem? (i := 17) rfl)) rfl
theorem im_X1_hasClass : Cond.instanceMethod yX1_hasClass ∈ G := mG (tb2 (List.mem_of_getElem? (i := 18) rfl)) rfl
theorem se_X1_hasClass : Cond.selects RX1 yX1_hasClass yX1_hasClass ∈ G := mG (tb2 (List.mem_of_getElem? (i := 19) rfl)) rfl
theorem co_X1_hasClass : Cond.code yX1_hasClass cX1_hasClass 2 (some .boolean) ∈ G := mG (tb2 (List.mem_of_getElem? (i := 20) rfl)) rfl
theorem ml_X1_40 : Cond.methodLink RX1 40 yX1_isWithin ∈ G := mG (tb2 (List.mem_of_getElem? (i := 21) rfl)) rfl
theorem st_X1_isWithin : Cond.static yX1_isWithin ∈ G := mG (tb2 (List.mem_of_getElem? (i := 22) rfl)) rfl
theorem co_X1_isWithin : Cond.code yX1_isWithin cX1_isWithin 2 (some .boolean) ∈ G := mG (tb2 (List.mem_of_getElem? (i := 23) rfl)) rfl
theorem cl_X3_38 : Cond.classLink RX3 38 "java/lang/IllegalArgumentException" ∈ G := mG (tb2 (List.mem_of_getElem? (i := 24) rfl)) rfl
theorem ar_byte : Cond.arrayClass .byte ∈ G := mG (tb2 (List.mem_of_getElem? (i := 91) rfl)) rfl
theorem ml_X3_45 : Cond.methodLink RX3 45 yX1_isFullOfClasses ∈ G := mG (tb2 (List.mem_of_getElem? (i := 92) rfl)) rfl
theorem im_X1_isFullOfClasses : Cond.instanceMethod yX1_isFullOfClasses ∈ G := mG (tb2 (List.mem_of_getElem? (i := 93) rfl)) rfl
theorem se_X1_isFullOfClasses : Cond.selects RX1 yX1_isFullOfClasses yX1_isFullOfClasses ∈ G := mG (tb2 (List.mem_of_getElem? (i := 94) rfl)) rfl
theorem co_X1_isFullOfClasses : Cond.code yX1_isFullOfClasses cX1_isFullOfClasses 1 (some .boolean) ∈ G := mG (tb2 (List.mem_of_getElem? (i := 95) rfl)) rfl
theorem cl_X3_49 : Cond.classLink RX3 49 "java/lang/IllegalStateException" ∈ G := mG (tb2 (List.mem_of_getElem? (i := 96) rfl)) rfl
theorem ml_X3_54 : Cond.methodLink RX3 54 yX1_addClass ∈ G := mG (tb2 (List.mem_of_getElem? (i := 112) rfl)) rfl
theorem im_X1_addClass : Cond.instanceMethod yX1_addClass ∈ G := mG (tb2 (List.mem_of_getElem? (i := 113) rfl)) rfl
theorem se_X1_addClass : Cond.selects RX1 yX1_addClass yX1_addClass ∈ G := mG (tb2 (List.mem_of_getElem? (i := 114) rfl)) rfl
theorem co_X1_addClass : Cond.code yX1_addClass cX1_addClass 3 (some .int) ∈ G := mG (tb2 (List.mem_of_getElem? (i := 115) rfl)) rfl
theorem ml_L_55 : Cond.methodLink RL 55 yL_operation ∈ G := mG (tb2 (List.mem_of_getElem? (i := 116) rfl)) rfl
theorem st_L_operation : Cond.static yL_operation ∈ G := mG (tb2 (List.mem_of_getElem? (i := 117) rfl)) rfl
theorem ml_L_17 : Cond.methodLink RL 17 yX3_operation ∈ G := mG (tb2 (List.mem_of_getElem? (i := 119) rfl)) rfl
theorem im_X3_operation : Cond.instanceMethod yX3_operation ∈ G := mG (tb2 (List.mem_of_getElem? (i := 120) rfl)) rfl
theorem se_X3_operation : Cond.selects RX3 yX3_operation yX3_operation ∈ G := mG (tb2 (List.mem_of_getElem? (i := 121) rfl)) rfl
theorem co_X3_operation : Cond.code yX3_operation cX3_operation 8 (some .int) ∈ G := mG (tb2 (List.mem_of_getElem? (i := 122) rfl)) rfl
theorem ml_X3_58 : Cond.methodLink RX3 58 yX1_hasPlaceFor ∈ G := mG (tb2 (List.mem_of_getElem? (i := 123) rfl)) rfl
theorem im_X1_hasPlaceFor : Cond.instanceMethod yX1_hasPlaceFor ∈ G := mG (tb2 (List.mem_of_getElem? (i := 124) rfl)) rfl
theorem se_X1_hasPlaceFor : Cond.selects RX1 yX1_hasPlaceFor yX1_hasPlaceFor ∈ G := mG (tb2 (List.mem_of_getElem? (i := 125) rfl)) rfl
theorem co_X1_hasPlaceFor : Cond.code yX1_hasPlaceFor cX1_hasPlaceFor 3 (some .boolean) ∈ G := mG (tb2 (List.mem_of_getElem? (i := 126) rfl)) rfl
theorem ml_X1_44 : Cond.methodLink RX1 44 yX1_hasClass ∈ G := mG (tb2 (List.mem_of_getElem? (i := 127) rfl)) rfl
theorem ml_X3_64 : Cond.methodLink RX3 64 yX1_isWellFormed ∈ G := mG (tb2 (List.mem_of_getElem? (i := 129) rfl)) rfl
theorem st_X1_isWellFormed : Cond.static yX1_isWellFormed ∈ G := mG (tb2 (List.mem_of_getElem? (i := 130) rfl)) rfl
theorem co_X1_isWellFormed : Cond.code yX1_isWellFormed cX1_isWellFormed 4 (some .boolean) ∈ G := mG (tb2 (List.mem_of_getElem? (i := 131) rfl)) rfl
theorem ml_X3_70 : Cond.methodLink RX3 70 yX1_bodyOf ∈ G := mG (tb2 (List.mem_of_getElem? (i := 133) rfl)) rfl
theorem ml_X3_74 : Cond.methodLink RX3 74 yX1_isFull ∈ G := mG (tb2 (List.mem_of_getElem? (i := 134) rfl)) rfl
theorem im_X1_isFull : Cond.instanceMethod yX1_isFull ∈ G := mG (tb2 (List.mem_of_getElem? (i := 135) rfl)) rfl
theorem se_X1_isFull : Cond.selects RX1 yX1_isFull yX1_isFull ∈ G := mG (tb2 (List.mem_of_getElem? (i := 136) rfl)) rfl
theorem co_X1_isFull : Cond.code yX1_isFull cX1_isFull 2 (some .boolean) ∈ G := mG (tb2 (List.mem_of_getElem? (i := 137) rfl)) rfl
theorem ml_X3_79 : Cond.methodLink RX3 79 yX2_forget ∈ G := mG (tb2 (List.mem_of_getElem? (i := 139) rfl)) rfl
theorem im_X2_forget : Cond.instanceMethod yX2_forget ∈ G := mG (tb2 (List.mem_of_getElem? (i := 140) rfl)) rfl
theorem se_X2_forget : Cond.selects RX2 yX2_forget yX2_forget ∈ G := mG (tb2 (List.mem_of_getElem? (i := 141) rfl)) rfl
theorem co_X2_forget : Cond.code yX2_forget cX2_forget 3 none ∈ G := mG (tb2 (List.mem_of_getElem? (i := 142) rfl)) rfl
theorem ml_X2_35 : Cond.methodLink RX2 35 yJ7_fill_fda19 ∈ G := mG (tb2 (List.mem_of_getElem? (i := 143) rfl)) rfl
theorem st_J7_fill_fda19 : Cond.static yJ7_fill_fda19 ∈ G := mG (tb2 (List.mem_of_getElem? (i := 144) rfl)) rfl
theorem co_J7_fill_fda19 : Cond.code yJ7_fill_fda19 cJ7_fill_fda19 5 none ∈ G := mG (tb2 (List.mem_of_getElem? (i := 145) rfl)) rfl
theorem ml_J7_13 : Cond.methodLink RJ7 13 yJ7_rangeCheck_23922 ∈ G := mG (tb2 (List.mem_of_getElem? (i := 146) rfl)) rfl
theorem st_J7_rangeCheck_23922 : Cond.static yJ7_rangeCheck_23922 ∈ G := mG (tb2 (List.mem_of_getElem? (i := 147) rfl)) rfl
theorem co_J7_rangeCheck_23922 : Cond.code yJ7_rangeCheck_23922 cJ7_rangeCheck_23922 3 none ∈ G := mG (tb2 (List.mem_of_getElem? (i := 148) rfl)) rfl
theorem cl_J7_43 : Cond.classLink RJ7 43 "java/lang/IllegalArgumentException" ∈ G := mG (tb2 (List.mem_of_getElem? (i := 149) rfl)) rfl
theorem cl_J7_45 : Cond.classLink RJ7 45 "java/lang/StringBuilder" ∈ G := mG (tb2 (List.mem_of_getElem? (i := 150) rfl)) rfl
theorem st_max : Cond.static Lib.Math.max.name ∈ G := mG (tb2 (List.mem_of_getElem? (i := 205) rfl)) rfl
theorem cl_J7_311 : Cond.classLink RJ7 311 "[B" ∈ G := mG (tb2 (List.mem_of_getElem? (i := 221) rfl)) rfl
theorem fl_J6_83 : Cond.fieldLink RJ6 83 "java/lang/Integer" "DigitOnes" "[B" ∈ G := mG (tb3 (List.mem_of_getElem? (i := 75) rfl)) rfl
theorem fl_J6_87 : Cond.fieldLink RJ6 87 "java/lang/Integer" "DigitTens" "[B" ∈ G := mG (tb3 (List.mem_of_getElem? (i := 77) rfl)) rfl
theorem ml_X3_83 : Cond.methodLink RX3 83 yX1_append ∈ G := mG (tb3 (List.mem_of_getElem? (i := 151) rfl)) rfl
theorem im_X1_append : Cond.instanceMethod yX1_append ∈ G := mG (tb3 (List.mem_of_getElem? (i := 152) rfl)) rfl
theorem se_X1_append : Cond.selects RX1 yX1_append yX1_append ∈ G := mG (tb3 (List.mem_of_getElem? (i := 153) rfl)) rfl
theorem co_X1_append : Cond.code yX1_append cX1_append 7 (some .int) ∈ G := mG (tb3 (List.mem_of_getElem? (i := 154) rfl)) rfl
theorem ml_L_59 : Cond.methodLink RL 59 yL_strip ∈ G := mG (tb3 (List.mem_of_getElem? (i := 155) rfl)) rfl
theorem st_L_strip : Cond.static yL_strip ∈ G := mG (tb3 (List.mem_of_getElem? (i := 156) rfl)) rfl
theorem ml_L_21 : Cond.methodLink RL 21 yX3_strip ∈ G := mG (tb3 (List.mem_of_getElem? (i := 158) rfl)) rfl
theorem im_X3_strip : Cond.instanceMethod yX3_strip ∈ G := mG (tb3 (List.mem_of_getElem? (i := 159) rfl)) rfl
theorem se_X3_strip : Cond.selects RX3 yX3_strip yX3_strip ∈ G := mG (tb3 (List.mem_of_getElem? (i := 160) rfl)) rfl
theorem co_X3_strip : Cond.code yX3_strip cX3_strip 4 (some .int) ∈ G := mG (tb3 (List.mem_of_getElem? (i := 161) rfl)) rfl
theorem ml_X3_87 : Cond.methodLink RX3 87 yX1_empty ∈ G := mG (tb3 (List.mem_of_getElem? (i := 162) rfl)) rfl
theorem im_X1_empty : Cond.instanceMethod yX1_empty ∈ G := mG (tb3 (List.mem_of_getElem? (i := 163) rfl)) rfl
theorem se_X1_empty : Cond.selects RX1 yX1_empty yX1_empty ∈ G := mG (tb3 (List.mem_of_getElem? (i := 164) rfl)) rfl
theorem co_X1_empty : Cond.code yX1_empty cX1_empty 3 (some .int) ∈ G := mG (tb3 (List.mem_of_getElem? (i := 165) rfl)) rfl
theorem ml_L_71 : Cond.methodLink RL 71 yL_site ∈ G := mG (tb3 (List.mem_of_getElem? (i := 166) rfl)) rfl
theorem st_L_site : Cond.static yL_site ∈ G := mG (tb3 (List.mem_of_getElem? (i := 167) rfl)) rfl
theorem cl_L_29 : Cond.classLink RL 29 "java/util/NoSuchElementException" ∈ G := mG (tb3 (List.mem_of_getElem? (i := 169) rfl)) rfl
theorem ml_L_25 : Cond.methodLink RL 25 yX3_site ∈ G := mG (tb3 (List.mem_of_getElem? (i := 170) rfl)) rfl
theorem im_X3_site : Cond.instanceMethod yX3_site ∈ G := mG (tb3 (List.mem_of_getElem? (i := 171) rfl)) rfl
theorem se_X3_site : Cond.selects RX3 yX3_site yX3_site ∈ G := mG (tb3 (List.mem_of_getElem? (i := 172) rfl)) rfl
theorem co_X3_site : Cond.code yX3_site cX3_site 5 (some .int) ∈ G := mG (tb3 (List.mem_of_getElem? (i := 173) rfl)) rfl
theorem cl_X3_97 : Cond.classLink RX3 97 "java/util/NoSuchElementException" ∈ G := mG (tb3 (List.mem_of_getElem? (i := 174) rfl)) rfl
theorem ml_X3_100 : Cond.methodLink RX3 100 yX1_length ∈ G := mG (tb3 (List.mem_of_getElem? (i := 189) rfl)) rfl
theorem ml_X3_105 : Cond.methodLink RX3 105 yX1_placeOf ∈ G := mG (tb3 (List.mem_of_getElem? (i := 191) rfl)) rfl
theorem ml_X3_108 : Cond.methodLink RX3 108 yX2_verdictAt ∈ G := mG (tb3 (List.mem_of_getElem? (i := 192) rfl)) rfl
theorem im_X2_verdictAt : Cond.instanceMethod yX2_verdictAt ∈ G := mG (tb3 (List.mem_of_getElem? (i := 193) rfl)) rfl
theorem se_X2_verdictAt : Cond.selects RX2 yX2_verdictAt yX2_verdictAt ∈ G := mG (tb3 (List.mem_of_getElem? (i := 194) rfl)) rfl
theorem co_X2_verdictAt : Cond.code yX2_verdictAt cX2_verdictAt 2 (some .int) ∈ G := mG (tb3 (List.mem_of_getElem? (i := 195) rfl)) rfl
theorem ml_L_75 : Cond.methodLink RL 75 yL_run ∈ G := mG (tb3 (List.mem_of_getElem? (i := 196) rfl)) rfl
theorem st_L_run : Cond.static yL_run ∈ G := mG (tb3 (List.mem_of_getElem? (i := 197) rfl)) rfl
theorem ml_L_31 : Cond.methodLink RL 31 yX3_run ∈ G := mG (tb3 (List.mem_of_getElem? (i := 199) rfl)) rfl
theorem im_X3_run : Cond.instanceMethod yX3_run ∈ G := mG (tb3 (List.mem_of_getElem? (i := 200) rfl)) rfl
theorem se_X3_run : Cond.selects RX3 yX3_run yX3_run ∈ G := mG (tb3 (List.mem_of_getElem? (i := 201) rfl)) rfl
theorem co_X3_run : Cond.code yX3_run cX3_run 3 (some .int) ∈ G := mG (tb3 (List.mem_of_getElem? (i := 202) rfl)) rfl
theorem ml_X3_113 : Cond.methodLink RX3 113 yX0_execute ∈ G := mG (tb3 (List.mem_of_getElem? (i := 204) rfl)) rfl
theorem im_X0_execute : Cond.instanceMethod yX0_execute ∈ G := mG (tb3 (List.mem_of_getElem? (i := 205) rfl)) rfl
theorem se_X0_execute : Cond.selects RX0 yX0_execute yX0_execute ∈ G := mG (tb3 (List.mem_of_getElem? (i := 206) rfl)) rfl
theorem co_X0_execute : Cond.code yX0_execute cX0_execute 4 (some .int) ∈ G := mG (tb3 (List.mem_of_getElem? (i := 207) rfl)) rfl
theorem ml_X0_62 : Cond.methodLink RX0 62 yJ7_fill_53178 ∈ G := mG (tb3 (List.mem_of_getElem? (i := 208) rfl)) rfl
theorem ml_X0_68 : Cond.methodLink RX0 68 yX0_begin ∈ G := mG (tb3 (List.mem_of_getElem? (i := 209) rfl)) rfl
theorem im_X0_begin : Cond.instanceMethod yX0_begin ∈ G := mG (tb3 (List.mem_of_getElem? (i := 211) rfl)) rfl
theorem co_X0_begin : Cond.code yX0_begin cX0_begin 4 none ∈ G := mG (tb3 (List.mem_of_getElem? (i := 212) rfl)) rfl
theorem ml_X0_78 : Cond.methodLink RX0 78 yX0_newObject ∈ G := mG (tb3 (List.mem_of_getElem? (i := 213) rfl)) rfl
theorem im_X0_newObject : Cond.instanceMethod yX0_newObject ∈ G := mG (tb3 (List.mem_of_getElem? (i := 215) rfl)) rfl
theorem co_X0_newObject : Cond.code yX0_newObject cX0_newObject 4 (some .long) ∈ G := mG (tb3 (List.mem_of_getElem? (i := 216) rfl)) rfl
theorem ml_X0_156 : Cond.methodLink RX0 156 yJ7_fill_bad5a ∈ G := mG (tb3 (List.mem_of_getElem? (i := 217) rfl)) rfl
theorem st_J7_fill_bad5a : Cond.static yJ7_fill_bad5a ∈ G := mG (tb3 (List.mem_of_getElem? (i := 218) rfl)) rfl
theorem co_J7_fill_bad5a : Cond.code yJ7_fill_bad5a cJ7_fill_bad5a 6 none ∈ G := mG (tb3 (List.mem_of_getElem? (i := 219) rfl)) rfl
theorem kl_X0_142 : Cond.constantLong RX0 142 (4294967296 : Int64) ∈ G := mG (tb3 (List.mem_of_getElem? (i := 220) rfl)) rfl
theorem ml_X0_82 : Cond.methodLink RX0 82 yX1_target ∈ G := mG (tb3 (List.mem_of_getElem? (i := 221) rfl)) rfl
theorem ml_X0_88 : Cond.methodLink RX0 88 yX0_enter ∈ G := mG (tb3 (List.mem_of_getElem? (i := 222) rfl)) rfl
theorem im_X0_enter : Cond.instanceMethod yX0_enter ∈ G := mG (tb3 (List.mem_of_getElem? (i := 224) rfl)) rfl
theorem co_X0_enter : Cond.code yX0_enter cX0_enter 7 none ∈ G := mG (tb3 (List.mem_of_getElem? (i := 225) rfl)) rfl
theorem ml_X0_167 : Cond.methodLink RX0 167 Lib.Math.max.name ∈ G := mG (tb3 (List.mem_of_getElem? (i := 226) rfl)) rfl
theorem ml_X0_71 : Cond.methodLink RX0 71 yX0_isGoing ∈ G := mG (tb3 (List.mem_of_getElem? (i := 227) rfl)) rfl
theorem im_X0_isGoing : Cond.instanceMethod yX0_isGoing ∈ G := mG (tb3 (List.mem_of_getElem? (i := 229) rfl)) rfl
theorem co_X0_isGoing : Cond.code yX0_isGoing cX0_isGoing 2 (some .boolean) ∈ G := mG (tb3 (List.mem_of_getElem? (i := 230) rfl)) rfl
theorem ml_X0_92 : Cond.methodLink RX0 92 yX0_isBehindLast ∈ G := mG (tb3 (List.mem_of_getElem? (i := 231) rfl)) rfl
theorem im_X0_isBehindLast : Cond.instanceMethod yX0_isBehindLast ∈ G := mG (tb3 (List.mem_of_getElem? (i := 233) rfl)) rfl
theorem co_X0_isBehindLast : Cond.code yX0_isBehindLast cX0_isBehindLast 2 (some .boolean) ∈ G := mG (tb3 (List.mem_of_getElem? (i := 234) rfl)) rfl
theorem ml_X0_100 : Cond.methodLink RX0 100 yX1_length ∈ G := mG (tb3 (List.mem_of_getElem? (i := 235) rfl)) rfl
theorem ml_X0_96 : Cond.methodLink RX0 96 yX0_answer ∈ G := mG (tb3 (List.mem_of_getElem? (i := 236) rfl)) rfl
theorem im_X0_answer : Cond.instanceMethod yX0_answer ∈ G := mG (tb3 (List.mem_of_getElem? (i := 238) rfl)) rfl
theorem co_X0_answer : Cond.code yX0_answer cX0_answer 3 none ∈ G := mG (tb3 (List.mem_of_getElem? (i := 239) rfl)) rfl
theorem ml_X0_75 : Cond.methodLink RX0 75 yX0_step ∈ G := mG (tb4 (List.mem_of_getElem? (i := 0) rfl)) rfl
theorem im_X0_step : Cond.instanceMethod yX0_step ∈ G := mG (tb4 (List.mem_of_getElem? (i := 2) rfl)) rfl
theorem co_X0_step : Cond.code yX0_step cX0_step 3 none ∈ G := mG (tb4 (List.mem_of_getElem? (i := 3) rfl)) rfl
theorem ml_X0_104 : Cond.methodLink RX0 104 yX1_placeOf ∈ G := mG (tb4 (List.mem_of_getElem? (i := 4) rfl)) rfl
theorem ml_X0_107 : Cond.methodLink RX0 107 yX0_perform ∈ G := mG (tb4 (List.mem_of_getElem? (i := 5) rfl)) rfl
theorem im_X0_perform : Cond.instanceMethod yX0_perform ∈ G := mG (tb4 (List.mem_of_getElem? (i := 7) rfl)) rfl
theorem co_X0_perform : Cond.code yX0_perform cX0_perform 4 none ∈ G := mG (tb4 (List.mem_of_getElem? (i := 8) rfl)) rfl
theorem ml_X0_111 : Cond.methodLink RX0 111 yX1_x ∈ G := mG (tb4 (List.mem_of_getElem? (i := 9) rfl)) rfl
theorem ml_X0_114 : Cond.methodLink RX0 114 yX1_kind ∈ G := mG (tb4 (List.mem_of_getElem? (i := 10) rfl)) rfl
theorem ml_X0_117 : Cond.methodLink RX0 117 yX1_y ∈ G := mG (tb4 (List.mem_of_getElem? (i := 11) rfl)) rfl
theorem ml_X0_120 : Cond.methodLink RX0 120 yX0_reckon ∈ G := mG (tb4 (List.mem_of_getElem? (i := 12) rfl)) rfl
theorem im_X0_reckon : Cond.instanceMethod yX0_reckon ∈ G := mG (tb4 (List.mem_of_getElem? (i := 14) rfl)) rfl
theorem co_X0_reckon : Cond.code yX0_reckon cX0_reckon 7 none ∈ G := mG (tb4 (List.mem_of_getElem? (i := 15) rfl)) rfl
theorem ml_X0_144 : Cond.methodLink RX0 144 yX1_z ∈ G := mG (tb4 (List.mem_of_getElem? (i := 16) rfl)) rfl
theorem ml_X0_147 : Cond.methodLink RX0 147 yX0_isObject ∈ G := mG (tb4 (List.mem_of_getElem? (i := 17) rfl)) rfl
theorem st_X0_isObject : Cond.static yX0_isObject ∈ G := mG (tb4 (List.mem_of_getElem? (i := 18) rfl)) rfl
theorem co_X0_isObject : Cond.code yX0_isObject cX0_isObject 2 (some .boolean) ∈ G := mG (tb4 (List.mem_of_getElem? (i := 19) rfl)) rfl
theorem ml_X0_123 : Cond.methodLink RX0 123 yX0_make ∈ G := mG (tb4 (List.mem_of_getElem? (i := 20) rfl)) rfl
theorem im_X0_make : Cond.instanceMethod yX0_make ∈ G := mG (tb4 (List.mem_of_getElem? (i := 22) rfl)) rfl
theorem co_X0_make : Cond.code yX0_make cX0_make 4 none ∈ G := mG (tb4 (List.mem_of_getElem? (i := 23) rfl)) rfl
theorem ml_X0_151 : Cond.methodLink RX0 151 yX2_verdictAt ∈ G := mG (tb4 (List.mem_of_getElem? (i := 24) rfl)) rfl
theorem ml_X0_126 : Cond.methodLink RX0 126 yX0_readField ∈ G := mG (tb4 (List.mem_of_getElem? (i := 25) rfl)) rfl
theorem im_X0_readField : Cond.instanceMethod yX0_readField ∈ G := mG (tb4 (List.mem_of_getElem? (i := 27) rfl)) rfl
theorem co_X0_readField : Cond.code yX0_readField cX0_readField 5 none ∈ G := mG (tb4 (List.mem_of_getElem? (i := 28) rfl)) rfl
theorem ml_X0_159 : Cond.methodLink RX0 159 yX0_objectOf ∈ G := mG (tb4 (List.mem_of_getElem? (i := 29) rfl)) rfl
theorem st_X0_objectOf : Cond.static yX0_objectOf ∈ G := mG (tb4 (List.mem_of_getElem? (i := 30) rfl)) rfl
theorem co_X0_objectOf : Cond.code yX0_objectOf cX0_objectOf 2 (some .int) ∈ G := mG (tb4 (List.mem_of_getElem? (i := 31) rfl)) rfl
theorem ml_X0_129 : Cond.methodLink RX0 129 yX0_writeField ∈ G := mG (tb4 (List.mem_of_getElem? (i := 32) rfl)) rfl
theorem im_X0_writeField : Cond.instanceMethod yX0_writeField ∈ G := mG (tb4 (List.mem_of_getElem? (i := 34) rfl)) rfl
theorem co_X0_writeField : Cond.code yX0_writeField cX0_writeField 5 none ∈ G := mG (tb4 (List.mem_of_getElem? (i := 35) rfl)) rfl
theorem ml_X0_132 : Cond.methodLink RX0 132 yX0_send ∈ G := mG (tb4 (List.mem_of_getElem? (i := 36) rfl)) rfl
theorem im_X0_send : Cond.instanceMethod yX0_send ∈ G := mG (tb4 (List.mem_of_getElem? (i := 38) rfl)) rfl
theorem co_X0_send : Cond.code yX0_send cX0_send 6 none ∈ G := mG (tb4 (List.mem_of_getElem? (i := 39) rfl)) rfl
theorem ml_X0_163 : Cond.methodLink RX0 163 yX0_countCall ∈ G := mG (tb4 (List.mem_of_getElem? (i := 40) rfl)) rfl
theorem im_X0_countCall : Cond.instanceMethod yX0_countCall ∈ G := mG (tb4 (List.mem_of_getElem? (i := 42) rfl)) rfl
theorem co_X0_countCall : Cond.code yX0_countCall cX0_countCall 2 none ∈ G := mG (tb4 (List.mem_of_getElem? (i := 43) rfl)) rfl
theorem ml_X0_135 : Cond.methodLink RX0 135 yX0_print ∈ G := mG (tb4 (List.mem_of_getElem? (i := 44) rfl)) rfl
theorem im_X0_print : Cond.instanceMethod yX0_print ∈ G := mG (tb4 (List.mem_of_getElem? (i := 46) rfl)) rfl
theorem co_X0_print : Cond.code yX0_print cX0_print 4 none ∈ G := mG (tb4 (List.mem_of_getElem? (i := 47) rfl)) rfl
theorem ml_X0_138 : Cond.methodLink RX0 138 yX0_checkClass ∈ G := mG (tb4 (List.mem_of_getElem? (i := 48) rfl)) rfl
theorem im_X0_checkClass : Cond.instanceMethod yX0_checkClass ∈ G := mG (tb4 (List.mem_of_getElem? (i := 50) rfl)) rfl
theorem co_X0_checkClass : Cond.code yX0_checkClass cX0_checkClass 4 none ∈ G := mG (tb4 (List.mem_of_getElem? (i := 51) rfl)) rfl
theorem ml_X0_172 : Cond.methodLink RX0 172 yX1_classIs ∈ G := mG (tb4 (List.mem_of_getElem? (i := 52) rfl)) rfl
theorem im_X1_classIs : Cond.instanceMethod yX1_classIs ∈ G := mG (tb4 (List.mem_of_getElem? (i := 53) rfl)) rfl
theorem se_X1_classIs : Cond.selects RX1 yX1_classIs yX1_classIs ∈ G := mG (tb4 (List.mem_of_getElem? (i := 54) rfl)) rfl
theorem co_X1_classIs : Cond.code yX1_classIs cX1_classIs 5 (some .boolean) ∈ G := mG (tb4 (List.mem_of_getElem? (i := 55) rfl)) rfl
theorem ml_L_79 : Cond.methodLink RL 79 yL_count ∈ G := mG (tb4 (List.mem_of_getElem? (i := 56) rfl)) rfl
theorem st_L_count : Cond.static yL_count ∈ G := mG (tb4 (List.mem_of_getElem? (i := 57) rfl)) rfl
theorem ml_L_35 : Cond.methodLink RL 35 yX3_count ∈ G := mG (tb4 (List.mem_of_getElem? (i := 59) rfl)) rfl
theorem im_X3_count : Cond.instanceMethod yX3_count ∈ G := mG (tb4 (List.mem_of_getElem? (i := 60) rfl)) rfl
theorem se_X3_count : Cond.selects RX3 yX3_count yX3_count ∈ G := mG (tb4 (List.mem_of_getElem? (i := 61) rfl)) rfl
theorem co_X3_count : Cond.code yX3_count cX3_count 2 (some .int) ∈ G := mG (tb4 (List.mem_of_getElem? (i := 62) rfl)) rfl
theorem ml_X3_119 : Cond.methodLink RX3 119 yX0_tally ∈ G := mG (tb4 (List.mem_of_getElem? (i := 64) rfl)) rfl
theorem im_X0_tally : Cond.instanceMethod yX0_tally ∈ G := mG (tb4 (List.mem_of_getElem? (i := 65) rfl)) rfl
theorem se_X0_tally : Cond.selects RX0 yX0_tally yX0_tally ∈ G := mG (tb4 (List.mem_of_getElem? (i := 66) rfl)) rfl
theorem co_X0_tally : Cond.code yX0_tally cX0_tally 2 (some .int) ∈ G := mG (tb4 (List.mem_of_getElem? (i := 67) rfl)) rfl
theorem ml_L_82 : Cond.methodLink RL 82 yL_out ∈ G := mG (tb4 (List.mem_of_getElem? (i := 68) rfl)) rfl
theorem st_L_out : Cond.static yL_out ∈ G := mG (tb4 (List.mem_of_getElem? (i := 69) rfl)) rfl
theorem ml_L_38 : Cond.methodLink RL 38 yX3_out ∈ G := mG (tb4 (List.mem_of_getElem? (i := 71) rfl)) rfl
theorem im_X3_out : Cond.instanceMethod yX3_out ∈ G := mG (tb4 (List.mem_of_getElem? (i := 72) rfl)) rfl
theorem se_X3_out : Cond.selects RX3 yX3_out yX3_out ∈ G := mG (tb4 (List.mem_of_getElem? (i := 73) rfl)) rfl
theorem co_X3_out : Cond.code yX3_out cX3_out 2 (some .int) ∈ G := mG (tb4 (List.mem_of_getElem? (i := 74) rfl)) rfl
theorem ml_X3_124 : Cond.methodLink RX3 124 yX0_valuePutOut ∈ G := mG (tb4 (List.mem_of_getElem? (i := 76) rfl)) rfl
theorem im_X0_valuePutOut : Cond.instanceMethod yX0_valuePutOut ∈ G := mG (tb4 (List.mem_of_getElem? (i := 77) rfl)) rfl
theorem se_X0_valuePutOut : Cond.selects RX0 yX0_valuePutOut yX0_valuePutOut ∈ G := mG (tb4 (List.mem_of_getElem? (i := 78) rfl)) rfl
theorem co_X0_valuePutOut : Cond.code yX0_valuePutOut cX0_valuePutOut 2 (some .int) ∈ G := mG (tb4 (List.mem_of_getElem? (i := 79) rfl)) rfl
theorem cl_L_42 : Cond.classLink RL 42 "CallShaperModel" ∈ G := mG (tb4 (List.mem_of_getElem? (i := 80) rfl)) rfl
theorem ib_X4 : Cond.instantiable RX4 23 ∈ G := mG (tb4 (List.mem_of_getElem? (i := 81) rfl)) rfl
theorem ml_L_44 : Cond.methodLink RL 44 yX4_init ∈ G := mG (tb4 (List.mem_of_getElem? (i := 82) rfl)) rfl
theorem im_X4_init : Cond.instanceMethod yX4_init ∈ G := mG (tb4 (List.mem_of_getElem? (i := 83) rfl)) rfl
theorem co_X4_init : Cond.code yX4_init cX4_init 1 none ∈ G := mG (tb4 (List.mem_of_getElem? (i := 84) rfl)) rfl
theorem ml_X4_1 : Cond.methodLink RX4 1 objectInit ∈ G := mG (tb4 (List.mem_of_getElem? (i := 85) rfl)) rfl
theorem fl_X4_69 : Cond.fieldLink RX4 69 "CallShaperModel" "thrown" "I" ∈ G := mG (tb4 (List.mem_of_getElem? (i := 86) rfl)) rfl
theorem fl_X4_7 : Cond.fieldLink RX4 7 "CallShaperModel" "types" "I" ∈ G := mG (tb4 (List.mem_of_getElem? (i := 87) rfl)) rfl
theorem fl_X4_13 : Cond.fieldLink RX4 13 "CallShaperModel" "parent" "[I" ∈ G := mG (tb4 (List.mem_of_getElem? (i := 88) rfl)) rfl
theorem fl_X4_17 : Cond.fieldLink RX4 17 "CallShaperModel" "many" "[I" ∈ G := mG (tb4 (List.mem_of_getElem? (i := 89) rfl)) rfl
theorem fl_X4_20 : Cond.fieldLink RX4 20 "CallShaperModel" "code" "[I" ∈ G := mG (tb4 (List.mem_of_getElem? (i := 90) rfl)) rfl
theorem fl_X4_23 : Cond.fieldLink RX4 23 "CallShaperModel" "made" "[Z" ∈ G := mG (tb4 (List.mem_of_getElem? (i := 91) rfl)) rfl
theorem fl_X4_27 : Cond.fieldLink RX4 27 "CallShaperModel" "reached" "[Z" ∈ G := mG (tb4 (List.mem_of_getElem? (i := 92) rfl)) rfl
theorem fl_X4_30 : Cond.fieldLink RX4 30 "CallShaperModel" "changed" "[Z" ∈ G := mG (tb4 (List.mem_of_getElem? (i := 93) rfl)) rfl
theorem fl_X4_33 : Cond.fieldLink RX4 33 "CallShaperModel" "sites" "[I" ∈ G := mG (tb4 (List.mem_of_getElem? (i := 94) rfl)) rfl
theorem fl_X4_36 : Cond.fieldLink RX4 36 "CallShaperModel" "holder" "[Z" ∈ G := mG (tb4 (List.mem_of_getElem? (i := 95) rfl)) rfl
theorem fl_X4_122 : Cond.fieldLink RX4 122 "CallShaperModel" "objects" "I" ∈ G := mG (tb4 (List.mem_of_getElem? (i := 96) rfl)) rfl
theorem fl_X4_119 : Cond.fieldLink RX4 119 "CallShaperModel" "room" "I" ∈ G := mG (tb4 (List.mem_of_getElem? (i := 97) rfl)) rfl
theorem fl_X4_39 : Cond.fieldLink RX4 39 "CallShaperModel" "classOf" "[I" ∈ G := mG (tb4 (List.mem_of_getElem? (i := 98) rfl)) rfl
theorem fl_X4_42 : Cond.fieldLink RX4 42 "CallShaperModel" "fieldIs" "[Z" ∈ G := mG (tb4 (List.mem_of_getElem? (i := 99) rfl)) rfl
theorem fl_X4_45 : Cond.fieldLink RX4 45 "CallShaperModel" "field" "[I" ∈ G := mG (tb4 (List.mem_of_getElem? (i := 100) rfl)) rfl
theorem fl_X4_125 : Cond.fieldLink RX4 125 "CallShaperModel" "frames" "I" ∈ G := mG (tb4 (List.mem_of_getElem? (i := 101) rfl)) rfl
theorem fl_X4_48 : Cond.fieldLink RX4 48 "CallShaperModel" "body" "[I" ∈ G := mG (tb4 (List.mem_of_getElem? (i := 102) rfl)) rfl
theorem fl_X4_51 : Cond.fieldLink RX4 51 "CallShaperModel" "place" "[I" ∈ G := mG (tb4 (List.mem_of_getElem? (i := 103) rfl)) rfl
theorem fl_X4_54 : Cond.fieldLink RX4 54 "CallShaperModel" "wants" "[I" ∈ G := mG (tb4 (List.mem_of_getElem? (i := 104) rfl)) rfl
theorem fl_X4_57 : Cond.fieldLink RX4 57 "CallShaperModel" "is" "[Z" ∈ G := mG (tb4 (List.mem_of_getElem? (i := 105) rfl)) rfl
theorem fl_X4_60 : Cond.fieldLink RX4 60 "CallShaperModel" "value" "[I" ∈ G := mG (tb4 (List.mem_of_getElem? (i := 106) rfl)) rfl
theorem fl_X4_63 : Cond.fieldLink RX4 63 "CallShaperModel" "outs" "[I" ∈ G := mG (tb4 (List.mem_of_getElem? (i := 107) rfl)) rfl
theorem fl_X4_66 : Cond.fieldLink RX4 66 "CallShaperModel" "counts" "[I" ∈ G := mG (tb4 (List.mem_of_getElem? (i := 108) rfl)) rfl
theorem ar_boolean : Cond.arrayClass .boolean ∈ G := mG (tb4 (List.mem_of_getElem? (i := 156) rfl)) rfl
theorem ml_L_51 : Cond.methodLink RL 51 yX4_thrown ∈ G := mG (tb4 (List.mem_of_getElem? (i := 157) rfl)) rfl
theorem im_X4_thrown : Cond.instanceMethod yX4_thrown ∈ G := mG (tb4 (List.mem_of_getElem? (i := 158) rfl)) rfl
theorem se_X4_thrown : Cond.selects RX4 yX4_thrown yX4_thrown ∈ G := mG (tb4 (List.mem_of_getElem? (i := 159) rfl)) rfl
theorem co_X4_thrown : Cond.code yX4_thrown cX4_thrown 1 (some .int) ∈ G := mG (tb4 (List.mem_of_getElem? (i := 160) rfl)) rfl
theorem ml_L_50 : Cond.methodLink RL 50 yX4_type ∈ G := mG (tb4 (List.mem_of_getElem? (i := 161) rfl)) rfl
theorem im_X4_type : Cond.instanceMethod yX4_type ∈ G := mG (tb4 (List.mem_of_getElem? (i := 162) rfl)) rfl
theorem se_X4_type : Cond.selects RX4 yX4_type yX4_type ∈ G := mG (tb4 (List.mem_of_getElem? (i := 163) rfl)) rfl
theorem co_X4_type : Cond.code yX4_type cX4_type 2 (some .int) ∈ G := mG (tb4 (List.mem_of_getElem? (i := 164) rfl)) rfl
theorem ml_X4_72 : Cond.methodLink RX4 72 yX4_outside ∈ G := mG (tb4 (List.mem_of_getElem? (i := 165) rfl)) rfl
theorem st_X4_outside : Cond.static yX4_outside ∈ G := mG (tb4 (List.mem_of_getElem? (i := 166) rfl)) rfl
theorem co_X4_outside : Cond.code yX4_outside cX4_outside 3 (some .boolean) ∈ G := mG (tb4 (List.mem_of_getElem? (i := 167) rfl)) rfl
theorem ml_X4_76 : Cond.methodLink RX4 76 yX4_fails ∈ G := mG (tb4 (List.mem_of_getElem? (i := 168) rfl)) rfl
theorem im_X4_fails : Cond.instanceMethod yX4_fails ∈ G := mG (tb4 (List.mem_of_getElem? (i := 170) rfl)) rfl
theorem co_X4_fails : Cond.code yX4_fails cX4_fails 3 (some .boolean) ∈ G := mG (tb4 (List.mem_of_getElem? (i := 171) rfl)) rfl
theorem ml_L_58 : Cond.methodLink RL 58 yX4_operation ∈ G := mG (tb4 (List.mem_of_getElem? (i := 172) rfl)) rfl
theorem im_X4_operation : Cond.instanceMethod yX4_operation ∈ G := mG (tb4 (List.mem_of_getElem? (i := 173) rfl)) rfl
theorem se_X4_operation : Cond.selects RX4 yX4_operation yX4_operation ∈ G := mG (tb4 (List.mem_of_getElem? (i := 174) rfl)) rfl
theorem co_X4_operation : Cond.code yX4_operation cX4_operation 10 (some .int) ∈ G := mG (tb4 (List.mem_of_getElem? (i := 175) rfl)) rfl
theorem ml_X4_87 : Cond.methodLink RX4 87 yX4_isBody ∈ G := mG (tb4 (List.mem_of_getElem? (i := 176) rfl)) rfl
theorem im_X4_isBody : Cond.instanceMethod yX4_isBody ∈ G := mG (tb4 (List.mem_of_getElem? (i := 178) rfl)) rfl
theorem co_X4_isBody : Cond.code yX4_isBody cX4_isBody 3 (some .boolean) ∈ G := mG (tb4 (List.mem_of_getElem? (i := 179) rfl)) rfl
theorem ml_X4_91 : Cond.methodLink RX4 91 yX4_isGood ∈ G := mG (tb4 (List.mem_of_getElem? (i := 180) rfl)) rfl
theorem st_X4_isGood : Cond.static yX4_isGood ∈ G := mG (tb4 (List.mem_of_getElem? (i := 181) rfl)) rfl
theorem co_X4_isGood : Cond.code yX4_isGood cX4_isGood 4 (some .boolean) ∈ G := mG (tb4 (List.mem_of_getElem? (i := 182) rfl)) rfl
theorem ml_X4_80 : Cond.methodLink RX4 80 yX4_isRegister ∈ G := mG (tb4 (List.mem_of_getElem? (i := 183) rfl)) rfl
theorem st_X4_isRegister : Cond.static yX4_isRegister ∈ G := mG (tb4 (List.mem_of_getElem? (i := 184) rfl)) rfl
theorem co_X4_isRegister : Cond.code yX4_isRegister cX4_isRegister 1 (some .boolean) ∈ G := mG (tb4 (List.mem_of_getElem? (i := 185) rfl)) rfl
theorem ml_X4_84 : Cond.methodLink RX4 84 yX4_isField ∈ G := mG (tb4 (List.mem_of_getElem? (i := 186) rfl)) rfl
theorem st_X4_isField : Cond.static yX4_isField ∈ G := mG (tb4 (List.mem_of_getElem? (i := 187) rfl)) rfl
theorem co_X4_isField : Cond.code yX4_isField cX4_isField 1 (some .boolean) ∈ G := mG (tb4 (List.mem_of_getElem? (i := 188) rfl)) rfl
theorem ml_L_62 : Cond.methodLink RL 62 yX4_strip ∈ G := mG (tb4 (List.mem_of_getElem? (i := 189) rfl)) rfl
theorem im_X4_strip : Cond.instanceMethod yX4_strip ∈ G := mG (tb4 (List.mem_of_getElem? (i := 190) rfl)) rfl
theorem se_X4_strip : Cond.selects RX4 yX4_strip yX4_strip ∈ G := mG (tb4 (List.mem_of_getElem? (i := 191) rfl)) rfl
theorem co_X4_strip : Cond.code yX4_strip cX4_strip 5 (some .int) ∈ G := mG (tb4 (List.mem_of_getElem? (i := 192) rfl)) rfl
theorem ml_L_66 : Cond.methodLink RL 66 yX4_shape ∈ G := mG (tb4 (List.mem_of_getElem? (i := 193) rfl)) rfl
theorem im_X4_shape : Cond.instanceMethod yX4_shape ∈ G := mG (tb4 (List.mem_of_getElem? (i := 194) rfl)) rfl
theorem se_X4_shape : Cond.selects RX4 yX4_shape yX4_shape ∈ G := mG (tb4 (List.mem_of_getElem? (i := 195) rfl)) rfl
theorem co_X4_shape : Cond.code yX4_shape cX4_shape 7 (some .int) ∈ G := mG (tb4 (List.mem_of_getElem? (i := 196) rfl)) rfl
theorem ml_X4_95 : Cond.methodLink RX4 95 yX4_target ∈ G := mG (tb4 (List.mem_of_getElem? (i := 197) rfl)) rfl
theorem im_X4_target : Cond.instanceMethod yX4_target ∈ G := mG (tb4 (List.mem_of_getElem? (i := 199) rfl)) rfl
theorem co_X4_target : Cond.code yX4_target cX4_target 4 (some .int) ∈ G := mG (tb4 (List.mem_of_getElem? (i := 200) rfl)) rfl
theorem ml_X4_106 : Cond.methodLink RX4 106 yX4_grows ∈ G := mG (tb4 (List.mem_of_getElem? (i := 201) rfl)) rfl
theorem im_X4_grows : Cond.instanceMethod yX4_grows ∈ G := mG (tb4 (List.mem_of_getElem? (i := 203) rfl)) rfl
theorem co_X4_grows : Cond.code yX4_grows cX4_grows 4 (some .boolean) ∈ G := mG (tb4 (List.mem_of_getElem? (i := 204) rfl)) rfl
theorem ml_X4_99 : Cond.methodLink RX4 99 yX4_at ∈ G := mG (tb4 (List.mem_of_getElem? (i := 205) rfl)) rfl
theorem im_X4_at : Cond.instanceMethod yX4_at ∈ G := mG (tb4 (List.mem_of_getElem? (i := 207) rfl)) rfl
theorem co_X4_at : Cond.code yX4_at cX4_at 4 (some .int) ∈ G := mG (tb4 (List.mem_of_getElem? (i := 208) rfl)) rfl
theorem ml_X4_103 : Cond.methodLink RX4 103 yX4_reachAll ∈ G := mG (tb4 (List.mem_of_getElem? (i := 209) rfl)) rfl
theorem im_X4_reachAll : Cond.instanceMethod yX4_reachAll ∈ G := mG (tb4 (List.mem_of_getElem? (i := 211) rfl)) rfl
theorem co_X4_reachAll : Cond.code yX4_reachAll cX4_reachAll 5 (some .boolean) ∈ G := mG (tb4 (List.mem_of_getElem? (i := 212) rfl)) rfl
theorem ml_X4_109 : Cond.methodLink RX4 109 yX4_call ∈ G := mG (tb4 (List.mem_of_getElem? (i := 213) rfl)) rfl
theorem im_X4_call : Cond.instanceMethod yX4_call ∈ G := mG (tb4 (List.mem_of_getElem? (i := 215) rfl)) rfl
theorem co_X4_call : Cond.code yX4_call cX4_call 6 (some .int) ∈ G := mG (tb4 (List.mem_of_getElem? (i := 216) rfl)) rfl
theorem ml_X4_113 : Cond.methodLink RX4 113 yX4_stays ∈ G := mG (tb4 (List.mem_of_getElem? (i := 217) rfl)) rfl
theorem im_X4_stays : Cond.instanceMethod yX4_stays ∈ G := mG (tb4 (List.mem_of_getElem? (i := 219) rfl)) rfl
theorem co_X4_stays : Cond.code yX4_stays cX4_stays 6 (some .boolean) ∈ G := mG (tb4 (List.mem_of_getElem? (i := 220) rfl)) rfl
theorem ml_L_70 : Cond.methodLink RL 70 yX4_reach ∈ G := mG (tb4 (List.mem_of_getElem? (i := 221) rfl)) rfl
theorem im_X4_reach : Cond.instanceMethod yX4_reach ∈ G := mG (tb4 (List.mem_of_getElem? (i := 222) rfl)) rfl
theorem se_X4_reach : Cond.selects RX4 yX4_reach yX4_reach ∈ G := mG (tb4 (List.mem_of_getElem? (i := 223) rfl)) rfl
theorem co_X4_reach : Cond.code yX4_reach cX4_reach 3 (some .int) ∈ G := mG (tb4 (List.mem_of_getElem? (i := 224) rfl)) rfl
theorem ml_L_74 : Cond.methodLink RL 74 yX4_site ∈ G := mG (tb4 (List.mem_of_getElem? (i := 225) rfl)) rfl
theorem im_X4_site : Cond.instanceMethod yX4_site ∈ G := mG (tb4 (List.mem_of_getElem? (i := 226) rfl)) rfl
theorem se_X4_site : Cond.selects RX4 yX4_site yX4_site ∈ G := mG (tb4 (List.mem_of_getElem? (i := 227) rfl)) rfl
theorem co_X4_site : Cond.code yX4_site cX4_site 5 (some .int) ∈ G := mG (tb4 (List.mem_of_getElem? (i := 228) rfl)) rfl
theorem ml_X4_116 : Cond.methodLink RX4 116 yX4_siteOf ∈ G := mG (tb4 (List.mem_of_getElem? (i := 229) rfl)) rfl
theorem im_X4_siteOf : Cond.instanceMethod yX4_siteOf ∈ G := mG (tb4 (List.mem_of_getElem? (i := 231) rfl)) rfl
theorem co_X4_siteOf : Cond.code yX4_siteOf cX4_siteOf 3 (some .int) ∈ G := mG (tb4 (List.mem_of_getElem? (i := 232) rfl)) rfl
theorem ml_L_78 : Cond.methodLink RL 78 yX4_run ∈ G := mG (tb4 (List.mem_of_getElem? (i := 233) rfl)) rfl
theorem im_X4_run : Cond.instanceMethod yX4_run ∈ G := mG (tb4 (List.mem_of_getElem? (i := 234) rfl)) rfl
theorem se_X4_run : Cond.selects RX4 yX4_run yX4_run ∈ G := mG (tb4 (List.mem_of_getElem? (i := 235) rfl)) rfl
theorem co_X4_run : Cond.code yX4_run cX4_run 5 (some .int) ∈ G := mG (tb4 (List.mem_of_getElem? (i := 236) rfl)) rfl
theorem ml_X4_136 : Cond.methodLink RX4 136 yX4_makes ∈ G := mG (tb4 (List.mem_of_getElem? (i := 237) rfl)) rfl
theorem im_X4_makes : Cond.instanceMethod yX4_makes ∈ G := mG (tb4 (List.mem_of_getElem? (i := 239) rfl)) rfl
theorem co_X4_makes : Cond.code yX4_makes cX4_makes 4 (some .int) ∈ G := mG (tb5 (List.mem_of_getElem? (i := 0) rfl)) rfl
theorem ml_X4_132 : Cond.methodLink RX4 132 yX4_enters ∈ G := mG (tb5 (List.mem_of_getElem? (i := 1) rfl)) rfl
theorem im_X4_enters : Cond.instanceMethod yX4_enters ∈ G := mG (tb5 (List.mem_of_getElem? (i := 3) rfl)) rfl
theorem co_X4_enters : Cond.code yX4_enters cX4_enters 8 none ∈ G := mG (tb5 (List.mem_of_getElem? (i := 4) rfl)) rfl
theorem ml_X4_157 : Cond.methodLink RX4 157 yX4_answers ∈ G := mG (tb5 (List.mem_of_getElem? (i := 5) rfl)) rfl
theorem im_X4_answers : Cond.instanceMethod yX4_answers ∈ G := mG (tb5 (List.mem_of_getElem? (i := 7) rfl)) rfl
theorem co_X4_answers : Cond.code yX4_answers cX4_answers 3 none ∈ G := mG (tb5 (List.mem_of_getElem? (i := 8) rfl)) rfl
theorem ml_X4_128 : Cond.methodLink RX4 128 yX4_set ∈ G := mG (tb5 (List.mem_of_getElem? (i := 9) rfl)) rfl
theorem im_X4_set : Cond.instanceMethod yX4_set ∈ G := mG (tb5 (List.mem_of_getElem? (i := 11) rfl)) rfl
theorem co_X4_set : Cond.code yX4_set cX4_set 4 none ∈ G := mG (tb5 (List.mem_of_getElem? (i := 12) rfl)) rfl
theorem ml_X4_161 : Cond.methodLink RX4 161 yX4_does ∈ G := mG (tb5 (List.mem_of_getElem? (i := 13) rfl)) rfl
theorem im_X4_does : Cond.instanceMethod yX4_does ∈ G := mG (tb5 (List.mem_of_getElem? (i := 15) rfl)) rfl
theorem co_X4_does : Cond.code yX4_does cX4_does 10 (some .int) ∈ G := mG (tb5 (List.mem_of_getElem? (i := 16) rfl)) rfl
theorem ml_X4_140 : Cond.methodLink RX4 140 yX4_sums ∈ G := mG (tb5 (List.mem_of_getElem? (i := 17) rfl)) rfl
theorem im_X4_sums : Cond.instanceMethod yX4_sums ∈ G := mG (tb5 (List.mem_of_getElem? (i := 19) rfl)) rfl
theorem co_X4_sums : Cond.code yX4_sums cX4_sums 8 (some .int) ∈ G := mG (tb5 (List.mem_of_getElem? (i := 20) rfl)) rfl
theorem ml_X4_144 : Cond.methodLink RX4 144 yX4_news ∈ G := mG (tb5 (List.mem_of_getElem? (i := 21) rfl)) rfl
theorem im_X4_news : Cond.instanceMethod yX4_news ∈ G := mG (tb5 (List.mem_of_getElem? (i := 23) rfl)) rfl
theorem co_X4_news : Cond.code yX4_news cX4_news 5 (some .int) ∈ G := mG (tb5 (List.mem_of_getElem? (i := 24) rfl)) rfl
theorem ml_X4_147 : Cond.methodLink RX4 147 yX4_calls ∈ G := mG (tb5 (List.mem_of_getElem? (i := 25) rfl)) rfl
theorem im_X4_calls : Cond.instanceMethod yX4_calls ∈ G := mG (tb5 (List.mem_of_getElem? (i := 27) rfl)) rfl
theorem co_X4_calls : Cond.code yX4_calls cX4_calls 7 (some .int) ∈ G := mG (tb5 (List.mem_of_getElem? (i := 28) rfl)) rfl
theorem ml_X4_151 : Cond.methodLink RX4 151 yX4_puts ∈ G := mG (tb5 (List.mem_of_getElem? (i := 29) rfl)) rfl
theorem im_X4_puts : Cond.instanceMethod yX4_puts ∈ G := mG (tb5 (List.mem_of_getElem? (i := 31) rfl)) rfl
theorem co_X4_puts : Cond.code yX4_puts cX4_puts 2 (some .int) ∈ G := mG (tb5 (List.mem_of_getElem? (i := 32) rfl)) rfl
theorem ml_X4_154 : Cond.methodLink RX4 154 yX4_isAnother ∈ G := mG (tb5 (List.mem_of_getElem? (i := 33) rfl)) rfl
theorem im_X4_isAnother : Cond.instanceMethod yX4_isAnother ∈ G := mG (tb5 (List.mem_of_getElem? (i := 35) rfl)) rfl
theorem co_X4_isAnother : Cond.code yX4_isAnother cX4_isAnother 4 (some .boolean) ∈ G := mG (tb5 (List.mem_of_getElem? (i := 36) rfl)) rfl
theorem ml_L_81 : Cond.methodLink RL 81 yX4_count ∈ G := mG (tb5 (List.mem_of_getElem? (i := 37) rfl)) rfl
theorem im_X4_count : Cond.instanceMethod yX4_count ∈ G := mG (tb5 (List.mem_of_getElem? (i := 38) rfl)) rfl
theorem se_X4_count : Cond.selects RX4 yX4_count yX4_count ∈ G := mG (tb5 (List.mem_of_getElem? (i := 39) rfl)) rfl
theorem co_X4_count : Cond.code yX4_count cX4_count 2 (some .int) ∈ G := mG (tb5 (List.mem_of_getElem? (i := 40) rfl)) rfl
theorem ml_L_84 : Cond.methodLink RL 84 yX4_out ∈ G := mG (tb5 (List.mem_of_getElem? (i := 41) rfl)) rfl
theorem im_X4_out : Cond.instanceMethod yX4_out ∈ G := mG (tb5 (List.mem_of_getElem? (i := 42) rfl)) rfl
theorem se_X4_out : Cond.selects RX4 yX4_out yX4_out ∈ G := mG (tb5 (List.mem_of_getElem? (i := 43) rfl)) rfl
theorem co_X4_out : Cond.code yX4_out cX4_out 2 (some .int) ∈ G := mG (tb5 (List.mem_of_getElem? (i := 44) rfl)) rfl
theorem se_X2_findReached : Cond.selects RX2 yX2_findReached yX2_findReached ∈ G := mG (tbs (pv1 (List.mem_of_getElem? (i := 0) rfl))) rfl
theorem se_X2_targetSet : Cond.selects RX2 yX2_targetSet yX2_targetSet ∈ G := mG (tbs (pv1 (List.mem_of_getElem? (i := 1) rfl))) rfl
theorem se_X2_readBodies : Cond.selects RX2 yX2_readBodies yX2_readBodies ∈ G := mG (tbs (pv1 (List.mem_of_getElem? (i := 2) rfl))) rfl
theorem se_X2_readBody : Cond.selects RX2 yX2_readBody yX2_readBody ∈ G := mG (tbs (pv1 (List.mem_of_getElem? (i := 3) rfl))) rfl
theorem se_X2_reachTargets : Cond.selects RX2 yX2_reachTargets yX2_reachTargets ∈ G := mG (tbs (pv1 (List.mem_of_getElem? (i := 4) rfl))) rfl
theorem se_X2_verdictOfCalls : Cond.selects RX2 yX2_verdictOfCalls yX2_verdictOfCalls ∈ G := mG (tbs (pv1 (List.mem_of_getElem? (i := 5) rfl))) rfl
theorem se_X2_judge : Cond.selects RX2 yX2_judge yX2_judge ∈ G := mG (tbs (pv1 (List.mem_of_getElem? (i := 6) rfl))) rfl
theorem se_X2_waysOut : Cond.selects RX2 yX2_waysOut yX2_waysOut ∈ G := mG (tbs (pv1 (List.mem_of_getElem? (i := 7) rfl))) rfl
theorem se_X2_holders : Cond.selects RX2 yX2_holders yX2_holders ∈ G := mG (tbs (pv1 (List.mem_of_getElem? (i := 8) rfl))) rfl
theorem se_X0_begin : Cond.selects RX0 yX0_begin yX0_begin ∈ G := mG (tbs (pv1 (List.mem_of_getElem? (i := 10) rfl))) rfl
theorem se_X0_newObject : Cond.selects RX0 yX0_newObject yX0_newObject ∈ G := mG (tbs (pv1 (List.mem_of_getElem? (i := 11) rfl))) rfl
theorem se_X0_enter : Cond.selects RX0 yX0_enter yX0_enter ∈ G := mG (tbs (pv1 (List.mem_of_getElem? (i := 12) rfl))) rfl
theorem se_X0_isGoing : Cond.selects RX0 yX0_isGoing yX0_isGoing ∈ G := mG (tbs (pv1 (List.mem_of_getElem? (i := 13) rfl))) rfl
theorem se_X0_isBehindLast : Cond.selects RX0 yX0_isBehindLast yX0_isBehindLast ∈ G := mG (tbs (pv1 (List.mem_of_getElem? (i := 14) rfl))) rfl
theorem se_X0_answer : Cond.selects RX0 yX0_answer yX0_answer ∈ G := mG (tbs (pv1 (List.mem_of_getElem? (i := 15) rfl))) rfl
theorem se_X0_step : Cond.selects RX0 yX0_step yX0_step ∈ G := mG (tbs (pv2 (List.mem_of_getElem? (i := 0) rfl))) rfl
theorem se_X0_perform : Cond.selects RX0 yX0_perform yX0_perform ∈ G := mG (tbs (pv2 (List.mem_of_getElem? (i := 1) rfl))) rfl
theorem se_X0_reckon : Cond.selects RX0 yX0_reckon yX0_reckon ∈ G := mG (tbs (pv2 (List.mem_of_getElem? (i := 2) rfl))) rfl
theorem se_X0_make : Cond.selects RX0 yX0_make yX0_make ∈ G := mG (tbs (pv2 (List.mem_of_getElem? (i := 3) rfl))) rfl
theorem se_X0_readField : Cond.selects RX0 yX0_readField yX0_readField ∈ G := mG (tbs (pv2 (List.mem_of_getElem? (i := 4) rfl))) rfl
theorem se_X0_writeField : Cond.selects RX0 yX0_writeField yX0_writeField ∈ G := mG (tbs (pv2 (List.mem_of_getElem? (i := 5) rfl))) rfl
theorem se_X0_send : Cond.selects RX0 yX0_send yX0_send ∈ G := mG (tbs (pv2 (List.mem_of_getElem? (i := 6) rfl))) rfl
theorem se_X0_countCall : Cond.selects RX0 yX0_countCall yX0_countCall ∈ G := mG (tbs (pv2 (List.mem_of_getElem? (i := 7) rfl))) rfl
theorem se_X0_print : Cond.selects RX0 yX0_print yX0_print ∈ G := mG (tbs (pv2 (List.mem_of_getElem? (i := 8) rfl))) rfl
theorem se_X0_checkClass : Cond.selects RX0 yX0_checkClass yX0_checkClass ∈ G := mG (tbs (pv2 (List.mem_of_getElem? (i := 9) rfl))) rfl
theorem se_X4_fails : Cond.selects RX4 yX4_fails yX4_fails ∈ G := mG (tbs (pv2 (List.mem_of_getElem? (i := 10) rfl))) rfl
theorem se_X4_isBody : Cond.selects RX4 yX4_isBody yX4_isBody ∈ G := mG (tbs (pv2 (List.mem_of_getElem? (i := 11) rfl))) rfl
theorem se_X4_target : Cond.selects RX4 yX4_target yX4_target ∈ G := mG (tbs (pv2 (List.mem_of_getElem? (i := 12) rfl))) rfl
theorem se_X4_grows : Cond.selects RX4 yX4_grows yX4_grows ∈ G := mG (tbs (pv2 (List.mem_of_getElem? (i := 13) rfl))) rfl
theorem se_X4_at : Cond.selects RX4 yX4_at yX4_at ∈ G := mG (tbs (pv2 (List.mem_of_getElem? (i := 14) rfl))) rfl
theorem se_X4_reachAll : Cond.selects RX4 yX4_reachAll yX4_reachAll ∈ G := mG (tbs (pv2 (List.mem_of_getElem? (i := 15) rfl))) rfl
theorem se_X4_call : Cond.selects RX4 yX4_call yX4_call ∈ G := mG (tbs (pv3 (List.mem_of_getElem? (i := 0) rfl))) rfl
theorem se_X4_stays : Cond.selects RX4 yX4_stays yX4_stays ∈ G := mG (tbs (pv3 (List.mem_of_getElem? (i := 1) rfl))) rfl
theorem se_X4_siteOf : Cond.selects RX4 yX4_siteOf yX4_siteOf ∈ G := mG (tbs (pv3 (List.mem_of_getElem? (i := 2) rfl))) rfl
theorem se_X4_makes : Cond.selects RX4 yX4_makes yX4_makes ∈ G := mG (tbs (pv3 (List.mem_of_getElem? (i := 3) rfl))) rfl
theorem se_X4_enters : Cond.selects RX4 yX4_enters yX4_enters ∈ G := mG (tbs (pv3 (List.mem_of_getElem? (i := 4) rfl))) rfl
theorem se_X4_answers : Cond.selects RX4 yX4_answers yX4_answers ∈ G := mG (tbs (pv3 (List.mem_of_getElem? (i := 5) rfl))) rfl
theorem se_X4_set : Cond.selects RX4 yX4_set yX4_set ∈ G := mG (tbs (pv3 (List.mem_of_getElem? (i := 6) rfl))) rfl
theorem se_X4_does : Cond.selects RX4 yX4_does yX4_does ∈ G := mG (tbs (pv3 (List.mem_of_getElem? (i := 7) rfl))) rfl
theorem se_X4_sums : Cond.selects RX4 yX4_sums yX4_sums ∈ G := mG (tbs (pv3 (List.mem_of_getElem? (i := 8) rfl))) rfl
theorem se_X4_news : Cond.selects RX4 yX4_news yX4_news ∈ G := mG (tbs (pv3 (List.mem_of_getElem? (i := 9) rfl))) rfl
theorem se_X4_calls : Cond.selects RX4 yX4_calls yX4_calls ∈ G := mG (tbs (pv3 (List.mem_of_getElem? (i := 10) rfl))) rfl
theorem se_X4_puts : Cond.selects RX4 yX4_puts yX4_puts ∈ G := mG (tbs (pv3 (List.mem_of_getElem? (i := 11) rfl))) rfl
theorem se_X4_isAnother : Cond.selects RX4 yX4_isAnother yX4_isAnother ∈ G := mG (tbs (pv3 (List.mem_of_getElem? (i := 12) rfl))) rfl
theorem inG_X0 : ∀ w ∈ u_ws RX0 TX0 15, w ∈ G := by
  show ∀ w ∈ [u_lay RX0 TX0 0, u_lay RX0 TX0 1, u_lay RX0 TX0 2, u_lay RX0 TX0 3, u_lay RX0 TX0 4, u_lay RX0 TX0 5, u_lay RX0 TX0 6, u_lay RX0 TX0 7, u_lay RX0 TX0 8, u_lay RX0 TX0 9, u_lay RX0 TX0 10, u_lay RX0 TX0 11, u_lay RX0 TX0 12, u_lay RX0 TX0 13, u_lay RX0 TX0 14], w ∈ G
  exact List.forall_mem_cons.mpr ⟨mG (tb1 (List.mem_of_getElem? (i := 109) rfl)) rfl, List.forall_mem_cons.mpr ⟨mG (tb1 (List.mem_of_getElem? (i := 111) rfl)) rfl, List.forall_mem_cons.mpr ⟨mG (tb1 (List.mem_of_getElem? (i := 113) rfl)) rfl, List.forall_mem_cons.mpr ⟨mG (tb1 (List.mem_of_getElem? (i := 115) rfl)) rfl, List.forall_mem_cons.mpr ⟨mG (tb1 (List.mem_of_getElem? (i := 117) rfl)) rfl, List.forall_mem_cons.mpr ⟨mG (tb1 (List.mem_of_getElem? (i := 119) rfl)) rfl, List.forall_mem_cons.mpr ⟨mG (tb1 (List.mem_of_getElem? (i := 121) rfl)) rfl, List.forall_mem_cons.mpr ⟨mG (tb1 (List.mem_of_getElem? (i := 123) rfl)) rfl, List.forall_mem_cons.mpr ⟨mG (tb1 (List.mem_of_getElem? (i := 125) rfl)) rfl, List.forall_mem_cons.mpr ⟨mG (tb1 (List.mem_of_getElem? (i := 127) rfl)) rfl, List.forall_mem_cons.mpr ⟨mG (tb1 (List.mem_of_getElem? (i := 129) rfl)) rfl, List.forall_mem_cons.mpr ⟨mG (tb1 (List.mem_of_getElem? (i := 131) rfl)) rfl, List.forall_mem_cons.mpr ⟨mG (tb1 (List.mem_of_getElem? (i := 133) rfl)) rfl, List.forall_mem_cons.mpr ⟨mG (tb1 (List.mem_of_getElem? (i := 135) rfl)) rfl, List.forall_mem_cons.mpr ⟨mG (tb1 (List.mem_of_getElem? (i := 137) rfl)) rfl, fun _ h => absurd h List.not_mem_nil⟩⟩⟩⟩⟩⟩⟩⟩⟩⟩⟩⟩⟩⟩⟩
theorem inG_X1 : ∀ w ∈ u_ws RX1 TX1 7, w ∈ G := by
  show ∀ w ∈ [u_lay RX1 TX1 0, u_lay RX1 TX1 1, u_lay RX1 TX1 2, u_lay RX1 TX1 3, u_lay RX1 TX1 4, u_lay RX1 TX1 5, u_lay RX1 TX1 6], w ∈ G
  exact List.forall_mem_cons.mpr ⟨mG (tb1 (List.mem_of_getElem? (i := 47) rfl)) rfl, List.forall_mem_cons.mpr ⟨mG (tb1 (List.mem_of_getElem? (i := 49) rfl)) rfl, List.forall_mem_cons.mpr ⟨mG (tb1 (List.mem_of_getElem? (i := 51) rfl)) rfl, List.forall_mem_cons.mpr ⟨mG (tb1 (List.mem_of_getElem? (i := 53) rfl)) rfl, List.forall_mem_cons.mpr ⟨mG (tb1 (List.mem_of_getElem? (i := 55) rfl)) rfl, List.forall_mem_cons.mpr ⟨mG (tb1 (List.mem_of_getElem? (i := 57) rfl)) rfl, List.forall_mem_cons.mpr ⟨mG (tb1 (List.mem_of_getElem? (i := 59) rfl)) rfl, fun _ h => absurd h List.not_mem_nil⟩⟩⟩⟩⟩⟩⟩
theorem inG_X2 : ∀ w ∈ u_ws RX2 TX2 6, w ∈ G := by
  show ∀ w ∈ [u_lay RX2 TX2 0, u_lay RX2 TX2 1, u_lay RX2 TX2 2, u_lay RX2 TX2 3, u_lay RX2 TX2 4, u_lay RX2 TX2 5], w ∈ G
  exact List.forall_mem_cons.mpr ⟨mG (tb1 (List.mem_of_getElem? (i := 75) rfl)) rfl, List.forall_mem_cons.mpr ⟨mG (tb1 (List.mem_of_getElem? (i := 77) rfl)) rfl, List.forall_mem_cons.mpr ⟨mG (tb1 (List.mem_of_getElem? (i := 79) rfl)) rfl, List.forall_mem_cons.mpr ⟨mG (tb1 (List.mem_of_getElem? (i := 81) rfl)) rfl, List.forall_mem_cons.mpr ⟨mG (tb1 (List.mem_of_getElem? (i := 83) rfl)) rfl, List.forall_mem_cons.mpr ⟨mG (tb1 (List.mem_of_getElem? (i := 85) rfl)) rfl, fun _ h => absurd h List.not_mem_nil⟩⟩⟩⟩⟩⟩
theorem inG_X3 : ∀ w ∈ u_ws RX3 TX3 3, w ∈ G := by
  show ∀ w ∈ [u_lay RX3 TX3 0, u_lay RX3 TX3 1, u_lay RX3 TX3 2], w ∈ G
  exact List.forall_mem_cons.mpr ⟨mG (tb1 (List.mem_of_getElem? (i := 144) rfl)) rfl, List.forall_mem_cons.mpr ⟨mG (tb1 (List.mem_of_getElem? (i := 146) rfl)) rfl, List.forall_mem_cons.mpr ⟨mG (tb1 (List.mem_of_getElem? (i := 148) rfl)) rfl, fun _ h => absurd h List.not_mem_nil⟩⟩⟩
theorem inG_X4 : ∀ w ∈ u_ws RX4 TX4 23, w ∈ G := by
  show ∀ w ∈ [u_lay RX4 TX4 0, u_lay RX4 TX4 1, u_lay RX4 TX4 2, u_lay RX4 TX4 3, u_lay RX4 TX4 4, u_lay RX4 TX4 5, u_lay RX4 TX4 6, u_lay RX4 TX4 7, u_lay RX4 TX4 8, u_lay RX4 TX4 9, u_lay RX4 TX4 10, u_lay RX4 TX4 11, u_lay RX4 TX4 12, u_lay RX4 TX4 13, u_lay RX4 TX4 14, u_lay RX4 TX4 15, u_lay RX4 TX4 16, u_lay RX4 TX4 17, u_lay RX4 TX4 18, u_lay RX4 TX4 19, u_lay RX4 TX4 20, u_lay RX4 TX4 21, u_lay RX4 TX4 22], w ∈ G
  exact List.forall_mem_cons.mpr ⟨mG (tb4 (List.mem_of_getElem? (i := 109) rfl)) rfl, List.forall_mem_cons.mpr ⟨mG (tb4 (List.mem_of_getElem? (i := 111) rfl)) rfl, List.forall_mem_cons.mpr ⟨mG (tb4 (List.mem_of_getElem? (i := 113) rfl)) rfl, List.forall_mem_cons.mpr ⟨mG (tb4 (List.mem_of_getElem? (i := 115) rfl)) rfl, List.forall_mem_cons.mpr ⟨mG (tb4 (List.mem_of_getElem? (i := 117) rfl)) rfl, List.forall_mem_cons.mpr ⟨mG (tb4 (List.mem_of_getElem? (i := 119) rfl)) rfl, List.forall_mem_cons.mpr ⟨mG (tb4 (List.mem_of_getElem? (i := 121) rfl)) rfl, List.forall_mem_cons.mpr ⟨mG (tb4 (List.mem_of_getElem? (i := 123) rfl)) rfl, List.forall_mem_cons.mpr ⟨mG (tb4 (List.mem_of_getElem? (i := 125) rfl)) rfl, List.forall_mem_cons.mpr ⟨mG (tb4 (List.mem_of_getElem? (i := 127) rfl)) rfl, List.forall_mem_cons.mpr ⟨mG (tb4 (List.mem_of_getElem? (i := 129) rfl)) rfl, List.forall_mem_cons.mpr ⟨mG (tb4 (List.mem_of_getElem? (i := 131) rfl)) rfl, List.forall_mem_cons.mpr ⟨mG (tb4 (List.mem_of_getElem? (i := 133) rfl)) rfl, List.forall_mem_cons.mpr ⟨mG (tb4 (List.mem_of_getElem? (i := 135) rfl)) rfl, List.forall_mem_cons.mpr ⟨mG (tb4 (List.mem_of_getElem? (i := 137) rfl)) rfl, List.forall_mem_cons.mpr ⟨mG (tb4 (List.mem_of_getElem? (i := 139) rfl)) rfl, List.forall_mem_cons.mpr ⟨mG (tb4 (List.mem_of_getElem? (i := 141) rfl)) rfl, List.forall_mem_cons.mpr ⟨mG (tb4 (List.mem_of_getElem? (i := 143) rfl)) rfl, List.forall_mem_cons.mpr ⟨mG (tb4 (List.mem_of_getElem? (i := 145) rfl)) rfl, List.forall_mem_cons.mpr ⟨mG (tb4 (List.mem_of_getElem? (i := 147) rfl)) rfl, List.forall_mem_cons.mpr ⟨mG (tb4 (List.mem_of_getElem? (i := 149) rfl)) rfl, List.forall_mem_cons.mpr ⟨mG (tb4 (List.mem_of_getElem? (i := 151) rfl)) rfl, List.forall_mem_cons.mpr ⟨mG (tb4 (List.mem_of_getElem? (i := 153) rfl)) rfl, fun _ h => absurd h List.not_mem_nil⟩⟩⟩⟩⟩⟩⟩⟩⟩⟩⟩⟩⟩⟩⟩⟩⟩⟩⟩⟩⟩⟩⟩
end
section
abbrev Val : Type := Int32 ⊕ Nat
def oI (o : Option Nat) : Int32 := match o with
  | none => -1
  | some k => nI k
def bI (b : Bool) : Int32 := match b with
  | true => 1
  | false => 0
def vJ (v : Val) : Int64 := match v with
  | .inl x => x.toInt64
  | .inr k => lN (4294967296 + k)
theorem bI_n (b : Bool) : narrow .boolean (.int (bI b)) = .int (bI b) := by cases b <;> rfl
theorem bI_f (b : Bool) : fits .boolean (.int (bI b)) = true := by cases b <;> rfl
theorem bI_nar (b : Bool) : vp_nar .boolean (bI b) = bI b := by cases b <;> rfl
theorem va_D_addr {A : Nat → Prop} {ws ws' : va_W} (h : ws.map Prod.fst = ws'.map Prod.fst) (hD : va_D A ws) : va_D A ws' := by
  have at' : ∀ (k : Nat) (q : Nat × va_E), ws'[k]? = some q → ∃ e, ws[k]? = some (q.1, e) := fun k q hq => by
    have h1 : (ws'.map Prod.fst)[k]? = some q.1 := by rw [List.getElem?_map, hq]; rfl
    rw [← h, List.getElem?_map] at h1
    cases hw : ws[k]? with
    | none => rw [hw] at h1; cases h1
    | some z =>
      rw [hw] at h1
      obtain ⟨z1, z2⟩ := z
      cases Option.some.inj h1
      exact ⟨z2, rfl⟩
  refine ⟨fun i j p q hi hj e => ?_, fun k q hk => ?_⟩
  · obtain ⟨a, ha⟩ := at' i p hi
    obtain ⟨b, hb⟩ := at' j q hj
    exact hD.1 i j _ _ ha hb e
  · obtain ⟨a, ha⟩ := at' k q hk
    exact hD.2 k (q.1, a) ha
abbrev t3 (cI cJ cZ : ClassId) : List (ClassId × FieldType) := [(cI, .int), (cJ, .long), (cZ, .boolean)]
abbrev CS : Type := (Nat → Option Nat) × (Nat → Nat) × (Nat → Nat) × (Nat → Nat) × (Nat → Int32) × (Nat → Int32) × Nat × (Nat → Nat) × (Nat → Nat) × Nat × Nat × Nat × (Nat → Val) × (Nat → Nat) × (Nat → Nat) × (Nat → Nat) × (Nat → Nat) × (Nat → Val) × (Nat → Int32) × (Nat → Nat) × Bool × Nat × Nat × Nat × Nat
def gcP (σ : CS) : (Nat → Option Nat) := σ.1
def gcL (σ : CS) : (Nat → Nat) := σ.2.1
def gcK (σ : CS) : (Nat → Nat) := σ.2.2.1
def gcX (σ : CS) : (Nat → Nat) := σ.2.2.2.1
def gcY (σ : CS) : (Nat → Int32) := σ.2.2.2.2.1
def gcZ (σ : CS) : (Nat → Int32) := σ.2.2.2.2.2.1
def gcn (σ : CS) : Nat := σ.2.2.2.2.2.2.1
def gcV (σ : CS) : (Nat → Nat) := σ.2.2.2.2.2.2.2.1
def gcCV (σ : CS) : (Nat → Nat) := σ.2.2.2.2.2.2.2.2.1
def gcma (σ : CS) : Nat := σ.2.2.2.2.2.2.2.2.2.1
def gcre (σ : CS) : Nat := σ.2.2.2.2.2.2.2.2.2.2.1
def gcca (σ : CS) : Nat := σ.2.2.2.2.2.2.2.2.2.2.2.1
def gcRg (σ : CS) : (Nat → Val) := σ.2.2.2.2.2.2.2.2.2.2.2.2.1
def gcBo (σ : CS) : (Nat → Nat) := σ.2.2.2.2.2.2.2.2.2.2.2.2.2.1
def gcNe (σ : CS) : (Nat → Nat) := σ.2.2.2.2.2.2.2.2.2.2.2.2.2.2.1
def gcAn (σ : CS) : (Nat → Nat) := σ.2.2.2.2.2.2.2.2.2.2.2.2.2.2.2.1
def gcCl (σ : CS) : (Nat → Nat) := σ.2.2.2.2.2.2.2.2.2.2.2.2.2.2.2.2.1
def gcFl (σ : CS) : (Nat → Val) := σ.2.2.2.2.2.2.2.2.2.2.2.2.2.2.2.2.2.1
def gcPo (σ : CS) : (Nat → Int32) := σ.2.2.2.2.2.2.2.2.2.2.2.2.2.2.2.2.2.2.1
def gcCt (σ : CS) : (Nat → Nat) := σ.2.2.2.2.2.2.2.2.2.2.2.2.2.2.2.2.2.2.2.1
def gcsh (σ : CS) : Bool := σ.2.2.2.2.2.2.2.2.2.2.2.2.2.2.2.2.2.2.2.2.1
def gcrm (σ : CS) : Nat := σ.2.2.2.2.2.2.2.2.2.2.2.2.2.2.2.2.2.2.2.2.2.1
def gcfr (σ : CS) : Nat := σ.2.2.2.2.2.2.2.2.2.2.2.2.2.2.2.2.2.2.2.2.2.2.1
def gcob (σ : CS) : Nat := σ.2.2.2.2.2.2.2.2.2.2.2.2.2.2.2.2.2.2.2.2.2.2.2.1
def gctr (σ : CS) : Nat := σ.2.2.2.2.2.2.2.2.2.2.2.2.2.2.2.2.2.2.2.2.2.2.2.2
def scP (σ : CS) (v : (Nat → Option Nat)) : CS := (v, σ.2)
def scL (σ : CS) (v : (Nat → Nat)) : CS := (σ.1, v, σ.2.2)
def scK (σ : CS) (v : (Nat → Nat)) : CS := (σ.1, σ.2.1, v, σ.2.2.2)
def scX (σ : CS) (v : (Nat → Nat)) : CS := (σ.1, σ.2.1, σ.2.2.1, v, σ.2.2.2.2)
def scY (σ : CS) (v : (Nat → Int32)) : CS := (σ.1, σ.2.1, σ.2.2.1, σ.2.2.2.1, v, σ.2.2.2.2.2)
def scZ (σ : CS) (v : (Nat → Int32)) : CS := (σ.1, σ.2.1, σ.2.2.1, σ.2.2.2.1, σ.2.2.2.2.1, v, σ.2.2.2.2.2.2)
def scn (σ : CS) (v : Nat) : CS := (σ.1, σ.2.1, σ.2.2.1, σ.2.2.2.1, σ.2.2.2.2.1, σ.2.2.2.2.2.1, v, σ.2.2.2.2.2.2.2)
def scV (σ : CS) (v : (Nat → Nat)) : CS := (σ.1, σ.2.1, σ.2.2.1, σ.2.2.2.1, σ.2.2.2.2.1, σ.2.2.2.2.2.1, σ.2.2.2.2.2.2.1, v, σ.2.2.2.2.2.2.2.2)
def scCV (σ : CS) (v : (Nat → Nat)) : CS := (σ.1, σ.2.1, σ.2.2.1, σ.2.2.2.1, σ.2.2.2.2.1, σ.2.2.2.2.2.1, σ.2.2.2.2.2.2.1, σ.2.2.2.2.2.2.2.1, v, σ.2.2.2.2.2.2.2.2.2)
def scma (σ : CS) (v : Nat) : CS := (σ.1, σ.2.1, σ.2.2.1, σ.2.2.2.1, σ.2.2.2.2.1, σ.2.2.2.2.2.1, σ.2.2.2.2.2.2.1, σ.2.2.2.2.2.2.2.1, σ.2.2.2.2.2.2.2.2.1, v, σ.2.2.2.2.2.2.2.2.2.2)
def scre (σ : CS) (v : Nat) : CS := (σ.1, σ.2.1, σ.2.2.1, σ.2.2.2.1, σ.2.2.2.2.1, σ.2.2.2.2.2.1, σ.2.2.2.2.2.2.1, σ.2.2.2.2.2.2.2.1, σ.2.2.2.2.2.2.2.2.1, σ.2.2.2.2.2.2.2.2.2.1, v, σ.2.2.2.2.2.2.2.2.2.2.2)
def scca (σ : CS) (v : Nat) : CS := (σ.1, σ.2.1, σ.2.2.1, σ.2.2.2.1, σ.2.2.2.2.1, σ.2.2.2.2.2.1, σ.2.2.2.2.2.2.1, σ.2.2.2.2.2.2.2.1, σ.2.2.2.2.2.2.2.2.1, σ.2.2.2.2.2.2.2.2.2.1, σ.2.2.2.2.2.2.2.2.2.2.1, v, σ.2.2.2.2.2.2.2.2.2.2.2.2)
def scRg (σ : CS) (v : (Nat → Val)) : CS := (σ.1, σ.2.1, σ.2.2.1, σ.2.2.2.1, σ.2.2.2.2.1, σ.2.2.2.2.2.1, σ.2.2.2.2.2.2.1, σ.2.2.2.2.2.2.2.1, σ.2.2.2.2.2.2.2.2.1, σ.2.2.2.2.2.2.2.2.2.1, σ.2.2.2.2.2.2.2.2.2.2.1, σ.2.2.2.2.2.2.2.2.2.2.2.1, v, σ.2.2.2.2.2.2.2.2.2.2.2.2.2)
def scBo (σ : CS) (v : (Nat → Nat)) : CS := (σ.1, σ.2.1, σ.2.2.1, σ.2.2.2.1, σ.2.2.2.2.1, σ.2.2.2.2.2.1, σ.2.2.2.2.2.2.1, σ.2.2.2.2.2.2.2.1, σ.2.2.2.2.2.2.2.2.1, σ.2.2.2.2.2.2.2.2.2.1, σ.2.2.2.2.2.2.2.2.2.2.1, σ.2.2.2.2.2.2.2.2.2.2.2.1, σ.2.2.2.2.2.2.2.2.2.2.2.2.1, v, σ.2.2.2.2.2.2.2.2.2.2.2.2.2.2)
def scNe (σ : CS) (v : (Nat → Nat)) : CS := (σ.1, σ.2.1, σ.2.2.1, σ.2.2.2.1, σ.2.2.2.2.1, σ.2.2.2.2.2.1, σ.2.2.2.2.2.2.1, σ.2.2.2.2.2.2.2.1, σ.2.2.2.2.2.2.2.2.1, σ.2.2.2.2.2.2.2.2.2.1, σ.2.2.2.2.2.2.2.2.2.2.1, σ.2.2.2.2.2.2.2.2.2.2.2.1, σ.2.2.2.2.2.2.2.2.2.2.2.2.1, σ.2.2.2.2.2.2.2.2.2.2.2.2.2.1, v, σ.2.2.2.2.2.2.2.2.2.2.2.2.2.2.2)
def scAn (σ : CS) (v : (Nat → Nat)) : CS := (σ.1, σ.2.1, σ.2.2.1, σ.2.2.2.1, σ.2.2.2.2.1, σ.2.2.2.2.2.1, σ.2.2.2.2.2.2.1, σ.2.2.2.2.2.2.2.1, σ.2.2.2.2.2.2.2.2.1, σ.2.2.2.2.2.2.2.2.2.1, σ.2.2.2.2.2.2.2.2.2.2.1, σ.2.2.2.2.2.2.2.2.2.2.2.1, σ.2.2.2.2.2.2.2.2.2.2.2.2.1, σ.2.2.2.2.2.2.2.2.2.2.2.2.2.1, σ.2.2.2.2.2.2.2.2.2.2.2.2.2.2.1, v, σ.2.2.2.2.2.2.2.2.2.2.2.2.2.2.2.2)
def scCl (σ : CS) (v : (Nat → Nat)) : CS := (σ.1, σ.2.1, σ.2.2.1, σ.2.2.2.1, σ.2.2.2.2.1, σ.2.2.2.2.2.1, σ.2.2.2.2.2.2.1, σ.2.2.2.2.2.2.2.1, σ.2.2.2.2.2.2.2.2.1, σ.2.2.2.2.2.2.2.2.2.1, σ.2.2.2.2.2.2.2.2.2.2.1, σ.2.2.2.2.2.2.2.2.2.2.2.1, σ.2.2.2.2.2.2.2.2.2.2.2.2.1, σ.2.2.2.2.2.2.2.2.2.2.2.2.2.1, σ.2.2.2.2.2.2.2.2.2.2.2.2.2.2.1, σ.2.2.2.2.2.2.2.2.2.2.2.2.2.2.2.1, v, σ.2.2.2.2.2.2.2.2.2.2.2.2.2.2.2.2.2)
def scFl (σ : CS) (v : (Nat → Val)) : CS := (σ.1, σ.2.1, σ.2.2.1, σ.2.2.2.1, σ.2.2.2.2.1, σ.2.2.2.2.2.1, σ.2.2.2.2.2.2.1, σ.2.2.2.2.2.2.2.1, σ.2.2.2.2.2.2.2.2.1, σ.2.2.2.2.2.2.2.2.2.1, σ.2.2.2.2.2.2.2.2.2.2.1, σ.2.2.2.2.2.2.2.2.2.2.2.1, σ.2.2.2.2.2.2.2.2.2.2.2.2.1, σ.2.2.2.2.2.2.2.2.2.2.2.2.2.1, σ.2.2.2.2.2.2.2.2.2.2.2.2.2.2.1, σ.2.2.2.2.2.2.2.2.2.2.2.2.2.2.2.1, σ.2.2.2.2.2.2.2.2.2.2.2.2.2.2.2.2.1, v, σ.2.2.2.2.2.2.2.2.2.2.2.2.2.2.2.2.2.2)
def scPo (σ : CS) (v : (Nat → Int32)) : CS := (σ.1, σ.2.1, σ.2.2.1, σ.2.2.2.1, σ.2.2.2.2.1, σ.2.2.2.2.2.1, σ.2.2.2.2.2.2.1, σ.2.2.2.2.2.2.2.1, σ.2.2.2.2.2.2.2.2.1, σ.2.2.2.2.2.2.2.2.2.1, σ.2.2.2.2.2.2.2.2.2.2.1, σ.2.2.2.2.2.2.2.2.2.2.2.1, σ.2.2.2.2.2.2.2.2.2.2.2.2.1, σ.2.2.2.2.2.2.2.2.2.2.2.2.2.1, σ.2.2.2.2.2.2.2.2.2.2.2.2.2.2.1, σ.2.2.2.2.2.2.2.2.2.2.2.2.2.2.2.1, σ.2.2.2.2.2.2.2.2.2.2.2.2.2.2.2.2.1, σ.2.2.2.2.2.2.2.2.2.2.2.2.2.2.2.2.2.1, v, σ.2.2.2.2.2.2.2.2.2.2.2.2.2.2.2.2.2.2.2)
def scCt (σ : CS) (v : (Nat → Nat)) : CS := (σ.1, σ.2.1, σ.2.2.1, σ.2.2.2.1, σ.2.2.2.2.1, σ.2.2.2.2.2.1, σ.2.2.2.2.2.2.1, σ.2.2.2.2.2.2.2.1, σ.2.2.2.2.2.2.2.2.1, σ.2.2.2.2.2.2.2.2.2.1, σ.2.2.2.2.2.2.2.2.2.2.1, σ.2.2.2.2.2.2.2.2.2.2.2.1, σ.2.2.2.2.2.2.2.2.2.2.2.2.1, σ.2.2.2.2.2.2.2.2.2.2.2.2.2.1, σ.2.2.2.2.2.2.2.2.2.2.2.2.2.2.1, σ.2.2.2.2.2.2.2.2.2.2.2.2.2.2.2.1, σ.2.2.2.2.2.2.2.2.2.2.2.2.2.2.2.2.1, σ.2.2.2.2.2.2.2.2.2.2.2.2.2.2.2.2.2.1, σ.2.2.2.2.2.2.2.2.2.2.2.2.2.2.2.2.2.2.1, v, σ.2.2.2.2.2.2.2.2.2.2.2.2.2.2.2.2.2.2.2.2)
def scsh (σ : CS) (v : Bool) : CS := (σ.1, σ.2.1, σ.2.2.1, σ.2.2.2.1, σ.2.2.2.2.1, σ.2.2.2.2.2.1, σ.2.2.2.2.2.2.1, σ.2.2.2.2.2.2.2.1, σ.2.2.2.2.2.2.2.2.1, σ.2.2.2.2.2.2.2.2.2.1, σ.2.2.2.2.2.2.2.2.2.2.1, σ.2.2.2.2.2.2.2.2.2.2.2.1, σ.2.2.2.2.2.2.2.2.2.2.2.2.1, σ.2.2.2.2.2.2.2.2.2.2.2.2.2.1, σ.2.2.2.2.2.2.2.2.2.2.2.2.2.2.1, σ.2.2.2.2.2.2.2.2.2.2.2.2.2.2.2.1, σ.2.2.2.2.2.2.2.2.2.2.2.2.2.2.2.2.1, σ.2.2.2.2.2.2.2.2.2.2.2.2.2.2.2.2.2.1, σ.2.2.2.2.2.2.2.2.2.2.2.2.2.2.2.2.2.2.1, σ.2.2.2.2.2.2.2.2.2.2.2.2.2.2.2.2.2.2.2.1, v, σ.2.2.2.2.2.2.2.2.2.2.2.2.2.2.2.2.2.2.2.2.2)
def scrm (σ : CS) (v : Nat) : CS := (σ.1, σ.2.1, σ.2.2.1, σ.2.2.2.1, σ.2.2.2.2.1, σ.2.2.2.2.2.1, σ.2.2.2.2.2.2.1, σ.2.2.2.2.2.2.2.1, σ.2.2.2.2.2.2.2.2.1, σ.2.2.2.2.2.2.2.2.2.1, σ.2.2.2.2.2.2.2.2.2.2.1, σ.2.2.2.2.2.2.2.2.2.2.2.1, σ.2.2.2.2.2.2.2.2.2.2.2.2.1, σ.2.2.2.2.2.2.2.2.2.2.2.2.2.1, σ.2.2.2.2.2.2.2.2.2.2.2.2.2.2.1, σ.2.2.2.2.2.2.2.2.2.2.2.2.2.2.2.1, σ.2.2.2.2.2.2.2.2.2.2.2.2.2.2.2.2.1, σ.2.2.2.2.2.2.2.2.2.2.2.2.2.2.2.2.2.1, σ.2.2.2.2.2.2.2.2.2.2.2.2.2.2.2.2.2.2.1, σ.2.2.2.2.2.2.2.2.2.2.2.2.2.2.2.2.2.2.2.1, σ.2.2.2.2.2.2.2.2.2.2.2.2.2.2.2.2.2.2.2.2.1, v, σ.2.2.2.2.2.2.2.2.2.2.2.2.2.2.2.2.2.2.2.2.2.2)
def scfr (σ : CS) (v : Nat) : CS := (σ.1, σ.2.1, σ.2.2.1, σ.2.2.2.1, σ.2.2.2.2.1, σ.2.2.2.2.2.1, σ.2.2.2.2.2.2.1, σ.2.2.2.2.2.2.2.1, σ.2.2.2.2.2.2.2.2.1, σ.2.2.2.2.2.2.2.2.2.1, σ.2.2.2.2.2.2.2.2.2.2.1, σ.2.2.2.2.2.2.2.2.2.2.2.1, σ.2.2.2.2.2.2.2.2.2.2.2.2.1, σ.2.2.2.2.2.2.2.2.2.2.2.2.2.1, σ.2.2.2.2.2.2.2.2.2.2.2.2.2.2.1, σ.2.2.2.2.2.2.2.2.2.2.2.2.2.2.2.1, σ.2.2.2.2.2.2.2.2.2.2.2.2.2.2.2.2.1, σ.2.2.2.2.2.2.2.2.2.2.2.2.2.2.2.2.2.1, σ.2.2.2.2.2.2.2.2.2.2.2.2.2.2.2.2.2.2.1, σ.2.2.2.2.2.2.2.2.2.2.2.2.2.2.2.2.2.2.2.1, σ.2.2.2.2.2.2.2.2.2.2.2.2.2.2.2.2.2.2.2.2.1, σ.2.2.2.2.2.2.2.2.2.2.2.2.2.2.2.2.2.2.2.2.2.1, v, σ.2.2.2.2.2.2.2.2.2.2.2.2.2.2.2.2.2.2.2.2.2.2.2)
def scob (σ : CS) (v : Nat) : CS := (σ.1, σ.2.1, σ.2.2.1, σ.2.2.2.1, σ.2.2.2.2.1, σ.2.2.2.2.2.1, σ.2.2.2.2.2.2.1, σ.2.2.2.2.2.2.2.1, σ.2.2.2.2.2.2.2.2.1, σ.2.2.2.2.2.2.2.2.2.1, σ.2.2.2.2.2.2.2.2.2.2.1, σ.2.2.2.2.2.2.2.2.2.2.2.1, σ.2.2.2.2.2.2.2.2.2.2.2.2.1, σ.2.2.2.2.2.2.2.2.2.2.2.2.2.1, σ.2.2.2.2.2.2.2.2.2.2.2.2.2.2.1, σ.2.2.2.2.2.2.2.2.2.2.2.2.2.2.2.1, σ.2.2.2.2.2.2.2.2.2.2.2.2.2.2.2.2.1, σ.2.2.2.2.2.2.2.2.2.2.2.2.2.2.2.2.2.1, σ.2.2.2.2.2.2.2.2.2.2.2.2.2.2.2.2.2.2.1, σ.2.2.2.2.2.2.2.2.2.2.2.2.2.2.2.2.2.2.2.1, σ.2.2.2.2.2.2.2.2.2.2.2.2.2.2.2.2.2.2.2.2.1, σ.2.2.2.2.2.2.2.2.2.2.2.2.2.2.2.2.2.2.2.2.2.1, σ.2.2.2.2.2.2.2.2.2.2.2.2.2.2.2.2.2.2.2.2.2.2.1, v, σ.2.2.2.2.2.2.2.2.2.2.2.2.2.2.2.2.2.2.2.2.2.2.2.2)
def sctr (σ : CS) (v : Nat) : CS := (σ.1, σ.2.1, σ.2.2.1, σ.2.2.2.1, σ.2.2.2.2.1, σ.2.2.2.2.2.1, σ.2.2.2.2.2.2.1, σ.2.2.2.2.2.2.2.1, σ.2.2.2.2.2.2.2.2.1, σ.2.2.2.2.2.2.2.2.2.1, σ.2.2.2.2.2.2.2.2.2.2.1, σ.2.2.2.2.2.2.2.2.2.2.2.1, σ.2.2.2.2.2.2.2.2.2.2.2.2.1, σ.2.2.2.2.2.2.2.2.2.2.2.2.2.1, σ.2.2.2.2.2.2.2.2.2.2.2.2.2.2.1, σ.2.2.2.2.2.2.2.2.2.2.2.2.2.2.2.1, σ.2.2.2.2.2.2.2.2.2.2.2.2.2.2.2.2.1, σ.2.2.2.2.2.2.2.2.2.2.2.2.2.2.2.2.2.1, σ.2.2.2.2.2.2.2.2.2.2.2.2.2.2.2.2.2.2.1, σ.2.2.2.2.2.2.2.2.2.2.2.2.2.2.2.2.2.2.2.1, σ.2.2.2.2.2.2.2.2.2.2.2.2.2.2.2.2.2.2.2.2.1, σ.2.2.2.2.2.2.2.2.2.2.2.2.2.2.2.2.2.2.2.2.2.1, σ.2.2.2.2.2.2.2.2.2.2.2.2.2.2.2.2.2.2.2.2.2.2.1, σ.2.2.2.2.2.2.2.2.2.2.2.2.2.2.2.2.2.2.2.2.2.2.2.1, v)
def wC (ad : Nat → Nat) (cI cJ cZ : ClassId) (σ : CS) : va_W := [(ad 0, .inr (5, [.ref (ad 1), .ref (ad 2), .ref (ad 3)])), (ad 1, .inr (3, [.ref (ad 4), .ref (ad 5), .ref (ad 6), .ref (ad 7), .ref (ad 8), .ref (ad 9), .int (nI (gcn σ))])), (ad 2, .inr (4, [.ref (ad 1), .ref (ad 10), .ref (ad 11), .int (nI (gcma σ)), .int (nI (gcre σ)), .int (nI (gcca σ))])), (ad 3, .inr (2, [.ref (ad 1), .ref (ad 2), .ref (ad 12), .ref (ad 13), .ref (ad 14), .ref (ad 15), .ref (ad 16), .ref (ad 17), .ref (ad 18), .ref (ad 19), .int (bI (gcsh σ)), .int (nI (gcrm σ)), .int (nI (gcfr σ)), .int (nI (gcob σ)), .int (nI (gctr σ))])), (ad 4, .inl (cI, 6, .inl (fun i => oI (gcP σ i)))), (ad 5, .inl (cI, 24, .inl (fun i => nI (gcL σ i)))), (ad 6, .inl (cI, 240, .inl (fun i => nI (gcK σ i)))), (ad 7, .inl (cI, 240, .inl (fun i => nI (gcX σ i)))), (ad 8, .inl (cI, 240, .inl (fun i => gcY σ i))), (ad 9, .inl (cI, 240, .inl (fun i => gcZ σ i))), (ad 10, .inl (cI, 240, .inl (fun i => nI (gcV σ i)))), (ad 11, .inl (cI, 4, .inl (fun i => nI (gcCV σ i)))), (ad 12, .inl (cJ, 72, .inr (.inl (fun i => vJ (gcRg σ i))))), (ad 13, .inl (cI, 12, .inl (fun i => nI (gcBo σ i)))), (ad 14, .inl (cI, 12, .inl (fun i => nI (gcNe σ i)))), (ad 15, .inl (cI, 12, .inl (fun i => nI (gcAn σ i)))), (ad 16, .inl (cI, 401, .inl (fun i => nI (gcCl σ i)))), (ad 17, .inl (cJ, 1203, .inr (.inl (fun i => vJ (gcFl σ i))))), (ad 18, .inl (cI, 40, .inl (fun i => gcPo σ i))), (ad 19, .inl (cI, 6, .inl (fun i => nI (gcCt σ i))))]
theorem wC_D {A : Nat → Prop} {ad : Nat → Nat} {cI cJ cZ : ClassId} {σ : CS} (h : va_D A (wC ad cI cJ cZ σ)) (τ : CS) : va_D A (wC ad cI cJ cZ τ) := va_D_addr (ws := wC ad cI cJ cZ σ) rfl h
section RCS
variable {p : Program} {l : Launch} {e : Env} {R : Room} {s : State} {m : MethodId} {args : Array Value} {below : List Frame} {meth : Method} {c : Code} {H : Heap} {locs : List Loc} {cells slots : Nat} {Q : State → Prop}
variable {cc : ByteArray} {nL idx pc : Nat} {own : String} {x0 : Cond} {D : va_G} {cI cJ cZ : ClassId} {ad : Nat → Nat} {σ : CS} {A : Nat → Prop} {ls : Array Slot} {rest : List Value} {H0 : Heap}
theorem gt_X3_program (E : Cx p s m args c cc nL own x0 D (t3 cI cJ cZ)) (hl : Cond.fieldLink own idx (TX3 0).1 (TX3 0).2.1 (TX3 0).2.2.1 ∈ G) (hP : va_P D vwCl (wC ad cI cJ cZ σ) H) (hd : decode cc pc = .ok (.getfield idx, 3)) (kk : W p l e R s m args below meth c H locs cells slots Q (F0 m (pc + 3) ls (.ref (ad 1) :: rest))) : W p l e R s m args below meth c H locs cells slots Q (F0 m (pc) ls (.ref (ad 0) :: rest)) := CM.get (T := TX3) (N := 3) (ref := "") E hP 0 rfl rfl inG_X3 0 (by decide) hl rfl hd kk
theorem gt_X3_shaping (E : Cx p s m args c cc nL own x0 D (t3 cI cJ cZ)) (hl : Cond.fieldLink own idx (TX3 1).1 (TX3 1).2.1 (TX3 1).2.2.1 ∈ G) (hP : va_P D vwCl (wC ad cI cJ cZ σ) H) (hd : decode cc pc = .ok (.getfield idx, 3)) (kk : W p l e R s m args below meth c H locs cells slots Q (F0 m (pc + 3) ls (.ref (ad 2) :: rest))) : W p l e R s m args below meth c H locs cells slots Q (F0 m (pc) ls (.ref (ad 0) :: rest)) := CM.get (T := TX3) (N := 3) (ref := "") E hP 0 rfl rfl inG_X3 1 (by decide) hl rfl hd kk
theorem gt_X3_machine (E : Cx p s m args c cc nL own x0 D (t3 cI cJ cZ)) (hl : Cond.fieldLink own idx (TX3 2).1 (TX3 2).2.1 (TX3 2).2.2.1 ∈ G) (hP : va_P D vwCl (wC ad cI cJ cZ σ) H) (hd : decode cc pc = .ok (.getfield idx, 3)) (kk : W p l e R s m args below meth c H locs cells slots Q (F0 m (pc + 3) ls (.ref (ad 3) :: rest))) : W p l e R s m args below meth c H locs cells slots Q (F0 m (pc) ls (.ref (ad 0) :: rest)) := CM.get (T := TX3) (N := 3) (ref := "") E hP 0 rfl rfl inG_X3 2 (by decide) hl rfl hd kk
theorem gt_X1_parents (E : Cx p s m args c cc nL own x0 D (t3 cI cJ cZ)) (hl : Cond.fieldLink own idx (TX1 0).1 (TX1 0).2.1 (TX1 0).2.2.1 ∈ G) (hP : va_P D vwCl (wC ad cI cJ cZ σ) H) (hd : decode cc pc = .ok (.getfield idx, 3)) (kk : W p l e R s m args below meth c H locs cells slots Q (F0 m (pc + 3) ls (.ref (ad 4) :: rest))) : W p l e R s m args below meth c H locs cells slots Q (F0 m (pc) ls (.ref (ad 1) :: rest)) := CM.get (T := TX1) (N := 7) (ref := "") E hP 1 rfl rfl inG_X1 0 (by decide) hl rfl hd kk
theorem gt_X1_lengths (E : Cx p s m args c cc nL own x0 D (t3 cI cJ cZ)) (hl : Cond.fieldLink own idx (TX1 1).1 (TX1 1).2.1 (TX1 1).2.2.1 ∈ G) (hP : va_P D vwCl (wC ad cI cJ cZ σ) H) (hd : decode cc pc = .ok (.getfield idx, 3)) (kk : W p l e R s m args below meth c H locs cells slots Q (F0 m (pc + 3) ls (.ref (ad 5) :: rest))) : W p l e R s m args below meth c H locs cells slots Q (F0 m (pc) ls (.ref (ad 1) :: rest)) := CM.get (T := TX1) (N := 7) (ref := "") E hP 1 rfl rfl inG_X1 1 (by decide) hl rfl hd kk
theorem gt_X1_kinds (E : Cx p s m args c cc nL own x0 D (t3 cI cJ cZ)) (hl : Cond.fieldLink own idx (TX1 2).1 (TX1 2).2.1 (TX1 2).2.2.1 ∈ G) (hP : va_P D vwCl (wC ad cI cJ cZ σ) H) (hd : decode cc pc = .ok (.getfield idx, 3)) (kk : W p l e R s m args below meth c H locs cells slots Q (F0 m (pc + 3) ls (.ref (ad 6) :: rest))) : W p l e R s m args below meth c H locs cells slots Q (F0 m (pc) ls (.ref (ad 1) :: rest)) := CM.get (T := TX1) (N := 7) (ref := "") E hP 1 rfl rfl inG_X1 2 (by decide) hl rfl hd kk
theorem gt_X1_xs (E : Cx p s m args c cc nL own x0 D (t3 cI cJ cZ)) (hl : Cond.fieldLink own idx (TX1 3).1 (TX1 3).2.1 (TX1 3).2.2.1 ∈ G) (hP : va_P D vwCl (wC ad cI cJ cZ σ) H) (hd : decode cc pc = .ok (.getfield idx, 3)) (kk : W p l e R s m args below meth c H locs cells slots Q (F0 m (pc + 3) ls (.ref (ad 7) :: rest))) : W p l e R s m args below meth c H locs cells slots Q (F0 m (pc) ls (.ref (ad 1) :: rest)) := CM.get (T := TX1) (N := 7) (ref := "") E hP 1 rfl rfl inG_X1 3 (by decide) hl rfl hd kk
theorem gt_X1_ys (E : Cx p s m args c cc nL own x0 D (t3 cI cJ cZ)) (hl : Cond.fieldLink own idx (TX1 4).1 (TX1 4).2.1 (TX1 4).2.2.1 ∈ G) (hP : va_P D vwCl (wC ad cI cJ cZ σ) H) (hd : decode cc pc = .ok (.getfield idx, 3)) (kk : W p l e R s m args below meth c H locs cells slots Q (F0 m (pc + 3) ls (.ref (ad 8) :: rest))) : W p l e R s m args below meth c H locs cells slots Q (F0 m (pc) ls (.ref (ad 1) :: rest)) := CM.get (T := TX1) (N := 7) (ref := "") E hP 1 rfl rfl inG_X1 4 (by decide) hl rfl hd kk
theorem gt_X1_zs (E : Cx p s m args c cc nL own x0 D (t3 cI cJ cZ)) (hl : Cond.fieldLink own idx (TX1 5).1 (TX1 5).2.1 (TX1 5).2.2.1 ∈ G) (hP : va_P D vwCl (wC ad cI cJ cZ σ) H) (hd : decode cc pc = .ok (.getfield idx, 3)) (kk : W p l e R s m args below meth c H locs cells slots Q (F0 m (pc + 3) ls (.ref (ad 9) :: rest))) : W p l e R s m args below meth c H locs cells slots Q (F0 m (pc) ls (.ref (ad 1) :: rest)) := CM.get (T := TX1) (N := 7) (ref := "") E hP 1 rfl rfl inG_X1 5 (by decide) hl rfl hd kk
theorem gt_X1_classes (E : Cx p s m args c cc nL own x0 D (t3 cI cJ cZ)) (hl : Cond.fieldLink own idx (TX1 6).1 (TX1 6).2.1 (TX1 6).2.2.1 ∈ G) (hP : va_P D vwCl (wC ad cI cJ cZ σ) H) (hd : decode cc pc = .ok (.getfield idx, 3)) (kk : W p l e R s m args below meth c H locs cells slots Q (F0 m (pc + 3) ls (.int (nI (gcn σ)) :: rest))) : W p l e R s m args below meth c H locs cells slots Q (F0 m (pc) ls (.ref (ad 1) :: rest)) := CM.get (T := TX1) (N := 7) (ref := "") E hP 1 rfl rfl inG_X1 6 (by decide) hl rfl hd kk
theorem pt_X1_classes {v : Nat} (E : Cx p s m args c cc nL own x0 D (t3 cI cJ cZ)) (hl : Cond.fieldLink own idx (TX1 6).1 (TX1 6).2.1 (TX1 6).2.2.1 ∈ G) (hP : va_P D vwCl (wC ad cI cJ cZ σ) H) (hD : ∀ τ, va_D A (wC ad cI cJ cZ τ)) (hS : va_S A H0 H locs) (hd : decode cc pc = .ok (.putfield idx, 3)) (kk : ∀ (H1 : Heap) (locs1 : List Loc), va_P D vwCl (wC ad cI cJ cZ (scn σ v)) H1 → va_S A H0 H1 locs1 → W p l e R s m args below meth c H1 locs1 cells slots Q (F0 m (pc + 3) ls (rest))) : W p l e R s m args below meth c H locs cells slots Q (F0 m (pc) ls (.int (nI (v)) :: .ref (ad 1) :: rest)) := CM.put (T := TX1) (N := 7) (ty := .int) E hP (hD σ) hS 1 rfl rfl inG_X1 tyX1 tyX1_ok nmX1 6 (by decide) hl rfl (by decide +kernel) rfl rfl (Nat.le_of_ble_eq_true rfl) rfl hd (fun H1 l1 h1 _ h3 => kk H1 l1 h1 h3)
theorem gt_X2_program (E : Cx p s m args c cc nL own x0 D (t3 cI cJ cZ)) (hl : Cond.fieldLink own idx (TX2 0).1 (TX2 0).2.1 (TX2 0).2.2.1 ∈ G) (hP : va_P D vwCl (wC ad cI cJ cZ σ) H) (hd : decode cc pc = .ok (.getfield idx, 3)) (kk : W p l e R s m args below meth c H locs cells slots Q (F0 m (pc + 3) ls (.ref (ad 1) :: rest))) : W p l e R s m args below meth c H locs cells slots Q (F0 m (pc) ls (.ref (ad 2) :: rest)) := CM.get (T := TX2) (N := 6) (ref := "") E hP 2 rfl rfl inG_X2 0 (by decide) hl rfl hd kk
theorem gt_X2_verdicts (E : Cx p s m args c cc nL own x0 D (t3 cI cJ cZ)) (hl : Cond.fieldLink own idx (TX2 1).1 (TX2 1).2.1 (TX2 1).2.2.1 ∈ G) (hP : va_P D vwCl (wC ad cI cJ cZ σ) H) (hd : decode cc pc = .ok (.getfield idx, 3)) (kk : W p l e R s m args below meth c H locs cells slots Q (F0 m (pc + 3) ls (.ref (ad 10) :: rest))) : W p l e R s m args below meth c H locs cells slots Q (F0 m (pc) ls (.ref (ad 2) :: rest)) := CM.get (T := TX2) (N := 6) (ref := "") E hP 2 rfl rfl inG_X2 1 (by decide) hl rfl hd kk
theorem gt_X2_callVerdicts (E : Cx p s m args c cc nL own x0 D (t3 cI cJ cZ)) (hl : Cond.fieldLink own idx (TX2 2).1 (TX2 2).2.1 (TX2 2).2.2.1 ∈ G) (hP : va_P D vwCl (wC ad cI cJ cZ σ) H) (hd : decode cc pc = .ok (.getfield idx, 3)) (kk : W p l e R s m args below meth c H locs cells slots Q (F0 m (pc + 3) ls (.ref (ad 11) :: rest))) : W p l e R s m args below meth c H locs cells slots Q (F0 m (pc) ls (.ref (ad 2) :: rest)) := CM.get (T := TX2) (N := 6) (ref := "") E hP 2 rfl rfl inG_X2 2 (by decide) hl rfl hd kk
theorem gt_X2_made (E : Cx p s m args c cc nL own x0 D (t3 cI cJ cZ)) (hl : Cond.fieldLink own idx (TX2 3).1 (TX2 3).2.1 (TX2 3).2.2.1 ∈ G) (hP : va_P D vwCl (wC ad cI cJ cZ σ) H) (hd : decode cc pc = .ok (.getfield idx, 3)) (kk : W p l e R s m args below meth c H locs cells slots Q (F0 m (pc + 3) ls (.int (nI (gcma σ)) :: rest))) : W p l e R s m args below meth c H locs cells slots Q (F0 m (pc) ls (.ref (ad 2) :: rest)) := CM.get (T := TX2) (N := 6) (ref := "") E hP 2 rfl rfl inG_X2 3 (by decide) hl rfl hd kk
theorem pt_X2_made {v : Nat} (E : Cx p s m args c cc nL own x0 D (t3 cI cJ cZ)) (hl : Cond.fieldLink own idx (TX2 3).1 (TX2 3).2.1 (TX2 3).2.2.1 ∈ G) (hP : va_P D vwCl (wC ad cI cJ cZ σ) H) (hD : ∀ τ, va_D A (wC ad cI cJ cZ τ)) (hS : va_S A H0 H locs) (hd : decode cc pc = .ok (.putfield idx, 3)) (kk : ∀ (H1 : Heap) (locs1 : List Loc), va_P D vwCl (wC ad cI cJ cZ (scma σ v)) H1 → va_S A H0 H1 locs1 → W p l e R s m args below meth c H1 locs1 cells slots Q (F0 m (pc + 3) ls (rest))) : W p l e R s m args below meth c H locs cells slots Q (F0 m (pc) ls (.int (nI (v)) :: .ref (ad 2) :: rest)) := CM.put (T := TX2) (N := 6) (ty := .int) E hP (hD σ) hS 2 rfl rfl inG_X2 tyX2 tyX2_ok nmX2 3 (by decide) hl rfl (by decide +kernel) rfl rfl (Nat.le_of_ble_eq_true rfl) rfl hd (fun H1 l1 h1 _ h3 => kk H1 l1 h1 h3)
theorem gt_X2_reached (E : Cx p s m args c cc nL own x0 D (t3 cI cJ cZ)) (hl : Cond.fieldLink own idx (TX2 4).1 (TX2 4).2.1 (TX2 4).2.2.1 ∈ G) (hP : va_P D vwCl (wC ad cI cJ cZ σ) H) (hd : decode cc pc = .ok (.getfield idx, 3)) (kk : W p l e R s m args below meth c H locs cells slots Q (F0 m (pc + 3) ls (.int (nI (gcre σ)) :: rest))) : W p l e R s m args below meth c H locs cells slots Q (F0 m (pc) ls (.ref (ad 2) :: rest)) := CM.get (T := TX2) (N := 6) (ref := "") E hP 2 rfl rfl inG_X2 4 (by decide) hl rfl hd kk
theorem pt_X2_reached {v : Nat} (E : Cx p s m args c cc nL own x0 D (t3 cI cJ cZ)) (hl : Cond.fieldLink own idx (TX2 4).1 (TX2 4).2.1 (TX2 4).2.2.1 ∈ G) (hP : va_P D vwCl (wC ad cI cJ cZ σ) H) (hD : ∀ τ, va_D A (wC ad cI cJ cZ τ)) (hS : va_S A H0 H locs) (hd : decode cc pc = .ok (.putfield idx, 3)) (kk : ∀ (H1 : Heap) (locs1 : List Loc), va_P D vwCl (wC ad cI cJ cZ (scre σ v)) H1 → va_S A H0 H1 locs1 → W p l e R s m args below meth c H1 locs1 cells slots Q (F0 m (pc + 3) ls (rest))) : W p l e R s m args below meth c H locs cells slots Q (F0 m (pc) ls (.int (nI (v)) :: .ref (ad 2) :: rest)) := CM.put (T := TX2) (N := 6) (ty := .int) E hP (hD σ) hS 2 rfl rfl inG_X2 tyX2 tyX2_ok nmX2 4 (by decide) hl rfl (by decide +kernel) rfl rfl (Nat.le_of_ble_eq_true rfl) rfl hd (fun H1 l1 h1 _ h3 => kk H1 l1 h1 h3)
theorem gt_X2_called (E : Cx p s m args c cc nL own x0 D (t3 cI cJ cZ)) (hl : Cond.fieldLink own idx (TX2 5).1 (TX2 5).2.1 (TX2 5).2.2.1 ∈ G) (hP : va_P D vwCl (wC ad cI cJ cZ σ) H) (hd : decode cc pc = .ok (.getfield idx, 3)) (kk : W p l e R s m args below meth c H locs cells slots Q (F0 m (pc + 3) ls (.int (nI (gcca σ)) :: rest))) : W p l e R s m args below meth c H locs cells slots Q (F0 m (pc) ls (.ref (ad 2) :: rest)) := CM.get (T := TX2) (N := 6) (ref := "") E hP 2 rfl rfl inG_X2 5 (by decide) hl rfl hd kk
theorem pt_X2_called {v : Nat} (E : Cx p s m args c cc nL own x0 D (t3 cI cJ cZ)) (hl : Cond.fieldLink own idx (TX2 5).1 (TX2 5).2.1 (TX2 5).2.2.1 ∈ G) (hP : va_P D vwCl (wC ad cI cJ cZ σ) H) (hD : ∀ τ, va_D A (wC ad cI cJ cZ τ)) (hS : va_S A H0 H locs) (hd : decode cc pc = .ok (.putfield idx, 3)) (kk : ∀ (H1 : Heap) (locs1 : List Loc), va_P D vwCl (wC ad cI cJ cZ (scca σ v)) H1 → va_S A H0 H1 locs1 → W p l e R s m args below meth c H1 locs1 cells slots Q (F0 m (pc + 3) ls (rest))) : W p l e R s m args below meth c H locs cells slots Q (F0 m (pc) ls (.int (nI (v)) :: .ref (ad 2) :: rest)) := CM.put (T := TX2) (N := 6) (ty := .int) E hP (hD σ) hS 2 rfl rfl inG_X2 tyX2 tyX2_ok nmX2 5 (by decide) hl rfl (by decide +kernel) rfl rfl (Nat.le_of_ble_eq_true rfl) rfl hd (fun H1 l1 h1 _ h3 => kk H1 l1 h1 h3)
theorem gt_X0_program (E : Cx p s m args c cc nL own x0 D (t3 cI cJ cZ)) (hl : Cond.fieldLink own idx (TX0 0).1 (TX0 0).2.1 (TX0 0).2.2.1 ∈ G) (hP : va_P D vwCl (wC ad cI cJ cZ σ) H) (hd : decode cc pc = .ok (.getfield idx, 3)) (kk : W p l e R s m args below meth c H locs cells slots Q (F0 m (pc + 3) ls (.ref (ad 1) :: rest))) : W p l e R s m args below meth c H locs cells slots Q (F0 m (pc) ls (.ref (ad 3) :: rest)) := CM.get (T := TX0) (N := 15) (ref := "") E hP 3 rfl rfl inG_X0 0 (by decide) hl rfl hd kk
theorem gt_X0_shaping (E : Cx p s m args c cc nL own x0 D (t3 cI cJ cZ)) (hl : Cond.fieldLink own idx (TX0 1).1 (TX0 1).2.1 (TX0 1).2.2.1 ∈ G) (hP : va_P D vwCl (wC ad cI cJ cZ σ) H) (hd : decode cc pc = .ok (.getfield idx, 3)) (kk : W p l e R s m args below meth c H locs cells slots Q (F0 m (pc + 3) ls (.ref (ad 2) :: rest))) : W p l e R s m args below meth c H locs cells slots Q (F0 m (pc) ls (.ref (ad 3) :: rest)) := CM.get (T := TX0) (N := 15) (ref := "") E hP 3 rfl rfl inG_X0 1 (by decide) hl rfl hd kk
theorem gt_X0_registers (E : Cx p s m args c cc nL own x0 D (t3 cI cJ cZ)) (hl : Cond.fieldLink own idx (TX0 2).1 (TX0 2).2.1 (TX0 2).2.2.1 ∈ G) (hP : va_P D vwCl (wC ad cI cJ cZ σ) H) (hd : decode cc pc = .ok (.getfield idx, 3)) (kk : W p l e R s m args below meth c H locs cells slots Q (F0 m (pc + 3) ls (.ref (ad 12) :: rest))) : W p l e R s m args below meth c H locs cells slots Q (F0 m (pc) ls (.ref (ad 3) :: rest)) := CM.get (T := TX0) (N := 15) (ref := "") E hP 3 rfl rfl inG_X0 2 (by decide) hl rfl hd kk
theorem gt_X0_bodies (E : Cx p s m args c cc nL own x0 D (t3 cI cJ cZ)) (hl : Cond.fieldLink own idx (TX0 3).1 (TX0 3).2.1 (TX0 3).2.2.1 ∈ G) (hP : va_P D vwCl (wC ad cI cJ cZ σ) H) (hd : decode cc pc = .ok (.getfield idx, 3)) (kk : W p l e R s m args below meth c H locs cells slots Q (F0 m (pc + 3) ls (.ref (ad 13) :: rest))) : W p l e R s m args below meth c H locs cells slots Q (F0 m (pc) ls (.ref (ad 3) :: rest)) := CM.get (T := TX0) (N := 15) (ref := "") E hP 3 rfl rfl inG_X0 3 (by decide) hl rfl hd kk
theorem gt_X0_nexts (E : Cx p s m args c cc nL own x0 D (t3 cI cJ cZ)) (hl : Cond.fieldLink own idx (TX0 4).1 (TX0 4).2.1 (TX0 4).2.2.1 ∈ G) (hP : va_P D vwCl (wC ad cI cJ cZ σ) H) (hd : decode cc pc = .ok (.getfield idx, 3)) (kk : W p l e R s m args below meth c H locs cells slots Q (F0 m (pc + 3) ls (.ref (ad 14) :: rest))) : W p l e R s m args below meth c H locs cells slots Q (F0 m (pc) ls (.ref (ad 3) :: rest)) := CM.get (T := TX0) (N := 15) (ref := "") E hP 3 rfl rfl inG_X0 4 (by decide) hl rfl hd kk
theorem gt_X0_answersTo (E : Cx p s m args c cc nL own x0 D (t3 cI cJ cZ)) (hl : Cond.fieldLink own idx (TX0 5).1 (TX0 5).2.1 (TX0 5).2.2.1 ∈ G) (hP : va_P D vwCl (wC ad cI cJ cZ σ) H) (hd : decode cc pc = .ok (.getfield idx, 3)) (kk : W p l e R s m args below meth c H locs cells slots Q (F0 m (pc + 3) ls (.ref (ad 15) :: rest))) : W p l e R s m args below meth c H locs cells slots Q (F0 m (pc) ls (.ref (ad 3) :: rest)) := CM.get (T := TX0) (N := 15) (ref := "") E hP 3 rfl rfl inG_X0 5 (by decide) hl rfl hd kk
theorem gt_X0_classes (E : Cx p s m args c cc nL own x0 D (t3 cI cJ cZ)) (hl : Cond.fieldLink own idx (TX0 6).1 (TX0 6).2.1 (TX0 6).2.2.1 ∈ G) (hP : va_P D vwCl (wC ad cI cJ cZ σ) H) (hd : decode cc pc = .ok (.getfield idx, 3)) (kk : W p l e R s m args below meth c H locs cells slots Q (F0 m (pc + 3) ls (.ref (ad 16) :: rest))) : W p l e R s m args below meth c H locs cells slots Q (F0 m (pc) ls (.ref (ad 3) :: rest)) := CM.get (T := TX0) (N := 15) (ref := "") E hP 3 rfl rfl inG_X0 6 (by decide) hl rfl hd kk
theorem gt_X0_fields (E : Cx p s m args c cc nL own x0 D (t3 cI cJ cZ)) (hl : Cond.fieldLink own idx (TX0 7).1 (TX0 7).2.1 (TX0 7).2.2.1 ∈ G) (hP : va_P D vwCl (wC ad cI cJ cZ σ) H) (hd : decode cc pc = .ok (.getfield idx, 3)) (kk : W p l e R s m args below meth c H locs cells slots Q (F0 m (pc + 3) ls (.ref (ad 17) :: rest))) : W p l e R s m args below meth c H locs cells slots Q (F0 m (pc) ls (.ref (ad 3) :: rest)) := CM.get (T := TX0) (N := 15) (ref := "") E hP 3 rfl rfl inG_X0 7 (by decide) hl rfl hd kk
theorem gt_X0_putOut (E : Cx p s m args c cc nL own x0 D (t3 cI cJ cZ)) (hl : Cond.fieldLink own idx (TX0 8).1 (TX0 8).2.1 (TX0 8).2.2.1 ∈ G) (hP : va_P D vwCl (wC ad cI cJ cZ σ) H) (hd : decode cc pc = .ok (.getfield idx, 3)) (kk : W p l e R s m args below meth c H locs cells slots Q (F0 m (pc + 3) ls (.ref (ad 18) :: rest))) : W p l e R s m args below meth c H locs cells slots Q (F0 m (pc) ls (.ref (ad 3) :: rest)) := CM.get (T := TX0) (N := 15) (ref := "") E hP 3 rfl rfl inG_X0 8 (by decide) hl rfl hd kk
theorem gt_X0_counts (E : Cx p s m args c cc nL own x0 D (t3 cI cJ cZ)) (hl : Cond.fieldLink own idx (TX0 9).1 (TX0 9).2.1 (TX0 9).2.2.1 ∈ G) (hP : va_P D vwCl (wC ad cI cJ cZ σ) H) (hd : decode cc pc = .ok (.getfield idx, 3)) (kk : W p l e R s m args below meth c H locs cells slots Q (F0 m (pc + 3) ls (.ref (ad 19) :: rest))) : W p l e R s m args below meth c H locs cells slots Q (F0 m (pc) ls (.ref (ad 3) :: rest)) := CM.get (T := TX0) (N := 15) (ref := "") E hP 3 rfl rfl inG_X0 9 (by decide) hl rfl hd kk
theorem gt_X0_asShaped (E : Cx p s m args c cc nL own x0 D (t3 cI cJ cZ)) (hl : Cond.fieldLink own idx (TX0 10).1 (TX0 10).2.1 (TX0 10).2.2.1 ∈ G) (hP : va_P D vwCl (wC ad cI cJ cZ σ) H) (hd : decode cc pc = .ok (.getfield idx, 3)) (kk : W p l e R s m args below meth c H locs cells slots Q (F0 m (pc + 3) ls (.int (bI (gcsh σ)) :: rest))) : W p l e R s m args below meth c H locs cells slots Q (F0 m (pc) ls (.ref (ad 3) :: rest)) := CM.get (T := TX0) (N := 15) (ref := "") E hP 3 rfl rfl inG_X0 10 (by decide) hl rfl hd kk
theorem pt_X0_asShaped {v : Bool} (E : Cx p s m args c cc nL own x0 D (t3 cI cJ cZ)) (hl : Cond.fieldLink own idx (TX0 10).1 (TX0 10).2.1 (TX0 10).2.2.1 ∈ G) (hP : va_P D vwCl (wC ad cI cJ cZ σ) H) (hD : ∀ τ, va_D A (wC ad cI cJ cZ τ)) (hS : va_S A H0 H locs) (hd : decode cc pc = .ok (.putfield idx, 3)) (kk : ∀ (H1 : Heap) (locs1 : List Loc), va_P D vwCl (wC ad cI cJ cZ (scsh σ v)) H1 → va_S A H0 H1 locs1 → W p l e R s m args below meth c H1 locs1 cells slots Q (F0 m (pc + 3) ls (rest))) : W p l e R s m args below meth c H locs cells slots Q (F0 m (pc) ls (.int (bI (v)) :: .ref (ad 3) :: rest)) := CM.put (T := TX0) (N := 15) (ty := .boolean) E hP (hD σ) hS 3 rfl rfl inG_X0 tyX0 tyX0_ok nmX0 10 (by decide) hl rfl (by decide +kernel) (bI_n v) (bI_f v) (Nat.le_of_ble_eq_true rfl) rfl hd (fun H1 l1 h1 _ h3 => kk H1 l1 h1 h3)
theorem gt_X0_room (E : Cx p s m args c cc nL own x0 D (t3 cI cJ cZ)) (hl : Cond.fieldLink own idx (TX0 11).1 (TX0 11).2.1 (TX0 11).2.2.1 ∈ G) (hP : va_P D vwCl (wC ad cI cJ cZ σ) H) (hd : decode cc pc = .ok (.getfield idx, 3)) (kk : W p l e R s m args below meth c H locs cells slots Q (F0 m (pc + 3) ls (.int (nI (gcrm σ)) :: rest))) : W p l e R s m args below meth c H locs cells slots Q (F0 m (pc) ls (.ref (ad 3) :: rest)) := CM.get (T := TX0) (N := 15) (ref := "") E hP 3 rfl rfl inG_X0 11 (by decide) hl rfl hd kk
theorem pt_X0_room {v : Nat} (E : Cx p s m args c cc nL own x0 D (t3 cI cJ cZ)) (hl : Cond.fieldLink own idx (TX0 11).1 (TX0 11).2.1 (TX0 11).2.2.1 ∈ G) (hP : va_P D vwCl (wC ad cI cJ cZ σ) H) (hD : ∀ τ, va_D A (wC ad cI cJ cZ τ)) (hS : va_S A H0 H locs) (hd : decode cc pc = .ok (.putfield idx, 3)) (kk : ∀ (H1 : Heap) (locs1 : List Loc), va_P D vwCl (wC ad cI cJ cZ (scrm σ v)) H1 → va_S A H0 H1 locs1 → W p l e R s m args below meth c H1 locs1 cells slots Q (F0 m (pc + 3) ls (rest))) : W p l e R s m args below meth c H locs cells slots Q (F0 m (pc) ls (.int (nI (v)) :: .ref (ad 3) :: rest)) := CM.put (T := TX0) (N := 15) (ty := .int) E hP (hD σ) hS 3 rfl rfl inG_X0 tyX0 tyX0_ok nmX0 11 (by decide) hl rfl (by decide +kernel) rfl rfl (Nat.le_of_ble_eq_true rfl) rfl hd (fun H1 l1 h1 _ h3 => kk H1 l1 h1 h3)
theorem gt_X0_frames (E : Cx p s m args c cc nL own x0 D (t3 cI cJ cZ)) (hl : Cond.fieldLink own idx (TX0 12).1 (TX0 12).2.1 (TX0 12).2.2.1 ∈ G) (hP : va_P D vwCl (wC ad cI cJ cZ σ) H) (hd : decode cc pc = .ok (.getfield idx, 3)) (kk : W p l e R s m args below meth c H locs cells slots Q (F0 m (pc + 3) ls (.int (nI (gcfr σ)) :: rest))) : W p l e R s m args below meth c H locs cells slots Q (F0 m (pc) ls (.ref (ad 3) :: rest)) := CM.get (T := TX0) (N := 15) (ref := "") E hP 3 rfl rfl inG_X0 12 (by decide) hl rfl hd kk
theorem pt_X0_frames {v : Nat} (E : Cx p s m args c cc nL own x0 D (t3 cI cJ cZ)) (hl : Cond.fieldLink own idx (TX0 12).1 (TX0 12).2.1 (TX0 12).2.2.1 ∈ G) (hP : va_P D vwCl (wC ad cI cJ cZ σ) H) (hD : ∀ τ, va_D A (wC ad cI cJ cZ τ)) (hS : va_S A H0 H locs) (hd : decode cc pc = .ok (.putfield idx, 3)) (kk : ∀ (H1 : Heap) (locs1 : List Loc), va_P D vwCl (wC ad cI cJ cZ (scfr σ v)) H1 → va_S A H0 H1 locs1 → W p l e R s m args below meth c H1 locs1 cells slots Q (F0 m (pc + 3) ls (rest))) : W p l e R s m args below meth c H locs cells slots Q (F0 m (pc) ls (.int (nI (v)) :: .ref (ad 3) :: rest)) := CM.put (T := TX0) (N := 15) (ty := .int) E hP (hD σ) hS 3 rfl rfl inG_X0 tyX0 tyX0_ok nmX0 12 (by decide) hl rfl (by decide +kernel) rfl rfl (Nat.le_of_ble_eq_true rfl) rfl hd (fun H1 l1 h1 _ h3 => kk H1 l1 h1 h3)
theorem gt_X0_objects (E : Cx p s m args c cc nL own x0 D (t3 cI cJ cZ)) (hl : Cond.fieldLink own idx (TX0 13).1 (TX0 13).2.1 (TX0 13).2.2.1 ∈ G) (hP : va_P D vwCl (wC ad cI cJ cZ σ) H) (hd : decode cc pc = .ok (.getfield idx, 3)) (kk : W p l e R s m args below meth c H locs cells slots Q (F0 m (pc + 3) ls (.int (nI (gcob σ)) :: rest))) : W p l e R s m args below meth c H locs cells slots Q (F0 m (pc) ls (.ref (ad 3) :: rest)) := CM.get (T := TX0) (N := 15) (ref := "") E hP 3 rfl rfl inG_X0 13 (by decide) hl rfl hd kk
theorem pt_X0_objects {v : Nat} (E : Cx p s m args c cc nL own x0 D (t3 cI cJ cZ)) (hl : Cond.fieldLink own idx (TX0 13).1 (TX0 13).2.1 (TX0 13).2.2.1 ∈ G) (hP : va_P D vwCl (wC ad cI cJ cZ σ) H) (hD : ∀ τ, va_D A (wC ad cI cJ cZ τ)) (hS : va_S A H0 H locs) (hd : decode cc pc = .ok (.putfield idx, 3)) (kk : ∀ (H1 : Heap) (locs1 : List Loc), va_P D vwCl (wC ad cI cJ cZ (scob σ v)) H1 → va_S A H0 H1 locs1 → W p l e R s m args below meth c H1 locs1 cells slots Q (F0 m (pc + 3) ls (rest))) : W p l e R s m args below meth c H locs cells slots Q (F0 m (pc) ls (.int (nI (v)) :: .ref (ad 3) :: rest)) := CM.put (T := TX0) (N := 15) (ty := .int) E hP (hD σ) hS 3 rfl rfl inG_X0 tyX0 tyX0_ok nmX0 13 (by decide) hl rfl (by decide +kernel) rfl rfl (Nat.le_of_ble_eq_true rfl) rfl hd (fun H1 l1 h1 _ h3 => kk H1 l1 h1 h3)
theorem gt_X0_trap (E : Cx p s m args c cc nL own x0 D (t3 cI cJ cZ)) (hl : Cond.fieldLink own idx (TX0 14).1 (TX0 14).2.1 (TX0 14).2.2.1 ∈ G) (hP : va_P D vwCl (wC ad cI cJ cZ σ) H) (hd : decode cc pc = .ok (.getfield idx, 3)) (kk : W p l e R s m args below meth c H locs cells slots Q (F0 m (pc + 3) ls (.int (nI (gctr σ)) :: rest))) : W p l e R s m args below meth c H locs cells slots Q (F0 m (pc) ls (.ref (ad 3) :: rest)) := CM.get (T := TX0) (N := 15) (ref := "") E hP 3 rfl rfl inG_X0 14 (by decide) hl rfl hd kk
theorem pt_X0_trap {v : Nat} (E : Cx p s m args c cc nL own x0 D (t3 cI cJ cZ)) (hl : Cond.fieldLink own idx (TX0 14).1 (TX0 14).2.1 (TX0 14).2.2.1 ∈ G) (hP : va_P D vwCl (wC ad cI cJ cZ σ) H) (hD : ∀ τ, va_D A (wC ad cI cJ cZ τ)) (hS : va_S A H0 H locs) (hd : decode cc pc = .ok (.putfield idx, 3)) (kk : ∀ (H1 : Heap) (locs1 : List Loc), va_P D vwCl (wC ad cI cJ cZ (sctr σ v)) H1 → va_S A H0 H1 locs1 → W p l e R s m args below meth c H1 locs1 cells slots Q (F0 m (pc + 3) ls (rest))) : W p l e R s m args below meth c H locs cells slots Q (F0 m (pc) ls (.int (nI (v)) :: .ref (ad 3) :: rest)) := CM.put (T := TX0) (N := 15) (ty := .int) E hP (hD σ) hS 3 rfl rfl inG_X0 tyX0 tyX0_ok nmX0 14 (by decide) hl rfl (by decide +kernel) rfl rfl (Nat.le_of_ble_eq_true rfl) rfl hd (fun H1 l1 h1 _ h3 => kk H1 l1 h1 h3)
theorem ld_CS_P {i : Nat} (E : Cx p s m args c cc nL own x0 D (t3 cI cJ cZ)) (hP : va_P D vwCl (wC ad cI cJ cZ σ) H) (hi : i < 6) (hd : decode cc pc = .ok (.iaload, 1)) (kk : W p l e R s m args below meth c H locs cells slots Q (F0 m (pc + 1) ls (.int (oI (gcP σ i)) :: rest))) : W p l e R s m args below meth c H locs cells slots Q (F0 m (pc) ls (.int (nI i) :: .ref (ad 4) :: rest)) := by
  refine va_iald E.1.1 E.1.2.1 E.2 hP 4 0 rfl rfl (vp_in_nI hi (by decide)) hd ?_
  rw [nI_clamp (Nat.lt_trans hi (by decide))]
  exact kk
theorem as_CS_P {i : Nat} {v : Option Nat} (E : Cx p s m args c cc nL own x0 D (t3 cI cJ cZ)) (hP : va_P D vwCl (wC ad cI cJ cZ σ) H) (hD : ∀ τ, va_D A (wC ad cI cJ cZ τ)) (hS : va_S A H0 H locs) (hi : i < 6) (hd : decode cc pc = .ok (.iastore, 1)) (kk : ∀ (H1 : Heap) (locs1 : List Loc), va_P D vwCl (wC ad cI cJ cZ (scP σ (va_up (gcP σ) i v))) H1 → va_S A H0 H1 locs1 → W p l e R s m args below meth c H1 locs1 cells slots Q (F0 m (pc + 1) ls (rest))) : W p l e R s m args below meth c H locs cells slots Q (F0 m (pc) ls (.int (oI (v)) :: .int (nI i) :: .ref (ad 4) :: rest)) := by
  refine va_iast E.1.1 E.1.2.1 E.2 hP (hD σ) hS 4 0 rfl rfl (vp_in_nI hi (by decide)) hd (fun H1 l1 h1 _ h3 => kk H1 l1 ?_ h3)
  have e9 : upd (fun i => oI (gcP σ i)) (nI i).toNatClampNeg (oI (v)) = fun j => oI (va_up (gcP σ) i v j) := by
    funext j
    rw [nI_clamp (Nat.lt_trans hi (by decide))]
    unfold upd va_up
    split <;> rfl
  rw [e9] at h1
  exact h1
theorem ld_CS_L {i : Nat} (E : Cx p s m args c cc nL own x0 D (t3 cI cJ cZ)) (hP : va_P D vwCl (wC ad cI cJ cZ σ) H) (hi : i < 24) (hd : decode cc pc = .ok (.iaload, 1)) (kk : W p l e R s m args below meth c H locs cells slots Q (F0 m (pc + 1) ls (.int (nI (gcL σ i)) :: rest))) : W p l e R s m args below meth c H locs cells slots Q (F0 m (pc) ls (.int (nI i) :: .ref (ad 5) :: rest)) := by
  refine va_iald E.1.1 E.1.2.1 E.2 hP 5 0 rfl rfl (vp_in_nI hi (by decide)) hd ?_
  rw [nI_clamp (Nat.lt_trans hi (by decide))]
  exact kk
theorem as_CS_L {i : Nat} {v : Nat} (E : Cx p s m args c cc nL own x0 D (t3 cI cJ cZ)) (hP : va_P D vwCl (wC ad cI cJ cZ σ) H) (hD : ∀ τ, va_D A (wC ad cI cJ cZ τ)) (hS : va_S A H0 H locs) (hi : i < 24) (hd : decode cc pc = .ok (.iastore, 1)) (kk : ∀ (H1 : Heap) (locs1 : List Loc), va_P D vwCl (wC ad cI cJ cZ (scL σ (va_up (gcL σ) i v))) H1 → va_S A H0 H1 locs1 → W p l e R s m args below meth c H1 locs1 cells slots Q (F0 m (pc + 1) ls (rest))) : W p l e R s m args below meth c H locs cells slots Q (F0 m (pc) ls (.int (nI (v)) :: .int (nI i) :: .ref (ad 5) :: rest)) := by
  refine va_iast E.1.1 E.1.2.1 E.2 hP (hD σ) hS 5 0 rfl rfl (vp_in_nI hi (by decide)) hd (fun H1 l1 h1 _ h3 => kk H1 l1 ?_ h3)
  have e9 : upd (fun i => nI (gcL σ i)) (nI i).toNatClampNeg (nI (v)) = fun j => nI (va_up (gcL σ) i v j) := by
    funext j
    rw [nI_clamp (Nat.lt_trans hi (by decide))]
    unfold upd va_up
    split <;> rfl
  rw [e9] at h1
  exact h1
theorem ld_CS_K {i : Nat} (E : Cx p s m args c cc nL own x0 D (t3 cI cJ cZ)) (hP : va_P D vwCl (wC ad cI cJ cZ σ) H) (hi : i < 240) (hd : decode cc pc = .ok (.iaload, 1)) (kk : W p l e R s m args below meth c H locs cells slots Q (F0 m (pc + 1) ls (.int (nI (gcK σ i)) :: rest))) : W p l e R s m args below meth c H locs cells slots Q (F0 m (pc) ls (.int (nI i) :: .ref (ad 6) :: rest)) := by
  refine va_iald E.1.1 E.1.2.1 E.2 hP 6 0 rfl rfl (vp_in_nI hi (by decide)) hd ?_
  rw [nI_clamp (Nat.lt_trans hi (by decide))]
  exact kk
theorem as_CS_K {i : Nat} {v : Nat} (E : Cx p s m args c cc nL own x0 D (t3 cI cJ cZ)) (hP : va_P D vwCl (wC ad cI cJ cZ σ) H) (hD : ∀ τ, va_D A (wC ad cI cJ cZ τ)) (hS : va_S A H0 H locs) (hi : i < 240) (hd : decode cc pc = .ok (.iastore, 1)) (kk : ∀ (H1 : Heap) (locs1 : List Loc), va_P D vwCl (wC ad cI cJ cZ (scK σ (va_up (gcK σ) i v))) H1 → va_S A H0 H1 locs1 → W p l e R s m args below meth c H1 locs1 cells slots Q (F0 m (pc + 1) ls (rest))) : W p l e R s m args below meth c H locs cells slots Q (F0 m (pc) ls (.int (nI (v)) :: .int (nI i) :: .ref (ad 6) :: rest)) := by
  refine va_iast E.1.1 E.1.2.1 E.2 hP (hD σ) hS 6 0 rfl rfl (vp_in_nI hi (by decide)) hd (fun H1 l1 h1 _ h3 => kk H1 l1 ?_ h3)
  have e9 : upd (fun i => nI (gcK σ i)) (nI i).toNatClampNeg (nI (v)) = fun j => nI (va_up (gcK σ) i v j) := by
    funext j
    rw [nI_clamp (Nat.lt_trans hi (by decide))]
    unfold upd va_up
    split <;> rfl
  rw [e9] at h1
  exact h1
theorem ld_CS_X {i : Nat} (E : Cx p s m args c cc nL own x0 D (t3 cI cJ cZ)) (hP : va_P D vwCl (wC ad cI cJ cZ σ) H) (hi : i < 240) (hd : decode cc pc = .ok (.iaload, 1)) (kk : W p l e R s m args below meth c H locs cells slots Q (F0 m (pc + 1) ls (.int (nI (gcX σ i)) :: rest))) : W p l e R s m args below meth c H locs cells slots Q (F0 m (pc) ls (.int (nI i) :: .ref (ad 7) :: rest)) := by
  refine va_iald E.1.1 E.1.2.1 E.2 hP 7 0 rfl rfl (vp_in_nI hi (by decide)) hd ?_
  rw [nI_clamp (Nat.lt_trans hi (by decide))]
  exact kk
theorem as_CS_X {i : Nat} {v : Nat} (E : Cx p s m args c cc nL own x0 D (t3 cI cJ cZ)) (hP : va_P D vwCl (wC ad cI cJ cZ σ) H) (hD : ∀ τ, va_D A (wC ad cI cJ cZ τ)) (hS : va_S A H0 H locs) (hi : i < 240) (hd : decode cc pc = .ok (.iastore, 1)) (kk : ∀ (H1 : Heap) (locs1 : List Loc), va_P D vwCl (wC ad cI cJ cZ (scX σ (va_up (gcX σ) i v))) H1 → va_S A H0 H1 locs1 → W p l e R s m args below meth c H1 locs1 cells slots Q (F0 m (pc + 1) ls (rest))) : W p l e R s m args below meth c H locs cells slots Q (F0 m (pc) ls (.int (nI (v)) :: .int (nI i) :: .ref (ad 7) :: rest)) := by
  refine va_iast E.1.1 E.1.2.1 E.2 hP (hD σ) hS 7 0 rfl rfl (vp_in_nI hi (by decide)) hd (fun H1 l1 h1 _ h3 => kk H1 l1 ?_ h3)
  have e9 : upd (fun i => nI (gcX σ i)) (nI i).toNatClampNeg (nI (v)) = fun j => nI (va_up (gcX σ) i v j) := by
    funext j
    rw [nI_clamp (Nat.lt_trans hi (by decide))]
    unfold upd va_up
    split <;> rfl
  rw [e9] at h1
  exact h1
theorem ld_CS_Y {i : Nat} (E : Cx p s m args c cc nL own x0 D (t3 cI cJ cZ)) (hP : va_P D vwCl (wC ad cI cJ cZ σ) H) (hi : i < 240) (hd : decode cc pc = .ok (.iaload, 1)) (kk : W p l e R s m args below meth c H locs cells slots Q (F0 m (pc + 1) ls (.int (gcY σ i) :: rest))) : W p l e R s m args below meth c H locs cells slots Q (F0 m (pc) ls (.int (nI i) :: .ref (ad 8) :: rest)) := by
  refine va_iald E.1.1 E.1.2.1 E.2 hP 8 0 rfl rfl (vp_in_nI hi (by decide)) hd ?_
  rw [nI_clamp (Nat.lt_trans hi (by decide))]
  exact kk
theorem as_CS_Y {i : Nat} {v : Int32} (E : Cx p s m args c cc nL own x0 D (t3 cI cJ cZ)) (hP : va_P D vwCl (wC ad cI cJ cZ σ) H) (hD : ∀ τ, va_D A (wC ad cI cJ cZ τ)) (hS : va_S A H0 H locs) (hi : i < 240) (hd : decode cc pc = .ok (.iastore, 1)) (kk : ∀ (H1 : Heap) (locs1 : List Loc), va_P D vwCl (wC ad cI cJ cZ (scY σ (va_up (gcY σ) i v))) H1 → va_S A H0 H1 locs1 → W p l e R s m args below meth c H1 locs1 cells slots Q (F0 m (pc + 1) ls (rest))) : W p l e R s m args below meth c H locs cells slots Q (F0 m (pc) ls (.int (v) :: .int (nI i) :: .ref (ad 8) :: rest)) := by
  refine va_iast E.1.1 E.1.2.1 E.2 hP (hD σ) hS 8 0 rfl rfl (vp_in_nI hi (by decide)) hd (fun H1 l1 h1 _ h3 => kk H1 l1 ?_ h3)
  have e9 : upd (fun i => gcY σ i) (nI i).toNatClampNeg (v) = fun j => va_up (gcY σ) i v j := by
    funext j
    rw [nI_clamp (Nat.lt_trans hi (by decide))]
    unfold upd va_up
    split <;> rfl
  rw [e9] at h1
  exact h1
theorem ld_CS_Z {i : Nat} (E : Cx p s m args c cc nL own x0 D (t3 cI cJ cZ)) (hP : va_P D vwCl (wC ad cI cJ cZ σ) H) (hi : i < 240) (hd : decode cc pc = .ok (.iaload, 1)) (kk : W p l e R s m args below meth c H locs cells slots Q (F0 m (pc + 1) ls (.int (gcZ σ i) :: rest))) : W p l e R s m args below meth c H locs cells slots Q (F0 m (pc) ls (.int (nI i) :: .ref (ad 9) :: rest)) := by
  refine va_iald E.1.1 E.1.2.1 E.2 hP 9 0 rfl rfl (vp_in_nI hi (by decide)) hd ?_
  rw [nI_clamp (Nat.lt_trans hi (by decide))]
  exact kk
theorem as_CS_Z {i : Nat} {v : Int32} (E : Cx p s m args c cc nL own x0 D (t3 cI cJ cZ)) (hP : va_P D vwCl (wC ad cI cJ cZ σ) H) (hD : ∀ τ, va_D A (wC ad cI cJ cZ τ)) (hS : va_S A H0 H locs) (hi : i < 240) (hd : decode cc pc = .ok (.iastore, 1)) (kk : ∀ (H1 : Heap) (locs1 : List Loc), va_P D vwCl (wC ad cI cJ cZ (scZ σ (va_up (gcZ σ) i v))) H1 → va_S A H0 H1 locs1 → W p l e R s m args below meth c H1 locs1 cells slots Q (F0 m (pc + 1) ls (rest))) : W p l e R s m args below meth c H locs cells slots Q (F0 m (pc) ls (.int (v) :: .int (nI i) :: .ref (ad 9) :: rest)) := by
  refine va_iast E.1.1 E.1.2.1 E.2 hP (hD σ) hS 9 0 rfl rfl (vp_in_nI hi (by decide)) hd (fun H1 l1 h1 _ h3 => kk H1 l1 ?_ h3)
  have e9 : upd (fun i => gcZ σ i) (nI i).toNatClampNeg (v) = fun j => va_up (gcZ σ) i v j := by
    funext j
    rw [nI_clamp (Nat.lt_trans hi (by decide))]
    unfold upd va_up
    split <;> rfl
  rw [e9] at h1
  exact h1
theorem ld_CS_V {i : Nat} (E : Cx p s m args c cc nL own x0 D (t3 cI cJ cZ)) (hP : va_P D vwCl (wC ad cI cJ cZ σ) H) (hi : i < 240) (hd : decode cc pc = .ok (.iaload, 1)) (kk : W p l e R s m args below meth c H locs cells slots Q (F0 m (pc + 1) ls (.int (nI (gcV σ i)) :: rest))) : W p l e R s m args below meth c H locs cells slots Q (F0 m (pc) ls (.int (nI i) :: .ref (ad 10) :: rest)) := by
  refine va_iald E.1.1 E.1.2.1 E.2 hP 10 0 rfl rfl (vp_in_nI hi (by decide)) hd ?_
  rw [nI_clamp (Nat.lt_trans hi (by decide))]
  exact kk
theorem as_CS_V {i : Nat} {v : Nat} (E : Cx p s m args c cc nL own x0 D (t3 cI cJ cZ)) (hP : va_P D vwCl (wC ad cI cJ cZ σ) H) (hD : ∀ τ, va_D A (wC ad cI cJ cZ τ)) (hS : va_S A H0 H locs) (hi : i < 240) (hd : decode cc pc = .ok (.iastore, 1)) (kk : ∀ (H1 : Heap) (locs1 : List Loc), va_P D vwCl (wC ad cI cJ cZ (scV σ (va_up (gcV σ) i v))) H1 → va_S A H0 H1 locs1 → W p l e R s m args below meth c H1 locs1 cells slots Q (F0 m (pc + 1) ls (rest))) : W p l e R s m args below meth c H locs cells slots Q (F0 m (pc) ls (.int (nI (v)) :: .int (nI i) :: .ref (ad 10) :: rest)) := by
  refine va_iast E.1.1 E.1.2.1 E.2 hP (hD σ) hS 10 0 rfl rfl (vp_in_nI hi (by decide)) hd (fun H1 l1 h1 _ h3 => kk H1 l1 ?_ h3)
  have e9 : upd (fun i => nI (gcV σ i)) (nI i).toNatClampNeg (nI (v)) = fun j => nI (va_up (gcV σ) i v j) := by
    funext j
    rw [nI_clamp (Nat.lt_trans hi (by decide))]
    unfold upd va_up
    split <;> rfl
  rw [e9] at h1
  exact h1
theorem ld_CS_CV {i : Nat} (E : Cx p s m args c cc nL own x0 D (t3 cI cJ cZ)) (hP : va_P D vwCl (wC ad cI cJ cZ σ) H) (hi : i < 4) (hd : decode cc pc = .ok (.iaload, 1)) (kk : W p l e R s m args below meth c H locs cells slots Q (F0 m (pc + 1) ls (.int (nI (gcCV σ i)) :: rest))) : W p l e R s m args below meth c H locs cells slots Q (F0 m (pc) ls (.int (nI i) :: .ref (ad 11) :: rest)) := by
  refine va_iald E.1.1 E.1.2.1 E.2 hP 11 0 rfl rfl (vp_in_nI hi (by decide)) hd ?_
  rw [nI_clamp (Nat.lt_trans hi (by decide))]
  exact kk
theorem as_CS_CV {i : Nat} {v : Nat} (E : Cx p s m args c cc nL own x0 D (t3 cI cJ cZ)) (hP : va_P D vwCl (wC ad cI cJ cZ σ) H) (hD : ∀ τ, va_D A (wC ad cI cJ cZ τ)) (hS : va_S A H0 H locs) (hi : i < 4) (hd : decode cc pc = .ok (.iastore, 1)) (kk : ∀ (H1 : Heap) (locs1 : List Loc), va_P D vwCl (wC ad cI cJ cZ (scCV σ (va_up (gcCV σ) i v))) H1 → va_S A H0 H1 locs1 → W p l e R s m args below meth c H1 locs1 cells slots Q (F0 m (pc + 1) ls (rest))) : W p l e R s m args below meth c H locs cells slots Q (F0 m (pc) ls (.int (nI (v)) :: .int (nI i) :: .ref (ad 11) :: rest)) := by
  refine va_iast E.1.1 E.1.2.1 E.2 hP (hD σ) hS 11 0 rfl rfl (vp_in_nI hi (by decide)) hd (fun H1 l1 h1 _ h3 => kk H1 l1 ?_ h3)
  have e9 : upd (fun i => nI (gcCV σ i)) (nI i).toNatClampNeg (nI (v)) = fun j => nI (va_up (gcCV σ) i v j) := by
    funext j
    rw [nI_clamp (Nat.lt_trans hi (by decide))]
    unfold upd va_up
    split <;> rfl
  rw [e9] at h1
  exact h1
theorem ld_CS_Rg {i : Nat} (E : Cx p s m args c cc nL own x0 D (t3 cI cJ cZ)) (hP : va_P D vwCl (wC ad cI cJ cZ σ) H) (hi : i < 72) (hd : decode cc pc = .ok (.laload, 1)) (kk : W p l e R s m args below meth c H locs cells slots Q (F0 m (pc + 1) ls (.long (vJ (gcRg σ i)) :: rest))) : W p l e R s m args below meth c H locs cells slots Q (F0 m (pc) ls (.int (nI i) :: .ref (ad 12) :: rest)) := by
  refine va_lald E.1.1 E.1.2.1 E.2 hP 12 1 rfl rfl (vp_in_nI hi (by decide)) hd ?_
  rw [nI_clamp (Nat.lt_trans hi (by decide))]
  exact kk
theorem as_CS_Rg {i : Nat} {v : Val} (E : Cx p s m args c cc nL own x0 D (t3 cI cJ cZ)) (hP : va_P D vwCl (wC ad cI cJ cZ σ) H) (hD : ∀ τ, va_D A (wC ad cI cJ cZ τ)) (hS : va_S A H0 H locs) (hi : i < 72) (hd : decode cc pc = .ok (.lastore, 1)) (kk : ∀ (H1 : Heap) (locs1 : List Loc), va_P D vwCl (wC ad cI cJ cZ (scRg σ (va_up (gcRg σ) i v))) H1 → va_S A H0 H1 locs1 → W p l e R s m args below meth c H1 locs1 cells slots Q (F0 m (pc + 1) ls (rest))) : W p l e R s m args below meth c H locs cells slots Q (F0 m (pc) ls (.long (vJ (v)) :: .int (nI i) :: .ref (ad 12) :: rest)) := by
  refine va_last E.1.1 E.1.2.1 E.2 hP (hD σ) hS 12 1 rfl rfl (vp_in_nI hi (by decide)) hd (fun H1 l1 h1 _ h3 => kk H1 l1 ?_ h3)
  have e9 : vp_updL (fun i => vJ (gcRg σ i)) (nI i).toNatClampNeg (vJ (v)) = fun j => vJ (va_up (gcRg σ) i v j) := by
    funext j
    rw [nI_clamp (Nat.lt_trans hi (by decide))]
    unfold vp_updL va_up
    split <;> rfl
  rw [e9] at h1
  exact h1
theorem ld_CS_Bo {i : Nat} (E : Cx p s m args c cc nL own x0 D (t3 cI cJ cZ)) (hP : va_P D vwCl (wC ad cI cJ cZ σ) H) (hi : i < 12) (hd : decode cc pc = .ok (.iaload, 1)) (kk : W p l e R s m args below meth c H locs cells slots Q (F0 m (pc + 1) ls (.int (nI (gcBo σ i)) :: rest))) : W p l e R s m args below meth c H locs cells slots Q (F0 m (pc) ls (.int (nI i) :: .ref (ad 13) :: rest)) := by
  refine va_iald E.1.1 E.1.2.1 E.2 hP 13 0 rfl rfl (vp_in_nI hi (by decide)) hd ?_
  rw [nI_clamp (Nat.lt_trans hi (by decide))]
  exact kk
theorem as_CS_Bo {i : Nat} {v : Nat} (E : Cx p s m args c cc nL own x0 D (t3 cI cJ cZ)) (hP : va_P D vwCl (wC ad cI cJ cZ σ) H) (hD : ∀ τ, va_D A (wC ad cI cJ cZ τ)) (hS : va_S A H0 H locs) (hi : i < 12) (hd : decode cc pc = .ok (.iastore, 1)) (kk : ∀ (H1 : Heap) (locs1 : List Loc), va_P D vwCl (wC ad cI cJ cZ (scBo σ (va_up (gcBo σ) i v))) H1 → va_S A H0 H1 locs1 → W p l e R s m args below meth c H1 locs1 cells slots Q (F0 m (pc + 1) ls (rest))) : W p l e R s m args below meth c H locs cells slots Q (F0 m (pc) ls (.int (nI (v)) :: .int (nI i) :: .ref (ad 13) :: rest)) := by
  refine va_iast E.1.1 E.1.2.1 E.2 hP (hD σ) hS 13 0 rfl rfl (vp_in_nI hi (by decide)) hd (fun H1 l1 h1 _ h3 => kk H1 l1 ?_ h3)
  have e9 : upd (fun i => nI (gcBo σ i)) (nI i).toNatClampNeg (nI (v)) = fun j => nI (va_up (gcBo σ) i v j) := by
    funext j
    rw [nI_clamp (Nat.lt_trans hi (by decide))]
    unfold upd va_up
    split <;> rfl
  rw [e9] at h1
  exact h1
theorem ld_CS_Ne {i : Nat} (E : Cx p s m args c cc nL own x0 D (t3 cI cJ cZ)) (hP : va_P D vwCl (wC ad cI cJ cZ σ) H) (hi : i < 12) (hd : decode cc pc = .ok (.iaload, 1)) (kk : W p l e R s m args below meth c H locs cells slots Q (F0 m (pc + 1) ls (.int (nI (gcNe σ i)) :: rest))) : W p l e R s m args below meth c H locs cells slots Q (F0 m (pc) ls (.int (nI i) :: .ref (ad 14) :: rest)) := by
  refine va_iald E.1.1 E.1.2.1 E.2 hP 14 0 rfl rfl (vp_in_nI hi (by decide)) hd ?_
  rw [nI_clamp (Nat.lt_trans hi (by decide))]
  exact kk
theorem as_CS_Ne {i : Nat} {v : Nat} (E : Cx p s m args c cc nL own x0 D (t3 cI cJ cZ)) (hP : va_P D vwCl (wC ad cI cJ cZ σ) H) (hD : ∀ τ, va_D A (wC ad cI cJ cZ τ)) (hS : va_S A H0 H locs) (hi : i < 12) (hd : decode cc pc = .ok (.iastore, 1)) (kk : ∀ (H1 : Heap) (locs1 : List Loc), va_P D vwCl (wC ad cI cJ cZ (scNe σ (va_up (gcNe σ) i v))) H1 → va_S A H0 H1 locs1 → W p l e R s m args below meth c H1 locs1 cells slots Q (F0 m (pc + 1) ls (rest))) : W p l e R s m args below meth c H locs cells slots Q (F0 m (pc) ls (.int (nI (v)) :: .int (nI i) :: .ref (ad 14) :: rest)) := by
  refine va_iast E.1.1 E.1.2.1 E.2 hP (hD σ) hS 14 0 rfl rfl (vp_in_nI hi (by decide)) hd (fun H1 l1 h1 _ h3 => kk H1 l1 ?_ h3)
  have e9 : upd (fun i => nI (gcNe σ i)) (nI i).toNatClampNeg (nI (v)) = fun j => nI (va_up (gcNe σ) i v j) := by
    funext j
    rw [nI_clamp (Nat.lt_trans hi (by decide))]
    unfold upd va_up
    split <;> rfl
  rw [e9] at h1
  exact h1
theorem ld_CS_An {i : Nat} (E : Cx p s m args c cc nL own x0 D (t3 cI cJ cZ)) (hP : va_P D vwCl (wC ad cI cJ cZ σ) H) (hi : i < 12) (hd : decode cc pc = .ok (.iaload, 1)) (kk : W p l e R s m args below meth c H locs cells slots Q (F0 m (pc + 1) ls (.int (nI (gcAn σ i)) :: rest))) : W p l e R s m args below meth c H locs cells slots Q (F0 m (pc) ls (.int (nI i) :: .ref (ad 15) :: rest)) := by
  refine va_iald E.1.1 E.1.2.1 E.2 hP 15 0 rfl rfl (vp_in_nI hi (by decide)) hd ?_
  rw [nI_clamp (Nat.lt_trans hi (by decide))]
  exact kk
theorem as_CS_An {i : Nat} {v : Nat} (E : Cx p s m args c cc nL own x0 D (t3 cI cJ cZ)) (hP : va_P D vwCl (wC ad cI cJ cZ σ) H) (hD : ∀ τ, va_D A (wC ad cI cJ cZ τ)) (hS : va_S A H0 H locs) (hi : i < 12) (hd : decode cc pc = .ok (.iastore, 1)) (kk : ∀ (H1 : Heap) (locs1 : List Loc), va_P D vwCl (wC ad cI cJ cZ (scAn σ (va_up (gcAn σ) i v))) H1 → va_S A H0 H1 locs1 → W p l e R s m args below meth c H1 locs1 cells slots Q (F0 m (pc + 1) ls (rest))) : W p l e R s m args below meth c H locs cells slots Q (F0 m (pc) ls (.int (nI (v)) :: .int (nI i) :: .ref (ad 15) :: rest)) := by
  refine va_iast E.1.1 E.1.2.1 E.2 hP (hD σ) hS 15 0 rfl rfl (vp_in_nI hi (by decide)) hd (fun H1 l1 h1 _ h3 => kk H1 l1 ?_ h3)
  have e9 : upd (fun i => nI (gcAn σ i)) (nI i).toNatClampNeg (nI (v)) = fun j => nI (va_up (gcAn σ) i v j) := by
    funext j
    rw [nI_clamp (Nat.lt_trans hi (by decide))]
    unfold upd va_up
    split <;> rfl
  rw [e9] at h1
  exact h1
theorem ld_CS_Cl {i : Nat} (E : Cx p s m args c cc nL own x0 D (t3 cI cJ cZ)) (hP : va_P D vwCl (wC ad cI cJ cZ σ) H) (hi : i < 401) (hd : decode cc pc = .ok (.iaload, 1)) (kk : W p l e R s m args below meth c H locs cells slots Q (F0 m (pc + 1) ls (.int (nI (gcCl σ i)) :: rest))) : W p l e R s m args below meth c H locs cells slots Q (F0 m (pc) ls (.int (nI i) :: .ref (ad 16) :: rest)) := by
  refine va_iald E.1.1 E.1.2.1 E.2 hP 16 0 rfl rfl (vp_in_nI hi (by decide)) hd ?_
  rw [nI_clamp (Nat.lt_trans hi (by decide))]
  exact kk
theorem as_CS_Cl {i : Nat} {v : Nat} (E : Cx p s m args c cc nL own x0 D (t3 cI cJ cZ)) (hP : va_P D vwCl (wC ad cI cJ cZ σ) H) (hD : ∀ τ, va_D A (wC ad cI cJ cZ τ)) (hS : va_S A H0 H locs) (hi : i < 401) (hd : decode cc pc = .ok (.iastore, 1)) (kk : ∀ (H1 : Heap) (locs1 : List Loc), va_P D vwCl (wC ad cI cJ cZ (scCl σ (va_up (gcCl σ) i v))) H1 → va_S A H0 H1 locs1 → W p l e R s m args below meth c H1 locs1 cells slots Q (F0 m (pc + 1) ls (rest))) : W p l e R s m args below meth c H locs cells slots Q (F0 m (pc) ls (.int (nI (v)) :: .int (nI i) :: .ref (ad 16) :: rest)) := by
  refine va_iast E.1.1 E.1.2.1 E.2 hP (hD σ) hS 16 0 rfl rfl (vp_in_nI hi (by decide)) hd (fun H1 l1 h1 _ h3 => kk H1 l1 ?_ h3)
  have e9 : upd (fun i => nI (gcCl σ i)) (nI i).toNatClampNeg (nI (v)) = fun j => nI (va_up (gcCl σ) i v j) := by
    funext j
    rw [nI_clamp (Nat.lt_trans hi (by decide))]
    unfold upd va_up
    split <;> rfl
  rw [e9] at h1
  exact h1
theorem ld_CS_Fl {i : Nat} (E : Cx p s m args c cc nL own x0 D (t3 cI cJ cZ)) (hP : va_P D vwCl (wC ad cI cJ cZ σ) H) (hi : i < 1203) (hd : decode cc pc = .ok (.laload, 1)) (kk : W p l e R s m args below meth c H locs cells slots Q (F0 m (pc + 1) ls (.long (vJ (gcFl σ i)) :: rest))) : W p l e R s m args below meth c H locs cells slots Q (F0 m (pc) ls (.int (nI i) :: .ref (ad 17) :: rest)) := by
  refine va_lald E.1.1 E.1.2.1 E.2 hP 17 1 rfl rfl (vp_in_nI hi (by decide)) hd ?_
  rw [nI_clamp (Nat.lt_trans hi (by decide))]
  exact kk
theorem as_CS_Fl {i : Nat} {v : Val} (E : Cx p s m args c cc nL own x0 D (t3 cI cJ cZ)) (hP : va_P D vwCl (wC ad cI cJ cZ σ) H) (hD : ∀ τ, va_D A (wC ad cI cJ cZ τ)) (hS : va_S A H0 H locs) (hi : i < 1203) (hd : decode cc pc = .ok (.lastore, 1)) (kk : ∀ (H1 : Heap) (locs1 : List Loc), va_P D vwCl (wC ad cI cJ cZ (scFl σ (va_up (gcFl σ) i v))) H1 → va_S A H0 H1 locs1 → W p l e R s m args below meth c H1 locs1 cells slots Q (F0 m (pc + 1) ls (rest))) : W p l e R s m args below meth c H locs cells slots Q (F0 m (pc) ls (.long (vJ (v)) :: .int (nI i) :: .ref (ad 17) :: rest)) := by
  refine va_last E.1.1 E.1.2.1 E.2 hP (hD σ) hS 17 1 rfl rfl (vp_in_nI hi (by decide)) hd (fun H1 l1 h1 _ h3 => kk H1 l1 ?_ h3)
  have e9 : vp_updL (fun i => vJ (gcFl σ i)) (nI i).toNatClampNeg (vJ (v)) = fun j => vJ (va_up (gcFl σ) i v j) := by
    funext j
    rw [nI_clamp (Nat.lt_trans hi (by decide))]
    unfold vp_updL va_up
    split <;> rfl
  rw [e9] at h1
  exact h1
theorem ld_CS_Po {i : Nat} (E : Cx p s m args c cc nL own x0 D (t3 cI cJ cZ)) (hP : va_P D vwCl (wC ad cI cJ cZ σ) H) (hi : i < 40) (hd : decode cc pc = .ok (.iaload, 1)) (kk : W p l e R s m args below meth c H locs cells slots Q (F0 m (pc + 1) ls (.int (gcPo σ i) :: rest))) : W p l e R s m args below meth c H locs cells slots Q (F0 m (pc) ls (.int (nI i) :: .ref (ad 18) :: rest)) := by
  refine va_iald E.1.1 E.1.2.1 E.2 hP 18 0 rfl rfl (vp_in_nI hi (by decide)) hd ?_
  rw [nI_clamp (Nat.lt_trans hi (by decide))]
  exact kk
theorem as_CS_Po {i : Nat} {v : Int32} (E : Cx p s m args c cc nL own x0 D (t3 cI cJ cZ)) (hP : va_P D vwCl (wC ad cI cJ cZ σ) H) (hD : ∀ τ, va_D A (wC ad cI cJ cZ τ)) (hS : va_S A H0 H locs) (hi : i < 40) (hd : decode cc pc = .ok (.iastore, 1)) (kk : ∀ (H1 : Heap) (locs1 : List Loc), va_P D vwCl (wC ad cI cJ cZ (scPo σ (va_up (gcPo σ) i v))) H1 → va_S A H0 H1 locs1 → W p l e R s m args below meth c H1 locs1 cells slots Q (F0 m (pc + 1) ls (rest))) : W p l e R s m args below meth c H locs cells slots Q (F0 m (pc) ls (.int (v) :: .int (nI i) :: .ref (ad 18) :: rest)) := by
  refine va_iast E.1.1 E.1.2.1 E.2 hP (hD σ) hS 18 0 rfl rfl (vp_in_nI hi (by decide)) hd (fun H1 l1 h1 _ h3 => kk H1 l1 ?_ h3)
  have e9 : upd (fun i => gcPo σ i) (nI i).toNatClampNeg (v) = fun j => va_up (gcPo σ) i v j := by
    funext j
    rw [nI_clamp (Nat.lt_trans hi (by decide))]
    unfold upd va_up
    split <;> rfl
  rw [e9] at h1
  exact h1
theorem ld_CS_Ct {i : Nat} (E : Cx p s m args c cc nL own x0 D (t3 cI cJ cZ)) (hP : va_P D vwCl (wC ad cI cJ cZ σ) H) (hi : i < 6) (hd : decode cc pc = .ok (.iaload, 1)) (kk : W p l e R s m args below meth c H locs cells slots Q (F0 m (pc + 1) ls (.int (nI (gcCt σ i)) :: rest))) : W p l e R s m args below meth c H locs cells slots Q (F0 m (pc) ls (.int (nI i) :: .ref (ad 19) :: rest)) := by
  refine va_iald E.1.1 E.1.2.1 E.2 hP 19 0 rfl rfl (vp_in_nI hi (by decide)) hd ?_
  rw [nI_clamp (Nat.lt_trans hi (by decide))]
  exact kk
theorem as_CS_Ct {i : Nat} {v : Nat} (E : Cx p s m args c cc nL own x0 D (t3 cI cJ cZ)) (hP : va_P D vwCl (wC ad cI cJ cZ σ) H) (hD : ∀ τ, va_D A (wC ad cI cJ cZ τ)) (hS : va_S A H0 H locs) (hi : i < 6) (hd : decode cc pc = .ok (.iastore, 1)) (kk : ∀ (H1 : Heap) (locs1 : List Loc), va_P D vwCl (wC ad cI cJ cZ (scCt σ (va_up (gcCt σ) i v))) H1 → va_S A H0 H1 locs1 → W p l e R s m args below meth c H1 locs1 cells slots Q (F0 m (pc + 1) ls (rest))) : W p l e R s m args below meth c H locs cells slots Q (F0 m (pc) ls (.int (nI (v)) :: .int (nI i) :: .ref (ad 19) :: rest)) := by
  refine va_iast E.1.1 E.1.2.1 E.2 hP (hD σ) hS 19 0 rfl rfl (vp_in_nI hi (by decide)) hd (fun H1 l1 h1 _ h3 => kk H1 l1 ?_ h3)
  have e9 : upd (fun i => nI (gcCt σ i)) (nI i).toNatClampNeg (nI (v)) = fun j => nI (va_up (gcCt σ) i v j) := by
    funext j
    rw [nI_clamp (Nat.lt_trans hi (by decide))]
    unfold upd va_up
    split <;> rfl
  rw [e9] at h1
  exact h1
end RCS
end
section
abbrev MS : Type := Nat × Nat × (Nat → Option Nat) × (Nat → Nat) × (Nat → Int32) × (Nat → Bool) × (Nat → Bool) × (Nat → Bool) × (Nat → Nat) × (Nat → Bool) × Nat × Nat × (Nat → Nat) × (Nat → Bool) × (Nat → Int32) × Nat × (Nat → Nat) × (Nat → Nat) × (Nat → Nat) × (Nat → Bool) × (Nat → Int32) × (Nat → Int32) × (Nat → Nat)
def gmth (σ : MS) : Nat := σ.1
def gmty (σ : MS) : Nat := σ.2.1
def gmpa (σ : MS) : (Nat → Option Nat) := σ.2.2.1
def gmmy (σ : MS) : (Nat → Nat) := σ.2.2.2.1
def gmcd (σ : MS) : (Nat → Int32) := σ.2.2.2.2.1
def gmmd (σ : MS) : (Nat → Bool) := σ.2.2.2.2.2.1
def gmrd (σ : MS) : (Nat → Bool) := σ.2.2.2.2.2.2.1
def gmch (σ : MS) : (Nat → Bool) := σ.2.2.2.2.2.2.2.1
def gmsi (σ : MS) : (Nat → Nat) := σ.2.2.2.2.2.2.2.2.1
def gmho (σ : MS) : (Nat → Bool) := σ.2.2.2.2.2.2.2.2.2.1
def gmob (σ : MS) : Nat := σ.2.2.2.2.2.2.2.2.2.2.1
def gmrm (σ : MS) : Nat := σ.2.2.2.2.2.2.2.2.2.2.2.1
def gmcl (σ : MS) : (Nat → Nat) := σ.2.2.2.2.2.2.2.2.2.2.2.2.1
def gmfI (σ : MS) : (Nat → Bool) := σ.2.2.2.2.2.2.2.2.2.2.2.2.2.1
def gmfV (σ : MS) : (Nat → Int32) := σ.2.2.2.2.2.2.2.2.2.2.2.2.2.2.1
def gmfr (σ : MS) : Nat := σ.2.2.2.2.2.2.2.2.2.2.2.2.2.2.2.1
def gmbo (σ : MS) : (Nat → Nat) := σ.2.2.2.2.2.2.2.2.2.2.2.2.2.2.2.2.1
def gmpl (σ : MS) : (Nat → Nat) := σ.2.2.2.2.2.2.2.2.2.2.2.2.2.2.2.2.2.1
def gmwa (σ : MS) : (Nat → Nat) := σ.2.2.2.2.2.2.2.2.2.2.2.2.2.2.2.2.2.2.1
def gmis (σ : MS) : (Nat → Bool) := σ.2.2.2.2.2.2.2.2.2.2.2.2.2.2.2.2.2.2.2.1
def gmva (σ : MS) : (Nat → Int32) := σ.2.2.2.2.2.2.2.2.2.2.2.2.2.2.2.2.2.2.2.2.1
def gmou (σ : MS) : (Nat → Int32) := σ.2.2.2.2.2.2.2.2.2.2.2.2.2.2.2.2.2.2.2.2.2.1
def gmct (σ : MS) : (Nat → Nat) := σ.2.2.2.2.2.2.2.2.2.2.2.2.2.2.2.2.2.2.2.2.2.2
def smth (σ : MS) (v : Nat) : MS := (v, σ.2)
def smty (σ : MS) (v : Nat) : MS := (σ.1, v, σ.2.2)
def smpa (σ : MS) (v : (Nat → Option Nat)) : MS := (σ.1, σ.2.1, v, σ.2.2.2)
def smmy (σ : MS) (v : (Nat → Nat)) : MS := (σ.1, σ.2.1, σ.2.2.1, v, σ.2.2.2.2)
def smcd (σ : MS) (v : (Nat → Int32)) : MS := (σ.1, σ.2.1, σ.2.2.1, σ.2.2.2.1, v, σ.2.2.2.2.2)
def smmd (σ : MS) (v : (Nat → Bool)) : MS := (σ.1, σ.2.1, σ.2.2.1, σ.2.2.2.1, σ.2.2.2.2.1, v, σ.2.2.2.2.2.2)
def smrd (σ : MS) (v : (Nat → Bool)) : MS := (σ.1, σ.2.1, σ.2.2.1, σ.2.2.2.1, σ.2.2.2.2.1, σ.2.2.2.2.2.1, v, σ.2.2.2.2.2.2.2)
def smch (σ : MS) (v : (Nat → Bool)) : MS := (σ.1, σ.2.1, σ.2.2.1, σ.2.2.2.1, σ.2.2.2.2.1, σ.2.2.2.2.2.1, σ.2.2.2.2.2.2.1, v, σ.2.2.2.2.2.2.2.2)
def smsi (σ : MS) (v : (Nat → Nat)) : MS := (σ.1, σ.2.1, σ.2.2.1, σ.2.2.2.1, σ.2.2.2.2.1, σ.2.2.2.2.2.1, σ.2.2.2.2.2.2.1, σ.2.2.2.2.2.2.2.1, v, σ.2.2.2.2.2.2.2.2.2)
def smho (σ : MS) (v : (Nat → Bool)) : MS := (σ.1, σ.2.1, σ.2.2.1, σ.2.2.2.1, σ.2.2.2.2.1, σ.2.2.2.2.2.1, σ.2.2.2.2.2.2.1, σ.2.2.2.2.2.2.2.1, σ.2.2.2.2.2.2.2.2.1, v, σ.2.2.2.2.2.2.2.2.2.2)
def smob (σ : MS) (v : Nat) : MS := (σ.1, σ.2.1, σ.2.2.1, σ.2.2.2.1, σ.2.2.2.2.1, σ.2.2.2.2.2.1, σ.2.2.2.2.2.2.1, σ.2.2.2.2.2.2.2.1, σ.2.2.2.2.2.2.2.2.1, σ.2.2.2.2.2.2.2.2.2.1, v, σ.2.2.2.2.2.2.2.2.2.2.2)
def smrm (σ : MS) (v : Nat) : MS := (σ.1, σ.2.1, σ.2.2.1, σ.2.2.2.1, σ.2.2.2.2.1, σ.2.2.2.2.2.1, σ.2.2.2.2.2.2.1, σ.2.2.2.2.2.2.2.1, σ.2.2.2.2.2.2.2.2.1, σ.2.2.2.2.2.2.2.2.2.1, σ.2.2.2.2.2.2.2.2.2.2.1, v, σ.2.2.2.2.2.2.2.2.2.2.2.2)
def smcl (σ : MS) (v : (Nat → Nat)) : MS := (σ.1, σ.2.1, σ.2.2.1, σ.2.2.2.1, σ.2.2.2.2.1, σ.2.2.2.2.2.1, σ.2.2.2.2.2.2.1, σ.2.2.2.2.2.2.2.1, σ.2.2.2.2.2.2.2.2.1, σ.2.2.2.2.2.2.2.2.2.1, σ.2.2.2.2.2.2.2.2.2.2.1, σ.2.2.2.2.2.2.2.2.2.2.2.1, v, σ.2.2.2.2.2.2.2.2.2.2.2.2.2)
def smfI (σ : MS) (v : (Nat → Bool)) : MS := (σ.1, σ.2.1, σ.2.2.1, σ.2.2.2.1, σ.2.2.2.2.1, σ.2.2.2.2.2.1, σ.2.2.2.2.2.2.1, σ.2.2.2.2.2.2.2.1, σ.2.2.2.2.2.2.2.2.1, σ.2.2.2.2.2.2.2.2.2.1, σ.2.2.2.2.2.2.2.2.2.2.1, σ.2.2.2.2.2.2.2.2.2.2.2.1, σ.2.2.2.2.2.2.2.2.2.2.2.2.1, v, σ.2.2.2.2.2.2.2.2.2.2.2.2.2.2)
def smfV (σ : MS) (v : (Nat → Int32)) : MS := (σ.1, σ.2.1, σ.2.2.1, σ.2.2.2.1, σ.2.2.2.2.1, σ.2.2.2.2.2.1, σ.2.2.2.2.2.2.1, σ.2.2.2.2.2.2.2.1, σ.2.2.2.2.2.2.2.2.1, σ.2.2.2.2.2.2.2.2.2.1, σ.2.2.2.2.2.2.2.2.2.2.1, σ.2.2.2.2.2.2.2.2.2.2.2.1, σ.2.2.2.2.2.2.2.2.2.2.2.2.1, σ.2.2.2.2.2.2.2.2.2.2.2.2.2.1, v, σ.2.2.2.2.2.2.2.2.2.2.2.2.2.2.2)
def smfr (σ : MS) (v : Nat) : MS := (σ.1, σ.2.1, σ.2.2.1, σ.2.2.2.1, σ.2.2.2.2.1, σ.2.2.2.2.2.1, σ.2.2.2.2.2.2.1, σ.2.2.2.2.2.2.2.1, σ.2.2.2.2.2.2.2.2.1, σ.2.2.2.2.2.2.2.2.2.1, σ.2.2.2.2.2.2.2.2.2.2.1, σ.2.2.2.2.2.2.2.2.2.2.2.1, σ.2.2.2.2.2.2.2.2.2.2.2.2.1, σ.2.2.2.2.2.2.2.2.2.2.2.2.2.1, σ.2.2.2.2.2.2.2.2.2.2.2.2.2.2.1, v, σ.2.2.2.2.2.2.2.2.2.2.2.2.2.2.2.2)
def smbo (σ : MS) (v : (Nat → Nat)) : MS := (σ.1, σ.2.1, σ.2.2.1, σ.2.2.2.1, σ.2.2.2.2.1, σ.2.2.2.2.2.1, σ.2.2.2.2.2.2.1, σ.2.2.2.2.2.2.2.1, σ.2.2.2.2.2.2.2.2.1, σ.2.2.2.2.2.2.2.2.2.1, σ.2.2.2.2.2.2.2.2.2.2.1, σ.2.2.2.2.2.2.2.2.2.2.2.1, σ.2.2.2.2.2.2.2.2.2.2.2.2.1, σ.2.2.2.2.2.2.2.2.2.2.2.2.2.1, σ.2.2.2.2.2.2.2.2.2.2.2.2.2.2.1, σ.2.2.2.2.2.2.2.2.2.2.2.2.2.2.2.1, v, σ.2.2.2.2.2.2.2.2.2.2.2.2.2.2.2.2.2)
def smpl (σ : MS) (v : (Nat → Nat)) : MS := (σ.1, σ.2.1, σ.2.2.1, σ.2.2.2.1, σ.2.2.2.2.1, σ.2.2.2.2.2.1, σ.2.2.2.2.2.2.1, σ.2.2.2.2.2.2.2.1, σ.2.2.2.2.2.2.2.2.1, σ.2.2.2.2.2.2.2.2.2.1, σ.2.2.2.2.2.2.2.2.2.2.1, σ.2.2.2.2.2.2.2.2.2.2.2.1, σ.2.2.2.2.2.2.2.2.2.2.2.2.1, σ.2.2.2.2.2.2.2.2.2.2.2.2.2.1, σ.2.2.2.2.2.2.2.2.2.2.2.2.2.2.1, σ.2.2.2.2.2.2.2.2.2.2.2.2.2.2.2.1, σ.2.2.2.2.2.2.2.2.2.2.2.2.2.2.2.2.1, v, σ.2.2.2.2.2.2.2.2.2.2.2.2.2.2.2.2.2.2)
def smwa (σ : MS) (v : (Nat → Nat)) : MS := (σ.1, σ.2.1, σ.2.2.1, σ.2.2.2.1, σ.2.2.2.2.1, σ.2.2.2.2.2.1, σ.2.2.2.2.2.2.1, σ.2.2.2.2.2.2.2.1, σ.2.2.2.2.2.2.2.2.1, σ.2.2.2.2.2.2.2.2.2.1, σ.2.2.2.2.2.2.2.2.2.2.1, σ.2.2.2.2.2.2.2.2.2.2.2.1, σ.2.2.2.2.2.2.2.2.2.2.2.2.1, σ.2.2.2.2.2.2.2.2.2.2.2.2.2.1, σ.2.2.2.2.2.2.2.2.2.2.2.2.2.2.1, σ.2.2.2.2.2.2.2.2.2.2.2.2.2.2.2.1, σ.2.2.2.2.2.2.2.2.2.2.2.2.2.2.2.2.1, σ.2.2.2.2.2.2.2.2.2.2.2.2.2.2.2.2.2.1, v, σ.2.2.2.2.2.2.2.2.2.2.2.2.2.2.2.2.2.2.2)
def smis (σ : MS) (v : (Nat → Bool)) : MS := (σ.1, σ.2.1, σ.2.2.1, σ.2.2.2.1, σ.2.2.2.2.1, σ.2.2.2.2.2.1, σ.2.2.2.2.2.2.1, σ.2.2.2.2.2.2.2.1, σ.2.2.2.2.2.2.2.2.1, σ.2.2.2.2.2.2.2.2.2.1, σ.2.2.2.2.2.2.2.2.2.2.1, σ.2.2.2.2.2.2.2.2.2.2.2.1, σ.2.2.2.2.2.2.2.2.2.2.2.2.1, σ.2.2.2.2.2.2.2.2.2.2.2.2.2.1, σ.2.2.2.2.2.2.2.2.2.2.2.2.2.2.1, σ.2.2.2.2.2.2.2.2.2.2.2.2.2.2.2.1, σ.2.2.2.2.2.2.2.2.2.2.2.2.2.2.2.2.1, σ.2.2.2.2.2.2.2.2.2.2.2.2.2.2.2.2.2.1, σ.2.2.2.2.2.2.2.2.2.2.2.2.2.2.2.2.2.2.1, v, σ.2.2.2.2.2.2.2.2.2.2.2.2.2.2.2.2.2.2.2.2)
def smva (σ : MS) (v : (Nat → Int32)) : MS := (σ.1, σ.2.1, σ.2.2.1, σ.2.2.2.1, σ.2.2.2.2.1, σ.2.2.2.2.2.1, σ.2.2.2.2.2.2.1, σ.2.2.2.2.2.2.2.1, σ.2.2.2.2.2.2.2.2.1, σ.2.2.2.2.2.2.2.2.2.1, σ.2.2.2.2.2.2.2.2.2.2.1, σ.2.2.2.2.2.2.2.2.2.2.2.1, σ.2.2.2.2.2.2.2.2.2.2.2.2.1, σ.2.2.2.2.2.2.2.2.2.2.2.2.2.1, σ.2.2.2.2.2.2.2.2.2.2.2.2.2.2.1, σ.2.2.2.2.2.2.2.2.2.2.2.2.2.2.2.1, σ.2.2.2.2.2.2.2.2.2.2.2.2.2.2.2.2.1, σ.2.2.2.2.2.2.2.2.2.2.2.2.2.2.2.2.2.1, σ.2.2.2.2.2.2.2.2.2.2.2.2.2.2.2.2.2.2.1, σ.2.2.2.2.2.2.2.2.2.2.2.2.2.2.2.2.2.2.2.1, v, σ.2.2.2.2.2.2.2.2.2.2.2.2.2.2.2.2.2.2.2.2.2)
def smou (σ : MS) (v : (Nat → Int32)) : MS := (σ.1, σ.2.1, σ.2.2.1, σ.2.2.2.1, σ.2.2.2.2.1, σ.2.2.2.2.2.1, σ.2.2.2.2.2.2.1, σ.2.2.2.2.2.2.2.1, σ.2.2.2.2.2.2.2.2.1, σ.2.2.2.2.2.2.2.2.2.1, σ.2.2.2.2.2.2.2.2.2.2.1, σ.2.2.2.2.2.2.2.2.2.2.2.1, σ.2.2.2.2.2.2.2.2.2.2.2.2.1, σ.2.2.2.2.2.2.2.2.2.2.2.2.2.1, σ.2.2.2.2.2.2.2.2.2.2.2.2.2.2.1, σ.2.2.2.2.2.2.2.2.2.2.2.2.2.2.2.1, σ.2.2.2.2.2.2.2.2.2.2.2.2.2.2.2.2.1, σ.2.2.2.2.2.2.2.2.2.2.2.2.2.2.2.2.2.1, σ.2.2.2.2.2.2.2.2.2.2.2.2.2.2.2.2.2.2.1, σ.2.2.2.2.2.2.2.2.2.2.2.2.2.2.2.2.2.2.2.1, σ.2.2.2.2.2.2.2.2.2.2.2.2.2.2.2.2.2.2.2.2.1, v, σ.2.2.2.2.2.2.2.2.2.2.2.2.2.2.2.2.2.2.2.2.2.2)
def smct (σ : MS) (v : (Nat → Nat)) : MS := (σ.1, σ.2.1, σ.2.2.1, σ.2.2.2.1, σ.2.2.2.2.1, σ.2.2.2.2.2.1, σ.2.2.2.2.2.2.1, σ.2.2.2.2.2.2.2.1, σ.2.2.2.2.2.2.2.2.1, σ.2.2.2.2.2.2.2.2.2.1, σ.2.2.2.2.2.2.2.2.2.2.1, σ.2.2.2.2.2.2.2.2.2.2.2.1, σ.2.2.2.2.2.2.2.2.2.2.2.2.1, σ.2.2.2.2.2.2.2.2.2.2.2.2.2.1, σ.2.2.2.2.2.2.2.2.2.2.2.2.2.2.1, σ.2.2.2.2.2.2.2.2.2.2.2.2.2.2.2.1, σ.2.2.2.2.2.2.2.2.2.2.2.2.2.2.2.2.1, σ.2.2.2.2.2.2.2.2.2.2.2.2.2.2.2.2.2.1, σ.2.2.2.2.2.2.2.2.2.2.2.2.2.2.2.2.2.2.1, σ.2.2.2.2.2.2.2.2.2.2.2.2.2.2.2.2.2.2.2.1, σ.2.2.2.2.2.2.2.2.2.2.2.2.2.2.2.2.2.2.2.2.1, σ.2.2.2.2.2.2.2.2.2.2.2.2.2.2.2.2.2.2.2.2.2.1, v)
def wR (ad : Nat → Nat) (cI cJ cZ : ClassId) (σ : MS) : va_W := [(ad 0, .inr (6, [.int (nI (gmth σ)), .int (nI (gmty σ)), .ref (ad 1), .ref (ad 2), .ref (ad 3), .ref (ad 4), .ref (ad 5), .ref (ad 6), .ref (ad 7), .ref (ad 8), .int (nI (gmob σ)), .int (nI (gmrm σ)), .ref (ad 9), .ref (ad 10), .ref (ad 11), .int (nI (gmfr σ)), .ref (ad 12), .ref (ad 13), .ref (ad 14), .ref (ad 15), .ref (ad 16), .ref (ad 17), .ref (ad 18)])), (ad 1, .inl (cI, 6, .inl (fun i => oI (gmpa σ i)))), (ad 2, .inl (cI, 24, .inl (fun i => nI (gmmy σ i)))), (ad 3, .inl (cI, 960, .inl (fun i => gmcd σ i))), (ad 4, .inl (cZ, 6, .inl (fun i => bI (gmmd σ i)))), (ad 5, .inl (cZ, 24, .inl (fun i => bI (gmrd σ i)))), (ad 6, .inl (cZ, 24, .inl (fun i => bI (gmch σ i)))), (ad 7, .inl (cI, 240, .inl (fun i => nI (gmsi σ i)))), (ad 8, .inl (cZ, 6, .inl (fun i => bI (gmho σ i)))), (ad 9, .inl (cI, 420, .inl (fun i => nI (gmcl σ i)))), (ad 10, .inl (cZ, 1260, .inl (fun i => bI (gmfI σ i)))), (ad 11, .inl (cI, 1260, .inl (fun i => gmfV σ i))), (ad 12, .inl (cI, 13, .inl (fun i => nI (gmbo σ i)))), (ad 13, .inl (cI, 13, .inl (fun i => nI (gmpl σ i)))), (ad 14, .inl (cI, 13, .inl (fun i => nI (gmwa σ i)))), (ad 15, .inl (cZ, 78, .inl (fun i => bI (gmis σ i)))), (ad 16, .inl (cI, 78, .inl (fun i => gmva σ i))), (ad 17, .inl (cI, 40, .inl (fun i => gmou σ i))), (ad 18, .inl (cI, 6, .inl (fun i => nI (gmct σ i))))]
theorem wR_D {A : Nat → Prop} {ad : Nat → Nat} {cI cJ cZ : ClassId} {σ : MS} (h : va_D A (wR ad cI cJ cZ σ)) (τ : MS) : va_D A (wR ad cI cJ cZ τ) := va_D_addr (ws := wR ad cI cJ cZ σ) rfl h
section RMS
variable {p : Program} {l : Launch} {e : Env} {R : Room} {s : State} {m : MethodId} {args : Array Value} {below : List Frame} {meth : Method} {c : Code} {H : Heap} {locs : List Loc} {cells slots : Nat} {Q : State → Prop}
variable {cc : ByteArray} {nL idx pc : Nat} {own : String} {x0 : Cond} {D : va_G} {cI cJ cZ : ClassId} {ad : Nat → Nat} {σ : MS} {A : Nat → Prop} {ls : Array Slot} {rest : List Value} {H0 : Heap}
theorem gt_X4_thrown (E : Cx p s m args c cc nL own x0 D (t3 cI cJ cZ)) (hl : Cond.fieldLink own idx (TX4 0).1 (TX4 0).2.1 (TX4 0).2.2.1 ∈ G) (hP : va_P D vwCl (wR ad cI cJ cZ σ) H) (hd : decode cc pc = .ok (.getfield idx, 3)) (kk : W p l e R s m args below meth c H locs cells slots Q (F0 m (pc + 3) ls (.int (nI (gmth σ)) :: rest))) : W p l e R s m args below meth c H locs cells slots Q (F0 m (pc) ls (.ref (ad 0) :: rest)) := CM.get (T := TX4) (N := 23) (ref := "") E hP 0 rfl rfl inG_X4 0 (by decide) hl rfl hd kk
theorem pt_X4_thrown {v : Nat} (E : Cx p s m args c cc nL own x0 D (t3 cI cJ cZ)) (hl : Cond.fieldLink own idx (TX4 0).1 (TX4 0).2.1 (TX4 0).2.2.1 ∈ G) (hP : va_P D vwCl (wR ad cI cJ cZ σ) H) (hD : ∀ τ, va_D A (wR ad cI cJ cZ τ)) (hS : va_S A H0 H locs) (hd : decode cc pc = .ok (.putfield idx, 3)) (kk : ∀ (H1 : Heap) (locs1 : List Loc), va_P D vwCl (wR ad cI cJ cZ (smth σ v)) H1 → va_S A H0 H1 locs1 → W p l e R s m args below meth c H1 locs1 cells slots Q (F0 m (pc + 3) ls (rest))) : W p l e R s m args below meth c H locs cells slots Q (F0 m (pc) ls (.int (nI (v)) :: .ref (ad 0) :: rest)) := CM.put (T := TX4) (N := 23) (ty := .int) E hP (hD σ) hS 0 rfl rfl inG_X4 tyX4 tyX4_ok nmX4 0 (by decide) hl rfl (by decide +kernel) rfl rfl (Nat.le_of_ble_eq_true rfl) rfl hd (fun H1 l1 h1 _ h3 => kk H1 l1 h1 h3)
theorem gt_X4_types (E : Cx p s m args c cc nL own x0 D (t3 cI cJ cZ)) (hl : Cond.fieldLink own idx (TX4 1).1 (TX4 1).2.1 (TX4 1).2.2.1 ∈ G) (hP : va_P D vwCl (wR ad cI cJ cZ σ) H) (hd : decode cc pc = .ok (.getfield idx, 3)) (kk : W p l e R s m args below meth c H locs cells slots Q (F0 m (pc + 3) ls (.int (nI (gmty σ)) :: rest))) : W p l e R s m args below meth c H locs cells slots Q (F0 m (pc) ls (.ref (ad 0) :: rest)) := CM.get (T := TX4) (N := 23) (ref := "") E hP 0 rfl rfl inG_X4 1 (by decide) hl rfl hd kk
theorem pt_X4_types {v : Nat} (E : Cx p s m args c cc nL own x0 D (t3 cI cJ cZ)) (hl : Cond.fieldLink own idx (TX4 1).1 (TX4 1).2.1 (TX4 1).2.2.1 ∈ G) (hP : va_P D vwCl (wR ad cI cJ cZ σ) H) (hD : ∀ τ, va_D A (wR ad cI cJ cZ τ)) (hS : va_S A H0 H locs) (hd : decode cc pc = .ok (.putfield idx, 3)) (kk : ∀ (H1 : Heap) (locs1 : List Loc), va_P D vwCl (wR ad cI cJ cZ (smty σ v)) H1 → va_S A H0 H1 locs1 → W p l e R s m args below meth c H1 locs1 cells slots Q (F0 m (pc + 3) ls (rest))) : W p l e R s m args below meth c H locs cells slots Q (F0 m (pc) ls (.int (nI (v)) :: .ref (ad 0) :: rest)) := CM.put (T := TX4) (N := 23) (ty := .int) E hP (hD σ) hS 0 rfl rfl inG_X4 tyX4 tyX4_ok nmX4 1 (by decide) hl rfl (by decide +kernel) rfl rfl (Nat.le_of_ble_eq_true rfl) rfl hd (fun H1 l1 h1 _ h3 => kk H1 l1 h1 h3)
theorem gt_X4_parent (E : Cx p s m args c cc nL own x0 D (t3 cI cJ cZ)) (hl : Cond.fieldLink own idx (TX4 2).1 (TX4 2).2.1 (TX4 2).2.2.1 ∈ G) (hP : va_P D vwCl (wR ad cI cJ cZ σ) H) (hd : decode cc pc = .ok (.getfield idx, 3)) (kk : W p l e R s m args below meth c H locs cells slots Q (F0 m (pc + 3) ls (.ref (ad 1) :: rest))) : W p l e R s m args below meth c H locs cells slots Q (F0 m (pc) ls (.ref (ad 0) :: rest)) := CM.get (T := TX4) (N := 23) (ref := "") E hP 0 rfl rfl inG_X4 2 (by decide) hl rfl hd kk
theorem gt_X4_many (E : Cx p s m args c cc nL own x0 D (t3 cI cJ cZ)) (hl : Cond.fieldLink own idx (TX4 3).1 (TX4 3).2.1 (TX4 3).2.2.1 ∈ G) (hP : va_P D vwCl (wR ad cI cJ cZ σ) H) (hd : decode cc pc = .ok (.getfield idx, 3)) (kk : W p l e R s m args below meth c H locs cells slots Q (F0 m (pc + 3) ls (.ref (ad 2) :: rest))) : W p l e R s m args below meth c H locs cells slots Q (F0 m (pc) ls (.ref (ad 0) :: rest)) := CM.get (T := TX4) (N := 23) (ref := "") E hP 0 rfl rfl inG_X4 3 (by decide) hl rfl hd kk
theorem gt_X4_code (E : Cx p s m args c cc nL own x0 D (t3 cI cJ cZ)) (hl : Cond.fieldLink own idx (TX4 4).1 (TX4 4).2.1 (TX4 4).2.2.1 ∈ G) (hP : va_P D vwCl (wR ad cI cJ cZ σ) H) (hd : decode cc pc = .ok (.getfield idx, 3)) (kk : W p l e R s m args below meth c H locs cells slots Q (F0 m (pc + 3) ls (.ref (ad 3) :: rest))) : W p l e R s m args below meth c H locs cells slots Q (F0 m (pc) ls (.ref (ad 0) :: rest)) := CM.get (T := TX4) (N := 23) (ref := "") E hP 0 rfl rfl inG_X4 4 (by decide) hl rfl hd kk
theorem gt_X4_made (E : Cx p s m args c cc nL own x0 D (t3 cI cJ cZ)) (hl : Cond.fieldLink own idx (TX4 5).1 (TX4 5).2.1 (TX4 5).2.2.1 ∈ G) (hP : va_P D vwCl (wR ad cI cJ cZ σ) H) (hd : decode cc pc = .ok (.getfield idx, 3)) (kk : W p l e R s m args below meth c H locs cells slots Q (F0 m (pc + 3) ls (.ref (ad 4) :: rest))) : W p l e R s m args below meth c H locs cells slots Q (F0 m (pc) ls (.ref (ad 0) :: rest)) := CM.get (T := TX4) (N := 23) (ref := "") E hP 0 rfl rfl inG_X4 5 (by decide) hl rfl hd kk
theorem gt_X4_reached (E : Cx p s m args c cc nL own x0 D (t3 cI cJ cZ)) (hl : Cond.fieldLink own idx (TX4 6).1 (TX4 6).2.1 (TX4 6).2.2.1 ∈ G) (hP : va_P D vwCl (wR ad cI cJ cZ σ) H) (hd : decode cc pc = .ok (.getfield idx, 3)) (kk : W p l e R s m args below meth c H locs cells slots Q (F0 m (pc + 3) ls (.ref (ad 5) :: rest))) : W p l e R s m args below meth c H locs cells slots Q (F0 m (pc) ls (.ref (ad 0) :: rest)) := CM.get (T := TX4) (N := 23) (ref := "") E hP 0 rfl rfl inG_X4 6 (by decide) hl rfl hd kk
theorem gt_X4_changed (E : Cx p s m args c cc nL own x0 D (t3 cI cJ cZ)) (hl : Cond.fieldLink own idx (TX4 7).1 (TX4 7).2.1 (TX4 7).2.2.1 ∈ G) (hP : va_P D vwCl (wR ad cI cJ cZ σ) H) (hd : decode cc pc = .ok (.getfield idx, 3)) (kk : W p l e R s m args below meth c H locs cells slots Q (F0 m (pc + 3) ls (.ref (ad 6) :: rest))) : W p l e R s m args below meth c H locs cells slots Q (F0 m (pc) ls (.ref (ad 0) :: rest)) := CM.get (T := TX4) (N := 23) (ref := "") E hP 0 rfl rfl inG_X4 7 (by decide) hl rfl hd kk
theorem gt_X4_sites (E : Cx p s m args c cc nL own x0 D (t3 cI cJ cZ)) (hl : Cond.fieldLink own idx (TX4 8).1 (TX4 8).2.1 (TX4 8).2.2.1 ∈ G) (hP : va_P D vwCl (wR ad cI cJ cZ σ) H) (hd : decode cc pc = .ok (.getfield idx, 3)) (kk : W p l e R s m args below meth c H locs cells slots Q (F0 m (pc + 3) ls (.ref (ad 7) :: rest))) : W p l e R s m args below meth c H locs cells slots Q (F0 m (pc) ls (.ref (ad 0) :: rest)) := CM.get (T := TX4) (N := 23) (ref := "") E hP 0 rfl rfl inG_X4 8 (by decide) hl rfl hd kk
theorem gt_X4_holder (E : Cx p s m args c cc nL own x0 D (t3 cI cJ cZ)) (hl : Cond.fieldLink own idx (TX4 9).1 (TX4 9).2.1 (TX4 9).2.2.1 ∈ G) (hP : va_P D vwCl (wR ad cI cJ cZ σ) H) (hd : decode cc pc = .ok (.getfield idx, 3)) (kk : W p l e R s m args below meth c H locs cells slots Q (F0 m (pc + 3) ls (.ref (ad 8) :: rest))) : W p l e R s m args below meth c H locs cells slots Q (F0 m (pc) ls (.ref (ad 0) :: rest)) := CM.get (T := TX4) (N := 23) (ref := "") E hP 0 rfl rfl inG_X4 9 (by decide) hl rfl hd kk
theorem gt_X4_objects (E : Cx p s m args c cc nL own x0 D (t3 cI cJ cZ)) (hl : Cond.fieldLink own idx (TX4 10).1 (TX4 10).2.1 (TX4 10).2.2.1 ∈ G) (hP : va_P D vwCl (wR ad cI cJ cZ σ) H) (hd : decode cc pc = .ok (.getfield idx, 3)) (kk : W p l e R s m args below meth c H locs cells slots Q (F0 m (pc + 3) ls (.int (nI (gmob σ)) :: rest))) : W p l e R s m args below meth c H locs cells slots Q (F0 m (pc) ls (.ref (ad 0) :: rest)) := CM.get (T := TX4) (N := 23) (ref := "") E hP 0 rfl rfl inG_X4 10 (by decide) hl rfl hd kk
theorem pt_X4_objects {v : Nat} (E : Cx p s m args c cc nL own x0 D (t3 cI cJ cZ)) (hl : Cond.fieldLink own idx (TX4 10).1 (TX4 10).2.1 (TX4 10).2.2.1 ∈ G) (hP : va_P D vwCl (wR ad cI cJ cZ σ) H) (hD : ∀ τ, va_D A (wR ad cI cJ cZ τ)) (hS : va_S A H0 H locs) (hd : decode cc pc = .ok (.putfield idx, 3)) (kk : ∀ (H1 : Heap) (locs1 : List Loc), va_P D vwCl (wR ad cI cJ cZ (smob σ v)) H1 → va_S A H0 H1 locs1 → W p l e R s m args below meth c H1 locs1 cells slots Q (F0 m (pc + 3) ls (rest))) : W p l e R s m args below meth c H locs cells slots Q (F0 m (pc) ls (.int (nI (v)) :: .ref (ad 0) :: rest)) := CM.put (T := TX4) (N := 23) (ty := .int) E hP (hD σ) hS 0 rfl rfl inG_X4 tyX4 tyX4_ok nmX4 10 (by decide) hl rfl (by decide +kernel) rfl rfl (Nat.le_of_ble_eq_true rfl) rfl hd (fun H1 l1 h1 _ h3 => kk H1 l1 h1 h3)
theorem gt_X4_room (E : Cx p s m args c cc nL own x0 D (t3 cI cJ cZ)) (hl : Cond.fieldLink own idx (TX4 11).1 (TX4 11).2.1 (TX4 11).2.2.1 ∈ G) (hP : va_P D vwCl (wR ad cI cJ cZ σ) H) (hd : decode cc pc = .ok (.getfield idx, 3)) (kk : W p l e R s m args below meth c H locs cells slots Q (F0 m (pc + 3) ls (.int (nI (gmrm σ)) :: rest))) : W p l e R s m args below meth c H locs cells slots Q (F0 m (pc) ls (.ref (ad 0) :: rest)) := CM.get (T := TX4) (N := 23) (ref := "") E hP 0 rfl rfl inG_X4 11 (by decide) hl rfl hd kk
theorem pt_X4_room {v : Nat} (E : Cx p s m args c cc nL own x0 D (t3 cI cJ cZ)) (hl : Cond.fieldLink own idx (TX4 11).1 (TX4 11).2.1 (TX4 11).2.2.1 ∈ G) (hP : va_P D vwCl (wR ad cI cJ cZ σ) H) (hD : ∀ τ, va_D A (wR ad cI cJ cZ τ)) (hS : va_S A H0 H locs) (hd : decode cc pc = .ok (.putfield idx, 3)) (kk : ∀ (H1 : Heap) (locs1 : List Loc), va_P D vwCl (wR ad cI cJ cZ (smrm σ v)) H1 → va_S A H0 H1 locs1 → W p l e R s m args below meth c H1 locs1 cells slots Q (F0 m (pc + 3) ls (rest))) : W p l e R s m args below meth c H locs cells slots Q (F0 m (pc) ls (.int (nI (v)) :: .ref (ad 0) :: rest)) := CM.put (T := TX4) (N := 23) (ty := .int) E hP (hD σ) hS 0 rfl rfl inG_X4 tyX4 tyX4_ok nmX4 11 (by decide) hl rfl (by decide +kernel) rfl rfl (Nat.le_of_ble_eq_true rfl) rfl hd (fun H1 l1 h1 _ h3 => kk H1 l1 h1 h3)
theorem gt_X4_classOf (E : Cx p s m args c cc nL own x0 D (t3 cI cJ cZ)) (hl : Cond.fieldLink own idx (TX4 12).1 (TX4 12).2.1 (TX4 12).2.2.1 ∈ G) (hP : va_P D vwCl (wR ad cI cJ cZ σ) H) (hd : decode cc pc = .ok (.getfield idx, 3)) (kk : W p l e R s m args below meth c H locs cells slots Q (F0 m (pc + 3) ls (.ref (ad 9) :: rest))) : W p l e R s m args below meth c H locs cells slots Q (F0 m (pc) ls (.ref (ad 0) :: rest)) := CM.get (T := TX4) (N := 23) (ref := "") E hP 0 rfl rfl inG_X4 12 (by decide) hl rfl hd kk
theorem gt_X4_fieldIs (E : Cx p s m args c cc nL own x0 D (t3 cI cJ cZ)) (hl : Cond.fieldLink own idx (TX4 13).1 (TX4 13).2.1 (TX4 13).2.2.1 ∈ G) (hP : va_P D vwCl (wR ad cI cJ cZ σ) H) (hd : decode cc pc = .ok (.getfield idx, 3)) (kk : W p l e R s m args below meth c H locs cells slots Q (F0 m (pc + 3) ls (.ref (ad 10) :: rest))) : W p l e R s m args below meth c H locs cells slots Q (F0 m (pc) ls (.ref (ad 0) :: rest)) := CM.get (T := TX4) (N := 23) (ref := "") E hP 0 rfl rfl inG_X4 13 (by decide) hl rfl hd kk
theorem gt_X4_field (E : Cx p s m args c cc nL own x0 D (t3 cI cJ cZ)) (hl : Cond.fieldLink own idx (TX4 14).1 (TX4 14).2.1 (TX4 14).2.2.1 ∈ G) (hP : va_P D vwCl (wR ad cI cJ cZ σ) H) (hd : decode cc pc = .ok (.getfield idx, 3)) (kk : W p l e R s m args below meth c H locs cells slots Q (F0 m (pc + 3) ls (.ref (ad 11) :: rest))) : W p l e R s m args below meth c H locs cells slots Q (F0 m (pc) ls (.ref (ad 0) :: rest)) := CM.get (T := TX4) (N := 23) (ref := "") E hP 0 rfl rfl inG_X4 14 (by decide) hl rfl hd kk
theorem gt_X4_frames (E : Cx p s m args c cc nL own x0 D (t3 cI cJ cZ)) (hl : Cond.fieldLink own idx (TX4 15).1 (TX4 15).2.1 (TX4 15).2.2.1 ∈ G) (hP : va_P D vwCl (wR ad cI cJ cZ σ) H) (hd : decode cc pc = .ok (.getfield idx, 3)) (kk : W p l e R s m args below meth c H locs cells slots Q (F0 m (pc + 3) ls (.int (nI (gmfr σ)) :: rest))) : W p l e R s m args below meth c H locs cells slots Q (F0 m (pc) ls (.ref (ad 0) :: rest)) := CM.get (T := TX4) (N := 23) (ref := "") E hP 0 rfl rfl inG_X4 15 (by decide) hl rfl hd kk
theorem pt_X4_frames {v : Nat} (E : Cx p s m args c cc nL own x0 D (t3 cI cJ cZ)) (hl : Cond.fieldLink own idx (TX4 15).1 (TX4 15).2.1 (TX4 15).2.2.1 ∈ G) (hP : va_P D vwCl (wR ad cI cJ cZ σ) H) (hD : ∀ τ, va_D A (wR ad cI cJ cZ τ)) (hS : va_S A H0 H locs) (hd : decode cc pc = .ok (.putfield idx, 3)) (kk : ∀ (H1 : Heap) (locs1 : List Loc), va_P D vwCl (wR ad cI cJ cZ (smfr σ v)) H1 → va_S A H0 H1 locs1 → W p l e R s m args below meth c H1 locs1 cells slots Q (F0 m (pc + 3) ls (rest))) : W p l e R s m args below meth c H locs cells slots Q (F0 m (pc) ls (.int (nI (v)) :: .ref (ad 0) :: rest)) := CM.put (T := TX4) (N := 23) (ty := .int) E hP (hD σ) hS 0 rfl rfl inG_X4 tyX4 tyX4_ok nmX4 15 (by decide) hl rfl (by decide +kernel) rfl rfl (Nat.le_of_ble_eq_true rfl) rfl hd (fun H1 l1 h1 _ h3 => kk H1 l1 h1 h3)
theorem gt_X4_body (E : Cx p s m args c cc nL own x0 D (t3 cI cJ cZ)) (hl : Cond.fieldLink own idx (TX4 16).1 (TX4 16).2.1 (TX4 16).2.2.1 ∈ G) (hP : va_P D vwCl (wR ad cI cJ cZ σ) H) (hd : decode cc pc = .ok (.getfield idx, 3)) (kk : W p l e R s m args below meth c H locs cells slots Q (F0 m (pc + 3) ls (.ref (ad 12) :: rest))) : W p l e R s m args below meth c H locs cells slots Q (F0 m (pc) ls (.ref (ad 0) :: rest)) := CM.get (T := TX4) (N := 23) (ref := "") E hP 0 rfl rfl inG_X4 16 (by decide) hl rfl hd kk
theorem gt_X4_place (E : Cx p s m args c cc nL own x0 D (t3 cI cJ cZ)) (hl : Cond.fieldLink own idx (TX4 17).1 (TX4 17).2.1 (TX4 17).2.2.1 ∈ G) (hP : va_P D vwCl (wR ad cI cJ cZ σ) H) (hd : decode cc pc = .ok (.getfield idx, 3)) (kk : W p l e R s m args below meth c H locs cells slots Q (F0 m (pc + 3) ls (.ref (ad 13) :: rest))) : W p l e R s m args below meth c H locs cells slots Q (F0 m (pc) ls (.ref (ad 0) :: rest)) := CM.get (T := TX4) (N := 23) (ref := "") E hP 0 rfl rfl inG_X4 17 (by decide) hl rfl hd kk
theorem gt_X4_wants (E : Cx p s m args c cc nL own x0 D (t3 cI cJ cZ)) (hl : Cond.fieldLink own idx (TX4 18).1 (TX4 18).2.1 (TX4 18).2.2.1 ∈ G) (hP : va_P D vwCl (wR ad cI cJ cZ σ) H) (hd : decode cc pc = .ok (.getfield idx, 3)) (kk : W p l e R s m args below meth c H locs cells slots Q (F0 m (pc + 3) ls (.ref (ad 14) :: rest))) : W p l e R s m args below meth c H locs cells slots Q (F0 m (pc) ls (.ref (ad 0) :: rest)) := CM.get (T := TX4) (N := 23) (ref := "") E hP 0 rfl rfl inG_X4 18 (by decide) hl rfl hd kk
theorem gt_X4_is (E : Cx p s m args c cc nL own x0 D (t3 cI cJ cZ)) (hl : Cond.fieldLink own idx (TX4 19).1 (TX4 19).2.1 (TX4 19).2.2.1 ∈ G) (hP : va_P D vwCl (wR ad cI cJ cZ σ) H) (hd : decode cc pc = .ok (.getfield idx, 3)) (kk : W p l e R s m args below meth c H locs cells slots Q (F0 m (pc + 3) ls (.ref (ad 15) :: rest))) : W p l e R s m args below meth c H locs cells slots Q (F0 m (pc) ls (.ref (ad 0) :: rest)) := CM.get (T := TX4) (N := 23) (ref := "") E hP 0 rfl rfl inG_X4 19 (by decide) hl rfl hd kk
theorem gt_X4_value (E : Cx p s m args c cc nL own x0 D (t3 cI cJ cZ)) (hl : Cond.fieldLink own idx (TX4 20).1 (TX4 20).2.1 (TX4 20).2.2.1 ∈ G) (hP : va_P D vwCl (wR ad cI cJ cZ σ) H) (hd : decode cc pc = .ok (.getfield idx, 3)) (kk : W p l e R s m args below meth c H locs cells slots Q (F0 m (pc + 3) ls (.ref (ad 16) :: rest))) : W p l e R s m args below meth c H locs cells slots Q (F0 m (pc) ls (.ref (ad 0) :: rest)) := CM.get (T := TX4) (N := 23) (ref := "") E hP 0 rfl rfl inG_X4 20 (by decide) hl rfl hd kk
theorem gt_X4_outs (E : Cx p s m args c cc nL own x0 D (t3 cI cJ cZ)) (hl : Cond.fieldLink own idx (TX4 21).1 (TX4 21).2.1 (TX4 21).2.2.1 ∈ G) (hP : va_P D vwCl (wR ad cI cJ cZ σ) H) (hd : decode cc pc = .ok (.getfield idx, 3)) (kk : W p l e R s m args below meth c H locs cells slots Q (F0 m (pc + 3) ls (.ref (ad 17) :: rest))) : W p l e R s m args below meth c H locs cells slots Q (F0 m (pc) ls (.ref (ad 0) :: rest)) := CM.get (T := TX4) (N := 23) (ref := "") E hP 0 rfl rfl inG_X4 21 (by decide) hl rfl hd kk
theorem gt_X4_counts (E : Cx p s m args c cc nL own x0 D (t3 cI cJ cZ)) (hl : Cond.fieldLink own idx (TX4 22).1 (TX4 22).2.1 (TX4 22).2.2.1 ∈ G) (hP : va_P D vwCl (wR ad cI cJ cZ σ) H) (hd : decode cc pc = .ok (.getfield idx, 3)) (kk : W p l e R s m args below meth c H locs cells slots Q (F0 m (pc + 3) ls (.ref (ad 18) :: rest))) : W p l e R s m args below meth c H locs cells slots Q (F0 m (pc) ls (.ref (ad 0) :: rest)) := CM.get (T := TX4) (N := 23) (ref := "") E hP 0 rfl rfl inG_X4 22 (by decide) hl rfl hd kk
theorem ld_MS_pa {i : Nat} (E : Cx p s m args c cc nL own x0 D (t3 cI cJ cZ)) (hP : va_P D vwCl (wR ad cI cJ cZ σ) H) (hi : i < 6) (hd : decode cc pc = .ok (.iaload, 1)) (kk : W p l e R s m args below meth c H locs cells slots Q (F0 m (pc + 1) ls (.int (oI (gmpa σ i)) :: rest))) : W p l e R s m args below meth c H locs cells slots Q (F0 m (pc) ls (.int (nI i) :: .ref (ad 1) :: rest)) := by
  refine va_iald E.1.1 E.1.2.1 E.2 hP 1 0 rfl rfl (vp_in_nI hi (by decide)) hd ?_
  rw [nI_clamp (Nat.lt_trans hi (by decide))]
  exact kk
theorem as_MS_pa {i : Nat} {v : Option Nat} (E : Cx p s m args c cc nL own x0 D (t3 cI cJ cZ)) (hP : va_P D vwCl (wR ad cI cJ cZ σ) H) (hD : ∀ τ, va_D A (wR ad cI cJ cZ τ)) (hS : va_S A H0 H locs) (hi : i < 6) (hd : decode cc pc = .ok (.iastore, 1)) (kk : ∀ (H1 : Heap) (locs1 : List Loc), va_P D vwCl (wR ad cI cJ cZ (smpa σ (va_up (gmpa σ) i v))) H1 → va_S A H0 H1 locs1 → W p l e R s m args below meth c H1 locs1 cells slots Q (F0 m (pc + 1) ls (rest))) : W p l e R s m args below meth c H locs cells slots Q (F0 m (pc) ls (.int (oI (v)) :: .int (nI i) :: .ref (ad 1) :: rest)) := by
  refine va_iast E.1.1 E.1.2.1 E.2 hP (hD σ) hS 1 0 rfl rfl (vp_in_nI hi (by decide)) hd (fun H1 l1 h1 _ h3 => kk H1 l1 ?_ h3)
  have e9 : upd (fun i => oI (gmpa σ i)) (nI i).toNatClampNeg (oI (v)) = fun j => oI (va_up (gmpa σ) i v j) := by
    funext j
    rw [nI_clamp (Nat.lt_trans hi (by decide))]
    unfold upd va_up
    split <;> rfl
  rw [e9] at h1
  exact h1
theorem ld_MS_my {i : Nat} (E : Cx p s m args c cc nL own x0 D (t3 cI cJ cZ)) (hP : va_P D vwCl (wR ad cI cJ cZ σ) H) (hi : i < 24) (hd : decode cc pc = .ok (.iaload, 1)) (kk : W p l e R s m args below meth c H locs cells slots Q (F0 m (pc + 1) ls (.int (nI (gmmy σ i)) :: rest))) : W p l e R s m args below meth c H locs cells slots Q (F0 m (pc) ls (.int (nI i) :: .ref (ad 2) :: rest)) := by
  refine va_iald E.1.1 E.1.2.1 E.2 hP 2 0 rfl rfl (vp_in_nI hi (by decide)) hd ?_
  rw [nI_clamp (Nat.lt_trans hi (by decide))]
  exact kk
theorem as_MS_my {i : Nat} {v : Nat} (E : Cx p s m args c cc nL own x0 D (t3 cI cJ cZ)) (hP : va_P D vwCl (wR ad cI cJ cZ σ) H) (hD : ∀ τ, va_D A (wR ad cI cJ cZ τ)) (hS : va_S A H0 H locs) (hi : i < 24) (hd : decode cc pc = .ok (.iastore, 1)) (kk : ∀ (H1 : Heap) (locs1 : List Loc), va_P D vwCl (wR ad cI cJ cZ (smmy σ (va_up (gmmy σ) i v))) H1 → va_S A H0 H1 locs1 → W p l e R s m args below meth c H1 locs1 cells slots Q (F0 m (pc + 1) ls (rest))) : W p l e R s m args below meth c H locs cells slots Q (F0 m (pc) ls (.int (nI (v)) :: .int (nI i) :: .ref (ad 2) :: rest)) := by
  refine va_iast E.1.1 E.1.2.1 E.2 hP (hD σ) hS 2 0 rfl rfl (vp_in_nI hi (by decide)) hd (fun H1 l1 h1 _ h3 => kk H1 l1 ?_ h3)
  have e9 : upd (fun i => nI (gmmy σ i)) (nI i).toNatClampNeg (nI (v)) = fun j => nI (va_up (gmmy σ) i v j) := by
    funext j
    rw [nI_clamp (Nat.lt_trans hi (by decide))]
    unfold upd va_up
    split <;> rfl
  rw [e9] at h1
  exact h1
theorem ld_MS_cd {i : Nat} (E : Cx p s m args c cc nL own x0 D (t3 cI cJ cZ)) (hP : va_P D vwCl (wR ad cI cJ cZ σ) H) (hi : i < 960) (hd : decode cc pc = .ok (.iaload, 1)) (kk : W p l e R s m args below meth c H locs cells slots Q (F0 m (pc + 1) ls (.int (gmcd σ i) :: rest))) : W p l e R s m args below meth c H locs cells slots Q (F0 m (pc) ls (.int (nI i) :: .ref (ad 3) :: rest)) := by
  refine va_iald E.1.1 E.1.2.1 E.2 hP 3 0 rfl rfl (vp_in_nI hi (by decide)) hd ?_
  rw [nI_clamp (Nat.lt_trans hi (by decide))]
  exact kk
theorem as_MS_cd {i : Nat} {v : Int32} (E : Cx p s m args c cc nL own x0 D (t3 cI cJ cZ)) (hP : va_P D vwCl (wR ad cI cJ cZ σ) H) (hD : ∀ τ, va_D A (wR ad cI cJ cZ τ)) (hS : va_S A H0 H locs) (hi : i < 960) (hd : decode cc pc = .ok (.iastore, 1)) (kk : ∀ (H1 : Heap) (locs1 : List Loc), va_P D vwCl (wR ad cI cJ cZ (smcd σ (va_up (gmcd σ) i v))) H1 → va_S A H0 H1 locs1 → W p l e R s m args below meth c H1 locs1 cells slots Q (F0 m (pc + 1) ls (rest))) : W p l e R s m args below meth c H locs cells slots Q (F0 m (pc) ls (.int (v) :: .int (nI i) :: .ref (ad 3) :: rest)) := by
  refine va_iast E.1.1 E.1.2.1 E.2 hP (hD σ) hS 3 0 rfl rfl (vp_in_nI hi (by decide)) hd (fun H1 l1 h1 _ h3 => kk H1 l1 ?_ h3)
  have e9 : upd (fun i => gmcd σ i) (nI i).toNatClampNeg (v) = fun j => va_up (gmcd σ) i v j := by
    funext j
    rw [nI_clamp (Nat.lt_trans hi (by decide))]
    unfold upd va_up
    split <;> rfl
  rw [e9] at h1
  exact h1
theorem ld_MS_md {i : Nat} (E : Cx p s m args c cc nL own x0 D (t3 cI cJ cZ)) (hP : va_P D vwCl (wR ad cI cJ cZ σ) H) (hi : i < 6) (hd : decode cc pc = .ok (.baload, 1)) (kk : W p l e R s m args below meth c H locs cells slots Q (F0 m (pc + 1) ls (.int (bI (gmmd σ i)) :: rest))) : W p l e R s m args below meth c H locs cells slots Q (F0 m (pc) ls (.int (nI i) :: .ref (ad 4) :: rest)) := by
  refine va_zald E.1.1 E.1.2.1 E.2 hP 4 2 rfl rfl (vp_in_nI hi (by decide)) hd ?_
  rw [nI_clamp (Nat.lt_trans hi (by decide))]
  exact kk
theorem as_MS_md {i : Nat} {v : Bool} (E : Cx p s m args c cc nL own x0 D (t3 cI cJ cZ)) (hP : va_P D vwCl (wR ad cI cJ cZ σ) H) (hD : ∀ τ, va_D A (wR ad cI cJ cZ τ)) (hS : va_S A H0 H locs) (hi : i < 6) (hd : decode cc pc = .ok (.bastore, 1)) (kk : ∀ (H1 : Heap) (locs1 : List Loc), va_P D vwCl (wR ad cI cJ cZ (smmd σ (va_up (gmmd σ) i v))) H1 → va_S A H0 H1 locs1 → W p l e R s m args below meth c H1 locs1 cells slots Q (F0 m (pc + 1) ls (rest))) : W p l e R s m args below meth c H locs cells slots Q (F0 m (pc) ls (.int (bI (v)) :: .int (nI i) :: .ref (ad 4) :: rest)) := by
  refine va_zast E.1.1 E.1.2.1 E.2 hP (hD σ) hS 4 2 rfl rfl (vp_in_nI hi (by decide)) hd (fun H1 l1 h1 _ h3 => kk H1 l1 ?_ h3)
  have e9 : upd (fun i => bI (gmmd σ i)) (nI i).toNatClampNeg (vp_nar .boolean (bI (v))) = fun j => bI (va_up (gmmd σ) i v j) := by
    funext j
    rw [nI_clamp (Nat.lt_trans hi (by decide)), bI_nar]
    unfold upd va_up
    split <;> rfl
  rw [e9] at h1
  exact h1
theorem ld_MS_rd {i : Nat} (E : Cx p s m args c cc nL own x0 D (t3 cI cJ cZ)) (hP : va_P D vwCl (wR ad cI cJ cZ σ) H) (hi : i < 24) (hd : decode cc pc = .ok (.baload, 1)) (kk : W p l e R s m args below meth c H locs cells slots Q (F0 m (pc + 1) ls (.int (bI (gmrd σ i)) :: rest))) : W p l e R s m args below meth c H locs cells slots Q (F0 m (pc) ls (.int (nI i) :: .ref (ad 5) :: rest)) := by
  refine va_zald E.1.1 E.1.2.1 E.2 hP 5 2 rfl rfl (vp_in_nI hi (by decide)) hd ?_
  rw [nI_clamp (Nat.lt_trans hi (by decide))]
  exact kk
theorem as_MS_rd {i : Nat} {v : Bool} (E : Cx p s m args c cc nL own x0 D (t3 cI cJ cZ)) (hP : va_P D vwCl (wR ad cI cJ cZ σ) H) (hD : ∀ τ, va_D A (wR ad cI cJ cZ τ)) (hS : va_S A H0 H locs) (hi : i < 24) (hd : decode cc pc = .ok (.bastore, 1)) (kk : ∀ (H1 : Heap) (locs1 : List Loc), va_P D vwCl (wR ad cI cJ cZ (smrd σ (va_up (gmrd σ) i v))) H1 → va_S A H0 H1 locs1 → W p l e R s m args below meth c H1 locs1 cells slots Q (F0 m (pc + 1) ls (rest))) : W p l e R s m args below meth c H locs cells slots Q (F0 m (pc) ls (.int (bI (v)) :: .int (nI i) :: .ref (ad 5) :: rest)) := by
  refine va_zast E.1.1 E.1.2.1 E.2 hP (hD σ) hS 5 2 rfl rfl (vp_in_nI hi (by decide)) hd (fun H1 l1 h1 _ h3 => kk H1 l1 ?_ h3)
  have e9 : upd (fun i => bI (gmrd σ i)) (nI i).toNatClampNeg (vp_nar .boolean (bI (v))) = fun j => bI (va_up (gmrd σ) i v j) := by
    funext j
    rw [nI_clamp (Nat.lt_trans hi (by decide)), bI_nar]
    unfold upd va_up
    split <;> rfl
  rw [e9] at h1
  exact h1
theorem ld_MS_ch {i : Nat} (E : Cx p s m args c cc nL own x0 D (t3 cI cJ cZ)) (hP : va_P D vwCl (wR ad cI cJ cZ σ) H) (hi : i < 24) (hd : decode cc pc = .ok (.baload, 1)) (kk : W p l e R s m args below meth c H locs cells slots Q (F0 m (pc + 1) ls (.int (bI (gmch σ i)) :: rest))) : W p l e R s m args below meth c H locs cells slots Q (F0 m (pc) ls (.int (nI i) :: .ref (ad 6) :: rest)) := by
  refine va_zald E.1.1 E.1.2.1 E.2 hP 6 2 rfl rfl (vp_in_nI hi (by decide)) hd ?_
  rw [nI_clamp (Nat.lt_trans hi (by decide))]
  exact kk
theorem as_MS_ch {i : Nat} {v : Bool} (E : Cx p s m args c cc nL own x0 D (t3 cI cJ cZ)) (hP : va_P D vwCl (wR ad cI cJ cZ σ) H) (hD : ∀ τ, va_D A (wR ad cI cJ cZ τ)) (hS : va_S A H0 H locs) (hi : i < 24) (hd : decode cc pc = .ok (.bastore, 1)) (kk : ∀ (H1 : Heap) (locs1 : List Loc), va_P D vwCl (wR ad cI cJ cZ (smch σ (va_up (gmch σ) i v))) H1 → va_S A H0 H1 locs1 → W p l e R s m args below meth c H1 locs1 cells slots Q (F0 m (pc + 1) ls (rest))) : W p l e R s m args below meth c H locs cells slots Q (F0 m (pc) ls (.int (bI (v)) :: .int (nI i) :: .ref (ad 6) :: rest)) := by
  refine va_zast E.1.1 E.1.2.1 E.2 hP (hD σ) hS 6 2 rfl rfl (vp_in_nI hi (by decide)) hd (fun H1 l1 h1 _ h3 => kk H1 l1 ?_ h3)
  have e9 : upd (fun i => bI (gmch σ i)) (nI i).toNatClampNeg (vp_nar .boolean (bI (v))) = fun j => bI (va_up (gmch σ) i v j) := by
    funext j
    rw [nI_clamp (Nat.lt_trans hi (by decide)), bI_nar]
    unfold upd va_up
    split <;> rfl
  rw [e9] at h1
  exact h1
theorem ld_MS_si {i : Nat} (E : Cx p s m args c cc nL own x0 D (t3 cI cJ cZ)) (hP : va_P D vwCl (wR ad cI cJ cZ σ) H) (hi : i < 240) (hd : decode cc pc = .ok (.iaload, 1)) (kk : W p l e R s m args below meth c H locs cells slots Q (F0 m (pc + 1) ls (.int (nI (gmsi σ i)) :: rest))) : W p l e R s m args below meth c H locs cells slots Q (F0 m (pc) ls (.int (nI i) :: .ref (ad 7) :: rest)) := by
  refine va_iald E.1.1 E.1.2.1 E.2 hP 7 0 rfl rfl (vp_in_nI hi (by decide)) hd ?_
  rw [nI_clamp (Nat.lt_trans hi (by decide))]
  exact kk
theorem as_MS_si {i : Nat} {v : Nat} (E : Cx p s m args c cc nL own x0 D (t3 cI cJ cZ)) (hP : va_P D vwCl (wR ad cI cJ cZ σ) H) (hD : ∀ τ, va_D A (wR ad cI cJ cZ τ)) (hS : va_S A H0 H locs) (hi : i < 240) (hd : decode cc pc = .ok (.iastore, 1)) (kk : ∀ (H1 : Heap) (locs1 : List Loc), va_P D vwCl (wR ad cI cJ cZ (smsi σ (va_up (gmsi σ) i v))) H1 → va_S A H0 H1 locs1 → W p l e R s m args below meth c H1 locs1 cells slots Q (F0 m (pc + 1) ls (rest))) : W p l e R s m args below meth c H locs cells slots Q (F0 m (pc) ls (.int (nI (v)) :: .int (nI i) :: .ref (ad 7) :: rest)) := by
  refine va_iast E.1.1 E.1.2.1 E.2 hP (hD σ) hS 7 0 rfl rfl (vp_in_nI hi (by decide)) hd (fun H1 l1 h1 _ h3 => kk H1 l1 ?_ h3)
  have e9 : upd (fun i => nI (gmsi σ i)) (nI i).toNatClampNeg (nI (v)) = fun j => nI (va_up (gmsi σ) i v j) := by
    funext j
    rw [nI_clamp (Nat.lt_trans hi (by decide))]
    unfold upd va_up
    split <;> rfl
  rw [e9] at h1
  exact h1
theorem ld_MS_ho {i : Nat} (E : Cx p s m args c cc nL own x0 D (t3 cI cJ cZ)) (hP : va_P D vwCl (wR ad cI cJ cZ σ) H) (hi : i < 6) (hd : decode cc pc = .ok (.baload, 1)) (kk : W p l e R s m args below meth c H locs cells slots Q (F0 m (pc + 1) ls (.int (bI (gmho σ i)) :: rest))) : W p l e R s m args below meth c H locs cells slots Q (F0 m (pc) ls (.int (nI i) :: .ref (ad 8) :: rest)) := by
  refine va_zald E.1.1 E.1.2.1 E.2 hP 8 2 rfl rfl (vp_in_nI hi (by decide)) hd ?_
  rw [nI_clamp (Nat.lt_trans hi (by decide))]
  exact kk
theorem as_MS_ho {i : Nat} {v : Bool} (E : Cx p s m args c cc nL own x0 D (t3 cI cJ cZ)) (hP : va_P D vwCl (wR ad cI cJ cZ σ) H) (hD : ∀ τ, va_D A (wR ad cI cJ cZ τ)) (hS : va_S A H0 H locs) (hi : i < 6) (hd : decode cc pc = .ok (.bastore, 1)) (kk : ∀ (H1 : Heap) (locs1 : List Loc), va_P D vwCl (wR ad cI cJ cZ (smho σ (va_up (gmho σ) i v))) H1 → va_S A H0 H1 locs1 → W p l e R s m args below meth c H1 locs1 cells slots Q (F0 m (pc + 1) ls (rest))) : W p l e R s m args below meth c H locs cells slots Q (F0 m (pc) ls (.int (bI (v)) :: .int (nI i) :: .ref (ad 8) :: rest)) := by
  refine va_zast E.1.1 E.1.2.1 E.2 hP (hD σ) hS 8 2 rfl rfl (vp_in_nI hi (by decide)) hd (fun H1 l1 h1 _ h3 => kk H1 l1 ?_ h3)
  have e9 : upd (fun i => bI (gmho σ i)) (nI i).toNatClampNeg (vp_nar .boolean (bI (v))) = fun j => bI (va_up (gmho σ) i v j) := by
    funext j
    rw [nI_clamp (Nat.lt_trans hi (by decide)), bI_nar]
    unfold upd va_up
    split <;> rfl
  rw [e9] at h1
  exact h1
theorem ld_MS_cl {i : Nat} (E : Cx p s m args c cc nL own x0 D (t3 cI cJ cZ)) (hP : va_P D vwCl (wR ad cI cJ cZ σ) H) (hi : i < 420) (hd : decode cc pc = .ok (.iaload, 1)) (kk : W p l e R s m args below meth c H locs cells slots Q (F0 m (pc + 1) ls (.int (nI (gmcl σ i)) :: rest))) : W p l e R s m args below meth c H locs cells slots Q (F0 m (pc) ls (.int (nI i) :: .ref (ad 9) :: rest)) := by
  refine va_iald E.1.1 E.1.2.1 E.2 hP 9 0 rfl rfl (vp_in_nI hi (by decide)) hd ?_
  rw [nI_clamp (Nat.lt_trans hi (by decide))]
  exact kk
theorem as_MS_cl {i : Nat} {v : Nat} (E : Cx p s m args c cc nL own x0 D (t3 cI cJ cZ)) (hP : va_P D vwCl (wR ad cI cJ cZ σ) H) (hD : ∀ τ, va_D A (wR ad cI cJ cZ τ)) (hS : va_S A H0 H locs) (hi : i < 420) (hd : decode cc pc = .ok (.iastore, 1)) (kk : ∀ (H1 : Heap) (locs1 : List Loc), va_P D vwCl (wR ad cI cJ cZ (smcl σ (va_up (gmcl σ) i v))) H1 → va_S A H0 H1 locs1 → W p l e R s m args below meth c H1 locs1 cells slots Q (F0 m (pc + 1) ls (rest))) : W p l e R s m args below meth c H locs cells slots Q (F0 m (pc) ls (.int (nI (v)) :: .int (nI i) :: .ref (ad 9) :: rest)) := by
  refine va_iast E.1.1 E.1.2.1 E.2 hP (hD σ) hS 9 0 rfl rfl (vp_in_nI hi (by decide)) hd (fun H1 l1 h1 _ h3 => kk H1 l1 ?_ h3)
  have e9 : upd (fun i => nI (gmcl σ i)) (nI i).toNatClampNeg (nI (v)) = fun j => nI (va_up (gmcl σ) i v j) := by
    funext j
    rw [nI_clamp (Nat.lt_trans hi (by decide))]
    unfold upd va_up
    split <;> rfl
  rw [e9] at h1
  exact h1
theorem ld_MS_fI {i : Nat} (E : Cx p s m args c cc nL own x0 D (t3 cI cJ cZ)) (hP : va_P D vwCl (wR ad cI cJ cZ σ) H) (hi : i < 1260) (hd : decode cc pc = .ok (.baload, 1)) (kk : W p l e R s m args below meth c H locs cells slots Q (F0 m (pc + 1) ls (.int (bI (gmfI σ i)) :: rest))) : W p l e R s m args below meth c H locs cells slots Q (F0 m (pc) ls (.int (nI i) :: .ref (ad 10) :: rest)) := by
  refine va_zald E.1.1 E.1.2.1 E.2 hP 10 2 rfl rfl (vp_in_nI hi (by decide)) hd ?_
  rw [nI_clamp (Nat.lt_trans hi (by decide))]
  exact kk
theorem as_MS_fI {i : Nat} {v : Bool} (E : Cx p s m args c cc nL own x0 D (t3 cI cJ cZ)) (hP : va_P D vwCl (wR ad cI cJ cZ σ) H) (hD : ∀ τ, va_D A (wR ad cI cJ cZ τ)) (hS : va_S A H0 H locs) (hi : i < 1260) (hd : decode cc pc = .ok (.bastore, 1)) (kk : ∀ (H1 : Heap) (locs1 : List Loc), va_P D vwCl (wR ad cI cJ cZ (smfI σ (va_up (gmfI σ) i v))) H1 → va_S A H0 H1 locs1 → W p l e R s m args below meth c H1 locs1 cells slots Q (F0 m (pc + 1) ls (rest))) : W p l e R s m args below meth c H locs cells slots Q (F0 m (pc) ls (.int (bI (v)) :: .int (nI i) :: .ref (ad 10) :: rest)) := by
  refine va_zast E.1.1 E.1.2.1 E.2 hP (hD σ) hS 10 2 rfl rfl (vp_in_nI hi (by decide)) hd (fun H1 l1 h1 _ h3 => kk H1 l1 ?_ h3)
  have e9 : upd (fun i => bI (gmfI σ i)) (nI i).toNatClampNeg (vp_nar .boolean (bI (v))) = fun j => bI (va_up (gmfI σ) i v j) := by
    funext j
    rw [nI_clamp (Nat.lt_trans hi (by decide)), bI_nar]
    unfold upd va_up
    split <;> rfl
  rw [e9] at h1
  exact h1
theorem ld_MS_fV {i : Nat} (E : Cx p s m args c cc nL own x0 D (t3 cI cJ cZ)) (hP : va_P D vwCl (wR ad cI cJ cZ σ) H) (hi : i < 1260) (hd : decode cc pc = .ok (.iaload, 1)) (kk : W p l e R s m args below meth c H locs cells slots Q (F0 m (pc + 1) ls (.int (gmfV σ i) :: rest))) : W p l e R s m args below meth c H locs cells slots Q (F0 m (pc) ls (.int (nI i) :: .ref (ad 11) :: rest)) := by
  refine va_iald E.1.1 E.1.2.1 E.2 hP 11 0 rfl rfl (vp_in_nI hi (by decide)) hd ?_
  rw [nI_clamp (Nat.lt_trans hi (by decide))]
  exact kk
theorem as_MS_fV {i : Nat} {v : Int32} (E : Cx p s m args c cc nL own x0 D (t3 cI cJ cZ)) (hP : va_P D vwCl (wR ad cI cJ cZ σ) H) (hD : ∀ τ, va_D A (wR ad cI cJ cZ τ)) (hS : va_S A H0 H locs) (hi : i < 1260) (hd : decode cc pc = .ok (.iastore, 1)) (kk : ∀ (H1 : Heap) (locs1 : List Loc), va_P D vwCl (wR ad cI cJ cZ (smfV σ (va_up (gmfV σ) i v))) H1 → va_S A H0 H1 locs1 → W p l e R s m args below meth c H1 locs1 cells slots Q (F0 m (pc + 1) ls (rest))) : W p l e R s m args below meth c H locs cells slots Q (F0 m (pc) ls (.int (v) :: .int (nI i) :: .ref (ad 11) :: rest)) := by
  refine va_iast E.1.1 E.1.2.1 E.2 hP (hD σ) hS 11 0 rfl rfl (vp_in_nI hi (by decide)) hd (fun H1 l1 h1 _ h3 => kk H1 l1 ?_ h3)
  have e9 : upd (fun i => gmfV σ i) (nI i).toNatClampNeg (v) = fun j => va_up (gmfV σ) i v j := by
    funext j
    rw [nI_clamp (Nat.lt_trans hi (by decide))]
    unfold upd va_up
    split <;> rfl
  rw [e9] at h1
  exact h1
theorem ld_MS_bo {i : Nat} (E : Cx p s m args c cc nL own x0 D (t3 cI cJ cZ)) (hP : va_P D vwCl (wR ad cI cJ cZ σ) H) (hi : i < 13) (hd : decode cc pc = .ok (.iaload, 1)) (kk : W p l e R s m args below meth c H locs cells slots Q (F0 m (pc + 1) ls (.int (nI (gmbo σ i)) :: rest))) : W p l e R s m args below meth c H locs cells slots Q (F0 m (pc) ls (.int (nI i) :: .ref (ad 12) :: rest)) := by
  refine va_iald E.1.1 E.1.2.1 E.2 hP 12 0 rfl rfl (vp_in_nI hi (by decide)) hd ?_
  rw [nI_clamp (Nat.lt_trans hi (by decide))]
  exact kk
theorem as_MS_bo {i : Nat} {v : Nat} (E : Cx p s m args c cc nL own x0 D (t3 cI cJ cZ)) (hP : va_P D vwCl (wR ad cI cJ cZ σ) H) (hD : ∀ τ, va_D A (wR ad cI cJ cZ τ)) (hS : va_S A H0 H locs) (hi : i < 13) (hd : decode cc pc = .ok (.iastore, 1)) (kk : ∀ (H1 : Heap) (locs1 : List Loc), va_P D vwCl (wR ad cI cJ cZ (smbo σ (va_up (gmbo σ) i v))) H1 → va_S A H0 H1 locs1 → W p l e R s m args below meth c H1 locs1 cells slots Q (F0 m (pc + 1) ls (rest))) : W p l e R s m args below meth c H locs cells slots Q (F0 m (pc) ls (.int (nI (v)) :: .int (nI i) :: .ref (ad 12) :: rest)) := by
  refine va_iast E.1.1 E.1.2.1 E.2 hP (hD σ) hS 12 0 rfl rfl (vp_in_nI hi (by decide)) hd (fun H1 l1 h1 _ h3 => kk H1 l1 ?_ h3)
  have e9 : upd (fun i => nI (gmbo σ i)) (nI i).toNatClampNeg (nI (v)) = fun j => nI (va_up (gmbo σ) i v j) := by
    funext j
    rw [nI_clamp (Nat.lt_trans hi (by decide))]
    unfold upd va_up
    split <;> rfl
  rw [e9] at h1
  exact h1
theorem ld_MS_pl {i : Nat} (E : Cx p s m args c cc nL own x0 D (t3 cI cJ cZ)) (hP : va_P D vwCl (wR ad cI cJ cZ σ) H) (hi : i < 13) (hd : decode cc pc = .ok (.iaload, 1)) (kk : W p l e R s m args below meth c H locs cells slots Q (F0 m (pc + 1) ls (.int (nI (gmpl σ i)) :: rest))) : W p l e R s m args below meth c H locs cells slots Q (F0 m (pc) ls (.int (nI i) :: .ref (ad 13) :: rest)) := by
  refine va_iald E.1.1 E.1.2.1 E.2 hP 13 0 rfl rfl (vp_in_nI hi (by decide)) hd ?_
  rw [nI_clamp (Nat.lt_trans hi (by decide))]
  exact kk
theorem as_MS_pl {i : Nat} {v : Nat} (E : Cx p s m args c cc nL own x0 D (t3 cI cJ cZ)) (hP : va_P D vwCl (wR ad cI cJ cZ σ) H) (hD : ∀ τ, va_D A (wR ad cI cJ cZ τ)) (hS : va_S A H0 H locs) (hi : i < 13) (hd : decode cc pc = .ok (.iastore, 1)) (kk : ∀ (H1 : Heap) (locs1 : List Loc), va_P D vwCl (wR ad cI cJ cZ (smpl σ (va_up (gmpl σ) i v))) H1 → va_S A H0 H1 locs1 → W p l e R s m args below meth c H1 locs1 cells slots Q (F0 m (pc + 1) ls (rest))) : W p l e R s m args below meth c H locs cells slots Q (F0 m (pc) ls (.int (nI (v)) :: .int (nI i) :: .ref (ad 13) :: rest)) := by
  refine va_iast E.1.1 E.1.2.1 E.2 hP (hD σ) hS 13 0 rfl rfl (vp_in_nI hi (by decide)) hd (fun H1 l1 h1 _ h3 => kk H1 l1 ?_ h3)
  have e9 : upd (fun i => nI (gmpl σ i)) (nI i).toNatClampNeg (nI (v)) = fun j => nI (va_up (gmpl σ) i v j) := by
    funext j
    rw [nI_clamp (Nat.lt_trans hi (by decide))]
    unfold upd va_up
    split <;> rfl
  rw [e9] at h1
  exact h1
theorem ld_MS_wa {i : Nat} (E : Cx p s m args c cc nL own x0 D (t3 cI cJ cZ)) (hP : va_P D vwCl (wR ad cI cJ cZ σ) H) (hi : i < 13) (hd : decode cc pc = .ok (.iaload, 1)) (kk : W p l e R s m args below meth c H locs cells slots Q (F0 m (pc + 1) ls (.int (nI (gmwa σ i)) :: rest))) : W p l e R s m args below meth c H locs cells slots Q (F0 m (pc) ls (.int (nI i) :: .ref (ad 14) :: rest)) := by
  refine va_iald E.1.1 E.1.2.1 E.2 hP 14 0 rfl rfl (vp_in_nI hi (by decide)) hd ?_
  rw [nI_clamp (Nat.lt_trans hi (by decide))]
  exact kk
theorem as_MS_wa {i : Nat} {v : Nat} (E : Cx p s m args c cc nL own x0 D (t3 cI cJ cZ)) (hP : va_P D vwCl (wR ad cI cJ cZ σ) H) (hD : ∀ τ, va_D A (wR ad cI cJ cZ τ)) (hS : va_S A H0 H locs) (hi : i < 13) (hd : decode cc pc = .ok (.iastore, 1)) (kk : ∀ (H1 : Heap) (locs1 : List Loc), va_P D vwCl (wR ad cI cJ cZ (smwa σ (va_up (gmwa σ) i v))) H1 → va_S A H0 H1 locs1 → W p l e R s m args below meth c H1 locs1 cells slots Q (F0 m (pc + 1) ls (rest))) : W p l e R s m args below meth c H locs cells slots Q (F0 m (pc) ls (.int (nI (v)) :: .int (nI i) :: .ref (ad 14) :: rest)) := by
  refine va_iast E.1.1 E.1.2.1 E.2 hP (hD σ) hS 14 0 rfl rfl (vp_in_nI hi (by decide)) hd (fun H1 l1 h1 _ h3 => kk H1 l1 ?_ h3)
  have e9 : upd (fun i => nI (gmwa σ i)) (nI i).toNatClampNeg (nI (v)) = fun j => nI (va_up (gmwa σ) i v j) := by
    funext j
    rw [nI_clamp (Nat.lt_trans hi (by decide))]
    unfold upd va_up
    split <;> rfl
  rw [e9] at h1
  exact h1
theorem ld_MS_is {i : Nat} (E : Cx p s m args c cc nL own x0 D (t3 cI cJ cZ)) (hP : va_P D vwCl (wR ad cI cJ cZ σ) H) (hi : i < 78) (hd : decode cc pc = .ok (.baload, 1)) (kk : W p l e R s m args below meth c H locs cells slots Q (F0 m (pc + 1) ls (.int (bI (gmis σ i)) :: rest))) : W p l e R s m args below meth c H locs cells slots Q (F0 m (pc) ls (.int (nI i) :: .ref (ad 15) :: rest)) := by
  refine va_zald E.1.1 E.1.2.1 E.2 hP 15 2 rfl rfl (vp_in_nI hi (by decide)) hd ?_
  rw [nI_clamp (Nat.lt_trans hi (by decide))]
  exact kk
theorem as_MS_is {i : Nat} {v : Bool} (E : Cx p s m args c cc nL own x0 D (t3 cI cJ cZ)) (hP : va_P D vwCl (wR ad cI cJ cZ σ) H) (hD : ∀ τ, va_D A (wR ad cI cJ cZ τ)) (hS : va_S A H0 H locs) (hi : i < 78) (hd : decode cc pc = .ok (.bastore, 1)) (kk : ∀ (H1 : Heap) (locs1 : List Loc), va_P D vwCl (wR ad cI cJ cZ (smis σ (va_up (gmis σ) i v))) H1 → va_S A H0 H1 locs1 → W p l e R s m args below meth c H1 locs1 cells slots Q (F0 m (pc + 1) ls (rest))) : W p l e R s m args below meth c H locs cells slots Q (F0 m (pc) ls (.int (bI (v)) :: .int (nI i) :: .ref (ad 15) :: rest)) := by
  refine va_zast E.1.1 E.1.2.1 E.2 hP (hD σ) hS 15 2 rfl rfl (vp_in_nI hi (by decide)) hd (fun H1 l1 h1 _ h3 => kk H1 l1 ?_ h3)
  have e9 : upd (fun i => bI (gmis σ i)) (nI i).toNatClampNeg (vp_nar .boolean (bI (v))) = fun j => bI (va_up (gmis σ) i v j) := by
    funext j
    rw [nI_clamp (Nat.lt_trans hi (by decide)), bI_nar]
    unfold upd va_up
    split <;> rfl
  rw [e9] at h1
  exact h1
theorem ld_MS_va {i : Nat} (E : Cx p s m args c cc nL own x0 D (t3 cI cJ cZ)) (hP : va_P D vwCl (wR ad cI cJ cZ σ) H) (hi : i < 78) (hd : decode cc pc = .ok (.iaload, 1)) (kk : W p l e R s m args below meth c H locs cells slots Q (F0 m (pc + 1) ls (.int (gmva σ i) :: rest))) : W p l e R s m args below meth c H locs cells slots Q (F0 m (pc) ls (.int (nI i) :: .ref (ad 16) :: rest)) := by
  refine va_iald E.1.1 E.1.2.1 E.2 hP 16 0 rfl rfl (vp_in_nI hi (by decide)) hd ?_
  rw [nI_clamp (Nat.lt_trans hi (by decide))]
  exact kk
theorem as_MS_va {i : Nat} {v : Int32} (E : Cx p s m args c cc nL own x0 D (t3 cI cJ cZ)) (hP : va_P D vwCl (wR ad cI cJ cZ σ) H) (hD : ∀ τ, va_D A (wR ad cI cJ cZ τ)) (hS : va_S A H0 H locs) (hi : i < 78) (hd : decode cc pc = .ok (.iastore, 1)) (kk : ∀ (H1 : Heap) (locs1 : List Loc), va_P D vwCl (wR ad cI cJ cZ (smva σ (va_up (gmva σ) i v))) H1 → va_S A H0 H1 locs1 → W p l e R s m args below meth c H1 locs1 cells slots Q (F0 m (pc + 1) ls (rest))) : W p l e R s m args below meth c H locs cells slots Q (F0 m (pc) ls (.int (v) :: .int (nI i) :: .ref (ad 16) :: rest)) := by
  refine va_iast E.1.1 E.1.2.1 E.2 hP (hD σ) hS 16 0 rfl rfl (vp_in_nI hi (by decide)) hd (fun H1 l1 h1 _ h3 => kk H1 l1 ?_ h3)
  have e9 : upd (fun i => gmva σ i) (nI i).toNatClampNeg (v) = fun j => va_up (gmva σ) i v j := by
    funext j
    rw [nI_clamp (Nat.lt_trans hi (by decide))]
    unfold upd va_up
    split <;> rfl
  rw [e9] at h1
  exact h1
theorem ld_MS_ou {i : Nat} (E : Cx p s m args c cc nL own x0 D (t3 cI cJ cZ)) (hP : va_P D vwCl (wR ad cI cJ cZ σ) H) (hi : i < 40) (hd : decode cc pc = .ok (.iaload, 1)) (kk : W p l e R s m args below meth c H locs cells slots Q (F0 m (pc + 1) ls (.int (gmou σ i) :: rest))) : W p l e R s m args below meth c H locs cells slots Q (F0 m (pc) ls (.int (nI i) :: .ref (ad 17) :: rest)) := by
  refine va_iald E.1.1 E.1.2.1 E.2 hP 17 0 rfl rfl (vp_in_nI hi (by decide)) hd ?_
  rw [nI_clamp (Nat.lt_trans hi (by decide))]
  exact kk
theorem as_MS_ou {i : Nat} {v : Int32} (E : Cx p s m args c cc nL own x0 D (t3 cI cJ cZ)) (hP : va_P D vwCl (wR ad cI cJ cZ σ) H) (hD : ∀ τ, va_D A (wR ad cI cJ cZ τ)) (hS : va_S A H0 H locs) (hi : i < 40) (hd : decode cc pc = .ok (.iastore, 1)) (kk : ∀ (H1 : Heap) (locs1 : List Loc), va_P D vwCl (wR ad cI cJ cZ (smou σ (va_up (gmou σ) i v))) H1 → va_S A H0 H1 locs1 → W p l e R s m args below meth c H1 locs1 cells slots Q (F0 m (pc + 1) ls (rest))) : W p l e R s m args below meth c H locs cells slots Q (F0 m (pc) ls (.int (v) :: .int (nI i) :: .ref (ad 17) :: rest)) := by
  refine va_iast E.1.1 E.1.2.1 E.2 hP (hD σ) hS 17 0 rfl rfl (vp_in_nI hi (by decide)) hd (fun H1 l1 h1 _ h3 => kk H1 l1 ?_ h3)
  have e9 : upd (fun i => gmou σ i) (nI i).toNatClampNeg (v) = fun j => va_up (gmou σ) i v j := by
    funext j
    rw [nI_clamp (Nat.lt_trans hi (by decide))]
    unfold upd va_up
    split <;> rfl
  rw [e9] at h1
  exact h1
theorem ld_MS_ct {i : Nat} (E : Cx p s m args c cc nL own x0 D (t3 cI cJ cZ)) (hP : va_P D vwCl (wR ad cI cJ cZ σ) H) (hi : i < 6) (hd : decode cc pc = .ok (.iaload, 1)) (kk : W p l e R s m args below meth c H locs cells slots Q (F0 m (pc + 1) ls (.int (nI (gmct σ i)) :: rest))) : W p l e R s m args below meth c H locs cells slots Q (F0 m (pc) ls (.int (nI i) :: .ref (ad 18) :: rest)) := by
  refine va_iald E.1.1 E.1.2.1 E.2 hP 18 0 rfl rfl (vp_in_nI hi (by decide)) hd ?_
  rw [nI_clamp (Nat.lt_trans hi (by decide))]
  exact kk
theorem as_MS_ct {i : Nat} {v : Nat} (E : Cx p s m args c cc nL own x0 D (t3 cI cJ cZ)) (hP : va_P D vwCl (wR ad cI cJ cZ σ) H) (hD : ∀ τ, va_D A (wR ad cI cJ cZ τ)) (hS : va_S A H0 H locs) (hi : i < 6) (hd : decode cc pc = .ok (.iastore, 1)) (kk : ∀ (H1 : Heap) (locs1 : List Loc), va_P D vwCl (wR ad cI cJ cZ (smct σ (va_up (gmct σ) i v))) H1 → va_S A H0 H1 locs1 → W p l e R s m args below meth c H1 locs1 cells slots Q (F0 m (pc + 1) ls (rest))) : W p l e R s m args below meth c H locs cells slots Q (F0 m (pc) ls (.int (nI (v)) :: .int (nI i) :: .ref (ad 18) :: rest)) := by
  refine va_iast E.1.1 E.1.2.1 E.2 hP (hD σ) hS 18 0 rfl rfl (vp_in_nI hi (by decide)) hd (fun H1 l1 h1 _ h3 => kk H1 l1 ?_ h3)
  have e9 : upd (fun i => nI (gmct σ i)) (nI i).toNatClampNeg (nI (v)) = fun j => nI (va_up (gmct σ) i v j) := by
    funext j
    rw [nI_clamp (Nat.lt_trans hi (by decide))]
    unfold upd va_up
    split <;> rfl
  rw [e9] at h1
  exact h1
end RMS
end
