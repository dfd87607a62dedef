section
-- ===== PART A: goes FIRST, ahead of the names: the tables' words, and 'selects' of the private methods out of them =====
/-- a private method of a class that the tables say can be made, by its rows of tables_1 -/
def lw_okq (q : MethodName × Nat) : Prop := (q.1.cls ≠ "java/lang/invoke/MethodHandle" ∧ q.1.cls ≠ "java/lang/invoke/VarHandle") ∧ Cond.instantiable q.1.cls q.2 ∈ tables_1 ∧ Cond.privateMethod q.1 ∈ tables_1 ∧ Cond.instanceMethod q.1 ∈ tables_1
theorem lw_p0 : lw_okq (⟨"FrameClay", "lampLight", "()I"⟩, 12) := ⟨⟨by decide +kernel, by decide +kernel⟩, List.mem_of_getElem? (i := 17) (by decide +kernel), List.mem_of_getElem? (i := 90) (by decide +kernel), List.mem_of_getElem? (i := 91) (by decide +kernel)⟩
theorem lw_p1 : lw_okq (⟨"java/lang/Throwable", "fillInStackTrace", "(I)Ljava/lang/Throwable;"⟩, 6) := ⟨⟨by decide +kernel, by decide +kernel⟩, List.mem_of_getElem? (i := 151) (by decide +kernel), List.mem_of_getElem? (i := 149) (by decide +kernel), List.mem_of_getElem? (i := 150) (by decide +kernel)⟩
theorem lw_p2 : lw_okq (⟨"FrameClay", "puppetAt", "(I)LFrameClay$Puppet;"⟩, 12) := ⟨⟨by decide +kernel, by decide +kernel⟩, List.mem_of_getElem? (i := 17) (by decide +kernel), List.mem_of_getElem? (i := 228) (by decide +kernel), List.mem_of_getElem? (i := 229) (by decide +kernel)⟩
theorem lw_p3 : lw_okq (⟨"FrameClay", "needVoiceOrNone", "(I)V"⟩, 12) := ⟨⟨by decide +kernel, by decide +kernel⟩, List.mem_of_getElem? (i := 17) (by decide +kernel), List.mem_of_getElem? (i := 280) (by decide +kernel), List.mem_of_getElem? (i := 281) (by decide +kernel)⟩
theorem lw_p4 : lw_okq (⟨"FrameClay", "shotAt", "(I)LFrameClay$Shot;"⟩, 12) := ⟨⟨by decide +kernel, by decide +kernel⟩, List.mem_of_getElem? (i := 17) (by decide +kernel), List.mem_of_getElem? (i := 389) (by decide +kernel), List.mem_of_getElem? (i := 390) (by decide +kernel)⟩
theorem lw_p5 : lw_okq (⟨"FrameClay", "needShot", "(I)V"⟩, 12) := ⟨⟨by decide +kernel, by decide +kernel⟩, List.mem_of_getElem? (i := 17) (by decide +kernel), List.mem_of_getElem? (i := 393) (by decide +kernel), List.mem_of_getElem? (i := 394) (by decide +kernel)⟩
theorem lw_p6 : lw_okq (⟨"FrameClay", "isIll", "(I)Z"⟩, 12) := ⟨⟨by decide +kernel, by decide +kernel⟩, List.mem_of_getElem? (i := 17) (by decide +kernel), List.mem_of_getElem? (i := 411) (by decide +kernel), List.mem_of_getElem? (i := 412) (by decide +kernel)⟩
theorem lw_p7 : lw_okq (⟨"FrameClay$Track", "keyUpTo", "(I)I"⟩, 3) := ⟨⟨by decide +kernel, by decide +kernel⟩, List.mem_of_getElem? (i := 292) (by decide +kernel), List.mem_of_getElem? (i := 470) (by decide +kernel), List.mem_of_getElem? (i := 471) (by decide +kernel)⟩
theorem lw_p8 : lw_okq (⟨"FrameClay$Track", "keyFrom", "(I)I"⟩, 3) := ⟨⟨by decide +kernel, by decide +kernel⟩, List.mem_of_getElem? (i := 292) (by decide +kernel), List.mem_of_getElem? (i := 474) (by decide +kernel), List.mem_of_getElem? (i := 475) (by decide +kernel)⟩
theorem lw_p9 : lw_okq (⟨"FrameClay$Track", "between", "(III)I"⟩, 3) := ⟨⟨by decide +kernel, by decide +kernel⟩, List.mem_of_getElem? (i := 292) (by decide +kernel), List.mem_of_getElem? (i := 478) (by decide +kernel), List.mem_of_getElem? (i := 479) (by decide +kernel)⟩
theorem lw_p10 : lw_okq (⟨"FrameClay", "barOf", "(LFrameClay$Shot;)I"⟩, 12) := ⟨⟨by decide +kernel, by decide +kernel⟩, List.mem_of_getElem? (i := 17) (by decide +kernel), List.mem_of_getElem? (i := 515) (by decide +kernel), List.mem_of_getElem? (i := 516) (by decide +kernel)⟩
theorem lw_p11 : lw_okq (⟨"FrameClay", "animatorIsBusy", "(LFrameClay$Shot;)Z"⟩, 12) := ⟨⟨by decide +kernel, by decide +kernel⟩, List.mem_of_getElem? (i := 17) (by decide +kernel), List.mem_of_getElem? (i := 519) (by decide +kernel), List.mem_of_getElem? (i := 520) (by decide +kernel)⟩
theorem lw_p12 : lw_okq (⟨"FrameClay", "puppetIsBusy", "(LFrameClay$Shot;)Z"⟩, 12) := ⟨⟨by decide +kernel, by decide +kernel⟩, List.mem_of_getElem? (i := 17) (by decide +kernel), List.mem_of_getElem? (i := 529) (by decide +kernel), List.mem_of_getElem? (i := 530) (by decide +kernel)⟩
theorem lw_p13 : lw_okq (⟨"FrameClay", "barOfPosing", "(LFrameClay$Shot;)I"⟩, 12) := ⟨⟨by decide +kernel, by decide +kernel⟩, List.mem_of_getElem? (i := 17) (by decide +kernel), List.mem_of_getElem? (i := 533) (by decide +kernel), List.mem_of_getElem? (i := 534) (by decide +kernel)⟩
theorem lw_p14 : lw_okq (⟨"FrameClay", "mouthWanted", "(LFrameClay$Shot;I)I"⟩, 12) := ⟨⟨by decide +kernel, by decide +kernel⟩, List.mem_of_getElem? (i := 17) (by decide +kernel), List.mem_of_getElem? (i := 541) (by decide +kernel), List.mem_of_getElem? (i := 542) (by decide +kernel)⟩
theorem lw_p15 : lw_okq (⟨"FrameClay", "sheetMouth", "(LFrameClay$Shot;I)I"⟩, 12) := ⟨⟨by decide +kernel, by decide +kernel⟩, List.mem_of_getElem? (i := 17) (by decide +kernel), List.mem_of_getElem? (i := 545) (by decide +kernel), List.mem_of_getElem? (i := 546) (by decide +kernel)⟩
def lw_privs_1 : List (MethodName × Nat) := [(⟨"FrameClay", "lampLight", "()I"⟩, 12), (⟨"java/lang/Throwable", "fillInStackTrace", "(I)Ljava/lang/Throwable;"⟩, 6), (⟨"FrameClay", "puppetAt", "(I)LFrameClay$Puppet;"⟩, 12), (⟨"FrameClay", "needVoiceOrNone", "(I)V"⟩, 12), (⟨"FrameClay", "shotAt", "(I)LFrameClay$Shot;"⟩, 12), (⟨"FrameClay", "needShot", "(I)V"⟩, 12), (⟨"FrameClay", "isIll", "(I)Z"⟩, 12), (⟨"FrameClay$Track", "keyUpTo", "(I)I"⟩, 3), (⟨"FrameClay$Track", "keyFrom", "(I)I"⟩, 3), (⟨"FrameClay$Track", "between", "(III)I"⟩, 3), (⟨"FrameClay", "barOf", "(LFrameClay$Shot;)I"⟩, 12), (⟨"FrameClay", "animatorIsBusy", "(LFrameClay$Shot;)Z"⟩, 12), (⟨"FrameClay", "puppetIsBusy", "(LFrameClay$Shot;)Z"⟩, 12), (⟨"FrameClay", "barOfPosing", "(LFrameClay$Shot;)I"⟩, 12), (⟨"FrameClay", "mouthWanted", "(LFrameClay$Shot;I)I"⟩, 12), (⟨"FrameClay", "sheetMouth", "(LFrameClay$Shot;I)I"⟩, 12)]
theorem lw_r1 : ∀ q ∈ lw_privs_1, lw_okq q := List.forall_mem_cons.mpr ⟨lw_p0, List.forall_mem_cons.mpr ⟨lw_p1, List.forall_mem_cons.mpr ⟨lw_p2, List.forall_mem_cons.mpr ⟨lw_p3, List.forall_mem_cons.mpr ⟨lw_p4, List.forall_mem_cons.mpr ⟨lw_p5, List.forall_mem_cons.mpr ⟨lw_p6, List.forall_mem_cons.mpr ⟨lw_p7, List.forall_mem_cons.mpr ⟨lw_p8, List.forall_mem_cons.mpr ⟨lw_p9, List.forall_mem_cons.mpr ⟨lw_p10, List.forall_mem_cons.mpr ⟨lw_p11, List.forall_mem_cons.mpr ⟨lw_p12, List.forall_mem_cons.mpr ⟨lw_p13, List.forall_mem_cons.mpr ⟨lw_p14, List.forall_mem_cons.mpr ⟨lw_p15, fun _ h => absurd h List.not_mem_nil⟩⟩⟩⟩⟩⟩⟩⟩⟩⟩⟩⟩⟩⟩⟩⟩
theorem lw_p16 : lw_okq (⟨"FrameClay", "poseNext", "(LFrameClay$Shot;I)V"⟩, 12) := ⟨⟨by decide +kernel, by decide +kernel⟩, List.mem_of_getElem? (i := 17) (by decide +kernel), List.mem_of_getElem? (i := 571) (by decide +kernel), List.mem_of_getElem? (i := 572) (by decide +kernel)⟩
theorem lw_p17 : lw_okq (⟨"FrameClay$Reel", "cameraOfNext", "(I)I"⟩, 7) := ⟨⟨by decide +kernel, by decide +kernel⟩, List.mem_of_getElem? (i := 308) (by decide +kernel), List.mem_of_getElem? (i := 587) (by decide +kernel), List.mem_of_getElem? (i := 588) (by decide +kernel)⟩
theorem lw_p18 : lw_okq (⟨"FrameClay", "cutIndex", "(I)I"⟩, 12) := ⟨⟨by decide +kernel, by decide +kernel⟩, List.mem_of_getElem? (i := 17) (by decide +kernel), List.mem_of_getElem? (i := 617) (by decide +kernel), List.mem_of_getElem? (i := 618) (by decide +kernel)⟩
theorem lw_p19 : lw_okq (⟨"FrameClay", "filmLength", "()I"⟩, 12) := ⟨⟨by decide +kernel, by decide +kernel⟩, List.mem_of_getElem? (i := 17) (by decide +kernel), List.mem_of_getElem? (i := 637) (by decide +kernel), List.mem_of_getElem? (i := 638) (by decide +kernel)⟩
theorem lw_p20 : lw_okq (⟨"FrameClayModel", "fails", "(I)Z"⟩, 31) := ⟨⟨by decide +kernel, by decide +kernel⟩, List.mem_of_getElem? (i := 752) (by decide +kernel), List.mem_of_getElem? (i := 864) (by decide +kernel), List.mem_of_getElem? (i := 865) (by decide +kernel)⟩
theorem lw_p21 : lw_okq (⟨"FrameClayModel", "isPuppet", "(I)Z"⟩, 31) := ⟨⟨by decide +kernel, by decide +kernel⟩, List.mem_of_getElem? (i := 752) (by decide +kernel), List.mem_of_getElem? (i := 875) (by decide +kernel), List.mem_of_getElem? (i := 876) (by decide +kernel)⟩
theorem lw_p22 : lw_okq (⟨"FrameClayModel", "isVoice", "(I)Z"⟩, 31) := ⟨⟨by decide +kernel, by decide +kernel⟩, List.mem_of_getElem? (i := 752) (by decide +kernel), List.mem_of_getElem? (i := 891) (by decide +kernel), List.mem_of_getElem? (i := 892) (by decide +kernel)⟩
theorem lw_p23 : lw_okq (⟨"FrameClayModel", "isShot", "(I)Z"⟩, 31) := ⟨⟨by decide +kernel, by decide +kernel⟩, List.mem_of_getElem? (i := 752) (by decide +kernel), List.mem_of_getElem? (i := 899) (by decide +kernel), List.mem_of_getElem? (i := 900) (by decide +kernel)⟩
theorem lw_p24 : lw_okq (⟨"FrameClayModel", "isDone", "(I)Z"⟩, 31) := ⟨⟨by decide +kernel, by decide +kernel⟩, List.mem_of_getElem? (i := 752) (by decide +kernel), List.mem_of_getElem? (i := 906) (by decide +kernel), List.mem_of_getElem? (i := 907) (by decide +kernel)⟩
theorem lw_p25 : lw_okq (⟨"FrameClayModel", "isJointOf", "(II)Z"⟩, 31) := ⟨⟨by decide +kernel, by decide +kernel⟩, List.mem_of_getElem? (i := 752) (by decide +kernel), List.mem_of_getElem? (i := 922) (by decide +kernel), List.mem_of_getElem? (i := 923) (by decide +kernel)⟩
theorem lw_p26 : lw_okq (⟨"FrameClayModel", "isJoint", "(II)Z"⟩, 31) := ⟨⟨by decide +kernel, by decide +kernel⟩, List.mem_of_getElem? (i := 752) (by decide +kernel), List.mem_of_getElem? (i := 926) (by decide +kernel), List.mem_of_getElem? (i := 927) (by decide +kernel)⟩
theorem lw_p27 : lw_okq (⟨"FrameClayModel", "isFrame", "(II)Z"⟩, 31) := ⟨⟨by decide +kernel, by decide +kernel⟩, List.mem_of_getElem? (i := 752) (by decide +kernel), List.mem_of_getElem? (i := 930) (by decide +kernel), List.mem_of_getElem? (i := 931) (by decide +kernel)⟩
theorem lw_p28 : lw_okq (⟨"FrameClayModel", "isHeld", "(II)Z"⟩, 31) := ⟨⟨by decide +kernel, by decide +kernel⟩, List.mem_of_getElem? (i := 752) (by decide +kernel), List.mem_of_getElem? (i := 934) (by decide +kernel), List.mem_of_getElem? (i := 935) (by decide +kernel)⟩
theorem lw_p29 : lw_okq (⟨"FrameClayModel", "degreeAt", "(III)I"⟩, 31) := ⟨⟨by decide +kernel, by decide +kernel⟩, List.mem_of_getElem? (i := 752) (by decide +kernel), List.mem_of_getElem? (i := 938) (by decide +kernel), List.mem_of_getElem? (i := 939) (by decide +kernel)⟩
theorem lw_p30 : lw_okq (⟨"FrameClayModel", "row", "(II)I"⟩, 31) := ⟨⟨by decide +kernel, by decide +kernel⟩, List.mem_of_getElem? (i := 752) (by decide +kernel), List.mem_of_getElem? (i := 942) (by decide +kernel), List.mem_of_getElem? (i := 943) (by decide +kernel)⟩
theorem lw_p31 : lw_okq (⟨"FrameClayModel", "placeAt", "(II)I"⟩, 31) := ⟨⟨by decide +kernel, by decide +kernel⟩, List.mem_of_getElem? (i := 752) (by decide +kernel), List.mem_of_getElem? (i := 953) (by decide +kernel), List.mem_of_getElem? (i := 954) (by decide +kernel)⟩
def lw_privs_2 : List (MethodName × Nat) := [(⟨"FrameClay", "poseNext", "(LFrameClay$Shot;I)V"⟩, 12), (⟨"FrameClay$Reel", "cameraOfNext", "(I)I"⟩, 7), (⟨"FrameClay", "cutIndex", "(I)I"⟩, 12), (⟨"FrameClay", "filmLength", "()I"⟩, 12), (⟨"FrameClayModel", "fails", "(I)Z"⟩, 31), (⟨"FrameClayModel", "isPuppet", "(I)Z"⟩, 31), (⟨"FrameClayModel", "isVoice", "(I)Z"⟩, 31), (⟨"FrameClayModel", "isShot", "(I)Z"⟩, 31), (⟨"FrameClayModel", "isDone", "(I)Z"⟩, 31), (⟨"FrameClayModel", "isJointOf", "(II)Z"⟩, 31), (⟨"FrameClayModel", "isJoint", "(II)Z"⟩, 31), (⟨"FrameClayModel", "isFrame", "(II)Z"⟩, 31), (⟨"FrameClayModel", "isHeld", "(II)Z"⟩, 31), (⟨"FrameClayModel", "degreeAt", "(III)I"⟩, 31), (⟨"FrameClayModel", "row", "(II)I"⟩, 31), (⟨"FrameClayModel", "placeAt", "(II)I"⟩, 31)]
theorem lw_r2 : ∀ q ∈ lw_privs_2, lw_okq q := List.forall_mem_cons.mpr ⟨lw_p16, List.forall_mem_cons.mpr ⟨lw_p17, List.forall_mem_cons.mpr ⟨lw_p18, List.forall_mem_cons.mpr ⟨lw_p19, List.forall_mem_cons.mpr ⟨lw_p20, List.forall_mem_cons.mpr ⟨lw_p21, List.forall_mem_cons.mpr ⟨lw_p22, List.forall_mem_cons.mpr ⟨lw_p23, List.forall_mem_cons.mpr ⟨lw_p24, List.forall_mem_cons.mpr ⟨lw_p25, List.forall_mem_cons.mpr ⟨lw_p26, List.forall_mem_cons.mpr ⟨lw_p27, List.forall_mem_cons.mpr ⟨lw_p28, List.forall_mem_cons.mpr ⟨lw_p29, List.forall_mem_cons.mpr ⟨lw_p30, List.forall_mem_cons.mpr ⟨lw_p31, fun _ h => absurd h List.not_mem_nil⟩⟩⟩⟩⟩⟩⟩⟩⟩⟩⟩⟩⟩⟩⟩⟩
theorem lw_p32 : lw_okq (⟨"FrameClayModel", "reason", "(I)I"⟩, 31) := ⟨⟨by decide +kernel, by decide +kernel⟩, List.mem_of_getElem? (i := 752) (by decide +kernel), List.mem_of_getElem? (i := 965) (by decide +kernel), List.mem_of_getElem? (i := 966) (by decide +kernel)⟩
theorem lw_p33 : lw_okq (⟨"FrameClayModel", "isOn", "(I)Z"⟩, 31) := ⟨⟨by decide +kernel, by decide +kernel⟩, List.mem_of_getElem? (i := 752) (by decide +kernel), List.mem_of_getElem? (i := 969) (by decide +kernel), List.mem_of_getElem? (i := 970) (by decide +kernel)⟩
theorem lw_p34 : lw_okq (⟨"FrameClayModel", "wanted", "(I)I"⟩, 31) := ⟨⟨by decide +kernel, by decide +kernel⟩, List.mem_of_getElem? (i := 752) (by decide +kernel), List.mem_of_getElem? (i := 973) (by decide +kernel), List.mem_of_getElem? (i := 974) (by decide +kernel)⟩
theorem lw_p35 : lw_okq (⟨"FrameClayModel", "mouthAt", "(II)I"⟩, 31) := ⟨⟨by decide +kernel, by decide +kernel⟩, List.mem_of_getElem? (i := 752) (by decide +kernel), List.mem_of_getElem? (i := 977) (by decide +kernel), List.mem_of_getElem? (i := 978) (by decide +kernel)⟩
theorem lw_p36 : lw_okq (⟨"FrameClayModel", "isBroken", "(I)Z"⟩, 31) := ⟨⟨by decide +kernel, by decide +kernel⟩, List.mem_of_getElem? (i := 752) (by decide +kernel), List.mem_of_getElem? (i := 981) (by decide +kernel), List.mem_of_getElem? (i := 982) (by decide +kernel)⟩
theorem lw_p37 : lw_okq (⟨"FrameClayModel", "holds", "(II)V"⟩, 31) := ⟨⟨by decide +kernel, by decide +kernel⟩, List.mem_of_getElem? (i := 752) (by decide +kernel), List.mem_of_getElem? (i := 985) (by decide +kernel), List.mem_of_getElem? (i := 986) (by decide +kernel)⟩
theorem lw_p38 : lw_okq (⟨"FrameClayModel", "poses", "(II)V"⟩, 31) := ⟨⟨by decide +kernel, by decide +kernel⟩, List.mem_of_getElem? (i := 752) (by decide +kernel), List.mem_of_getElem? (i := 989) (by decide +kernel), List.mem_of_getElem? (i := 990) (by decide +kernel)⟩
theorem lw_p39 : lw_okq (⟨"FrameClayModel", "stays", "(II)I"⟩, 31) := ⟨⟨by decide +kernel, by decide +kernel⟩, List.mem_of_getElem? (i := 752) (by decide +kernel), List.mem_of_getElem? (i := 996) (by decide +kernel), List.mem_of_getElem? (i := 997) (by decide +kernel)⟩
theorem lw_p40 : lw_okq (⟨"FrameClayModel", "lightNow", "()I"⟩, 31) := ⟨⟨by decide +kernel, by decide +kernel⟩, List.mem_of_getElem? (i := 752) (by decide +kernel), List.mem_of_getElem? (i := 1000) (by decide +kernel), List.mem_of_getElem? (i := 1001) (by decide +kernel)⟩
theorem lw_p41 : lw_okq (⟨"FrameClayModel", "isStruck", "(II)Z"⟩, 31) := ⟨⟨by decide +kernel, by decide +kernel⟩, List.mem_of_getElem? (i := 752) (by decide +kernel), List.mem_of_getElem? (i := 1016) (by decide +kernel), List.mem_of_getElem? (i := 1017) (by decide +kernel)⟩
theorem lw_p42 : lw_okq (⟨"FrameClayModel", "inFilm", "(I)I"⟩, 31) := ⟨⟨by decide +kernel, by decide +kernel⟩, List.mem_of_getElem? (i := 752) (by decide +kernel), List.mem_of_getElem? (i := 1020) (by decide +kernel), List.mem_of_getElem? (i := 1021) (by decide +kernel)⟩
theorem lw_p43 : lw_okq (⟨"FrameClayModel", "framesInFilm", "()I"⟩, 31) := ⟨⟨by decide +kernel, by decide +kernel⟩, List.mem_of_getElem? (i := 752) (by decide +kernel), List.mem_of_getElem? (i := 1036) (by decide +kernel), List.mem_of_getElem? (i := 1037) (by decide +kernel)⟩
def lw_privs_3 : List (MethodName × Nat) := [(⟨"FrameClayModel", "reason", "(I)I"⟩, 31), (⟨"FrameClayModel", "isOn", "(I)Z"⟩, 31), (⟨"FrameClayModel", "wanted", "(I)I"⟩, 31), (⟨"FrameClayModel", "mouthAt", "(II)I"⟩, 31), (⟨"FrameClayModel", "isBroken", "(I)Z"⟩, 31), (⟨"FrameClayModel", "holds", "(II)V"⟩, 31), (⟨"FrameClayModel", "poses", "(II)V"⟩, 31), (⟨"FrameClayModel", "stays", "(II)I"⟩, 31), (⟨"FrameClayModel", "lightNow", "()I"⟩, 31), (⟨"FrameClayModel", "isStruck", "(II)Z"⟩, 31), (⟨"FrameClayModel", "inFilm", "(I)I"⟩, 31), (⟨"FrameClayModel", "framesInFilm", "()I"⟩, 31)]
theorem lw_r3 : ∀ q ∈ lw_privs_3, lw_okq q := List.forall_mem_cons.mpr ⟨lw_p32, List.forall_mem_cons.mpr ⟨lw_p33, List.forall_mem_cons.mpr ⟨lw_p34, List.forall_mem_cons.mpr ⟨lw_p35, List.forall_mem_cons.mpr ⟨lw_p36, List.forall_mem_cons.mpr ⟨lw_p37, List.forall_mem_cons.mpr ⟨lw_p38, List.forall_mem_cons.mpr ⟨lw_p39, List.forall_mem_cons.mpr ⟨lw_p40, List.forall_mem_cons.mpr ⟨lw_p41, List.forall_mem_cons.mpr ⟨lw_p42, List.forall_mem_cons.mpr ⟨lw_p43, fun _ h => absurd h List.not_mem_nil⟩⟩⟩⟩⟩⟩⟩⟩⟩⟩⟩⟩
def lw_privs : List (MethodName × Nat) := lw_privs_1 ++ (lw_privs_2 ++ (lw_privs_3))
def lw_tbl : List Cond := k2_sels lw_privs ++ tables_1
theorem lw_privs_ok : ∀ q ∈ lw_privs, lw_okq q := by
  show ∀ q ∈ lw_privs_1 ++ (lw_privs_2 ++ (lw_privs_3)), lw_okq q
  exact List.forall_mem_append.mpr ⟨lw_r1, List.forall_mem_append.mpr ⟨lw_r2, lw_r3⟩⟩

/-! ===== BEGIN words of one list among another's, by their places ===== -/
theorem goodIn_r {big : List Cond} (ws : List Cond) (ps : List Nat) (hp : ws = ps.filterMap (fun i => big[i]?)) (h : ws.all goodWord = true) : GoodIn big ws := by
  intro w hw
  have h1 := List.all_eq_true.mp h w hw
  rw [hp] at hw
  obtain ⟨i, -, hi⟩ := List.mem_filterMap.mp hw
  have hm : w ∈ big := by first | exact List.mem_of_getElem? hi | exact List.getElem?_mem hi
  exact ⟨hm, good_of_word h1⟩
theorem goodIn_app {big a b : List Cond} (ha : GoodIn big a) (hb : GoodIn big b) : GoodIn big (a ++ b) := fun w h => (List.mem_append.mp h).elim (ha w) (hb w)
theorem goodIn_ca {big a b : List Cond} {c : Cond} (ha : GoodIn big (c :: a)) (hb : GoodIn big b) : GoodIn big (c :: (a ++ b)) := fun w h => (List.mem_cons.mp h).elim (fun e => ha w (List.mem_cons.mpr (Or.inl e))) (fun h => (List.mem_append.mp h).elim (fun h => ha w (List.mem_cons.mpr (Or.inr h))) (hb w))
theorem goodIn_sub {big ws : List Cond} (hm : ∀ w ∈ ws, w ∈ big) (h : ws.all goodWord = true) : GoodIn big ws := fun w hw => ⟨hm w hw, good_of_word (List.all_eq_true.mp h w hw)⟩
/-! ===== BEGIN exceptions that leave a method, and their catching by the caller (launches without stack traces) ===== -/
section VXA
/-! The laws vx_back, vx_callV, vx_callS, vx_callSW, vx_throw0, vx_throwS follow proofs of the library, with one case more: JvmDerived/Free/Laws.lean (Back.of_free), Shelf42/LK1.lean (callV, callS), Shelf/KitTraced.lean (throwNew0V, throwNewS). -/
/-- where a method has thrown q: the class by its name, the cell, what was written, the world -/
def vx_T (XC : String → State → State → Prop) (st : State) (q : Addr) (t : State) (mc ms : Nat) (free : Addr → Prop) : Prop :=
  ∃ (E : String) (ce : Cell) (L : List Loc), XC E st t ∧ t.heap[q]? = some ce ∧ ce.vm = .none ∧ st.vm.findClass E = some ce.cls ∧ st.WarmedH t.vm ∧ st.sameButNew ({ t with vm := st.vm } : State) L mc ms ∧ ∀ z ∈ L, free z.base
def vx_Q (Qc : Array Value → State → Outcome → State → Prop) (XC : String → State → State → Prop) (mc ms : Nat) (free : Addr → Prop) : Array Value → State → Outcome → State → Prop := fun a st o t =>
  (Qc a st o t ∧ ∃ L, FrameEnd st o t L mc ms ∧ ∀ q ∈ L, free q.base) ∨ ∃ q, o = .threw q ∧ vx_T XC st q t mc ms free
/-- a callee that returns or throws -/
def vx_Met (l : Launch) (y : MethodName) (ws : List Cond) (rm : Room) (Pc : Array Value → State → Prop) (Qc : Array Value → State → Outcome → State → Prop) (XC : String → State → State → Prop) (mc ms : Nat) (free : Addr → Prop) : Prop :=
  MetFree l y (headSpec ws rm) Pc (fun _ _ _ _ _ => True) (vx_Q Qc XC mc ms free)
def vx_Post (XC : String → State → State → Prop) (mc ms : Nat) (free : Addr → Prop) : Pt → Array Value → Addr → Pt → Prop := fun A a q B =>
  ∃ (g : JFrame) (mk : MethodId) (t : State) (L : List Loc) (E : String) (ce : Cell), B.U.heap = t.heap ∧ B.U.vm = t.vm ∧ XC E (A.U.calling g mk a) t ∧ t.heap[q]? = some ce ∧ ce.vm = .none ∧ A.U.vm.findClass E = some ce.cls ∧ B.locs = A.locs ++ L ∧ (∀ z ∈ L, free z.base) ∧ B.cells = A.cells + mc ∧ B.slots = A.slots + ms
def vx_Back (l : Launch) (R : Room) (p : Program) (e : Env) (below : List Frame) (s : State) (sargs : Array Value) (y : MethodName) (len W9 : Nat)
    (Pre : Pt → Array Value → Prop) (Post : Pt → Array Value → Option Value → Pt → Prop) (PostX : Pt → Array Value → Addr → Pt → Prop) : Prop :=
  ∀ (m : MethodId) (meth : Method) (c : Code) (A : Pt) (g : JFrame) (ig : Instr) (mk : MethodId) (a : Array Value),
    Stand p l e R s m sargs below meth c A.U A.locs A.cells A.slots → g.method = m → g.locals.size = c.maxLocals → decode c.code g.pc = .ok (ig, len) →
    2 * g.monitorRoom + (g.stack.map fun v => v.category).sum ≤ W9 → A.U.methodNamed? y = some mk → Pre A a →
    (∃ (v : Option Value) (B : Pt), Stand p l e R s m sargs below meth c B.U B.locs B.cells B.slots ∧ Post A a v B ∧
      Steps p.tables e below (doInvoke e (A.U.setTop g) [] mk a).1 (B.U.setTop { g with pc := g.pc + len, stack := v.toList ++ g.stack })) ∨
    (∃ (q : Addr) (B : Pt), Stand p l e R s m sargs below meth c B.U B.locs B.cells B.slots ∧ PostX A a q B ∧
      Steps p.tables e below (doInvoke e (A.U.setTop g) [] mk a).1 ((B.U.setTop g).pushFrame (.throwing q)))
section Payer
variable {l : Launch} {R : Room} {p : Program} {e : Env} {below : List Frame} {s : State} {sargs : Array Value} {y : MethodName} {len W9 : Nat}
theorem vx_back {ws : List Cond} {rm : Room} {Pc : Array Value → State → Prop} {Qc : Array Value → State → Outcome → State → Prop} {XC : String → State → State → Prop} {mc ms : Nat} {free : Addr → Prop} {bytes : ByteArray} {maxL : Nat} {ret : Option FieldType}
    (hM : vx_Met l y ws rm Pc Qc XC mc ms free) (hblind : FrameBlind Pc) (hrc : rm.cells = mc) (hrs : rm.slots = ms)
    (hframes : rm.frames + 1 ≤ R.frames) (hlocals : W9 + (maxL + 11) + rm.locals ≤ R.locals)
    (hws : ∀ w ∈ ws, ∀ a' U, s.WarmedH U.vm → w.before a' U = true) (hcode : Cond.code y bytes maxL ret ∈ ws) (hinit : ∀ a' U, s.WarmedH U.vm → (Cond.initialized y.cls).before a' U = true) :
    vx_Back l R p e below s sargs y len W9 (PreOf R mc ms Pc) (PostOf Qc mc ms free) (vx_Post XC mc ms free) := by
  intro m meth c A g ig mk a X hg hsize hdg hW hn hp
  have h1 : (headSpec ws rm).pre.before a A.U = true := atoms_intro fun w hw => hws w hw _ _ X.warmed
  have h2 : (Cond.code y bytes maxL ret).before a A.U = true := hws _ hcode _ _ X.warmed
  have h3 : (Cond.initialized y.cls).before a A.U = true := hinit _ _ X.warmed
  have h4 : A.cells + (headSpec ws rm).room.cells ≤ R.cells := by rw [show (headSpec ws rm).room.cells = mc from hrc]; exact hp.1
  have h5 : A.slots + (headSpec ws rm).room.slots ≤ R.slots := by rw [show (headSpec ws rm).room.slots = ms from hrs]; exact hp.2.1
  have hPc : Pc a (A.U.calling g mk a) := hblind _ _ _ _ hp.2.2
  obtain ⟨U, Ls, c0, s0⟩ := A
  dsimp only [Pt.U, Pt.locs, Pt.cells, Pt.slots] at h1 h2 h3 h4 h5 X hn hPc ⊢
  obtain ⟨methY, cY, hmY, hcY, -, hlY, -, -, -, -⟩ := Cond.code_spec hn h2
  obtain ⟨kY, hkY, -⟩ := className_of_methodNamed hn
  have hinitY : kY.init = .initialized := Cond.initialized_spec (findClass_of_methodNamed hn) hkY h3
  have h : At U g.method c below := by rw [hg]; exact X.here
  have hlocals9 : W9 + (maxL + 11) + (headSpec ws rm).room.locals ≤ R.locals := hlocals
  have happ : (headSpec ws rm).appliesLoose y e.platform (U.calling g mk a) = true :=
    Spec.appliesLoose_calling (g := g) h hdg hn hkY hinitY
      (X.room_calling (g := g) (R' := (headSpec ws rm).room) hsize hmY hcY hframes (by rw [hlY]; omega) h4 h5) h1
  obtain ⟨mid, hmid⟩ := h.above
  have hfr : (U.setTop g).frames = (.java g :: mid) ++ below := by rw [State.frames_setTop' g h.top, hmid]; rfl
  obtain ⟨o, s₂, hsteps, -, hend, hq⟩ := Steps.callFree hM p X.admits X.cas X.clock (acts := []) hfr happ hPc trivial
  have hq' : vx_Q Qc XC mc ms free a (U.calling g mk a) o s₂ := hq
  rw [State.frames_setTop' g h.top] at hend
  obtain ⟨g₀, hg0⟩ := Option.isSome_iff_exists.mp h.top
  obtain ⟨r, hr⟩ := State.topJava?_eq_some.mp hg0
  have hr' : (({ U with heap := s₂.heap, slotsUsed := s₂.slotsUsed } : State).setVm s₂.vm).frames = .java g₀ :: r := hr
  rcases hq' with ⟨hqc, L, hfe, hL⟩ | ⟨q, rfl, E, ce, L, hx, hce, hcv, hcl, hW₂, hsm, hL⟩
  · obtain ⟨⟨v, rfl⟩, hW₂, e2, q2, q3, q4, q5, q6⟩ := id hfe
    have e3 : s₂ = ({ (U.calling g mk a).setFrames s₂.frames with heap := s₂.heap, slotsUsed := s₂.slotsUsed } : State).setVm s₂.vm := by
      have : s₂ = ({ s₂ with vm := (U.calling g mk a).vm } : State).setVm s₂.vm := rfl
      rw [e2] at this
      exact this
    obtain ⟨c₂, i₂, len₂, hc₂, hd₂, hf₂⟩ := hend
    have hW' : U.WarmedH s₂.vm := hW₂
    have hcc : c₂ = c := by
      have h1 : s₂.code? g.method = U.code? g.method := by
        rw [State.code?_eq, State.code?_eq, hW'.alike.method?]
      exact Option.some.inj (hc₂.symm.trans (h1.trans h.code))
    subst hcc
    have hlen : len₂ = len := by rw [hdg] at hd₂; cases hd₂; rfl
    subst hlen
    have hs₂ : s₂ = (({ U with heap := s₂.heap, slotsUsed := s₂.slotsUsed } : State).setVm s₂.vm).setTop { g with pc := g.pc + len₂, stack := v.toList ++ g.stack } := by
      refine e3.trans ?_
      rw [hf₂, State.calling_eq h.top, State.setFrames_setFrames, State.setTop_of_frames _ hr', hr]
      rfl
    have hsame : U.sameButNew ({ U with heap := s₂.heap, slotsUsed := s₂.slotsUsed } : State) L mc ms := by
      refine ⟨?_, q2, q3, q4, q5, q6⟩
      obtain ⟨t, ht, -⟩ := State.frames_cons hr
      show ({ U with heap := s₂.heap, slotsUsed := s₂.slotsUsed } : State) = { U.setFrames U.frames with heap := s₂.heap, slotsUsed := s₂.slotsUsed }
      rw [State.setFrames_self ht]
    subst hg
    refine Or.inl ⟨v, ⟨(({ U with heap := s₂.heap, slotsUsed := s₂.slotsUsed } : State).setVm s₂.vm), Ls ++ L, c0 + mc, s0 + ms⟩,
      ⟨X.admits, X.cas, X.clock, X.frames, X.room, X.hears, X.method, X.code, (X.here.setHeapUsed s₂.heap s₂.slotsUsed).setVm hW'.alike, X.tail, State.WarmedH.trans X.warmed hW', X.limits, X.bytes, X.same.trans (hsame.setVm s.vm)⟩,
      ⟨g, mk, s₂, L, rfl, rfl, hqc, rfl, hL, rfl, rfl⟩, ?_⟩
    show Steps p.tables e below _ ((({ U with heap := s₂.heap, slotsUsed := s₂.slotsUsed } : State).setVm s₂.vm).setTop { g with pc := g.pc + len₂, stack := v.toList ++ g.stack })
    rw [← hs₂]
    exact hsteps
  · obtain ⟨e2, q2, q3, q4, q5, q6⟩ := id hsm
    have e3 : s₂ = ({ (U.calling g mk a).setFrames s₂.frames with heap := s₂.heap, slotsUsed := s₂.slotsUsed } : State).setVm s₂.vm := by
      have : s₂ = ({ s₂ with vm := (U.calling g mk a).vm } : State).setVm s₂.vm := rfl
      rw [e2] at this
      exact this
    have hf₂ : s₂.frames = .throwing q :: .java g :: U.frames.tail := hend
    have hW' : U.WarmedH s₂.vm := hW₂
    have hs₂ : s₂ = ((({ U with heap := s₂.heap, slotsUsed := s₂.slotsUsed } : State).setVm s₂.vm).setTop g).pushFrame (.throwing q) := by
      refine e3.trans ?_
      rw [hf₂, State.calling_eq h.top, State.setFrames_setFrames, State.pushFrame, State.frames_setTop _ hr', State.setTop_of_frames _ hr', State.setFrames_setFrames, hr]
      rfl
    have hsame : U.sameButNew ({ U with heap := s₂.heap, slotsUsed := s₂.slotsUsed } : State) L mc ms := by
      refine ⟨?_, q2, q3, q4, q5, q6⟩
      obtain ⟨t, ht, -⟩ := State.frames_cons hr
      show ({ U with heap := s₂.heap, slotsUsed := s₂.slotsUsed } : State) = { U.setFrames U.frames with heap := s₂.heap, slotsUsed := s₂.slotsUsed }
      rw [State.setFrames_self ht]
    subst hg
    refine Or.inr ⟨q, ⟨(({ U with heap := s₂.heap, slotsUsed := s₂.slotsUsed } : State).setVm s₂.vm), Ls ++ L, c0 + mc, s0 + ms⟩,
      ⟨X.admits, X.cas, X.clock, X.frames, X.room, X.hears, X.method, X.code, (X.here.setHeapUsed s₂.heap s₂.slotsUsed).setVm hW'.alike, X.tail, State.WarmedH.trans X.warmed hW', X.limits, X.bytes, X.same.trans (hsame.setVm s.vm)⟩,
      ⟨g, mk, s₂, L, E, ce, rfl, rfl, hx, hce, hcv, hcl, rfl, hL, rfl, rfl⟩, ?_⟩
    show Steps p.tables e below _ (((({ U with heap := s₂.heap, slotsUsed := s₂.slotsUsed } : State).setVm s₂.vm).setTop g).pushFrame (.throwing q))
    rw [← hs₂]
    exact hsteps
end Payer
section Calls
variable {p : Program} {l : Launch} {e : Env} {R : Room} {s : State} {m : MethodId} {args : Array Value} {below : List Frame} {meth : Method} {c : Code} {T : State} {locs : List Loc} {cells slots : Nat}
theorem vx_callV (X : Stand p l e R s m args below meth c T locs cells slots) (hexec : p.tables.exec = Jvm.exec) {own C : String} {index : Nat} {y : MethodName} {bytes : ByteArray} {maxL : Nat} {ret : Option FieldType}
    (hown : s.vm.findClass own = some m.cls) (hlink : (Cond.methodLink own index y).before args s = true) (hinst : (Cond.instanceMethod y).before args s = true) (hsel : (Cond.selects C y y).before args s = true)
    (hcode : (Cond.code y bytes maxL ret).before args s = true) (hy : y.cls ≠ "java/lang/invoke/MethodHandle" ∧ y.cls ≠ "java/lang/invoke/VarHandle")
    {W9 : Nat} {Pre : Pt → Array Value → Prop} {Post : Pt → Array Value → Option Value → Pt → Prop} {PostX : Pt → Array Value → Addr → Pt → Prop} (hK : vx_Back l R p e below s args y 3 W9 Pre Post PostX)
    {b : Addr} {cellB : Cell} (hcell : T.heap[b]? = some cellB) (hobj : cellB.vm.isStatics = false) (hcls : s.vm.findClass C = some cellB.cls)
    {g : JFrame} (hg : g.method = m) (hsize : g.locals.size = c.maxLocals) {argsL rest : List Value} (hlen : ∀ sig, parseMethodDescriptor y.desc = some sig → argsL.length = sig.parameters.length)
    (hstack : g.stack = argsL.reverse ++ .ref b :: rest) (hW : 2 * g.monitorRoom + (rest.map fun v => v.category).sum ≤ W9) (hdg : decode c.code g.pc = .ok (.invokevirtual index, 3))
    (hpre : ∀ vm₁, s.WarmedH vm₁ → Pre ⟨T.setVm vm₁, locs, cells, slots⟩ (Value.ref b :: argsL).toArray) :
    (∃ (v : Option Value) (vm₁ : Vm) (B : Pt), s.WarmedH vm₁ ∧ Stand p l e R s m args below meth c B.U B.locs B.cells B.slots ∧ Post ⟨T.setVm vm₁, locs, cells, slots⟩ (Value.ref b :: argsL).toArray v B ∧
      ∀ target, Steps p.tables e below (B.U.setTop { g with pc := g.pc + 3, stack := v.toList ++ rest }) target → Steps p.tables e below (T.setTop g) target) ∨
    (∃ (q : Addr) (vm₁ : Vm) (B : Pt), s.WarmedH vm₁ ∧ Stand p l e R s m args below meth c B.U B.locs B.cells B.slots ∧ PostX ⟨T.setVm vm₁, locs, cells, slots⟩ (Value.ref b :: argsL).toArray q B ∧
      Steps p.tables e below (T.setTop g) ((B.U.setTop { g with stack := rest }).pushFrame (.throwing q))) := by
  obtain ⟨mk, methM, hnamed, hmethM, hstM, habM⟩ := Cond.instanceMethod_spec hinst
  obtain ⟨methM', cM, hmethM', -, -, -, -, -, -, hsigM⟩ := Cond.code_spec hnamed hcode
  cases hmethM.symm.trans hmethM'
  obtain ⟨c2, r2, m2, q1, q2, q3, q4, kP, hkP, hkPi⟩ := Cond.selects_spec hsel
  cases hcls.symm.trans q1
  cases (State.methodFound?_of_named hnamed hy).symm.trans q2
  cases hnamed.symm.trans q3
  have hselP : selectMethod e.platform s.vm cellB.cls mk = .method mk := by rw [Launch.admits_selectMethod X.admits]; exact q4
  obtain ⟨vm₁, X₁, hstep₁⟩ := X.invokevirtual hexec hown hlink hnamed hmethM hstM hkP hkPi hy (a := b) (cell := cellB) hcell
    (fun z h => by rw [h] at hobj; cases hobj) hselP hmethM habM hkP hkPi (g := g) hg (argsL := argsL) (rest := rest) (hlen _ hsigM) hstack hdg
  rcases hK m meth c ⟨T.setVm vm₁, locs, cells, slots⟩ { g with stack := rest } (.invokevirtual index) mk (Value.ref b :: argsL).toArray X₁ hg hsize hdg hW (X₁.named hnamed) (hpre vm₁ X₁.warmed) with ⟨v, B, X', hpost, hsteps⟩ | ⟨q, B, X', hpost, hsteps⟩
  · exact Or.inl ⟨v, vm₁, B, X₁.warmed, X', hpost, fun target h => hstep₁ _ fun acts => by rw [doInvoke_state]; exact hsteps.trans h⟩
  · exact Or.inr ⟨q, vm₁, B, X₁.warmed, X', hpost, hstep₁ _ fun acts => by rw [doInvoke_state]; exact hsteps⟩
theorem vx_callS (X : Stand p l e R s m args below meth c T locs cells slots) (hexec : p.tables.exec = Jvm.exec) {own : String} {index : Nat} {y : MethodName} {bytes : ByteArray} {maxL : Nat} {ret : Option FieldType}
    (hown : s.vm.findClass own = some m.cls) (hlink : (Cond.methodLink own index y).before args s = true) (hstat : (Cond.static y).before args s = true) (hinit : (Cond.initialized y.cls).before args s = true)
    (hcode : (Cond.code y bytes maxL ret).before args s = true) (hy : y.cls ≠ "java/lang/invoke/MethodHandle" ∧ y.cls ≠ "java/lang/invoke/VarHandle")
    {W9 : Nat} {Pre : Pt → Array Value → Prop} {Post : Pt → Array Value → Option Value → Pt → Prop} {PostX : Pt → Array Value → Addr → Pt → Prop} (hK : vx_Back l R p e below s args y 3 W9 Pre Post PostX)
    {g : JFrame} (hg : g.method = m) (hsize : g.locals.size = c.maxLocals) {argsL rest : List Value} (hlen : ∀ sig, parseMethodDescriptor y.desc = some sig → argsL.length = sig.parameters.length)
    (hstack : g.stack = argsL.reverse ++ rest) (hW : 2 * g.monitorRoom + (rest.map fun v => v.category).sum ≤ W9) (hdg : decode c.code g.pc = .ok (.invokestatic index, 3))
    (hpre : ∀ vm₁, s.WarmedH vm₁ → Pre ⟨T.setVm vm₁, locs, cells, slots⟩ argsL.toArray) :
    (∃ (v : Option Value) (vm₁ : Vm) (B : Pt), s.WarmedH vm₁ ∧ Stand p l e R s m args below meth c B.U B.locs B.cells B.slots ∧ Post ⟨T.setVm vm₁, locs, cells, slots⟩ argsL.toArray v B ∧
      ∀ target, Steps p.tables e below (B.U.setTop { g with pc := g.pc + 3, stack := v.toList ++ rest }) target → Steps p.tables e below (T.setTop g) target) ∨
    (∃ (q : Addr) (vm₁ : Vm) (B : Pt), s.WarmedH vm₁ ∧ Stand p l e R s m args below meth c B.U B.locs B.cells B.slots ∧ PostX ⟨T.setVm vm₁, locs, cells, slots⟩ argsL.toArray q B ∧
      Steps p.tables e below (T.setTop g) ((B.U.setTop { g with stack := rest }).pushFrame (.throwing q))) := by
  obtain ⟨mk, hnamed⟩ := Cond.code_named hcode
  obtain ⟨methM, cM, hmethM, -, -, -, -, -, -, hsigM⟩ := Cond.code_spec hnamed hcode
  have hstatic : methM.isStatic = true := Cond.static_spec hnamed hmethM hstat
  obtain ⟨kP, hkP, -⟩ := className_of_methodNamed hnamed
  have hinitP : kP.init = .initialized := Cond.initialized_spec (findClass_of_methodNamed hnamed) hkP hinit
  obtain ⟨vm₁, X₁, hstep₁⟩ := X.invokestatic hexec hown hlink hnamed hmethM hstatic hkP hinitP hy (g := g) hg (argsL := argsL) (rest := rest) (hlen _ hsigM) hstack hdg
  rcases hK m meth c ⟨T.setVm vm₁, locs, cells, slots⟩ { g with stack := rest } (.invokestatic index) mk argsL.toArray X₁ hg hsize hdg hW (X₁.named hnamed) (hpre vm₁ X₁.warmed) with ⟨v, B, X', hpost, hsteps⟩ | ⟨q, B, X', hpost, hsteps⟩
  · exact Or.inl ⟨v, vm₁, B, X₁.warmed, X', hpost, fun target h => hstep₁ _ fun acts => by rw [doInvoke_state]; exact hsteps.trans h⟩
  · exact Or.inr ⟨q, vm₁, B, X₁.warmed, X', hpost, hstep₁ _ fun acts => by rw [doInvoke_state]; exact hsteps⟩
end Calls
theorem vx_cls {s : State} {T : State} {vm₁ : Vm} {E : String} {k : ClassId} (hW : s.WarmedH vm₁) (h : (T.setVm vm₁).vm.findClass E = some k) : s.vm.findClass E = some k := by
  have h1 : vm₁.findClass E = some k := h
  rw [hW.alike.findClass] at h1
  exact h1
/-- the method's frame g, with q thrown over it -/
def vx_W (p : Program) (l : Launch) (e : Env) (R : Room) (s : State) (m : MethodId) (args : Array Value) (below : List Frame) (meth : Method) (c : Code) (H : Heap) (locs : List Loc) (cells slots : Nat) (Q : State → Prop) (g : JFrame) (q : Addr) : Prop :=
  ∀ T : State, T.heap = H → Stand p l e R s m args below meth c T locs cells slots → ∃ t, Steps p.tables e below ((T.setTop g).pushFrame (.throwing q)) t ∧ Q t
def vx_Run (p : Program) (l : Launch) (e : Env) (R : Room) (s : State) (m : MethodId) (args : Array Value) (below : List Frame) (meth : Method) (c : Code) (H : Heap) (locs : List Loc) (cells slots mc ms : Nat) (g : JFrame) (rest : List Value) (Qa : State → Outcome → State → Prop) (XC : String → State → State → Prop) (free : Addr → Prop) : Prop :=
  ∀ T : State, T.heap = H → Stand p l e R s m args below meth c T locs cells slots →
    (∃ (v : Option Value) (st₀ t T' : State) (L : List Loc), st₀.heap = H ∧ Stand p l e R s m args below meth c T' (locs ++ L) (cells + mc) (slots + ms) ∧ (∀ q ∈ L, free q.base) ∧ T'.heap = t.heap ∧ T'.vm = t.vm ∧ Qa st₀ (.returned v) t ∧
      Goes p e below T g T' { g with pc := g.pc + 3, stack := v.toList ++ rest }) ∨
    (∃ (q : Addr) (st₀ t T' : State) (L : List Loc) (E : String) (ce : Cell), st₀.heap = H ∧ Stand p l e R s m args below meth c T' (locs ++ L) (cells + mc) (slots + ms) ∧ (∀ z ∈ L, free z.base) ∧ T'.heap = t.heap ∧ T'.vm = t.vm ∧ XC E st₀ t ∧ t.heap[q]? = some ce ∧ ce.vm = .none ∧ s.vm.findClass E = some ce.cls ∧
      Steps p.tables e below (T.setTop g) ((T'.setTop { g with stack := rest }).pushFrame (.throwing q)))
def vx_X {S : Type} (px : S → Prop) (B : String → S → State → Prop) (A : Nat → Prop) : String → State → State → Prop := fun E st t => ∃ u : S, px u ∧ B E u t ∧ va_F A st t
section Runs
variable {p : Program} {l : Launch} {e : Env} {R : Room} {s : State} {m : MethodId} {args : Array Value} {below : List Frame} {meth : Method} {c : Code} {H : Heap} {locs : List Loc} {cells slots : Nat}
variable {y : MethodName} {bytes cc : ByteArray} {maxL nL mc ms n index : Nat} {ret : Option FieldType} {ws : List Cond} {rm : Room} {Pc : Array Value → State → Prop} {Qc : Array Value → State → Outcome → State → Prop} {XC : String → State → State → Prop} {free : Addr → Prop} {Ts : List Cond} {own C : String} {b : Addr} {As rest : List Value} {g : JFrame}
theorem vx_callBack (cb : CallB R s args own index y bytes maxL ret ws rm mc ms n) (hM : vx_Met l y ws rm Pc Qc XC mc ms free) (hbl : FrameBlind Pc) : vx_Back l R p e below s args y 3 8 (PreOf R mc ms Pc) (PostOf Qc mc ms free) (vx_Post XC mc ms free) := by
  obtain ⟨hrc, hrs, hfr, hlo, hws, hcw, -, hini, -⟩ := cb
  exact vx_back (bytes := bytes) (maxL := maxL) (ret := ret) hM hbl hrc hrs hfr hlo hws hcw (fun a' U hW => word_at hW (Or.inl (by first | rfl | simp [Cond.onTables, Cond.keeps, Cond.steady])) hini)
theorem vx_runV (S : CallFix p m c cc nL s args Ts own) (hM : vx_Met l y ws rm Pc Qc XC mc ms free) (cw : CallW R s args own C index y bytes maxL ret ws rm mc ms n) (hp : PreV s H C b Pc As)
    (hg : g.method = m) (hn : As.length = n) (hsize : g.locals.size = nL) (hstack : g.stack = As.reverse ++ .ref b :: rest) (hW : 2 * g.monitorRoom + (rest.map fun v => v.category).sum ≤ 8) (hdg : decode cc g.pc = .ok (.invokevirtual index, 3)) (hf : cells + mc ≤ R.cells ∧ slots + ms ≤ R.slots) :
    vx_Run p l e R s m args below meth c H locs cells slots mc ms g rest (Qc (Value.ref b :: As).toArray) XC free := by
  have hK : vx_Back l R p e below s args y 3 8 (PreOf R mc ms Pc) (PostOf Qc mc ms free) (vx_Post XC mc ms free) := vx_callBack cw.1 hM hp.1
  obtain ⟨⟨-, -, -, -, -, -, hcode, -, hy, hlen, hl⟩, hin, hse⟩ := cw
  obtain ⟨hx, hb, hml, ho, -⟩ := S
  obtain ⟨-, ⟨cellB, hcB, hoB, hclB⟩, hPc⟩ := hp
  intro T hT X
  rcases vx_callV X hx (C := C) (bytes := bytes) (maxL := maxL) (ret := ret) ho hl hin hse hcode hy hK (by rw [hT]; exact hcB) hoB hclB hg (hsize.trans hml.symm) (argsL := As) (rest := rest) (fun sig h => hn.trans (hlen sig h)) hstack hW (by rw [hb]; exact hdg)
    (fun vm₁ hW₁ => ⟨hf.1, hf.2, hPc (T.setVm vm₁) hT hW₁⟩) with ⟨v, vm₁, ⟨U', l2, c2, s2⟩, hW₁, X', ⟨g', mk, t, L, e1, e2, hq, h1, hL, h2, h3⟩, st⟩ | ⟨q, vm₁, ⟨U', l2, c2, s2⟩, hW₁, X', ⟨g', mk, t, L, E, ce, e1, e2, hq, hce, hcv, hcl, h1, hL, h2, h3⟩, st⟩
  · dsimp only [Pt.U, Pt.locs, Pt.cells, Pt.slots] at X' e1 e2 h1 h2 h3 st
    subst h1; subst h2; subst h3
    exact Or.inl ⟨v, (T.setVm vm₁).calling g' mk (Value.ref b :: As).toArray, t, U', L, hT, X', hL, e1, e2, hq, st⟩
  · dsimp only [Pt.U, Pt.locs, Pt.cells, Pt.slots] at X' e1 e2 h1 h2 h3 st hcl
    subst h1; subst h2; subst h3
    exact Or.inr ⟨q, (T.setVm vm₁).calling g' mk (Value.ref b :: As).toArray, t, U', L, E, ce, hT, X', hL, e1, e2, hq, hce, hcv, vx_cls hW₁ hcl, st⟩
theorem vx_runS (S : CallFix p m c cc nL s args Ts own) (hM : vx_Met l y ws rm Pc Qc XC mc ms free) (cw : CallB R s args own index y bytes maxL ret ws rm mc ms n ∧ (Cond.static y).before args s = true) (hp : PreS s H Pc As)
    (hg : g.method = m) (hn : As.length = n) (hsize : g.locals.size = nL) (hstack : g.stack = As.reverse ++ rest) (hW : 2 * g.monitorRoom + (rest.map fun v => v.category).sum ≤ 8) (hdg : decode cc g.pc = .ok (.invokestatic index, 3)) (hf : cells + mc ≤ R.cells ∧ slots + ms ≤ R.slots) :
    vx_Run p l e R s m args below meth c H locs cells slots mc ms g rest (Qc As.toArray) XC free := by
  have hK : vx_Back l R p e below s args y 3 8 (PreOf R mc ms Pc) (PostOf Qc mc ms free) (vx_Post XC mc ms free) := vx_callBack cw.1 hM hp.1
  obtain ⟨⟨-, -, -, -, -, -, hcode, hini, hy, hlen, hl⟩, hstt⟩ := cw
  obtain ⟨hx, hb, hml, ho, -⟩ := S
  intro T hT X
  rcases vx_callS X hx (bytes := bytes) (maxL := maxL) (ret := ret) ho hl hstt hini hcode hy hK hg (hsize.trans hml.symm) (argsL := As) (rest := rest) (fun sig h => hn.trans (hlen sig h)) hstack hW (by rw [hb]; exact hdg)
    (fun vm₁ hW₁ => ⟨hf.1, hf.2, hp.2 (T.setVm vm₁) hT hW₁⟩) with ⟨v, vm₁, ⟨U', l2, c2, s2⟩, hW₁, X', ⟨g', mk, t, L, e1, e2, hq, h1, hL, h2, h3⟩, st⟩ | ⟨q, vm₁, ⟨U', l2, c2, s2⟩, hW₁, X', ⟨g', mk, t, L, E, ce, e1, e2, hq, hce, hcv, hcl, h1, hL, h2, h3⟩, st⟩
  · dsimp only [Pt.U, Pt.locs, Pt.cells, Pt.slots] at X' e1 e2 h1 h2 h3 st
    subst h1; subst h2; subst h3
    exact Or.inl ⟨v, (T.setVm vm₁).calling g' mk As.toArray, t, U', L, hT, X', hL, e1, e2, hq, st⟩
  · dsimp only [Pt.U, Pt.locs, Pt.cells, Pt.slots] at X' e1 e2 h1 h2 h3 st hcl
    subst h1; subst h2; subst h3
    exact Or.inr ⟨q, (T.setVm vm₁).calling g' mk As.toArray, t, U', L, E, ce, hT, X', hL, e1, e2, hq, hce, hcv, vx_cls hW₁ hcl, st⟩
end Runs
section Rows
variable {p : Program} {l : Launch} {e : Env} {R : Room} {s : State} {m : MethodId} {args : Array Value} {below : List Frame} {meth : Method} {c : Code} {H : Heap} {locs : List Loc} {cells slots : Nat} {Q : State → Prop}
variable {mc ms : Nat} {free : Addr → Prop} {A0 A1 : Nat → Prop} {H0 : Heap} {a : Array Value} {pc : Nat} {ls : Array Slot} {st0 rest : List Value}
theorem vx_keep {st₀ t T' : State} {L : List Loc} (h0 : st₀.heap = H) (e1 : T'.heap = t.heap) (hS : va_S A0 H0 H locs) (hA : ∀ q, q < H.size → A1 q → A0 q) (hf : ∀ q, free q → A0 q) (hL : ∀ q ∈ L, free q.base) (hF : va_F A1 st₀ t) :
    H.size ≤ T'.heap.size ∧ (∀ q : Nat, q < H.size → ¬ A1 q → T'.heap[q]? = H[q]?) ∧ va_S A0 H0 T'.heap (locs ++ L) := by
  obtain ⟨hz, hk⟩ := hF
  rw [h0] at hz hk
  exact ⟨by rw [e1]; exact hz, fun q h1 h2 => by rw [e1]; exact hk q h1 h2,
    ⟨Nat.le_trans hS.1 (by rw [e1]; exact hz), fun q h1 h2 => by rw [e1, hk q (Nat.lt_of_lt_of_le h1 hS.1) (fun z => h2 (hA q (Nat.lt_of_lt_of_le h1 hS.1) z))]; exact hS.2.1 q h1 h2, fun q hq => by
      rcases List.mem_append.mp hq with h | h
      · exact hS.2.2 q h
      · exact hf _ (hL q h)⟩⟩
theorem vx_calli {S SX : Type} {post : Int32 → S → Prop} {px : SX → Prop} {B : S → State → Prop} {BX : String → SX → State → Prop} {AX : Nat → Prop} (hr : vx_Run p l e R s m args below meth c H locs cells slots mc ms (F0 m pc ls st0) rest (va_Qi post B A1 a) (vx_X px BX AX) free) (hS : va_S A0 H0 H locs) (hA : ∀ q, q < H.size → A1 q → A0 q) (hf : ∀ q, free q → A0 q) (hAX : ∀ q, q < H.size → AX q → A0 q)
    (kx : ∀ (E : String) (ce : Cell) (q9 : Addr) (u : SX) (t : State) (H1 : Heap) (locs1 : List Loc), t.heap = H1 → s.vm.Alike t.vm → px u → BX E u t → H.size ≤ H1.size → (∀ q : Nat, q < H.size → ¬ AX q → H1[q]? = H[q]?) → va_S A0 H0 H1 locs1 → H1[q9]? = some ce → ce.vm = .none → s.vm.findClass E = some ce.cls → vx_W p l e R s m args below meth c H1 locs1 (cells + mc) (slots + ms) Q (F0 m pc ls rest) q9)
    (kk : ∀ (r : Int32) (u : S) (t : State) (H1 : Heap) (locs1 : List Loc), t.heap = H1 → s.vm.Alike t.vm → post r u → B u t → H.size ≤ H1.size → (∀ q : Nat, q < H.size → ¬ A1 q → H1[q]? = H[q]?) → va_S A0 H0 H1 locs1 → W p l e R s m args below meth c H1 locs1 (cells + mc) (slots + ms) Q (F0 m (pc + 3) ls (.int r :: rest))) : W p l e R s m args below meth c H locs cells slots Q (F0 m pc ls st0) := by
  intro T hT X
  rcases hr T hT X with ⟨v, st₀, t, T', L, h0, X', hL, e1, e2, ⟨⟨r, u, hv, hp, hb⟩, hF⟩, st⟩ | ⟨q, st₀, t, T', L, E, ce, h0, X', hL, e1, e2, ⟨u, hp, hb, hF⟩, hce, hcv, hcl, st⟩
  · cases hv
    obtain ⟨k1, k2, k3⟩ := vx_keep h0 e1 hS hA hf hL hF
    obtain ⟨t2, a1, b1⟩ := kk r u t T'.heap (locs ++ L) e1.symm (by rw [← e2]; exact X'.warmed.alike) hp hb k1 k2 k3 T' rfl X'
    exact ⟨t2, st t2 a1, b1⟩
  · obtain ⟨k1, k2, k3⟩ := vx_keep h0 e1 hS hAX hf hL hF
    obtain ⟨t2, a1, b1⟩ := kx E ce q u t T'.heap (locs ++ L) e1.symm (by rw [← e2]; exact X'.warmed.alike) hp hb k1 k2 k3 (by rw [e1]; exact hce) hcv hcl T' rfl X'
    exact ⟨t2, st.trans a1, b1⟩
theorem vx_calll {S SX : Type} {post : Int64 → S → Prop} {px : SX → Prop} {B : S → State → Prop} {BX : String → SX → State → Prop} {AX : Nat → Prop} (hr : vx_Run p l e R s m args below meth c H locs cells slots mc ms (F0 m pc ls st0) rest (va_Ql post B A1 a) (vx_X px BX AX) free) (hS : va_S A0 H0 H locs) (hA : ∀ q, q < H.size → A1 q → A0 q) (hf : ∀ q, free q → A0 q) (hAX : ∀ q, q < H.size → AX q → A0 q)
    (kx : ∀ (E : String) (ce : Cell) (q9 : Addr) (u : SX) (t : State) (H1 : Heap) (locs1 : List Loc), t.heap = H1 → s.vm.Alike t.vm → px u → BX E u t → H.size ≤ H1.size → (∀ q : Nat, q < H.size → ¬ AX q → H1[q]? = H[q]?) → va_S A0 H0 H1 locs1 → H1[q9]? = some ce → ce.vm = .none → s.vm.findClass E = some ce.cls → vx_W p l e R s m args below meth c H1 locs1 (cells + mc) (slots + ms) Q (F0 m pc ls rest) q9)
    (kk : ∀ (r : Int64) (u : S) (t : State) (H1 : Heap) (locs1 : List Loc), t.heap = H1 → s.vm.Alike t.vm → post r u → B u t → H.size ≤ H1.size → (∀ q : Nat, q < H.size → ¬ A1 q → H1[q]? = H[q]?) → va_S A0 H0 H1 locs1 → W p l e R s m args below meth c H1 locs1 (cells + mc) (slots + ms) Q (F0 m (pc + 3) ls (.long r :: rest))) : W p l e R s m args below meth c H locs cells slots Q (F0 m pc ls st0) := by
  intro T hT X
  rcases hr T hT X with ⟨v, st₀, t, T', L, h0, X', hL, e1, e2, ⟨⟨r, u, hv, hp, hb⟩, hF⟩, st⟩ | ⟨q, st₀, t, T', L, E, ce, h0, X', hL, e1, e2, ⟨u, hp, hb, hF⟩, hce, hcv, hcl, st⟩
  · cases hv
    obtain ⟨k1, k2, k3⟩ := vx_keep h0 e1 hS hA hf hL hF
    obtain ⟨t2, a1, b1⟩ := kk r u t T'.heap (locs ++ L) e1.symm (by rw [← e2]; exact X'.warmed.alike) hp hb k1 k2 k3 T' rfl X'
    exact ⟨t2, st t2 a1, b1⟩
  · obtain ⟨k1, k2, k3⟩ := vx_keep h0 e1 hS hAX hf hL hF
    obtain ⟨t2, a1, b1⟩ := kx E ce q u t T'.heap (locs ++ L) e1.symm (by rw [← e2]; exact X'.warmed.alike) hp hb k1 k2 k3 (by rw [e1]; exact hce) hcv hcl T' rfl X'
    exact ⟨t2, st.trans a1, b1⟩
theorem vx_callf {S SX : Type} {post : UInt32 → S → Prop} {px : SX → Prop} {B : S → State → Prop} {BX : String → SX → State → Prop} {AX : Nat → Prop} (hr : vx_Run p l e R s m args below meth c H locs cells slots mc ms (F0 m pc ls st0) rest (va_Qf post B A1 a) (vx_X px BX AX) free) (hS : va_S A0 H0 H locs) (hA : ∀ q, q < H.size → A1 q → A0 q) (hf : ∀ q, free q → A0 q) (hAX : ∀ q, q < H.size → AX q → A0 q)
    (kx : ∀ (E : String) (ce : Cell) (q9 : Addr) (u : SX) (t : State) (H1 : Heap) (locs1 : List Loc), t.heap = H1 → s.vm.Alike t.vm → px u → BX E u t → H.size ≤ H1.size → (∀ q : Nat, q < H.size → ¬ AX q → H1[q]? = H[q]?) → va_S A0 H0 H1 locs1 → H1[q9]? = some ce → ce.vm = .none → s.vm.findClass E = some ce.cls → vx_W p l e R s m args below meth c H1 locs1 (cells + mc) (slots + ms) Q (F0 m pc ls rest) q9)
    (kk : ∀ (r : UInt32) (u : S) (t : State) (H1 : Heap) (locs1 : List Loc), t.heap = H1 → s.vm.Alike t.vm → post r u → B u t → H.size ≤ H1.size → (∀ q : Nat, q < H.size → ¬ A1 q → H1[q]? = H[q]?) → va_S A0 H0 H1 locs1 → W p l e R s m args below meth c H1 locs1 (cells + mc) (slots + ms) Q (F0 m (pc + 3) ls (.float r :: rest))) : W p l e R s m args below meth c H locs cells slots Q (F0 m pc ls st0) := by
  intro T hT X
  rcases hr T hT X with ⟨v, st₀, t, T', L, h0, X', hL, e1, e2, ⟨⟨r, u, hv, hp, hb⟩, hF⟩, st⟩ | ⟨q, st₀, t, T', L, E, ce, h0, X', hL, e1, e2, ⟨u, hp, hb, hF⟩, hce, hcv, hcl, st⟩
  · cases hv
    obtain ⟨k1, k2, k3⟩ := vx_keep h0 e1 hS hA hf hL hF
    obtain ⟨t2, a1, b1⟩ := kk r u t T'.heap (locs ++ L) e1.symm (by rw [← e2]; exact X'.warmed.alike) hp hb k1 k2 k3 T' rfl X'
    exact ⟨t2, st t2 a1, b1⟩
  · obtain ⟨k1, k2, k3⟩ := vx_keep h0 e1 hS hAX hf hL hF
    obtain ⟨t2, a1, b1⟩ := kx E ce q u t T'.heap (locs ++ L) e1.symm (by rw [← e2]; exact X'.warmed.alike) hp hb k1 k2 k3 (by rw [e1]; exact hce) hcv hcl T' rfl X'
    exact ⟨t2, st.trans a1, b1⟩
theorem vx_calld {S SX : Type} {post : UInt64 → S → Prop} {px : SX → Prop} {B : S → State → Prop} {BX : String → SX → State → Prop} {AX : Nat → Prop} (hr : vx_Run p l e R s m args below meth c H locs cells slots mc ms (F0 m pc ls st0) rest (va_Qd post B A1 a) (vx_X px BX AX) free) (hS : va_S A0 H0 H locs) (hA : ∀ q, q < H.size → A1 q → A0 q) (hf : ∀ q, free q → A0 q) (hAX : ∀ q, q < H.size → AX q → A0 q)
    (kx : ∀ (E : String) (ce : Cell) (q9 : Addr) (u : SX) (t : State) (H1 : Heap) (locs1 : List Loc), t.heap = H1 → s.vm.Alike t.vm → px u → BX E u t → H.size ≤ H1.size → (∀ q : Nat, q < H.size → ¬ AX q → H1[q]? = H[q]?) → va_S A0 H0 H1 locs1 → H1[q9]? = some ce → ce.vm = .none → s.vm.findClass E = some ce.cls → vx_W p l e R s m args below meth c H1 locs1 (cells + mc) (slots + ms) Q (F0 m pc ls rest) q9)
    (kk : ∀ (r : UInt64) (u : S) (t : State) (H1 : Heap) (locs1 : List Loc), t.heap = H1 → s.vm.Alike t.vm → post r u → B u t → H.size ≤ H1.size → (∀ q : Nat, q < H.size → ¬ A1 q → H1[q]? = H[q]?) → va_S A0 H0 H1 locs1 → W p l e R s m args below meth c H1 locs1 (cells + mc) (slots + ms) Q (F0 m (pc + 3) ls (.double r :: rest))) : W p l e R s m args below meth c H locs cells slots Q (F0 m pc ls st0) := by
  intro T hT X
  rcases hr T hT X with ⟨v, st₀, t, T', L, h0, X', hL, e1, e2, ⟨⟨r, u, hv, hp, hb⟩, hF⟩, st⟩ | ⟨q, st₀, t, T', L, E, ce, h0, X', hL, e1, e2, ⟨u, hp, hb, hF⟩, hce, hcv, hcl, st⟩
  · cases hv
    obtain ⟨k1, k2, k3⟩ := vx_keep h0 e1 hS hA hf hL hF
    obtain ⟨t2, a1, b1⟩ := kk r u t T'.heap (locs ++ L) e1.symm (by rw [← e2]; exact X'.warmed.alike) hp hb k1 k2 k3 T' rfl X'
    exact ⟨t2, st t2 a1, b1⟩
  · obtain ⟨k1, k2, k3⟩ := vx_keep h0 e1 hS hAX hf hL hF
    obtain ⟨t2, a1, b1⟩ := kx E ce q u t T'.heap (locs ++ L) e1.symm (by rw [← e2]; exact X'.warmed.alike) hp hb k1 k2 k3 (by rw [e1]; exact hce) hcv hcl T' rfl X'
    exact ⟨t2, st.trans a1, b1⟩
theorem vx_callv {S SX : Type} {post : S → Prop} {px : SX → Prop} {B : S → State → Prop} {BX : String → SX → State → Prop} {AX : Nat → Prop} (hr : vx_Run p l e R s m args below meth c H locs cells slots mc ms (F0 m pc ls st0) rest (va_Qv post B A1 a) (vx_X px BX AX) free) (hS : va_S A0 H0 H locs) (hA : ∀ q, q < H.size → A1 q → A0 q) (hf : ∀ q, free q → A0 q) (hAX : ∀ q, q < H.size → AX q → A0 q)
    (kx : ∀ (E : String) (ce : Cell) (q9 : Addr) (u : SX) (t : State) (H1 : Heap) (locs1 : List Loc), t.heap = H1 → s.vm.Alike t.vm → px u → BX E u t → H.size ≤ H1.size → (∀ q : Nat, q < H.size → ¬ AX q → H1[q]? = H[q]?) → va_S A0 H0 H1 locs1 → H1[q9]? = some ce → ce.vm = .none → s.vm.findClass E = some ce.cls → vx_W p l e R s m args below meth c H1 locs1 (cells + mc) (slots + ms) Q (F0 m pc ls rest) q9)
    (kk : ∀ (u : S) (t : State) (H1 : Heap) (locs1 : List Loc), t.heap = H1 → s.vm.Alike t.vm → post u → B u t → H.size ≤ H1.size → (∀ q : Nat, q < H.size → ¬ A1 q → H1[q]? = H[q]?) → va_S A0 H0 H1 locs1 → W p l e R s m args below meth c H1 locs1 (cells + mc) (slots + ms) Q (F0 m (pc + 3) ls (rest))) : W p l e R s m args below meth c H locs cells slots Q (F0 m pc ls st0) := by
  intro T hT X
  rcases hr T hT X with ⟨v, st₀, t, T', L, h0, X', hL, e1, e2, ⟨⟨u, hv, hp, hb⟩, hF⟩, st⟩ | ⟨q, st₀, t, T', L, E, ce, h0, X', hL, e1, e2, ⟨u, hp, hb, hF⟩, hce, hcv, hcl, st⟩
  · cases hv
    obtain ⟨k1, k2, k3⟩ := vx_keep h0 e1 hS hA hf hL hF
    obtain ⟨t2, a1, b1⟩ := kk u t T'.heap (locs ++ L) e1.symm (by rw [← e2]; exact X'.warmed.alike) hp hb k1 k2 k3 T' rfl X'
    exact ⟨t2, st t2 a1, b1⟩
  · obtain ⟨k1, k2, k3⟩ := vx_keep h0 e1 hS hAX hf hL hF
    obtain ⟨t2, a1, b1⟩ := kx E ce q u t T'.heap (locs ++ L) e1.symm (by rw [← e2]; exact X'.warmed.alike) hp hb k1 k2 k3 (by rw [e1]; exact hce) hcv hcl T' rfl X'
    exact ⟨t2, st.trans a1, b1⟩
/-- caught by the row x of this method's table; the rows ahead don't take it -/
theorem vx_catch {own name : String} {E : String} {ce : Cell} {q : Addr} (hown : s.vm.findClass own = some m.cls) (pre : List ExceptionTableEntry) (x : ExceptionTableEntry) (suf : List ExceptionTableEntry) (hsplit : c.exceptionTable.toList = pre ++ x :: suf)
    (hpass : ∀ z ∈ pre, covers z pc = false ∨ (z.catchType ≠ 0 ∧ ∃ nm : String, (Cond.classLink own z.catchType nm).before args s = true ∧ va_Nc E nm s)) (hx : covers x pc = true) (h0 : x.catchType ≠ 0)
    (hlink : (Cond.classLink own x.catchType name).before args s = true) (hcast : (Cond.castable E name).before args s = true) (hcell : H[q]? = some ce) (hv : ce.vm = .none) (hcl : s.vm.findClass E = some ce.cls)
    (kk : W p l e R s m args below meth c H locs cells slots Q (F0 m x.handlerPc ls [.ref q])) : vx_W p l e R s m args below meth c H locs cells slots Q (F0 m pc ls rest) q := by
  intro T hT X
  have hpl : e.platform.magicAccessors = ({} : Platform).magicAccessors := by rw [X.admits.platform]
  obtain ⟨c3, c4, hc3, hc4, hasg⟩ := Cond.castable_spec hcast
  cases Option.some.inj (hc3.symm.trans hcl)
  obtain ⟨c5, hc5, hcl5⟩ := Cond.classLink_spec hown hlink e.platform hpl
  cases Option.some.inj (hc4.symm.trans hc5)
  obtain ⟨vm', X', st⟩ := X.thenCaughtThrough q (g := F0 m pc ls rest) rfl (Steps.refl _) (by rw [hT]; exact hcell) (by rw [hv]; rfl) (by obtain ⟨k9, h9, -⟩ := Vm.findClass_spec hcl; exact ⟨k9, h9⟩) pre x suf hsplit
    (fun z hz => by
      rcases hpass z hz with h | ⟨hz0, nm, hl1, hn1⟩
      · exact Or.inl h
      · obtain ⟨c6, hc6, hcl6⟩ := Cond.classLink_spec hown hl1 e.platform hpl
        obtain ⟨a8, b8, h1, h2, h3⟩ := hn1
        cases Option.some.inj (h1.symm.trans hcl)
        cases Option.some.inj (h2.symm.trans hc6)
        exact Or.inr ⟨hz0, _, hcl6, h3⟩) hx (Or.inr ⟨h0, c4, hcl5, hasg⟩)
  obtain ⟨t, a1, b1⟩ := kk (T.setVm vm') hT X'
  exact ⟨t, st.trans a1, b1⟩
end Rows
section Ends
variable {p : Program} {l : Launch} {e : Env} {R : Room} {s : State} {m : MethodId} {args : Array Value} {below : List Frame} {meth : Method} {c : Code} {H : Heap} {locs : List Loc} {cells slots : Nat} {Q : State → Prop}
variable {mc ms : Nat} {free : Addr → Prop} {A0 A1 : Nat → Prop} {H0 : Heap} {a : Array Value} {ls : Array Slot} {st0 rest : List Value}
variable {Qc : Array Value → State → Outcome → State → Prop} {XC : String → State → State → Prop}
/-- what a body that may throw owes at its end -/
def vx_MQ (below : List Frame) (Qc : Array Value → State → Outcome → State → Prop) (XC : String → State → State → Prop) (a : Array Value) (s : State) (mc ms : Nat) (free : Addr → Prop) : State → Prop := fun t =>
  ∃ o, t.status = .running ∧ Ended t below o ∧ vx_Q Qc XC mc ms free a s o t
theorem vx_ret {g : JFrame} {mc ms : Nat} (k : W p l e R s m args below meth c H locs cells slots (MQ below Qc args s mc ms free) g) : W p l e R s m args below meth c H locs cells slots (vx_MQ below Qc XC args s mc ms free) g := by
  intro T hT X
  obtain ⟨t, a1, o, b1, b2, b3, b4⟩ := k T hT X
  exact ⟨t, a1, o, b1, b2, Or.inl ⟨b3, b4⟩⟩
/-- not caught here: it goes on to the caller -/
theorem vx_widen {g : JFrame} {q : Addr} {k n : Nat} (h1 : cells ≤ k) (h2 : slots ≤ n) (kk : vx_W p l e R s m args below meth c H locs k n Q g q) : vx_W p l e R s m args below meth c H locs cells slots Q g q := fun T hT X => kk T hT (stand_widen X h1 h2)
theorem vx_out {pc : Nat} {E : String} {ce : Cell} {q : Addr} {mc ms : Nat} (hout : ∀ x ∈ c.exceptionTable.toList, covers x pc = false) (hlocks : meth.locks = false) (hcell : H[q]? = some ce) (hv : ce.vm = .none) (hcl : s.vm.findClass E = some ce.cls)
    (hx : ∀ t : State, t.heap = H → s.vm.Alike t.vm → XC E s t) (hf : ∀ z ∈ locs, free z.base) (hc : cells ≤ mc) (hs : slots ≤ ms) :
    vx_W p l e R s m args below meth c H locs cells slots (vx_MQ below Qc XC args s mc ms free) (F0 m pc ls rest) q := by
  intro T hT X
  obtain ⟨st1, hrun, hend, hW, hsm⟩ := X.leaveThrown q (g := F0 m pc ls rest) rfl rfl rfl hout hlocks
  have hcell9 : (T.setFrames (.throwing q :: below)).heap[q]? = some ce := by
    show T.heap[q]? = some ce
    rw [hT]; exact hcell
  exact ⟨_, st1, .threw q, hrun, hend, Or.inr ⟨q, rfl, E, ce, locs, hx _ hT hW.alike, hcell9, hv, hcl, hW, hsm.mono hc hs, hf⟩⟩
theorem vx_frame {U : State} {k n : Nat} (h : s.sameButNew ({ U with vm := s.vm } : State) locs k n) : s.heap.size ≤ U.heap.size ∧ ∀ q : Nat, q < s.heap.size → (∀ z ∈ locs, z.base ≠ q) → U.heap[q]? = s.heap[q]? := by
  obtain ⟨-, h2, -, -, -, h6⟩ := h
  refine ⟨h2, fun q hq hz => ?_⟩
  obtain ⟨c9, e1, e2, e3, e4⟩ := h6 q _ (Array.getElem?_eq_getElem hq)
  have hs : c9.slots = (s.heap[q]).slots := Array.ext_getElem? fun i => e4 i fun hm => hz _ hm rfl
  have h9 : c9 = s.heap[q] := by
    rw [hs] at e2
    exact e2
  have e5 : U.heap[q]? = some c9 := e1
  rw [e5, h9, Array.getElem?_eq_getElem hq]
/-- the words of a throw but the four that speak of the heap -/
def vx_no (w : Cond) : Bool := decide (w ≠ .isRef (.static Bundle.tN "UNASSIGNED_STACK" Bundle.steD)) && decide (w ≠ .isRef (.static Bundle.tN "SUPPRESSED_SENTINEL" Bundle.listD)) && decide (w ≠ .laysStatic Bundle.tN "UNASSIGNED_STACK" Bundle.steD) && decide (w ≠ .laysStatic Bundle.tN "SUPPRESSED_SENTINEL" Bundle.listD)
def vx_at0 (own : String) (ic : Nat) (X : String) (names : List String) : List Cond := (Bundle.ownAtoms0 own ic X names).filter vx_no
def vx_atS (own : String) (ic : Nat) (X : String) (names : List String) : List Cond := (Bundle.ownAtoms own ic X names).filter vx_no
/-- a word that the tables alone decide, or a good one -/
def vx_ot (w : Cond) : Bool := w.onTables || goodWord w
theorem vx_ot_at {args a' : Array Value} {s U : State} {w : Cond} (hW : s.WarmedH U.vm) (hvm : s.vm = U.vm) (hg : vx_ot w = true) (h : w.before args s = true) : w.before a' U = true := by
  simp only [vx_ot, Bool.or_eq_true] at hg
  rcases hg with hg | hg
  · exact va_tabs hg hvm h
  · exact word_at hW (good_of_word hg) h
/-- a list's words: the good ones out of the method's own list, the others by premises of their own -/
theorem vx_hat {args : Array Value} {s : State} {L B : List Cond} (h1 : ∀ w ∈ L.filter goodWord, w.before args s = true) (h2 : ∀ w ∈ L.filter (fun w => !goodWord w), w ∈ B) (h3 : ∀ w ∈ B, w.before args s = true) : ∀ w ∈ L, w.before args s = true := by
  intro w hw
  by_cases g : goodWord w = true
  · exact h1 w (List.mem_filter.mpr ⟨hw, g⟩)
  · refine h3 w (h2 w (List.mem_filter.mpr ⟨hw, ?_⟩))
    show (!goodWord w) = true
    cases hgw : goodWord w
    · rfl
    · exact absurd hgw g
theorem vx_c {args : Array Value} {s : State} {w : Cond} {B : List Cond} (h : w.before args s = true) (t : ∀ w ∈ B, w.before args s = true) : ∀ w' ∈ w :: B, w'.before args s = true := fun w' h' => (List.mem_cons.mp h').elim (fun e => by rw [e]; exact h) (t w')
theorem vx_n {args : Array Value} {s : State} : ∀ w ∈ ([] : List Cond), w.before args s = true := fun _ h => nomatch h
theorem vx_own {args : Array Value} {s : State} {L : List Cond} (h1 : ∀ w ∈ L.filter vx_no, w.before args s = true)
    (hU : (Cond.isRef (.static Bundle.tN "UNASSIGNED_STACK" Bundle.steD)).before args s = true) (hN : (Cond.isRef (.static Bundle.tN "SUPPRESSED_SENTINEL" Bundle.listD)).before args s = true)
    (lU : (Cond.laysStatic Bundle.tN "UNASSIGNED_STACK" Bundle.steD).before args s = true) (lN : (Cond.laysStatic Bundle.tN "SUPPRESSED_SENTINEL" Bundle.listD).before args s = true) : ∀ w ∈ L, w.before args s = true := by
  intro w hw
  by_cases e1 : w = .isRef (.static Bundle.tN "UNASSIGNED_STACK" Bundle.steD)
  · rw [e1]; exact hU
  · by_cases e2 : w = .isRef (.static Bundle.tN "SUPPRESSED_SENTINEL" Bundle.listD)
    · rw [e2]; exact hN
    · by_cases e3 : w = .laysStatic Bundle.tN "UNASSIGNED_STACK" Bundle.steD
      · rw [e3]; exact lU
      · by_cases e4 : w = .laysStatic Bundle.tN "SUPPRESSED_SENTINEL" Bundle.listD
        · rw [e4]; exact lN
        · exact h1 w (List.mem_filter.mpr ⟨hw, by unfold vx_no; rw [decide_eq_true e1, decide_eq_true e2, decide_eq_true e3, decide_eq_true e4]; rfl⟩)
/-- where a static field lies, its class's statics cell in H -/
def vx_L (C n d : String) (A : Nat → Prop) (U : State) (H : Heap) : Prop := ∃ (c : ClassId) (k : Class) (i : Nat) (f : Field) (a : Nat) (cell : Cell), U.vm.findClass C = some c ∧ U.fieldFound? C n d = some (c, k, i, f) ∧ f.isStatic = true ∧ k.statics = some a ∧ H[a]? = some cell ∧ cell.vm.isStatics = true ∧ cell.cls = c ∧ f.slot < cell.slots.size ∧ k.staticTypes[f.slot]? = some f.type ∧ ¬ A a
theorem vx_L.moved {C n d : String} {A : Nat → Prop} {u U : State} {H : Heap} (hvm : u.vm.Alike U.vm) (h : vx_L C n d A u H) : vx_L C n d A U H := by
  obtain ⟨c, k, i, f, a, cell, h1, h2, h3, h4, h5, h6, h7, h8, h9, h10⟩ := h
  obtain ⟨k', hi', he⟩ := State.fieldFound?_setVm hvm h2
  exact ⟨c, k', i, f, a, cell, by rw [hvm.findClass]; exact h1, hi', h3, by rw [he]; exact h4, h5, h6, h7, h8, by rw [he]; exact h9, h10⟩
theorem vx_L.kept {C n d : String} {A : Nat → Prop} {U : State} {H H1 : Heap} (h : vx_L C n d A U H) (hq : ∀ a : Nat, a < H.size → ¬ A a → H1[a]? = H[a]?) : vx_L C n d A U H1 := by
  obtain ⟨c, k, i, f, a, cell, h1, h2, h3, h4, h5, h6, h7, h8, h9, h10⟩ := h
  exact ⟨c, k, i, f, a, cell, h1, h2, h3, h4, by rw [hq a (Array.getElem?_eq_some_iff.mp h5).1 h10]; exact h5, h6, h7, h8, h9, h10⟩
theorem vx_L.narrow {C n d : String} {A B : Nat → Prop} {U : State} {H : Heap} (h : vx_L C n d A U H) (hAB : ∀ q, B q → A q) : vx_L C n d B U H := by
  obtain ⟨c, k, i, f, a, cell, h1, h2, h3, h4, h5, h6, h7, h8, h9, h10⟩ := h
  exact ⟨c, k, i, f, a, cell, h1, h2, h3, h4, h5, h6, h7, h8, h9, fun z => h10 (hAB _ z)⟩
theorem vx_L.word {C n d : String} {A : Nat → Prop} {s : State} {args : Array Value} (h : vx_L C n d A s s.heap) : (Cond.laysStatic C n d).before args s = true := by
  obtain ⟨c, k, i, f, a, cell, h1, h2, h3, h4, h5, h6, h7, h8, h9, -⟩ := h
  show (Cond.laysStatic C n d).holds args s none s [] = true
  exact Cond.laysStatic_of h1 h2 h3 h4 h5 h6 h7 h8 h9
/-- .. and what it holds: null or some reference -/
def vx_Zq (C n d : String) (A : Nat → Prop) (U : State) (H : Heap) : Prop := va_Zq C n d A U H ∧ vx_L C n d A U H
theorem vx_Zq.moved {C n d : String} {A : Nat → Prop} {u U : State} {H : Heap} (hvm : u.vm.Alike U.vm) (h : vx_Zq C n d A u H) : vx_Zq C n d A U H := ⟨va_Zq.moved hvm h.1, vx_L.moved hvm h.2⟩
theorem vx_Zq.kept {C n d : String} {A : Nat → Prop} {U : State} {H H1 : Heap} (h : vx_Zq C n d A U H) (hq : ∀ a : Nat, a < H.size → ¬ A a → H1[a]? = H[a]?) : vx_Zq C n d A U H1 := ⟨va_Zq.kept h.1 hq, vx_L.kept h.2 hq⟩
theorem vx_Zq.narrow {C n d : String} {A B : Nat → Prop} {U : State} {H : Heap} (h : vx_Zq C n d A U H) (hAB : ∀ q, B q → A q) : vx_Zq C n d B U H := ⟨va_Zq.narrow h.1 hAB, vx_L.narrow h.2 hAB⟩
theorem vx_Zqof {args : Array Value} {s : State} {C n d : String} {A : Nat → Prop} (hl : (Cond.laysStatic C n d).before args s = true) (hini : (Cond.initialized C).before args s = true) (h : (Cond.isRef (.static C n d)).before args s = true) (hA : ∀ a : Nat, a < s.heap.size → ¬ A a) : vx_Zq C n d A s s.heap := by
  refine ⟨va_Zqof hl hini h hA, ?_⟩
  obtain ⟨c, k, i, f, a, cell, h1, h2, h3, h4, h5, h6, h7, h8, h9⟩ := Cond.laysStatic_spec hl
  exact ⟨c, k, i, f, a, cell, h1, h2, h3, h4, h5, h6, h7, h8, h9, hA a (Array.getElem?_eq_some_iff.mp h5).1⟩
theorem vx_isRef {C n d : String} {v : Value} {A : Nat → Prop} {s : State} {args : Array Value} (h : va_Z C n d v A s s.heap) (hv : v.isRef = true) : (Cond.isRef (.static C n d)).before args s = true := by
  obtain ⟨cf, kf, fi, f, a, cell, h1, h2, h3, h4, h5, h6, h7, -⟩ := h
  have he : (Term.static C n d).eval args s none [] s = some v := by
    simp [Term.eval, State.fieldNamed?, h1, h2, h4, h5, h6, h7]
  simp only [Cond.before, Cond.holds, Cond.value, he]
  cases v <;> simp_all [Value.isRef]
theorem vx_isRefq {C n d : String} {A : Nat → Prop} {s : State} {args : Array Value} (h : va_Zq C n d A s s.heap) : (Cond.isRef (.static C n d)).before args s = true := by
  rcases h with h | ⟨t, h⟩
  · exact vx_isRef h rfl
  · exact vx_isRef h rfl
/-- the same frame, seen from here: as if the method were called anew in this heap -/
theorem vx_rebase {T : State} (X : Stand p l e R s m args below meth c T locs cells slots) {R' : Room} (hf : R'.frames ≤ R.frames) (hl : R'.locals ≤ R.locals) (hc : cells + R'.cells ≤ R.cells) (hs : slots + R'.slots ≤ R.slots) :
    Stand p l e R' ((T.setVm s.vm).setFrames (.invoking m args :: below)) m args below meth c T [] 0 0 := by
  have htop : (T.setVm s.vm).topJava?.isSome := X.here.top
  have hF : ((T.setVm s.vm).setFrames (.invoking m args :: below)).frames = .invoking m args :: below := State.frames_setFrames _ (State.cur_lt_of_top htop)
  obtain ⟨g₀, hg0⟩ := Option.isSome_iff_exists.mp htop
  obtain ⟨r, hr⟩ := State.topJava?_eq_some.mp hg0
  have hl9 : e.platform.stackLimits (T.setVm s.vm).me = e.platform.stackLimits s.me := X.limits
  have hb9 : (T.setVm s.vm).me.stackBytes = s.me.stackBytes := X.bytes
  refine ⟨X.admits, X.cas, X.clock, hF, ?_, X.hears, X.method, X.code, X.here, X.tail, X.warmed, ?_, ?_, ?_⟩
  · have h := X.room
    have hU : ((T.setVm s.vm).setFrames (.invoking m args :: below)).localsInUse = s.localsInUse := by
      rw [State.localsInUse_invoking hF (meth := meth) (c := c) X.method X.code, State.localsInUse_invoking X.frames X.method X.code]
    simp only [State.hasRoom, Bool.and_eq_true, decide_eq_true_eq] at h ⊢
    obtain ⟨⟨⟨⟨h1, h2, h3, h4, h5, h6⟩, h7⟩, h8⟩, h9⟩ := h
    rw [X.frames, List.length_cons] at h2 h3
    have q1 := X.heapSize
    have q2 := X.used
    simp only [hF, hU, List.length_cons, State.stackLimits_setFrames, State.stackBytes_setFrames, hl9, hb9]
    refine ⟨⟨⟨⟨by omega, by omega, by omega, by omega, by omega, h6⟩, ?_⟩, ?_⟩, X.book⟩
    · show T.heap.size + R'.cells ≤ e.platform.maxCells
      omega
    · show T.slotsUsed + R'.slots ≤ e.platform.maxSlots
      omega
  · rw [State.stackLimits_setFrames]; rfl
  · rw [State.stackBytes_setFrames]; rfl
  · refine ⟨?_, Nat.le_refl _, Nat.le_refl _, ?_, ?_, fun a c9 h9 => ⟨c9, h9, rfl, rfl, fun _ _ => rfl⟩⟩
    · obtain ⟨t, ht, -⟩ := State.frames_cons hr
      show T.setVm s.vm = { ((T.setVm s.vm).setFrames (.invoking m args :: below)).setFrames (T.setVm s.vm).frames with heap := T.heap, slotsUsed := T.slotsUsed }
      rw [State.setFrames_setFrames, State.setFrames_self ht]
      rfl
    · show T.slotsUsed = T.slotsUsed + ((T.heap.toList.drop T.heap.size).map (·.slots.size)).sum
      rw [List.drop_eq_nil_of_le (Nat.le_of_eq Array.length_toList)]
      rfl
    · show ((T.heap.toList.drop T.heap.size).map (·.slots.size)).sum ≤ 0
      rw [List.drop_eq_nil_of_le (Nat.le_of_eq Array.length_toList)]
      exact Nat.le_refl _
/-- 'throw new E()': new; dup; invokespecial; athrow -/
theorem vx_throw0 {cc : ByteArray} {pc : Nat} (hexec : p.tables.exec = Jvm.exec) (hb : c.code = cc) (hl : l.stackTraces = false) {own cls : String} {names : List String} {ik ic mc ms : Nat} {A : Nat → Prop}
    (hown : s.vm.findClass own = some m.cls) (hcls : Bundle.fit cls = true) (hnames : ∀ n ∈ names, Bundle.fit n = true)
    (hk : (Cond.classLink own ik cls).before args s = true) (hini : (Cond.initialized cls).before args s = true) (hat : ∀ w ∈ vx_at0 own ic cls names, w.before args s = true)
    (hgood : ∀ w ∈ Cond.classLink own ik cls :: Cond.initialized cls :: vx_at0 own ic cls names, vx_ot w = true)
    (hU : vx_Zq Bundle.tN "UNASSIGNED_STACK" Bundle.steD A s s.heap) (hN : vx_Zq Bundle.tN "SUPPRESSED_SENTINEL" Bundle.listD A s s.heap) (hS : va_S A s.heap H locs) (hsize : ls.size = c.maxLocals)
    (d0 : decode cc pc = .ok (.new ik, 3)) (d3 : decode cc (pc + 3) = .ok (.dup, 1)) (d4 : decode cc (pc + 4) = .ok (.invokespecial ic, 3)) (d7 : decode cc (pc + 7) = .ok (.athrow, 1))
    (hout : ∀ x ∈ c.exceptionTable.toList, covers x (pc + 7) = false)
    (hRframes : names.length + 3 < R.frames) (hRlocals : (rest.map fun v => v.category).sum + (13 * (names.length + 1) + 42) ≤ R.locals) (hRcells : cells + 1 ≤ R.cells) (hRslots : slots + 6 ≤ R.slots) (hlocks : meth.locks = false)
    (hx : ∀ t : State, s.vm.Alike t.vm → H.size ≤ t.heap.size → (∀ q : Nat, q < H.size → t.heap[q]? = H[q]?) → XC cls s t)
    (hf : ∀ z ∈ locs, free z.base) (hc : cells + 1 ≤ mc) (hs : slots + 6 ≤ ms) :
    W p l e R s m args below meth c H locs cells slots (vx_MQ below Qc XC args s mc ms free) (F0 m pc ls rest) := by
  intro T hT X
  have htr : e.platform.stackTraces = false := (show e.platform.stackTraces = l.stackTraces by rw [X.admits.platform]).trans hl
  have Y := vx_rebase X (R' := { frames := R.frames, locals := R.locals, cells := 1, slots := 6 }) (Nat.le_refl _) (Nat.le_refl _) hRcells hRslots
  obtain ⟨s', hA⟩ : ∃ z, z = (T.setVm s.vm).setFrames (.invoking m args :: below) := ⟨_, rfl⟩
  rw [← hA] at Y
  have hvm : s'.vm = s.vm := by rw [hA]; rfl
  have hhp : s'.heap = H := by rw [hA]; exact hT
  have hW0 : s.WarmedH s'.vm := by rw [hvm]; exact State.WarmedH.refl s
  have hat' : ∀ w ∈ vx_at0 own ic cls names, w.before args s' = true := fun w hw => vx_ot_at hW0 hvm.symm (hgood w (List.mem_cons_of_mem _ (List.mem_cons_of_mem _ hw))) (hat w hw)
  have hk' : (Cond.classLink own ik cls).before args s' = true := vx_ot_at hW0 hvm.symm (hgood _ List.mem_cons_self) hk
  have hini' : (Cond.initialized cls).before args s' = true := vx_ot_at hW0 hvm.symm (hgood _ (List.mem_cons_of_mem _ List.mem_cons_self)) hini
  have hU' : vx_Zq Bundle.tN "UNASSIGNED_STACK" Bundle.steD A s' s'.heap := by rw [hhp]; exact vx_Zq.moved hW0.alike (hU.kept hS.2.1)
  have hN' : vx_Zq Bundle.tN "SUPPRESSED_SENTINEL" Bundle.listD A s' s'.heap := by rw [hhp]; exact vx_Zq.moved hW0.alike (hN.kept hS.2.1)
  have h : ∀ w ∈ Bundle.ownAtoms0 own ic cls names, w.before args s' = true := vx_own hat' (vx_isRefq hU'.1) (vx_isRefq hN'.1) hU'.2.word hN'.2.word
  have hown' : s'.vm.findClass own = some m.cls := by rw [hvm]; exact hown
  have hins : (Cond.instantiable cls 6).before args s' = true := h _ (by simp [Bundle.ownAtoms0])
  obtain ⟨vm₁, cX, kX, hfX, hkX, -, -, X₁, st1⟩ := Y.newCold hexec (own := own) (C := cls) (index := ik) (n := 6) hown' hk' hins hini'
    (g := F0 m pc ls rest) rfl (by rw [hb]; exact d0) (Nat.le_refl _) (Nat.le_refl _)
  generalize hT1 : (T.setVm vm₁).pushCell { cls := cX, slots := kX.instanceTypes.map defaultValue, vm := .none } = T1 at X₁ st1
  have hcat : (Value.ref T.heap.size).category = 1 := rfl
  have hcellA : T1.heap[T.heap.size]? = some (freshCell cX kX) := by rw [← hT1]; exact State.heap_pushCell_size _ _
  have d3' : decode c.code (pc + 3) = .ok (.dup, 1) := by rw [hb]; exact d3
  obtain ⟨U, hsteps, hrun, hend, hW, hsame, ce, hce, hO⟩ := X₁.ctorThrow0 hexec htr (own := own) (cls := cls) (names := names) (ic := ic) hown' hcls hnames h (fun x hx => nomatch hx) hfX hkX hcellA (by rw [hhp, hT]; exact Nat.le_refl _)
    (g := { method := m, pc := pc + 4, locals := ls, stack := .ref T.heap.size :: .ref T.heap.size :: rest, locked := none }) rfl hsize rfl rfl (rest := rest) rfl
    (by rw [hb]; exact d4) (by rw [hb]; exact d7) hout hRframes (by simp only [List.map_cons, List.sum_cons, hcat]; omega) hlocks
  obtain ⟨f1, f2⟩ := vx_frame hsame
  rw [hhp] at f1 f2
  have hWs : s.WarmedH U.vm := State.WarmedH.trans hW0 hW
  have hcl : s.vm.findClass cls = some ce.cls := by
    have h9 := hO.cls
    rw [hvm] at h9
    exact h9
  have hall : s.sameButNew ({ U with vm := s.vm } : State) locs mc ms := by
    subst hA
    obtain ⟨e1, e2⟩ := hsame
    rw [State.setFrames_setFrames] at e1
    have h2 : (T.setVm s.vm).sameButNew ({ U with vm := s.vm } : State) [] (0 + 1) (0 + 6) := ⟨e1, e2⟩
    have h3 := X.same.trans h2
    rw [List.append_nil] at h3
    exact h3.mono hc hs
  refine ⟨U, ?_, .threw T.heap.size, hrun, hend, Or.inr ⟨T.heap.size, rfl, cls, ce, locs, hx U hWs.alike f1 (fun q hq => f2 q hq (fun z hz => nomatch hz)), hce, hO.vm, hcl, hWs, hall, hf⟩⟩
  refine st1 _ ?_
  show Steps p.tables e below (T1.setTop { method := m, pc := pc + 3, locals := ls, stack := .ref T.heap.size :: rest, locked := none }) _
  jvm_step X₁.here [X₁.here.top, hexec, d3', Value.category]
  exact hsteps
/-- 'throw new E("text")': new; dup; ldc; invokespecial; athrow -/
theorem vx_throwS {cc : ByteArray} {pc : Nat} (hexec : p.tables.exec = Jvm.exec) (hb : c.code = cc) (hl : l.stackTraces = false) {own cls text : String} {names : List String} {ik is ic mc ms sa : Nat} {A : Nat → Prop}
    (hown : s.vm.findClass own = some m.cls) (hcls : Bundle.fit cls = true) (hnames : ∀ n ∈ names, Bundle.fit n = true)
    (hk : (Cond.classLink own ik cls).before args s = true) (hini : (Cond.initialized cls).before args s = true) (hstr : vk_R own is text sa s) (hat : ∀ w ∈ vx_atS own ic cls names, w.before args s = true)
    (hgood : ∀ w ∈ Cond.classLink own ik cls :: Cond.initialized cls :: vx_atS own ic cls names, vx_ot w = true)
    (hU : vx_Zq Bundle.tN "UNASSIGNED_STACK" Bundle.steD A s s.heap) (hN : vx_Zq Bundle.tN "SUPPRESSED_SENTINEL" Bundle.listD A s s.heap) (hS : va_S A s.heap H locs) (hsize : ls.size = c.maxLocals)
    (d0 : decode cc pc = .ok (.new ik, 3)) (d3 : decode cc (pc + 3) = .ok (.dup, 1)) (d4 : decode cc (pc + 4) = .ok (.ldc is, 2)) (d6 : decode cc (pc + 6) = .ok (.invokespecial ic, 3)) (d9 : decode cc (pc + 9) = .ok (.athrow, 1))
    (hout : ∀ x ∈ c.exceptionTable.toList, covers x (pc + 9) = false)
    (hRframes : names.length + 3 < R.frames) (hRlocals : (rest.map fun v => v.category).sum + (13 * (names.length + 1) + 43) ≤ R.locals) (hRcells : cells + 1 ≤ R.cells) (hRslots : slots + 6 ≤ R.slots) (hlocks : meth.locks = false)
    (hx : ∀ t : State, s.vm.Alike t.vm → H.size ≤ t.heap.size → (∀ q : Nat, q < H.size → t.heap[q]? = H[q]?) → XC cls s t)
    (hf : ∀ z ∈ locs, free z.base) (hc : cells + 1 ≤ mc) (hs : slots + 6 ≤ ms) :
    W p l e R s m args below meth c H locs cells slots (vx_MQ below Qc XC args s mc ms free) (F0 m pc ls rest) := by
  intro T hT X
  have htr : e.platform.stackTraces = false := (show e.platform.stackTraces = l.stackTraces by rw [X.admits.platform]).trans hl
  have Y := vx_rebase X (R' := { frames := R.frames, locals := R.locals, cells := 1, slots := 6 }) (Nat.le_refl _) (Nat.le_refl _) hRcells hRslots
  obtain ⟨s', hA⟩ : ∃ z, z = (T.setVm s.vm).setFrames (.invoking m args :: below) := ⟨_, rfl⟩
  rw [← hA] at Y
  have hvm : s'.vm = s.vm := by rw [hA]; rfl
  have hhp : s'.heap = H := by rw [hA]; exact hT
  have hW0 : s.WarmedH s'.vm := by rw [hvm]; exact State.WarmedH.refl s
  have hat' : ∀ w ∈ vx_atS own ic cls names, w.before args s' = true := fun w hw => vx_ot_at hW0 hvm.symm (hgood w (List.mem_cons_of_mem _ (List.mem_cons_of_mem _ hw))) (hat w hw)
  have hk' : (Cond.classLink own ik cls).before args s' = true := vx_ot_at hW0 hvm.symm (hgood _ List.mem_cons_self) hk
  have hini' : (Cond.initialized cls).before args s' = true := vx_ot_at hW0 hvm.symm (hgood _ (List.mem_cons_of_mem _ List.mem_cons_self)) hini
  have hU' : vx_Zq Bundle.tN "UNASSIGNED_STACK" Bundle.steD A s' s'.heap := by rw [hhp]; exact vx_Zq.moved hW0.alike (hU.kept hS.2.1)
  have hN' : vx_Zq Bundle.tN "SUPPRESSED_SENTINEL" Bundle.listD A s' s'.heap := by rw [hhp]; exact vx_Zq.moved hW0.alike (hN.kept hS.2.1)
  have h : ∀ w ∈ Bundle.ownAtoms own ic cls names, w.before args s' = true := vx_own hat' (vx_isRefq hU'.1) (vx_isRefq hN'.1) hU'.2.word hN'.2.word
  have hown' : s'.vm.findClass own = some m.cls := by rw [hvm]; exact hown
  have hins : (Cond.instantiable cls 6).before args s' = true := h _ (by simp [Bundle.ownAtoms])
  obtain ⟨vm₁, cX, kX, hfX, hkX, -, -, X₁, st1⟩ := Y.newCold hexec (own := own) (C := cls) (index := ik) (n := 6) hown' hk' hins hini'
    (g := F0 m pc ls rest) rfl (by rw [hb]; exact d0) (Nat.le_refl _) (Nat.le_refl _)
  generalize hT1 : (T.setVm vm₁).pushCell { cls := cX, slots := kX.instanceTypes.map defaultValue, vm := .none } = T1 at X₁ st1
  have hcat : (Value.ref T.heap.size).category = 1 := rfl
  have hcellA : T1.heap[T.heap.size]? = some (freshCell cX kX) := by rw [← hT1]; exact State.heap_pushCell_size _ _
  have d3' : decode c.code (pc + 3) = .ok (.dup, 1) := by rw [hb]; exact d3
  have d4' : decode c.code (pc + 4) = .ok (.ldc is, 2) := by rw [hb]; exact d4
  have hstr' : vk_R own is text sa s' := vk_R.warm hW0 hstr
  obtain ⟨U, hsteps, hrun, hend, hW, hsame, ce, hce, hO⟩ := X₁.ctorThrowS hexec htr (own := own) (cls := cls) (names := names) (ic := ic) hown' hcls hnames h (fun x hx => nomatch hx) hfX hkX hcellA (by rw [hhp, hT]; exact Nat.le_refl _) (msg := .ref sa) rfl
    (g := { method := m, pc := pc + 6, locals := ls, stack := .ref sa :: .ref T.heap.size :: .ref T.heap.size :: rest, locked := none }) rfl hsize rfl rfl (rest := rest) rfl
    (by rw [hb]; exact d6) (by rw [hb]; exact d9) hout hRframes (by simp only [List.map_cons, List.sum_cons, hcat]; omega) hlocks
  obtain ⟨f1, f2⟩ := vx_frame hsame
  rw [hhp] at f1 f2
  have hWs : s.WarmedH U.vm := State.WarmedH.trans hW0 hW
  have hcl : s.vm.findClass cls = some ce.cls := by
    have h9 := hO.cls
    rw [hvm] at h9
    exact h9
  have hall : s.sameButNew ({ U with vm := s.vm } : State) locs mc ms := by
    subst hA
    obtain ⟨e1, e2⟩ := hsame
    rw [State.setFrames_setFrames] at e1
    have h2 : (T.setVm s.vm).sameButNew ({ U with vm := s.vm } : State) [] (0 + 1) (0 + 6) := ⟨e1, e2⟩
    have h3 := X.same.trans h2
    rw [List.append_nil] at h3
    exact h3.mono hc hs
  refine ⟨U, ?_, .threw T.heap.size, hrun, hend, Or.inr ⟨T.heap.size, rfl, cls, ce, locs, hx U hWs.alike f1 (fun q hq => f2 q hq (fun z hz => nomatch hz)), hce, hO.vm, hcl, hWs, hall, hf⟩⟩
  refine st1 _ ?_
  show Steps p.tables e below (T1.setTop { method := m, pc := pc + 3, locals := ls, stack := .ref T.heap.size :: rest, locked := none }) _
  jvm_step X₁.here [X₁.here.top, hexec, d3', Value.category]
  exact X₁.ldcString hexec (own := own) (text := text) (index := is) (a := sa) hown' hstr'.1 hstr'.2
    (g := { method := m, pc := pc + 4, locals := ls, stack := .ref T.heap.size :: .ref T.heap.size :: rest, locked := none }) rfl d4' _ hsteps
/-- 'throw new E("text")', the text by a wide index -/
theorem vx_throwSW {cc : ByteArray} {pc : Nat} (hexec : p.tables.exec = Jvm.exec) (hb : c.code = cc) (hl : l.stackTraces = false) {own cls text : String} {names : List String} {ik is ic mc ms sa : Nat} {A : Nat → Prop}
    (hown : s.vm.findClass own = some m.cls) (hcls : Bundle.fit cls = true) (hnames : ∀ n ∈ names, Bundle.fit n = true)
    (hk : (Cond.classLink own ik cls).before args s = true) (hini : (Cond.initialized cls).before args s = true) (hstr : vk_R own is text sa s) (hat : ∀ w ∈ vx_atS own ic cls names, w.before args s = true)
    (hgood : ∀ w ∈ Cond.classLink own ik cls :: Cond.initialized cls :: vx_atS own ic cls names, vx_ot w = true)
    (hU : vx_Zq Bundle.tN "UNASSIGNED_STACK" Bundle.steD A s s.heap) (hN : vx_Zq Bundle.tN "SUPPRESSED_SENTINEL" Bundle.listD A s s.heap) (hS : va_S A s.heap H locs) (hsize : ls.size = c.maxLocals)
    (d0 : decode cc pc = .ok (.new ik, 3)) (d3 : decode cc (pc + 3) = .ok (.dup, 1)) (d4 : decode cc (pc + 4) = .ok (.ldc_w is, 3)) (d7 : decode cc (pc + 7) = .ok (.invokespecial ic, 3)) (d10 : decode cc (pc + 10) = .ok (.athrow, 1))
    (hout : ∀ x ∈ c.exceptionTable.toList, covers x (pc + 10) = false)
    (hRframes : names.length + 3 < R.frames) (hRlocals : (rest.map fun v => v.category).sum + (13 * (names.length + 1) + 43) ≤ R.locals) (hRcells : cells + 1 ≤ R.cells) (hRslots : slots + 6 ≤ R.slots) (hlocks : meth.locks = false)
    (hx : ∀ t : State, s.vm.Alike t.vm → H.size ≤ t.heap.size → (∀ q : Nat, q < H.size → t.heap[q]? = H[q]?) → XC cls s t)
    (hf : ∀ z ∈ locs, free z.base) (hc : cells + 1 ≤ mc) (hs : slots + 6 ≤ ms) :
    W p l e R s m args below meth c H locs cells slots (vx_MQ below Qc XC args s mc ms free) (F0 m pc ls rest) := by
  intro T hT X
  have htr : e.platform.stackTraces = false := (show e.platform.stackTraces = l.stackTraces by rw [X.admits.platform]).trans hl
  have Y := vx_rebase X (R' := { frames := R.frames, locals := R.locals, cells := 1, slots := 6 }) (Nat.le_refl _) (Nat.le_refl _) hRcells hRslots
  obtain ⟨s', hA⟩ : ∃ z, z = (T.setVm s.vm).setFrames (.invoking m args :: below) := ⟨_, rfl⟩
  rw [← hA] at Y
  have hvm : s'.vm = s.vm := by rw [hA]; rfl
  have hhp : s'.heap = H := by rw [hA]; exact hT
  have hW0 : s.WarmedH s'.vm := by rw [hvm]; exact State.WarmedH.refl s
  have hat' : ∀ w ∈ vx_atS own ic cls names, w.before args s' = true := fun w hw => vx_ot_at hW0 hvm.symm (hgood w (List.mem_cons_of_mem _ (List.mem_cons_of_mem _ hw))) (hat w hw)
  have hk' : (Cond.classLink own ik cls).before args s' = true := vx_ot_at hW0 hvm.symm (hgood _ List.mem_cons_self) hk
  have hini' : (Cond.initialized cls).before args s' = true := vx_ot_at hW0 hvm.symm (hgood _ (List.mem_cons_of_mem _ List.mem_cons_self)) hini
  have hU' : vx_Zq Bundle.tN "UNASSIGNED_STACK" Bundle.steD A s' s'.heap := by rw [hhp]; exact vx_Zq.moved hW0.alike (hU.kept hS.2.1)
  have hN' : vx_Zq Bundle.tN "SUPPRESSED_SENTINEL" Bundle.listD A s' s'.heap := by rw [hhp]; exact vx_Zq.moved hW0.alike (hN.kept hS.2.1)
  have h : ∀ w ∈ Bundle.ownAtoms own ic cls names, w.before args s' = true := vx_own hat' (vx_isRefq hU'.1) (vx_isRefq hN'.1) hU'.2.word hN'.2.word
  have hown' : s'.vm.findClass own = some m.cls := by rw [hvm]; exact hown
  have hins : (Cond.instantiable cls 6).before args s' = true := h _ (by simp [Bundle.ownAtoms])
  obtain ⟨vm₁, cX, kX, hfX, hkX, -, -, X₁, st1⟩ := Y.newCold hexec (own := own) (C := cls) (index := ik) (n := 6) hown' hk' hins hini'
    (g := F0 m pc ls rest) rfl (by rw [hb]; exact d0) (Nat.le_refl _) (Nat.le_refl _)
  generalize hT1 : (T.setVm vm₁).pushCell { cls := cX, slots := kX.instanceTypes.map defaultValue, vm := .none } = T1 at X₁ st1
  have hcat : (Value.ref T.heap.size).category = 1 := rfl
  have hcellA : T1.heap[T.heap.size]? = some (freshCell cX kX) := by rw [← hT1]; exact State.heap_pushCell_size _ _
  have d3' : decode c.code (pc + 3) = .ok (.dup, 1) := by rw [hb]; exact d3
  have d4' : decode c.code (pc + 4) = .ok (.ldc_w is, 3) := by rw [hb]; exact d4
  have hstr' : vk_R own is text sa s' := vk_R.warm hW0 hstr
  obtain ⟨U, hsteps, hrun, hend, hW, hsame, ce, hce, hO⟩ := X₁.ctorThrowS hexec htr (own := own) (cls := cls) (names := names) (ic := ic) hown' hcls hnames h (fun x hx => nomatch hx) hfX hkX hcellA (by rw [hhp, hT]; exact Nat.le_refl _) (msg := .ref sa) rfl
    (g := { method := m, pc := pc + 7, locals := ls, stack := .ref sa :: .ref T.heap.size :: .ref T.heap.size :: rest, locked := none }) rfl hsize rfl rfl (rest := rest) rfl
    (by rw [hb]; exact d7) (by rw [hb]; exact d10) hout hRframes (by simp only [List.map_cons, List.sum_cons, hcat]; omega) hlocks
  obtain ⟨f1, f2⟩ := vx_frame hsame
  rw [hhp] at f1 f2
  have hWs : s.WarmedH U.vm := State.WarmedH.trans hW0 hW
  have hcl : s.vm.findClass cls = some ce.cls := by
    have h9 := hO.cls
    rw [hvm] at h9
    exact h9
  have hall : s.sameButNew ({ U with vm := s.vm } : State) locs mc ms := by
    subst hA
    obtain ⟨e1, e2⟩ := hsame
    rw [State.setFrames_setFrames] at e1
    have h2 : (T.setVm s.vm).sameButNew ({ U with vm := s.vm } : State) [] (0 + 1) (0 + 6) := ⟨e1, e2⟩
    have h3 := X.same.trans h2
    rw [List.append_nil] at h3
    exact h3.mono hc hs
  refine ⟨U, ?_, .threw T.heap.size, hrun, hend, Or.inr ⟨T.heap.size, rfl, cls, ce, locs, hx U hWs.alike f1 (fun q hq => f2 q hq (fun z hz => nomatch hz)), hce, hO.vm, hcl, hWs, hall, hf⟩⟩
  refine st1 _ ?_
  show Steps p.tables e below (T1.setTop { method := m, pc := pc + 3, locals := ls, stack := .ref T.heap.size :: rest, locked := none }) _
  jvm_step X₁.here [X₁.here.top, hexec, d3', Value.category]
  exact X₁.ldcStringW hexec (own := own) (text := text) (index := is) (a := sa) hown' hstr'.1 hstr'.2
    (g := { method := m, pc := pc + 4, locals := ls, stack := .ref T.heap.size :: .ref T.heap.size :: rest, locked := none }) rfl d4' _ hsteps
end Ends
section Bodies
variable {l : Launch}
theorem vx_ofW {y : MethodName} {ws ws' : List Cond} {rm : Room} {Pc : Array Value → State → Prop} {Qc : Array Value → State → Outcome → State → Prop} {XC : String → State → State → Prop} {mc ms : Nat} {free : Addr → Prop} {cc : ByteArray} {maxL : Nat} {ret : Option FieldType}
    (hy : plainName y.cls = true) (hw : ws = Cond.code y cc maxL ret :: ws')
    (body : ∀ p e s m args below meth c s₁, BodyLoose p l y (headSpec ws rm) cc maxL ret e s m args below meth c s₁ → c.maxLocals = maxL → (∀ x ∈ c.exceptionTable.toList, False) → Pc args s →
      W p l e (headSpec ws rm).room s m args below meth c s.heap [] 0 0 (vx_MQ below Qc XC args s mc ms free) (entryFrame m args maxL)) : vx_Met l y ws rm Pc Qc XC mc ms free := by
  refine MetFree.of_bodyS (code := cc) (maxLocals := maxL) (ret := ret) hy ?_ ?_
  · intro args s m h hn
    obtain ⟨meth, c, h1, h2, h3, h4, h5, h6, -, -⟩ := Cond.code_spec hn (atoms_spec (ws := ws) h _ (by rw [hw]; exact List.mem_cons_self))
    exact ⟨meth, c, h1, h2, h3, h4, h5, h6⟩
  · intro p e s m args below meth c s₁ B hml hP _
    have hh0 : s₁.heap = s.heap := by rw [B.state]; rfl
    have ht : ∀ x ∈ c.exceptionTable.toList, False := by
      obtain ⟨meth9, c9, h1, h2, -, -, -, -, h7, -⟩ := Cond.code_spec B.named (atoms_spec (ws := ws) B.pre _ (by rw [hw]; exact List.mem_cons_self))
      cases Option.some.inj (h1.symm.trans B.method)
      cases Option.some.inj (h2.symm.trans (Stand.of_body B).code)
      intro x hx
      rw [Array.isEmpty_iff.mp h7] at hx
      cases hx
    obtain ⟨t, a1, o, b1, b2, b3⟩ := body p e s m args below meth c s₁ B hml ht hP s₁ hh0 (Stand.of_body B)
    exact ⟨t, o, a1, b1, b2, b3⟩
/-- the table of a body with handlers -/
theorem vx_table {p : Program} {x y : MethodName} {S : Spec} {cc bytes : ByteArray} {maxL maxL' : Nat} {ret ret' : Option FieldType} {e : Env} {s s₁ : State} {m : MethodId} {args : Array Value} {below : List Frame} {meth : Method} {c : Code} {hh : List (Nat × Nat × Nat × Nat)}
    (B : BodyLoose p l y S cc maxL ret e s m args below meth c s₁) (h : (Cond.codeWith y bytes maxL' ret' hh).before args s = true) : c.exceptionTable.toList = tableOf hh := by
  obtain ⟨m9, meth9, c9, hn9, h1, h2, -, -, h6, -⟩ := Cond.codeWith_spec h
  cases Option.some.inj (hn9.symm.trans B.named)
  cases Option.some.inj (h1.symm.trans B.method)
  cases Option.some.inj (h2.symm.trans (Stand.of_body B).code)
  rw [← h6, table_eq]
end Bodies
end VXA
/-! ===== END ===== -/
/-! ===== BEGIN a static call of a method with an exception table ===== -/
section VXS
variable {p : Program} {l : Launch} {e : Env} {R : Room} {s : State} {m : MethodId} {args : Array Value} {below : List Frame} {meth : Method} {c : Code} {T : State} {H : Heap} {locs : List Loc} {cells slots : Nat}
abbrev vx_CSW (R : Room) (s : State) (args : Array Value) (own : String) (index : Nat) (y : MethodName) (bytes : ByteArray) (maxL : Nat) (ret : Option FieldType) (hh : List (Nat × Nat × Nat × Nat)) (ws : List Cond) (rm : Room) (mc ms n : Nat) : Prop :=
  (rm.cells = mc ∧ rm.slots = ms ∧ rm.frames + 1 ≤ R.frames ∧ 8 + (maxL + 11) + rm.locals ≤ R.locals ∧ (∀ w ∈ ws, ∀ (a' : Array Value) (U : State), s.WarmedH U.vm → w.before a' U = true) ∧ Cond.codeWith y bytes maxL ret hh ∈ ws) ∧
  (Cond.codeWith y bytes maxL ret hh).before args s = true ∧ (Cond.initialized y.cls).before args s = true ∧ (y.cls ≠ "java/lang/invoke/MethodHandle" ∧ y.cls ≠ "java/lang/invoke/VarHandle") ∧
  (∀ sig, parseMethodDescriptor y.desc = some sig → n = sig.parameters.length) ∧ (Cond.methodLink own index y).before args s = true ∧ (Cond.static y).before args s = true
theorem vx_cwSW {own : String} {index maxL mc ms : Nat} {y : MethodName} {bytes : ByteArray} {ret : Option FieldType} {hh : List (Nat × Nat × Nat × Nat)} {Ts ws ws' : List Cond} {rm : Room} (n : Nat) (ht : ∀ w ∈ Ts, w.before args s = true) (hT : GoodIn Ts (va_wsS own index y ws)) (hw : ws = Cond.codeWith y bytes maxL ret hh :: ws') (hrc : rm.cells = mc) (hrs : rm.slots = ms)
    (hd : y.cls ≠ "java/lang/invoke/MethodHandle" ∧ y.cls ≠ "java/lang/invoke/VarHandle" ∧ (parseMethodDescriptor y.desc).map (fun d => d.parameters.length) = some n) (hR : rm.frames + 1 ≤ R.frames ∧ 8 + (maxL + 11) + rm.locals ≤ R.locals) :
    vx_CSW R s args own index y bytes maxL ret hh ws rm mc ms n := by
  have ok : ∀ w ∈ va_wsS own index y ws, w.before args s = true := fun w h => ht w (hT w h).1
  have hG : GoodIn Ts ws := fun w h => hT w (by unfold va_wsS; exact List.mem_append_right _ h)
  have hc : Cond.codeWith y bytes maxL ret hh ∈ ws := by rw [hw]; exact List.mem_cons_self
  refine ⟨⟨hrc, hrs, hR.1, hR.2, pay_in ht hG, hc⟩, ht _ (hG _ hc).1, ok _ (by simp [va_wsS]), ⟨hd.1, hd.2.1⟩, fun sig h => ?_, ok _ (by simp [va_wsS]), ok _ (by simp [va_wsS])⟩
  have h2 := hd.2.2
  rw [h] at h2
  exact (Option.some.inj h2).symm
theorem vx_callSW (X : Stand p l e R s m args below meth c T locs cells slots) (hexec : p.tables.exec = Jvm.exec) {own : String} {index : Nat} {y : MethodName} {bytes : ByteArray} {maxL : Nat} {ret : Option FieldType} {hh : List (Nat × Nat × Nat × Nat)}
    (hown : s.vm.findClass own = some m.cls) (hlink : (Cond.methodLink own index y).before args s = true) (hstat : (Cond.static y).before args s = true) (hinit : (Cond.initialized y.cls).before args s = true)
    (hcode : (Cond.codeWith y bytes maxL ret hh).before args s = true) (hy : y.cls ≠ "java/lang/invoke/MethodHandle" ∧ y.cls ≠ "java/lang/invoke/VarHandle")
    {W9 : Nat} {Pre : Pt → Array Value → Prop} {Post : Pt → Array Value → Option Value → Pt → Prop} (hK : Back l R p e below s args y 3 W9 Pre Post)
    {g : JFrame} (hg : g.method = m) (hsize : g.locals.size = c.maxLocals) {argsL rest : List Value} (hlen : ∀ sig, parseMethodDescriptor y.desc = some sig → argsL.length = sig.parameters.length)
    (hstack : g.stack = argsL.reverse ++ rest) (hW : 2 * g.monitorRoom + (rest.map fun v => v.category).sum ≤ W9) (hdg : decode c.code g.pc = .ok (.invokestatic index, 3))
    (hpre : ∀ vm₁, s.WarmedH vm₁ → Pre ⟨T.setVm vm₁, locs, cells, slots⟩ argsL.toArray) :
    ∃ (v : Option Value) (vm₁ : Vm) (B : Pt), s.WarmedH vm₁ ∧ Stand p l e R s m args below meth c B.U B.locs B.cells B.slots ∧ Post ⟨T.setVm vm₁, locs, cells, slots⟩ argsL.toArray v B ∧
      ∀ target, Steps p.tables e below (B.U.setTop { g with pc := g.pc + 3, stack := v.toList ++ rest }) target → Steps p.tables e below (T.setTop g) target := by
  obtain ⟨mk, methM, cM, hnamed, hmethM, -, -, -, -, -, -, hsigM⟩ := Cond.codeWith_spec hcode
  have hstatic : methM.isStatic = true := Cond.static_spec hnamed hmethM hstat
  obtain ⟨kP, hkP, -⟩ := className_of_methodNamed hnamed
  have hinitP : kP.init = .initialized := Cond.initialized_spec (findClass_of_methodNamed hnamed) hkP hinit
  obtain ⟨vm₁, X₁, hstep₁⟩ := X.invokestatic hexec hown hlink hnamed hmethM hstatic hkP hinitP hy (g := g) hg (argsL := argsL) (rest := rest) (hlen _ hsigM) hstack hdg
  obtain ⟨v, B, X', hpost, hsteps⟩ := hK m meth c ⟨T.setVm vm₁, locs, cells, slots⟩ { g with stack := rest } (.invokestatic index) mk argsL.toArray X₁ hg hsize hdg hW (X₁.named hnamed) (hpre vm₁ X₁.warmed)
  exact ⟨v, vm₁, B, X₁.warmed, X', hpost, fun target h => hstep₁ _ fun acts => by rw [doInvoke_state]; exact hsteps.trans h⟩
theorem vx_runSW {y : MethodName} {bytes cc : ByteArray} {maxL nL mc ms n index : Nat} {ret : Option FieldType} {hh : List (Nat × Nat × Nat × Nat)} {ws : List Cond} {rm : Room} {Pc : Array Value → State → Prop} {Qc : Array Value → State → Outcome → State → Prop} {free : Addr → Prop} {Ts : List Cond} {own : String} {As rest : List Value} {g : JFrame}
    (S : CallFix p m c cc nL s args Ts own) (hM : Met l y ws rm Pc Qc mc ms free) (cw : vx_CSW R s args own index y bytes maxL ret hh ws rm mc ms n) (hp : PreS s H Pc As)
    (hg : g.method = m) (hn : As.length = n) (hsize : g.locals.size = nL) (hstack : g.stack = As.reverse ++ rest) (hW : 2 * g.monitorRoom + (rest.map fun v => v.category).sum ≤ 8) (hdg : decode cc g.pc = .ok (.invokestatic index, 3)) (hf : cells + mc ≤ R.cells ∧ slots + ms ≤ R.slots) :
    va_Run p l e R s m args below meth c H locs cells slots mc ms g rest (Qc As.toArray) (free) := by
  obtain ⟨⟨hrc, hrs, hfr, hlo, hws, hcw⟩, hcode, hini, hy, hlen, hl, hstt⟩ := cw
  have hK : Back l R p e below s args y 3 8 (PreOf R mc ms Pc) (PostOf Qc mc ms free) := va_backW (hh := hh) (bytes := bytes) (maxL := maxL) (ret := ret) hM hp.1 hrc hrs hfr hlo hws hcw (fun a' U hW => word_at hW (Or.inl (by first | rfl | simp [Cond.onTables, Cond.keeps, Cond.steady])) hini)
  obtain ⟨hx, hb, hml, ho, -⟩ := S
  intro T hT X
  obtain ⟨v, vm₁, ⟨U', l2, c2, s2⟩, hW₁, X', ⟨g', mk, t, L, e1, e2, hq, h1, hL, h2, h3⟩, st⟩ := vx_callSW X hx (hh := hh) (bytes := bytes) (maxL := maxL) (ret := ret) ho hl hstt hini hcode hy hK hg (hsize.trans hml.symm) (argsL := As) (rest := rest) (fun sig h => hn.trans (hlen sig h)) hstack hW (by rw [hb]; exact hdg)
    (fun vm₁ hW₁ => ⟨hf.1, hf.2, hp.2 (T.setVm vm₁) hT hW₁⟩)
  dsimp only [Pt.U, Pt.locs, Pt.cells, Pt.slots] at X' e1 e2 h1 h2 h3 st
  subst h1; subst h2; subst h3
  exact ⟨v, (T.setVm vm₁).calling g' mk As.toArray, t, U', L, hT, X', hL, e1, e2, hq, st⟩
/-- not caught here, past rows that name other classes: it goes on to the caller -/
theorem vx_outP {p : Program} {l : Launch} {e : Env} {R : Room} {s : State} {m : MethodId} {args : Array Value} {below : List Frame} {meth : Method} {c : Code} {H : Heap} {locs : List Loc} {cells slots : Nat} {free : Addr → Prop} {ls : Array Slot} {rest : List Value} {Qc : Array Value → State → Outcome → State → Prop} {XC : String → State → State → Prop}
    {pc : Nat} {own E : String} {ce : Cell} {q : Addr} {mc ms : Nat} (hown : s.vm.findClass own = some m.cls) (hlocks : meth.locks = false)
    (hpass : ∀ z ∈ c.exceptionTable.toList, covers z pc = false ∨ (z.catchType ≠ 0 ∧ ∃ nm : String, (Cond.classLink own z.catchType nm).before args s = true ∧ va_Nc E nm s)) (hcell : H[q]? = some ce) (hv : ce.vm = .none) (hcl : s.vm.findClass E = some ce.cls)
    (hx : ∀ t : State, t.heap = H → s.vm.Alike t.vm → XC E s t) (hf : ∀ z ∈ locs, free z.base) (hc : cells ≤ mc) (hs : slots ≤ ms) :
    vx_W p l e R s m args below meth c H locs cells slots (vx_MQ below Qc XC args s mc ms free) (F0 m pc ls rest) q := by
  intro T hT X
  have hpl : e.platform.magicAccessors = ({} : Platform).magicAccessors := by rw [X.admits.platform]
  obtain ⟨vm', hW', X', st⟩ := X.outThrough hlocks q (g := F0 m pc ls rest) rfl rfl rfl (cell := ce) (by rw [hT]; exact hcell) (by rw [hv]; rfl)
    (by obtain ⟨k9, h9, -⟩ := Vm.findClass_spec hcl; exact ⟨k9, h9⟩) (fun z hz => by
      rcases hpass z hz with h | ⟨hz0, nm, hl1, hn1⟩
      · exact Or.inl h
      · obtain ⟨c6, hc6, hcl6⟩ := Cond.classLink_spec hown hl1 e.platform hpl
        obtain ⟨a8, b8, h1, h2, h3⟩ := hn1
        cases Option.some.inj (h1.symm.trans hcl)
        cases Option.some.inj (h2.symm.trans hc6)
        exact Or.inr ⟨hz0, _, hcl6, h3⟩)
  obtain ⟨g₀, hfr⟩ := X'.frames_eq
  have hcell9 : ((T.setVm vm').setFrames (.throwing q :: below)).heap[q]? = some ce := by
    show T.heap[q]? = some ce
    rw [hT]; exact hcell
  have hend : Ended ((T.setVm vm').setFrames (.throwing q :: below)) below (.threw q) := State.frames_setFrames _ (State.cur_lt_of_frames hfr)
  refine ⟨(T.setVm vm').setFrames (.throwing q :: below), ?_, .threw q, X'.here.running, hend, Or.inr ⟨q, rfl, E, ce, locs, hx _ hT (X'.ends _).1.alike, hcell9, hv, hcl, (X'.ends _).1, (X'.ends _).2.mono hc hs, hf⟩⟩
  rw [X.pushThrowing_eq]
  exact st
/-- a thing of a world lies in the heap -/
theorem vx_lt {D : va_G} {cl : List vw_C} {ws : va_W} {H1 : Heap} (h : va_P D cl ws H1) {k : Nat} {q : Nat × va_E} (hk : ws[k]? = some q) : q.1 < H1.size := (h k q hk).lt
end VXS
/-! ===== END ===== -/
/-! ===== BEGIN methods with a table of their own: called by a name, returning or throwing ===== -/
section VXH
/-! vx_backW, vx_callVX, vx_callSX, vx_callVW, vx_runVW, vx_runVX, vx_runSX, vx_ofWH follow the same proofs as their sisters above (Free/Laws.lean, Shelf42/LK1.lean); vx_outP calls Shelf42/NT130.lean (outThrough). -/
section
variable {l : Launch} {R : Room} {p : Program} {e : Env} {below : List Frame} {s : State} {sargs : Array Value} {y : MethodName} {len W9 : Nat}
theorem vx_backW {ws : List Cond} {rm : Room} {Pc : Array Value → State → Prop} {Qc : Array Value → State → Outcome → State → Prop} {XC : String → State → State → Prop} {mc ms : Nat} {free : Addr → Prop} {bytes : ByteArray} {maxL : Nat} {ret : Option FieldType} {hh : List (Nat × Nat × Nat × Nat)}
    (hM : vx_Met l y ws rm Pc Qc XC mc ms free) (hblind : FrameBlind Pc) (hrc : rm.cells = mc) (hrs : rm.slots = ms)
    (hframes : rm.frames + 1 ≤ R.frames) (hlocals : W9 + (maxL + 11) + rm.locals ≤ R.locals)
    (hws : ∀ w ∈ ws, ∀ a' U, s.WarmedH U.vm → w.before a' U = true) (hcode : Cond.codeWith y bytes maxL ret hh ∈ ws) (hinit : ∀ a' U, s.WarmedH U.vm → (Cond.initialized y.cls).before a' U = true) :
    vx_Back l R p e below s sargs y len W9 (PreOf R mc ms Pc) (PostOf Qc mc ms free) (vx_Post XC mc ms free) := by
  intro m meth c A g ig mk a X hg hsize hdg hW hn hp
  have h1 : (headSpec ws rm).pre.before a A.U = true := atoms_intro fun w hw => hws w hw _ _ X.warmed
  have h2 : (Cond.codeWith y bytes maxL ret hh).before a A.U = true := hws _ hcode _ _ X.warmed
  have h3 : (Cond.initialized y.cls).before a A.U = true := hinit _ _ X.warmed
  have h4 : A.cells + (headSpec ws rm).room.cells ≤ R.cells := by rw [show (headSpec ws rm).room.cells = mc from hrc]; exact hp.1
  have h5 : A.slots + (headSpec ws rm).room.slots ≤ R.slots := by rw [show (headSpec ws rm).room.slots = ms from hrs]; exact hp.2.1
  have hPc : Pc a (A.U.calling g mk a) := hblind _ _ _ _ hp.2.2
  obtain ⟨U, Ls, c0, s0⟩ := A
  dsimp only [Pt.U, Pt.locs, Pt.cells, Pt.slots] at h1 h2 h3 h4 h5 X hn hPc ⊢
  obtain ⟨m9, methY, cY, hn9, hmY, hcY, -, hlY, -⟩ := Cond.codeWith_spec h2
  cases Option.some.inj (hn9.symm.trans hn)
  obtain ⟨kY, hkY, -⟩ := className_of_methodNamed hn
  have hinitY : kY.init = .initialized := Cond.initialized_spec (findClass_of_methodNamed hn) hkY h3
  have h : At U g.method c below := by rw [hg]; exact X.here
  have hlocals9 : W9 + (maxL + 11) + (headSpec ws rm).room.locals ≤ R.locals := hlocals
  have happ : (headSpec ws rm).appliesLoose y e.platform (U.calling g mk a) = true :=
    Spec.appliesLoose_calling (g := g) h hdg hn hkY hinitY
      (X.room_calling (g := g) (R' := (headSpec ws rm).room) hsize hmY hcY hframes (by rw [hlY]; omega) h4 h5) h1
  obtain ⟨mid, hmid⟩ := h.above
  have hfr : (U.setTop g).frames = (.java g :: mid) ++ below := by rw [State.frames_setTop' g h.top, hmid]; rfl
  obtain ⟨o, s₂, hsteps, -, hend, hq⟩ := Steps.callFree hM p X.admits X.cas X.clock (acts := []) hfr happ hPc trivial
  have hq' : vx_Q Qc XC mc ms free a (U.calling g mk a) o s₂ := hq
  rw [State.frames_setTop' g h.top] at hend
  obtain ⟨g₀, hg0⟩ := Option.isSome_iff_exists.mp h.top
  obtain ⟨r, hr⟩ := State.topJava?_eq_some.mp hg0
  have hr' : (({ U with heap := s₂.heap, slotsUsed := s₂.slotsUsed } : State).setVm s₂.vm).frames = .java g₀ :: r := hr
  rcases hq' with ⟨hqc, L, hfe, hL⟩ | ⟨q, rfl, E, ce, L, hx, hce, hcv, hcl, hW₂, hsm, hL⟩
  · obtain ⟨⟨v, rfl⟩, hW₂, e2, q2, q3, q4, q5, q6⟩ := id hfe
    have e3 : s₂ = ({ (U.calling g mk a).setFrames s₂.frames with heap := s₂.heap, slotsUsed := s₂.slotsUsed } : State).setVm s₂.vm := by
      have : s₂ = ({ s₂ with vm := (U.calling g mk a).vm } : State).setVm s₂.vm := rfl
      rw [e2] at this
      exact this
    obtain ⟨c₂, i₂, len₂, hc₂, hd₂, hf₂⟩ := hend
    have hW' : U.WarmedH s₂.vm := hW₂
    have hcc : c₂ = c := by
      have h1 : s₂.code? g.method = U.code? g.method := by
        rw [State.code?_eq, State.code?_eq, hW'.alike.method?]
      exact Option.some.inj (hc₂.symm.trans (h1.trans h.code))
    subst hcc
    have hlen : len₂ = len := by rw [hdg] at hd₂; cases hd₂; rfl
    subst hlen
    have hs₂ : s₂ = (({ U with heap := s₂.heap, slotsUsed := s₂.slotsUsed } : State).setVm s₂.vm).setTop { g with pc := g.pc + len₂, stack := v.toList ++ g.stack } := by
      refine e3.trans ?_
      rw [hf₂, State.calling_eq h.top, State.setFrames_setFrames, State.setTop_of_frames _ hr', hr]
      rfl
    have hsame : U.sameButNew ({ U with heap := s₂.heap, slotsUsed := s₂.slotsUsed } : State) L mc ms := by
      refine ⟨?_, q2, q3, q4, q5, q6⟩
      obtain ⟨t, ht, -⟩ := State.frames_cons hr
      show ({ U with heap := s₂.heap, slotsUsed := s₂.slotsUsed } : State) = { U.setFrames U.frames with heap := s₂.heap, slotsUsed := s₂.slotsUsed }
      rw [State.setFrames_self ht]
    subst hg
    refine Or.inl ⟨v, ⟨(({ U with heap := s₂.heap, slotsUsed := s₂.slotsUsed } : State).setVm s₂.vm), Ls ++ L, c0 + mc, s0 + ms⟩,
      ⟨X.admits, X.cas, X.clock, X.frames, X.room, X.hears, X.method, X.code, (X.here.setHeapUsed s₂.heap s₂.slotsUsed).setVm hW'.alike, X.tail, State.WarmedH.trans X.warmed hW', X.limits, X.bytes, X.same.trans (hsame.setVm s.vm)⟩,
      ⟨g, mk, s₂, L, rfl, rfl, hqc, rfl, hL, rfl, rfl⟩, ?_⟩
    show Steps p.tables e below _ ((({ U with heap := s₂.heap, slotsUsed := s₂.slotsUsed } : State).setVm s₂.vm).setTop { g with pc := g.pc + len₂, stack := v.toList ++ g.stack })
    rw [← hs₂]
    exact hsteps
  · obtain ⟨e2, q2, q3, q4, q5, q6⟩ := id hsm
    have e3 : s₂ = ({ (U.calling g mk a).setFrames s₂.frames with heap := s₂.heap, slotsUsed := s₂.slotsUsed } : State).setVm s₂.vm := by
      have : s₂ = ({ s₂ with vm := (U.calling g mk a).vm } : State).setVm s₂.vm := rfl
      rw [e2] at this
      exact this
    have hf₂ : s₂.frames = .throwing q :: .java g :: U.frames.tail := hend
    have hW' : U.WarmedH s₂.vm := hW₂
    have hs₂ : s₂ = ((({ U with heap := s₂.heap, slotsUsed := s₂.slotsUsed } : State).setVm s₂.vm).setTop g).pushFrame (.throwing q) := by
      refine e3.trans ?_
      rw [hf₂, State.calling_eq h.top, State.setFrames_setFrames, State.pushFrame, State.frames_setTop _ hr', State.setTop_of_frames _ hr', State.setFrames_setFrames, hr]
      rfl
    have hsame : U.sameButNew ({ U with heap := s₂.heap, slotsUsed := s₂.slotsUsed } : State) L mc ms := by
      refine ⟨?_, q2, q3, q4, q5, q6⟩
      obtain ⟨t, ht, -⟩ := State.frames_cons hr
      show ({ U with heap := s₂.heap, slotsUsed := s₂.slotsUsed } : State) = { U.setFrames U.frames with heap := s₂.heap, slotsUsed := s₂.slotsUsed }
      rw [State.setFrames_self ht]
    subst hg
    refine Or.inr ⟨q, ⟨(({ U with heap := s₂.heap, slotsUsed := s₂.slotsUsed } : State).setVm s₂.vm), Ls ++ L, c0 + mc, s0 + ms⟩,
      ⟨X.admits, X.cas, X.clock, X.frames, X.room, X.hears, X.method, X.code, (X.here.setHeapUsed s₂.heap s₂.slotsUsed).setVm hW'.alike, X.tail, State.WarmedH.trans X.warmed hW', X.limits, X.bytes, X.same.trans (hsame.setVm s.vm)⟩,
      ⟨g, mk, s₂, L, E, ce, rfl, rfl, hx, hce, hcv, hcl, rfl, hL, rfl, rfl⟩, ?_⟩
    show Steps p.tables e below _ (((({ U with heap := s₂.heap, slotsUsed := s₂.slotsUsed } : State).setVm s₂.vm).setTop g).pushFrame (.throwing q))
    rw [← hs₂]
    exact hsteps
end
variable {p : Program} {l : Launch} {e : Env} {R : Room} {s : State} {m : MethodId} {args : Array Value} {below : List Frame} {meth : Method} {c : Code} {T : State} {H : Heap} {locs : List Loc} {cells slots : Nat}
theorem vx_callVX (X : Stand p l e R s m args below meth c T locs cells slots) (hexec : p.tables.exec = Jvm.exec) {own C : String} {index : Nat} {y : MethodName} {bytes : ByteArray} {maxL : Nat} {ret : Option FieldType} {hh : List (Nat × Nat × Nat × Nat)}
    (hown : s.vm.findClass own = some m.cls) (hlink : (Cond.methodLink own index y).before args s = true) (hinst : (Cond.instanceMethod y).before args s = true) (hsel : (Cond.selects C y y).before args s = true)
    (hcode : (Cond.codeWith y bytes maxL ret hh).before args s = true) (hy : y.cls ≠ "java/lang/invoke/MethodHandle" ∧ y.cls ≠ "java/lang/invoke/VarHandle")
    {W9 : Nat} {Pre : Pt → Array Value → Prop} {Post : Pt → Array Value → Option Value → Pt → Prop} {PostX : Pt → Array Value → Addr → Pt → Prop} (hK : vx_Back l R p e below s args y 3 W9 Pre Post PostX)
    {b : Addr} {cellB : Cell} (hcell : T.heap[b]? = some cellB) (hobj : cellB.vm.isStatics = false) (hcls : s.vm.findClass C = some cellB.cls)
    {g : JFrame} (hg : g.method = m) (hsize : g.locals.size = c.maxLocals) {argsL rest : List Value} (hlen : ∀ sig, parseMethodDescriptor y.desc = some sig → argsL.length = sig.parameters.length)
    (hstack : g.stack = argsL.reverse ++ .ref b :: rest) (hW : 2 * g.monitorRoom + (rest.map fun v => v.category).sum ≤ W9) (hdg : decode c.code g.pc = .ok (.invokevirtual index, 3))
    (hpre : ∀ vm₁, s.WarmedH vm₁ → Pre ⟨T.setVm vm₁, locs, cells, slots⟩ (Value.ref b :: argsL).toArray) :
    (∃ (v : Option Value) (vm₁ : Vm) (B : Pt), s.WarmedH vm₁ ∧ Stand p l e R s m args below meth c B.U B.locs B.cells B.slots ∧ Post ⟨T.setVm vm₁, locs, cells, slots⟩ (Value.ref b :: argsL).toArray v B ∧
      ∀ target, Steps p.tables e below (B.U.setTop { g with pc := g.pc + 3, stack := v.toList ++ rest }) target → Steps p.tables e below (T.setTop g) target) ∨
    (∃ (q : Addr) (vm₁ : Vm) (B : Pt), s.WarmedH vm₁ ∧ Stand p l e R s m args below meth c B.U B.locs B.cells B.slots ∧ PostX ⟨T.setVm vm₁, locs, cells, slots⟩ (Value.ref b :: argsL).toArray q B ∧
      Steps p.tables e below (T.setTop g) ((B.U.setTop { g with stack := rest }).pushFrame (.throwing q))) := by
  obtain ⟨mk, methM, hnamed, hmethM, hstM, habM⟩ := Cond.instanceMethod_spec hinst
  obtain ⟨m8, methM', cM, hn8, hmethM', -, -, -, -, -, -, hsigM⟩ := Cond.codeWith_spec hcode
  cases Option.some.inj (hn8.symm.trans hnamed)
  cases hmethM.symm.trans hmethM'
  obtain ⟨c2, r2, m2, q1, q2, q3, q4, kP, hkP, hkPi⟩ := Cond.selects_spec hsel
  cases hcls.symm.trans q1
  cases (State.methodFound?_of_named hnamed hy).symm.trans q2
  cases hnamed.symm.trans q3
  have hselP : selectMethod e.platform s.vm cellB.cls mk = .method mk := by rw [Launch.admits_selectMethod X.admits]; exact q4
  obtain ⟨vm₁, X₁, hstep₁⟩ := X.invokevirtual hexec hown hlink hnamed hmethM hstM hkP hkPi hy (a := b) (cell := cellB) hcell
    (fun z h => by rw [h] at hobj; cases hobj) hselP hmethM habM hkP hkPi (g := g) hg (argsL := argsL) (rest := rest) (hlen _ hsigM) hstack hdg
  rcases hK m meth c ⟨T.setVm vm₁, locs, cells, slots⟩ { g with stack := rest } (.invokevirtual index) mk (Value.ref b :: argsL).toArray X₁ hg hsize hdg hW (X₁.named hnamed) (hpre vm₁ X₁.warmed) with ⟨v, B, X', hpost, hsteps⟩ | ⟨q, B, X', hpost, hsteps⟩
  · exact Or.inl ⟨v, vm₁, B, X₁.warmed, X', hpost, fun target h => hstep₁ _ fun acts => by rw [doInvoke_state]; exact hsteps.trans h⟩
  · exact Or.inr ⟨q, vm₁, B, X₁.warmed, X', hpost, hstep₁ _ fun acts => by rw [doInvoke_state]; exact hsteps⟩
theorem vx_callSX (X : Stand p l e R s m args below meth c T locs cells slots) (hexec : p.tables.exec = Jvm.exec) {own : String} {index : Nat} {y : MethodName} {bytes : ByteArray} {maxL : Nat} {ret : Option FieldType} {hh : List (Nat × Nat × Nat × Nat)}
    (hown : s.vm.findClass own = some m.cls) (hlink : (Cond.methodLink own index y).before args s = true) (hstat : (Cond.static y).before args s = true) (hinit : (Cond.initialized y.cls).before args s = true)
    (hcode : (Cond.codeWith y bytes maxL ret hh).before args s = true) (hy : y.cls ≠ "java/lang/invoke/MethodHandle" ∧ y.cls ≠ "java/lang/invoke/VarHandle")
    {W9 : Nat} {Pre : Pt → Array Value → Prop} {Post : Pt → Array Value → Option Value → Pt → Prop} {PostX : Pt → Array Value → Addr → Pt → Prop} (hK : vx_Back l R p e below s args y 3 W9 Pre Post PostX)
    {g : JFrame} (hg : g.method = m) (hsize : g.locals.size = c.maxLocals) {argsL rest : List Value} (hlen : ∀ sig, parseMethodDescriptor y.desc = some sig → argsL.length = sig.parameters.length)
    (hstack : g.stack = argsL.reverse ++ rest) (hW : 2 * g.monitorRoom + (rest.map fun v => v.category).sum ≤ W9) (hdg : decode c.code g.pc = .ok (.invokestatic index, 3))
    (hpre : ∀ vm₁, s.WarmedH vm₁ → Pre ⟨T.setVm vm₁, locs, cells, slots⟩ argsL.toArray) :
    (∃ (v : Option Value) (vm₁ : Vm) (B : Pt), s.WarmedH vm₁ ∧ Stand p l e R s m args below meth c B.U B.locs B.cells B.slots ∧ Post ⟨T.setVm vm₁, locs, cells, slots⟩ argsL.toArray v B ∧
      ∀ target, Steps p.tables e below (B.U.setTop { g with pc := g.pc + 3, stack := v.toList ++ rest }) target → Steps p.tables e below (T.setTop g) target) ∨
    (∃ (q : Addr) (vm₁ : Vm) (B : Pt), s.WarmedH vm₁ ∧ Stand p l e R s m args below meth c B.U B.locs B.cells B.slots ∧ PostX ⟨T.setVm vm₁, locs, cells, slots⟩ argsL.toArray q B ∧
      Steps p.tables e below (T.setTop g) ((B.U.setTop { g with stack := rest }).pushFrame (.throwing q))) := by
  obtain ⟨mk, methM, cM, hnamed, hmethM, -, -, -, -, -, -, hsigM⟩ := Cond.codeWith_spec hcode
  have hstatic : methM.isStatic = true := Cond.static_spec hnamed hmethM hstat
  obtain ⟨kP, hkP, -⟩ := className_of_methodNamed hnamed
  have hinitP : kP.init = .initialized := Cond.initialized_spec (findClass_of_methodNamed hnamed) hkP hinit
  obtain ⟨vm₁, X₁, hstep₁⟩ := X.invokestatic hexec hown hlink hnamed hmethM hstatic hkP hinitP hy (g := g) hg (argsL := argsL) (rest := rest) (hlen _ hsigM) hstack hdg
  rcases hK m meth c ⟨T.setVm vm₁, locs, cells, slots⟩ { g with stack := rest } (.invokestatic index) mk argsL.toArray X₁ hg hsize hdg hW (X₁.named hnamed) (hpre vm₁ X₁.warmed) with ⟨v, B, X', hpost, hsteps⟩ | ⟨q, B, X', hpost, hsteps⟩
  · exact Or.inl ⟨v, vm₁, B, X₁.warmed, X', hpost, fun target h => hstep₁ _ fun acts => by rw [doInvoke_state]; exact hsteps.trans h⟩
  · exact Or.inr ⟨q, vm₁, B, X₁.warmed, X', hpost, hstep₁ _ fun acts => by rw [doInvoke_state]; exact hsteps⟩
theorem vx_callVW (X : Stand p l e R s m args below meth c T locs cells slots) (hexec : p.tables.exec = Jvm.exec) {own C : String} {index : Nat} {y : MethodName} {bytes : ByteArray} {maxL : Nat} {ret : Option FieldType} {hh : List (Nat × Nat × Nat × Nat)}
    (hown : s.vm.findClass own = some m.cls) (hlink : (Cond.methodLink own index y).before args s = true) (hinst : (Cond.instanceMethod y).before args s = true) (hsel : (Cond.selects C y y).before args s = true)
    (hcode : (Cond.codeWith y bytes maxL ret hh).before args s = true) (hy : y.cls ≠ "java/lang/invoke/MethodHandle" ∧ y.cls ≠ "java/lang/invoke/VarHandle")
    {W9 : Nat} {Pre : Pt → Array Value → Prop} {Post : Pt → Array Value → Option Value → Pt → Prop} (hK : Back l R p e below s args y 3 W9 Pre Post)
    {b : Addr} {cellB : Cell} (hcell : T.heap[b]? = some cellB) (hobj : cellB.vm.isStatics = false) (hcls : s.vm.findClass C = some cellB.cls)
    {g : JFrame} (hg : g.method = m) (hsize : g.locals.size = c.maxLocals) {argsL rest : List Value} (hlen : ∀ sig, parseMethodDescriptor y.desc = some sig → argsL.length = sig.parameters.length)
    (hstack : g.stack = argsL.reverse ++ .ref b :: rest) (hW : 2 * g.monitorRoom + (rest.map fun v => v.category).sum ≤ W9) (hdg : decode c.code g.pc = .ok (.invokevirtual index, 3))
    (hpre : ∀ vm₁, s.WarmedH vm₁ → Pre ⟨T.setVm vm₁, locs, cells, slots⟩ (Value.ref b :: argsL).toArray) :
    ∃ (v : Option Value) (vm₁ : Vm) (B : Pt), s.WarmedH vm₁ ∧ Stand p l e R s m args below meth c B.U B.locs B.cells B.slots ∧ Post ⟨T.setVm vm₁, locs, cells, slots⟩ (Value.ref b :: argsL).toArray v B ∧
      ∀ target, Steps p.tables e below (B.U.setTop { g with pc := g.pc + 3, stack := v.toList ++ rest }) target → Steps p.tables e below (T.setTop g) target := by
  obtain ⟨mk, methM, hnamed, hmethM, hstM, habM⟩ := Cond.instanceMethod_spec hinst
  obtain ⟨m8, methM', cM, hn8, hmethM', -, -, -, -, -, -, hsigM⟩ := Cond.codeWith_spec hcode
  cases Option.some.inj (hn8.symm.trans hnamed)
  cases hmethM.symm.trans hmethM'
  obtain ⟨c2, r2, m2, q1, q2, q3, q4, kP, hkP, hkPi⟩ := Cond.selects_spec hsel
  cases hcls.symm.trans q1
  cases (State.methodFound?_of_named hnamed hy).symm.trans q2
  cases hnamed.symm.trans q3
  have hselP : selectMethod e.platform s.vm cellB.cls mk = .method mk := by rw [Launch.admits_selectMethod X.admits]; exact q4
  obtain ⟨vm₁, X₁, hstep₁⟩ := X.invokevirtual hexec hown hlink hnamed hmethM hstM hkP hkPi hy (a := b) (cell := cellB) hcell
    (fun z h => by rw [h] at hobj; cases hobj) hselP hmethM habM hkP hkPi (g := g) hg (argsL := argsL) (rest := rest) (hlen _ hsigM) hstack hdg
  obtain ⟨v, B, X', hpost, hsteps⟩ := hK m meth c ⟨T.setVm vm₁, locs, cells, slots⟩ { g with stack := rest } (.invokevirtual index) mk (Value.ref b :: argsL).toArray X₁ hg hsize hdg hW (X₁.named hnamed) (hpre vm₁ X₁.warmed)
  exact ⟨v, vm₁, B, X₁.warmed, X', hpost, fun target h => hstep₁ _ fun acts => by rw [doInvoke_state]; exact hsteps.trans h⟩
abbrev vx_CVW (R : Room) (s : State) (args : Array Value) (own C : String) (index : Nat) (y : MethodName) (bytes : ByteArray) (maxL : Nat) (ret : Option FieldType) (hh : List (Nat × Nat × Nat × Nat)) (ws : List Cond) (rm : Room) (mc ms n : Nat) : Prop :=
  (rm.cells = mc ∧ rm.slots = ms ∧ rm.frames + 1 ≤ R.frames ∧ 8 + (maxL + 11) + rm.locals ≤ R.locals ∧ (∀ w ∈ ws, ∀ (a' : Array Value) (U : State), s.WarmedH U.vm → w.before a' U = true) ∧ Cond.codeWith y bytes maxL ret hh ∈ ws) ∧
  (Cond.codeWith y bytes maxL ret hh).before args s = true ∧ (Cond.initialized y.cls).before args s = true ∧ (y.cls ≠ "java/lang/invoke/MethodHandle" ∧ y.cls ≠ "java/lang/invoke/VarHandle") ∧
  (∀ sig, parseMethodDescriptor y.desc = some sig → n = sig.parameters.length) ∧ (Cond.methodLink own index y).before args s = true ∧ (Cond.instanceMethod y).before args s = true ∧ (Cond.selects C y y).before args s = true
theorem vx_cwVW {own C : String} {index maxL mc ms : Nat} {y : MethodName} {bytes : ByteArray} {ret : Option FieldType} {hh : List (Nat × Nat × Nat × Nat)} {Ts ws ws' : List Cond} {rm : Room} (n : Nat) (ht : ∀ w ∈ Ts, w.before args s = true) (hT : GoodIn Ts (wsV own index C y ws)) (hw : ws = Cond.codeWith y bytes maxL ret hh :: ws') (hrc : rm.cells = mc) (hrs : rm.slots = ms)
    (hd : y.cls = C ∧ y.cls ≠ "java/lang/invoke/MethodHandle" ∧ y.cls ≠ "java/lang/invoke/VarHandle" ∧ (parseMethodDescriptor y.desc).map (fun d => d.parameters.length) = some n) (hR : rm.frames + 1 ≤ R.frames ∧ 8 + (maxL + 11) + rm.locals ≤ R.locals) :
    vx_CVW R s args own C index y bytes maxL ret hh ws rm mc ms n := by
  obtain ⟨hC, hd⟩ := hd
  subst hC
  have ok : ∀ w ∈ wsV own index y.cls y ws, w.before args s = true := fun w h => ht w (hT w h).1
  have hG : GoodIn Ts ws := fun w h => hT w (by unfold wsV; exact List.mem_append_right _ h)
  have hc : Cond.codeWith y bytes maxL ret hh ∈ ws := by rw [hw]; exact List.mem_cons_self
  refine ⟨⟨hrc, hrs, hR.1, hR.2, pay_in ht hG, hc⟩, ht _ (hG _ hc).1, ok _ (by simp [wsV]), ⟨hd.1, hd.2.1⟩, fun sig h => ?_, ok _ (by simp [wsV]), ok _ (by simp [wsV]), ok _ (by simp [wsV])⟩
  have h2 := hd.2.2
  rw [h] at h2
  exact (Option.some.inj h2).symm
theorem vx_runVW {y : MethodName} {bytes cc : ByteArray} {maxL nL mc ms n index : Nat} {ret : Option FieldType} {hh : List (Nat × Nat × Nat × Nat)} {ws : List Cond} {rm : Room} {Pc : Array Value → State → Prop} {Qc : Array Value → State → Outcome → State → Prop} {free : Addr → Prop} {Ts : List Cond} {own C : String} {b : Addr} {As rest : List Value} {g : JFrame}
    (S : CallFix p m c cc nL s args Ts own) (hM : Met l y ws rm Pc Qc mc ms free) (cw : vx_CVW R s args own C index y bytes maxL ret hh ws rm mc ms n) (hp : PreV s H C b Pc As)
    (hg : g.method = m) (hn : As.length = n) (hsize : g.locals.size = nL) (hstack : g.stack = As.reverse ++ .ref b :: rest) (hW : 2 * g.monitorRoom + (rest.map fun v => v.category).sum ≤ 8) (hdg : decode cc g.pc = .ok (.invokevirtual index, 3)) (hf : cells + mc ≤ R.cells ∧ slots + ms ≤ R.slots) :
    va_Run p l e R s m args below meth c H locs cells slots mc ms g rest (Qc (Value.ref b :: As).toArray) free := by
  obtain ⟨⟨hrc, hrs, hfr, hlo, hws, hcw⟩, hcode, hini, hy, hlen, hl, hin, hse⟩ := cw
  have hK : Back l R p e below s args y 3 8 (PreOf R mc ms Pc) (PostOf Qc mc ms free) := va_backW (hh := hh) (bytes := bytes) (maxL := maxL) (ret := ret) hM hp.1 hrc hrs hfr hlo hws hcw (fun a' U hW => word_at hW (Or.inl (by first | rfl | simp [Cond.onTables, Cond.keeps, Cond.steady])) hini)
  obtain ⟨hx, hb, hml, ho, -⟩ := S
  obtain ⟨-, ⟨cellB, hcB, hoB, hclB⟩, hPc⟩ := hp
  intro T hT X
  obtain ⟨v, vm₁, ⟨U', l2, c2, s2⟩, hW₁, X', ⟨g', mk, t, L, e1, e2, hq, h1, hL, h2, h3⟩, st⟩ := vx_callVW X hx (C := C) (hh := hh) (bytes := bytes) (maxL := maxL) (ret := ret) ho hl hin hse hcode hy hK (by rw [hT]; exact hcB) hoB hclB hg (hsize.trans hml.symm) (argsL := As) (rest := rest) (fun sig h => hn.trans (hlen sig h)) hstack hW (by rw [hb]; exact hdg)
    (fun vm₁ hW₁ => ⟨hf.1, hf.2, hPc (T.setVm vm₁) hT hW₁⟩)
  dsimp only [Pt.U, Pt.locs, Pt.cells, Pt.slots] at X' e1 e2 h1 h2 h3 st
  subst h1; subst h2; subst h3
  exact ⟨v, (T.setVm vm₁).calling g' mk (Value.ref b :: As).toArray, t, U', L, hT, X', hL, e1, e2, hq, st⟩
section
variable {y : MethodName} {bytes cc : ByteArray} {maxL nL mc ms n index : Nat} {ret : Option FieldType} {ws : List Cond} {rm : Room} {Pc : Array Value → State → Prop} {Qc : Array Value → State → Outcome → State → Prop} {XC : String → State → State → Prop} {free : Addr → Prop} {Ts : List Cond} {own C : String} {b : Addr} {As rest : List Value} {g : JFrame}
theorem vx_runVX {hh : List (Nat × Nat × Nat × Nat)} (S : CallFix p m c cc nL s args Ts own) (hM : vx_Met l y ws rm Pc Qc XC mc ms free) (cw : vx_CVW R s args own C index y bytes maxL ret hh ws rm mc ms n) (hp : PreV s H C b Pc As)
    (hg : g.method = m) (hn : As.length = n) (hsize : g.locals.size = nL) (hstack : g.stack = As.reverse ++ .ref b :: rest) (hW : 2 * g.monitorRoom + (rest.map fun v => v.category).sum ≤ 8) (hdg : decode cc g.pc = .ok (.invokevirtual index, 3)) (hf : cells + mc ≤ R.cells ∧ slots + ms ≤ R.slots) :
    vx_Run p l e R s m args below meth c H locs cells slots mc ms g rest (Qc (Value.ref b :: As).toArray) XC free := by
  obtain ⟨⟨hrc, hrs, hfr, hlo, hws, hcw⟩, hcode, hini, hy, hlen, hl, hin, hse⟩ := cw
  have hK : vx_Back l R p e below s args y 3 8 (PreOf R mc ms Pc) (PostOf Qc mc ms free) (vx_Post XC mc ms free) := vx_backW (hh := hh) (bytes := bytes) (maxL := maxL) (ret := ret) hM hp.1 hrc hrs hfr hlo hws hcw (fun a' U hW => word_at hW (Or.inl (by first | rfl | simp [Cond.onTables, Cond.keeps, Cond.steady])) hini)
  obtain ⟨hx, hb, hml, ho, -⟩ := S
  obtain ⟨-, ⟨cellB, hcB, hoB, hclB⟩, hPc⟩ := hp
  intro T hT X
  rcases vx_callVX X hx (C := C) (hh := hh) (bytes := bytes) (maxL := maxL) (ret := ret) ho hl hin hse hcode hy hK (by rw [hT]; exact hcB) hoB hclB hg (hsize.trans hml.symm) (argsL := As) (rest := rest) (fun sig h => hn.trans (hlen sig h)) hstack hW (by rw [hb]; exact hdg)
    (fun vm₁ hW₁ => ⟨hf.1, hf.2, hPc (T.setVm vm₁) hT hW₁⟩) with ⟨v, vm₁, ⟨U', l2, c2, s2⟩, hW₁, X', ⟨g', mk, t, L, e1, e2, hq, h1, hL, h2, h3⟩, st⟩ | ⟨q, vm₁, ⟨U', l2, c2, s2⟩, hW₁, X', ⟨g', mk, t, L, E, ce, e1, e2, hq, hce, hcv, hcl, h1, hL, h2, h3⟩, st⟩
  · dsimp only [Pt.U, Pt.locs, Pt.cells, Pt.slots] at X' e1 e2 h1 h2 h3 st
    subst h1; subst h2; subst h3
    exact Or.inl ⟨v, (T.setVm vm₁).calling g' mk (Value.ref b :: As).toArray, t, U', L, hT, X', hL, e1, e2, hq, st⟩
  · dsimp only [Pt.U, Pt.locs, Pt.cells, Pt.slots] at X' e1 e2 h1 h2 h3 st hcl
    subst h1; subst h2; subst h3
    exact Or.inr ⟨q, (T.setVm vm₁).calling g' mk (Value.ref b :: As).toArray, t, U', L, E, ce, hT, X', hL, e1, e2, hq, hce, hcv, vx_cls hW₁ hcl, st⟩
theorem vx_runSX {hh : List (Nat × Nat × Nat × Nat)} (S : CallFix p m c cc nL s args Ts own) (hM : vx_Met l y ws rm Pc Qc XC mc ms free) (cw : vx_CSW R s args own index y bytes maxL ret hh ws rm mc ms n) (hp : PreS s H Pc As)
    (hg : g.method = m) (hn : As.length = n) (hsize : g.locals.size = nL) (hstack : g.stack = As.reverse ++ rest) (hW : 2 * g.monitorRoom + (rest.map fun v => v.category).sum ≤ 8) (hdg : decode cc g.pc = .ok (.invokestatic index, 3)) (hf : cells + mc ≤ R.cells ∧ slots + ms ≤ R.slots) :
    vx_Run p l e R s m args below meth c H locs cells slots mc ms g rest (Qc As.toArray) XC free := by
  obtain ⟨⟨hrc, hrs, hfr, hlo, hws, hcw⟩, hcode, hini, hy, hlen, hl, hstt⟩ := cw
  have hK : vx_Back l R p e below s args y 3 8 (PreOf R mc ms Pc) (PostOf Qc mc ms free) (vx_Post XC mc ms free) := vx_backW (hh := hh) (bytes := bytes) (maxL := maxL) (ret := ret) hM hp.1 hrc hrs hfr hlo hws hcw (fun a' U hW => word_at hW (Or.inl (by first | rfl | simp [Cond.onTables, Cond.keeps, Cond.steady])) hini)
  obtain ⟨hx, hb, hml, ho, -⟩ := S
  intro T hT X
  rcases vx_callSX X hx (hh := hh) (bytes := bytes) (maxL := maxL) (ret := ret) ho hl hstt hini hcode hy hK hg (hsize.trans hml.symm) (argsL := As) (rest := rest) (fun sig h => hn.trans (hlen sig h)) hstack hW (by rw [hb]; exact hdg)
    (fun vm₁ hW₁ => ⟨hf.1, hf.2, hp.2 (T.setVm vm₁) hT hW₁⟩) with ⟨v, vm₁, ⟨U', l2, c2, s2⟩, hW₁, X', ⟨g', mk, t, L, e1, e2, hq, h1, hL, h2, h3⟩, st⟩ | ⟨q, vm₁, ⟨U', l2, c2, s2⟩, hW₁, X', ⟨g', mk, t, L, E, ce, e1, e2, hq, hce, hcv, hcl, h1, hL, h2, h3⟩, st⟩
  · dsimp only [Pt.U, Pt.locs, Pt.cells, Pt.slots] at X' e1 e2 h1 h2 h3 st
    subst h1; subst h2; subst h3
    exact Or.inl ⟨v, (T.setVm vm₁).calling g' mk As.toArray, t, U', L, hT, X', hL, e1, e2, hq, st⟩
  · dsimp only [Pt.U, Pt.locs, Pt.cells, Pt.slots] at X' e1 e2 h1 h2 h3 st hcl
    subst h1; subst h2; subst h3
    exact Or.inr ⟨q, (T.setVm vm₁).calling g' mk As.toArray, t, U', L, E, ce, hT, X', hL, e1, e2, hq, hce, hcv, vx_cls hW₁ hcl, st⟩
end
end VXH
theorem vx_ofWH {l : Launch} {y : MethodName} {ws ws' : List Cond} {rm : Room} {Pc : Array Value → State → Prop} {Qc : Array Value → State → Outcome → State → Prop} {XC : String → State → State → Prop} {mc ms : Nat} {free : Addr → Prop} {cc : ByteArray} {maxL : Nat} {ret : Option FieldType} {hh : List (Nat × Nat × Nat × Nat)}
    (hy : plainName y.cls = true) (hw : ws = Cond.codeWith y cc maxL ret hh :: ws')
    (body : ∀ p e s m args below meth c s₁, BodyLoose p l y (headSpec ws rm) cc maxL ret e s m args below meth c s₁ → c.maxLocals = maxL → Pc args s →
      W p l e (headSpec ws rm).room s m args below meth c s.heap [] 0 0 (vx_MQ below Qc XC args s mc ms free) (entryFrame m args maxL)) : vx_Met l y ws rm Pc Qc XC mc ms free := by
  refine MetFree.of_bodyS (code := cc) (maxLocals := maxL) (ret := ret) hy ?_ ?_
  · intro args s m h hn
    obtain ⟨m9, meth, c, hn9, h1, h2, h3, h4, -, h5, h6, -⟩ := Cond.codeWith_spec (atoms_spec (ws := ws) h _ (by rw [hw]; exact List.mem_cons_self))
    cases hn.symm.trans hn9
    exact ⟨meth, c, h1, h2, h3, h4, h5, h6⟩
  · intro p e s m args below meth c s₁ B hml hP _
    have hh0 : s₁.heap = s.heap := by rw [B.state]; rfl
    obtain ⟨t, a1, o, b1, b2, b3⟩ := body p e s m args below meth c s₁ B hml hP s₁ hh0 (Stand.of_body B)
    exact ⟨t, o, a1, b1, b2, b3⟩
/-! ===== END ===== -/

/-! ===== BEGIN a constructor that throws (launches without stack traces) ===== -/
section VXIA
variable {p : Program} {l : Launch} {e : Env} {R : Room} {s : State} {m : MethodId} {args : Array Value} {below : List Frame} {meth : Method} {c : Code} {T : State} {locs : List Loc} {cells slots : Nat}
theorem vx_callI (X : Stand p l e R s m args below meth c T locs cells slots) (hexec : p.tables.exec = Jvm.exec) {own : String} {index : Nat} {y : MethodName} {bytes : ByteArray} {maxL : Nat}
    (hown : s.vm.findClass own = some m.cls) (hy1 : y.name = "<init>") (hlink : (Cond.methodLink own index y).before args s = true) (hinst : (Cond.instanceMethod y).before args s = true)
    (hcode : (Cond.code y bytes maxL none).before args s = true) (hy : y.cls ≠ "java/lang/invoke/MethodHandle" ∧ y.cls ≠ "java/lang/invoke/VarHandle")
    {W9 : Nat} {Pre : Pt → Array Value → Prop} {Post : Pt → Array Value → Option Value → Pt → Prop} {PostX : Pt → Array Value → Addr → Pt → Prop} (hK : vx_Back l R p e below s args y 3 W9 Pre Post PostX)
    {g : JFrame} (hg : g.method = m) (hsize : g.locals.size = c.maxLocals) {a : Addr} {argsL rest : List Value} (hlen : ∀ sig, parseMethodDescriptor y.desc = some sig → argsL.length = sig.parameters.length)
    (hstack : g.stack = argsL.reverse ++ .ref a :: rest) (hW : 2 * g.monitorRoom + (rest.map fun v => v.category).sum ≤ W9) (hdg : decode c.code g.pc = .ok (.invokespecial index, 3))
    (hpre : ∀ vm₁, s.WarmedH vm₁ → Pre ⟨T.setVm vm₁, locs, cells, slots⟩ (Value.ref a :: argsL).toArray) :
    (∃ (v : Option Value) (vm₁ : Vm) (B : Pt), s.WarmedH vm₁ ∧ Stand p l e R s m args below meth c B.U B.locs B.cells B.slots ∧ Post ⟨T.setVm vm₁, locs, cells, slots⟩ (Value.ref a :: argsL).toArray v B ∧
      ∀ target, Steps p.tables e below (B.U.setTop { g with pc := g.pc + 3, stack := v.toList ++ rest }) target → Steps p.tables e below (T.setTop g) target) ∨
    (∃ (q : Addr) (vm₁ : Vm) (B : Pt), s.WarmedH vm₁ ∧ Stand p l e R s m args below meth c B.U B.locs B.cells B.slots ∧ PostX ⟨T.setVm vm₁, locs, cells, slots⟩ (Value.ref a :: argsL).toArray q B ∧
      Steps p.tables e below (T.setTop g) ((B.U.setTop { g with stack := rest }).pushFrame (.throwing q))) := by
  subst hg
  have hpl : e.platform.magicAccessors = ({} : Platform).magicAccessors := by rw [X.admits.platform]
  obtain ⟨mk, methM, cM, kP, vm₁, hnamed, hmethM, hcodeM, -, hlocalsM, -, hkP, -, hW₁, hstep₁⟩ := Steps.initColdArgs (e := e) X.here hexec X.warmed hpl hown hy1 hy hlink hinst hcode (f := g) rfl hlen hstack hdg
  have X₁ := X.noted hW₁
  rcases hK g.method meth c ⟨T.setVm vm₁, locs, cells, slots⟩ { g with stack := rest } (.invokespecial index) mk (Value.ref a :: argsL).toArray X₁ rfl hsize hdg hW (X₁.named hnamed) (hpre vm₁ X₁.warmed) with ⟨v, B, X', hpost, hsteps⟩ | ⟨q, B, X', hpost, hsteps⟩
  · exact Or.inl ⟨v, vm₁, B, X₁.warmed, X', hpost, fun target h => hstep₁ _ fun acts => by rw [doInvoke_state]; exact hsteps.trans h⟩
  · exact Or.inr ⟨q, vm₁, B, X₁.warmed, X', hpost, hstep₁ _ fun acts => by rw [doInvoke_state]; exact hsteps⟩
end VXIA
section VXIB
variable {p : Program} {l : Launch} {e : Env} {R : Room} {s : State} {m : MethodId} {args : Array Value} {below : List Frame} {meth : Method} {c : Code} {H : Heap} {locs : List Loc} {cells slots : Nat}
variable {y : MethodName} {bytes cc : ByteArray} {maxL nL mc ms n index : Nat} {ret : Option FieldType} {ws : List Cond} {rm : Room} {Pc : Array Value → State → Prop} {Qc : Array Value → State → Outcome → State → Prop} {XC : String → State → State → Prop} {free : Addr → Prop} {Ts : List Cond} {own C : String} {b : Addr} {As rest : List Value} {g : JFrame}
theorem vx_runI (S : CallFix p m c cc nL s args Ts own) (hM : vx_Met l y ws rm Pc Qc XC mc ms free) (cw : CallB R s args own index y bytes maxL none ws rm mc ms n ∧ y.name = "<init>" ∧ (Cond.instanceMethod y).before args s = true) (hp : PreS s H Pc (.ref b :: As))
    (hg : g.method = m) (hn : As.length = n) (hsize : g.locals.size = nL) (hstack : g.stack = As.reverse ++ .ref b :: rest) (hW : 2 * g.monitorRoom + (rest.map fun v => v.category).sum ≤ 8) (hdg : decode cc g.pc = .ok (.invokespecial index, 3)) (hf : cells + mc ≤ R.cells ∧ slots + ms ≤ R.slots) :
    vx_Run p l e R s m args below meth c H locs cells slots mc ms g rest (Qc (Value.ref b :: As).toArray) XC free := by
  have hK : vx_Back l R p e below s args y 3 8 (PreOf R mc ms Pc) (PostOf Qc mc ms free) (vx_Post XC mc ms free) := vx_callBack cw.1 hM hp.1
  obtain ⟨⟨-, -, -, -, -, -, hcode, -, hy, hlen, hl⟩, hy1, hin⟩ := cw
  obtain ⟨hx, hb, hml, ho, -⟩ := S
  have hPc := hp.2
  intro T hT X
  rcases vx_callI X hx (bytes := bytes) (maxL := maxL) ho hy1 hl hin hcode hy hK hg (hsize.trans hml.symm) (a := b) (argsL := As) (rest := rest) (fun sig h => hn.trans (hlen sig h)) hstack hW (by rw [hb]; exact hdg)
    (fun vm₁ hW₁ => ⟨hf.1, hf.2, hPc (T.setVm vm₁) hT hW₁⟩) with ⟨v, vm₁, ⟨U', l2, c2, s2⟩, hW₁, X', ⟨g', mk, t, L, e1, e2, hq, h1, hL, h2, h3⟩, st⟩ | ⟨q, vm₁, ⟨U', l2, c2, s2⟩, hW₁, X', ⟨g', mk, t, L, E, ce, e1, e2, hq, hce, hcv, hcl, h1, hL, h2, h3⟩, st⟩
  · dsimp only [Pt.U, Pt.locs, Pt.cells, Pt.slots] at X' e1 e2 h1 h2 h3 st
    subst h1; subst h2; subst h3
    exact Or.inl ⟨v, (T.setVm vm₁).calling g' mk (Value.ref b :: As).toArray, t, U', L, hT, X', hL, e1, e2, hq, st⟩
  · dsimp only [Pt.U, Pt.locs, Pt.cells, Pt.slots] at X' e1 e2 h1 h2 h3 st hcl
    subst h1; subst h2; subst h3
    exact Or.inr ⟨q, (T.setVm vm₁).calling g' mk (Value.ref b :: As).toArray, t, U', L, E, ce, hT, X', hL, e1, e2, hq, hce, hcv, vx_cls hW₁ hcl, st⟩
end VXIB

/-! ===== BEGIN a private constructor of a nest mate that throws ===== -/
section VXIC
variable {p : Program} {l : Launch} {e : Env} {R : Room} {s : State} {m : MethodId} {args : Array Value} {below : List Frame} {meth : Method} {c : Code} {T : State} {locs : List Loc} {cells slots : Nat}
theorem vx_callIN (X : Stand p l e R s m args below meth c T locs cells slots) (hexec : p.tables.exec = Jvm.exec) {own : String} {index : Nat} {host : String} {y : MethodName} {bytes : ByteArray} {maxL : Nat}
    (hown : s.vm.findClass own = some m.cls) (hy1 : y.name = "<init>") (hlink : (Cond.methodLinkNest own index y host).before args s = true) (hinst : (Cond.instanceMethod y).before args s = true)
    (hcode : (Cond.code y bytes maxL none).before args s = true) (hy : y.cls ≠ "java/lang/invoke/MethodHandle" ∧ y.cls ≠ "java/lang/invoke/VarHandle")
    {W9 : Nat} {Pre : Pt → Array Value → Prop} {Post : Pt → Array Value → Option Value → Pt → Prop} {PostX : Pt → Array Value → Addr → Pt → Prop} (hK : vx_Back l R p e below s args y 3 W9 Pre Post PostX)
    {g : JFrame} (hg : g.method = m) (hsize : g.locals.size = c.maxLocals) {a : Addr} {argsL rest : List Value} (hlen : ∀ sig, parseMethodDescriptor y.desc = some sig → argsL.length = sig.parameters.length)
    (hstack : g.stack = argsL.reverse ++ .ref a :: rest) (hW : 2 * g.monitorRoom + (rest.map fun v => v.category).sum ≤ W9) (hdg : decode c.code g.pc = .ok (.invokespecial index, 3))
    (hpre : ∀ vm₁, s.WarmedH vm₁ → Pre ⟨T.setVm vm₁, locs, cells, slots⟩ (Value.ref a :: argsL).toArray) :
    (∃ (v : Option Value) (vm₁ : Vm) (B : Pt), s.WarmedH vm₁ ∧ Stand p l e R s m args below meth c B.U B.locs B.cells B.slots ∧ Post ⟨T.setVm vm₁, locs, cells, slots⟩ (Value.ref a :: argsL).toArray v B ∧
      ∀ target, Steps p.tables e below (B.U.setTop { g with pc := g.pc + 3, stack := v.toList ++ rest }) target → Steps p.tables e below (T.setTop g) target) ∨
    (∃ (q : Addr) (vm₁ : Vm) (B : Pt), s.WarmedH vm₁ ∧ Stand p l e R s m args below meth c B.U B.locs B.cells B.slots ∧ PostX ⟨T.setVm vm₁, locs, cells, slots⟩ (Value.ref a :: argsL).toArray q B ∧
      Steps p.tables e below (T.setTop g) ((B.U.setTop { g with stack := rest }).pushFrame (.throwing q))) := by
  subst hg
  have hpl : e.platform.magicAccessors = ({} : Platform).magicAccessors := by rw [X.admits.platform]
  obtain ⟨mk, methM, cM, kP, vm₁, hnamed, hmethM, hcodeM, -, hlocalsM, -, hkP, -, hW₁, hstep₁⟩ := Steps.initColdArgsNest (e := e) X.here hexec X.warmed hpl hown hy1 hy hlink hinst hcode (f := g) rfl hlen hstack hdg
  have X₁ := X.noted hW₁
  rcases hK g.method meth c ⟨T.setVm vm₁, locs, cells, slots⟩ { g with stack := rest } (.invokespecial index) mk (Value.ref a :: argsL).toArray X₁ rfl hsize hdg hW (X₁.named hnamed) (hpre vm₁ X₁.warmed) with ⟨v, B, X', hpost, hsteps⟩ | ⟨q, B, X', hpost, hsteps⟩
  · exact Or.inl ⟨v, vm₁, B, X₁.warmed, X', hpost, fun target h => hstep₁ _ fun acts => by rw [doInvoke_state]; exact hsteps.trans h⟩
  · exact Or.inr ⟨q, vm₁, B, X₁.warmed, X', hpost, hstep₁ _ fun acts => by rw [doInvoke_state]; exact hsteps⟩
end VXIC
section VXID
variable {p : Program} {l : Launch} {e : Env} {R : Room} {s : State} {m : MethodId} {args : Array Value} {below : List Frame} {meth : Method} {c : Code} {H : Heap} {locs : List Loc} {cells slots : Nat}
theorem vx_runIN {y : MethodName} {bytes cc : ByteArray} {maxL nL mc ms n index : Nat} {ws : List Cond} {rm : Room} {Pc : Array Value → State → Prop} {Qc : Array Value → State → Outcome → State → Prop} {XC : String → State → State → Prop} {free : Addr → Prop} {Ts : List Cond} {own host : String} {b : Addr} {As rest : List Value} {g : JFrame}
    (S : CallFix p m c cc nL s args Ts own) (hM : vx_Met l y ws rm Pc Qc XC mc ms free) (cw : va_CN R s args own index y host bytes maxL none ws rm mc ms n ∧ y.name = "<init>" ∧ (Cond.instanceMethod y).before args s = true) (hp : PreS s H Pc (.ref b :: As))
    (hg : g.method = m) (hn : As.length = n) (hsize : g.locals.size = nL) (hstack : g.stack = As.reverse ++ .ref b :: rest) (hW : 2 * g.monitorRoom + (rest.map fun v => v.category).sum ≤ 8) (hdg : decode cc g.pc = .ok (.invokespecial index, 3)) (hf : cells + mc ≤ R.cells ∧ slots + ms ≤ R.slots) :
    vx_Run p l e R s m args below meth c H locs cells slots mc ms g rest (Qc (Value.ref b :: As).toArray) XC free := by
  obtain ⟨⟨⟨hrc, hrs, hfr, hlo, hws, hcw⟩, hcode, hini, hy, hlen, hl⟩, hx1, hx2⟩ := cw
  have hK : vx_Back l R p e below s args y 3 8 (PreOf R mc ms Pc) (PostOf Qc mc ms free) (vx_Post XC mc ms free) := vx_back (bytes := bytes) (maxL := maxL) (ret := none) hM hp.1 hrc hrs hfr hlo hws hcw (fun a' U hW => word_at hW (Or.inl (by first | rfl | simp [Cond.onTables, Cond.keeps, Cond.steady])) hini)
  obtain ⟨hx, hb, hml, ho, -⟩ := S
  have hPc := hp.2
  intro T hT X
  rcases vx_callIN X hx (bytes := bytes) (maxL := maxL) ho hx1 hl hx2 hcode hy hK hg (hsize.trans hml.symm) (a := b) (argsL := As) (rest := rest) (fun sig h => hn.trans (hlen sig h)) hstack hW (by rw [hb]; exact hdg)
    (fun vm₁ hW₁ => ⟨hf.1, hf.2, hPc (T.setVm vm₁) hT hW₁⟩) with ⟨v, vm₁, ⟨U', l2, c2, s2⟩, hW₁, X', ⟨g', mk, t, L, e1, e2, hq, h1, hL, h2, h3⟩, st⟩ | ⟨q, vm₁, ⟨U', l2, c2, s2⟩, hW₁, X', ⟨g', mk, t, L, E, ce, e1, e2, hq, hce, hcv, hcl, h1, hL, h2, h3⟩, st⟩
  · dsimp only [Pt.U, Pt.locs, Pt.cells, Pt.slots] at X' e1 e2 h1 h2 h3 st
    subst h1; subst h2; subst h3
    exact Or.inl ⟨v, (T.setVm vm₁).calling g' mk (Value.ref b :: As).toArray, t, U', L, hT, X', hL, e1, e2, hq, st⟩
  · dsimp only [Pt.U, Pt.locs, Pt.cells, Pt.slots] at X' e1 e2 h1 h2 h3 st hcl
    subst h1; subst h2; subst h3
    exact Or.inr ⟨q, (T.setVm vm₁).calling g' mk (Value.ref b :: As).toArray, t, U', L, E, ce, hT, X', hL, e1, e2, hq, hce, hcv, vx_cls hW₁ hcl, st⟩
end VXID

/-! ===== BEGIN a private method of a nest mate that may throw (follows va_callVN, va_callSN, va_runVN, va_runSN) ===== -/
section
variable {p : Program} {l : Launch} {e : Env} {R : Room} {s : State} {m : MethodId} {args : Array Value} {below : List Frame} {meth : Method} {c : Code} {H : Heap} {locs : List Loc} {cells slots : Nat}
variable {T : State}
theorem vx_callVN (X : Stand p l e R s m args below meth c T locs cells slots) (hexec : p.tables.exec = Jvm.exec) {own C : String} {index : Nat} {host : String} {y : MethodName} {bytes : ByteArray} {maxL : Nat} {ret : Option FieldType}
    (hown : s.vm.findClass own = some m.cls) (hlink : (Cond.methodLinkNest own index y host).before args s = true) (hinst : (Cond.instanceMethod y).before args s = true) (hsel : (Cond.selects C y y).before args s = true)
    (hcode : (Cond.code y bytes maxL ret).before args s = true) (hy : y.cls ≠ "java/lang/invoke/MethodHandle" ∧ y.cls ≠ "java/lang/invoke/VarHandle")
    {W : Nat} {Pre : Pt → Array Value → Prop} {Post : Pt → Array Value → Option Value → Pt → Prop} {PostX : Pt → Array Value → Addr → Pt → Prop} (hK : vx_Back l R p e below s args y 3 W Pre Post PostX)
    {b : Addr} {cellB : Cell} (hcell : T.heap[b]? = some cellB) (hobj : cellB.vm.isStatics = false) (hcls : s.vm.findClass C = some cellB.cls)
    {g : JFrame} (hg : g.method = m) (hsize : g.locals.size = c.maxLocals) {argsL rest : List Value} (hlen : ∀ sig, parseMethodDescriptor y.desc = some sig → argsL.length = sig.parameters.length)
    (hstack : g.stack = argsL.reverse ++ .ref b :: rest) (hW : 2 * g.monitorRoom + (rest.map fun v => v.category).sum ≤ W) (hdg : decode c.code g.pc = .ok (.invokevirtual index, 3))
    (hpre : ∀ vm₁, s.WarmedH vm₁ → Pre ⟨T.setVm vm₁, locs, cells, slots⟩ (Value.ref b :: argsL).toArray) :
    (∃ (v : Option Value) (vm₁ : Vm) (B : Pt), s.WarmedH vm₁ ∧ Stand p l e R s m args below meth c B.U B.locs B.cells B.slots ∧ Post ⟨T.setVm vm₁, locs, cells, slots⟩ (Value.ref b :: argsL).toArray v B ∧
      ∀ target, Steps p.tables e below (B.U.setTop { g with pc := g.pc + 3, stack := v.toList ++ rest }) target → Steps p.tables e below (T.setTop g) target) ∨
    (∃ (q : Addr) (vm₁ : Vm) (B : Pt), s.WarmedH vm₁ ∧ Stand p l e R s m args below meth c B.U B.locs B.cells B.slots ∧ PostX ⟨T.setVm vm₁, locs, cells, slots⟩ (Value.ref b :: argsL).toArray q B ∧
      Steps p.tables e below (T.setTop g) ((B.U.setTop { g with stack := rest }).pushFrame (.throwing q))) := by
  obtain ⟨mk, methM, hnamed, hmethM, hstM, habM⟩ := Cond.instanceMethod_spec hinst
  obtain ⟨methM', cM, hmethM', -, -, -, -, -, -, hsigM⟩ := Cond.code_spec hnamed hcode
  cases hmethM.symm.trans hmethM'
  obtain ⟨c2, r2, m2, q1, q2, q3, q4, kP, hkP, hkPi⟩ := Cond.selects_spec hsel
  cases hcls.symm.trans q1
  cases (State.methodFound?_of_named hnamed hy).symm.trans q2
  cases hnamed.symm.trans q3
  have hselP : selectMethod e.platform s.vm cellB.cls mk = .method mk := by rw [Launch.admits_selectMethod X.admits]; exact q4
  obtain ⟨vm₁, X₁, hstep₁⟩ := X.invokevirtualNest hexec hown hlink hnamed hmethM hstM hkP hkPi hy (a := b) (cell := cellB) hcell
    (fun z h => by rw [h] at hobj; cases hobj) hselP hmethM habM hkP hkPi (g := g) hg (argsL := argsL) (rest := rest) (hlen _ hsigM) hstack hdg
  rcases hK m meth c ⟨T.setVm vm₁, locs, cells, slots⟩ { g with stack := rest } (.invokevirtual index) mk (Value.ref b :: argsL).toArray X₁ hg hsize hdg hW (X₁.named hnamed) (hpre vm₁ X₁.warmed) with ⟨v, B, X', hpost, hsteps⟩ | ⟨q, B, X', hpost, hsteps⟩
  · exact Or.inl ⟨v, vm₁, B, X₁.warmed, X', hpost, fun target h => hstep₁ _ fun acts => by rw [doInvoke_state]; exact hsteps.trans h⟩
  · exact Or.inr ⟨q, vm₁, B, X₁.warmed, X', hpost, hstep₁ _ fun acts => by rw [doInvoke_state]; exact hsteps⟩
theorem vx_callSN (X : Stand p l e R s m args below meth c T locs cells slots) (hexec : p.tables.exec = Jvm.exec) {own : String} {index : Nat} {host : String} {y : MethodName} {bytes : ByteArray} {maxL : Nat} {ret : Option FieldType}
    (hown : s.vm.findClass own = some m.cls) (hlink : (Cond.methodLinkNest own index y host).before args s = true) (hstat : (Cond.static y).before args s = true) (hinit : (Cond.initialized y.cls).before args s = true)
    (hcode : (Cond.code y bytes maxL ret).before args s = true) (hy : y.cls ≠ "java/lang/invoke/MethodHandle" ∧ y.cls ≠ "java/lang/invoke/VarHandle")
    {W : Nat} {Pre : Pt → Array Value → Prop} {Post : Pt → Array Value → Option Value → Pt → Prop} {PostX : Pt → Array Value → Addr → Pt → Prop} (hK : vx_Back l R p e below s args y 3 W Pre Post PostX)
    {g : JFrame} (hg : g.method = m) (hsize : g.locals.size = c.maxLocals) {argsL rest : List Value} (hlen : ∀ sig, parseMethodDescriptor y.desc = some sig → argsL.length = sig.parameters.length)
    (hstack : g.stack = argsL.reverse ++ rest) (hW : 2 * g.monitorRoom + (rest.map fun v => v.category).sum ≤ W) (hdg : decode c.code g.pc = .ok (.invokestatic index, 3))
    (hpre : ∀ vm₁, s.WarmedH vm₁ → Pre ⟨T.setVm vm₁, locs, cells, slots⟩ argsL.toArray) :
    (∃ (v : Option Value) (vm₁ : Vm) (B : Pt), s.WarmedH vm₁ ∧ Stand p l e R s m args below meth c B.U B.locs B.cells B.slots ∧ Post ⟨T.setVm vm₁, locs, cells, slots⟩ argsL.toArray v B ∧
      ∀ target, Steps p.tables e below (B.U.setTop { g with pc := g.pc + 3, stack := v.toList ++ rest }) target → Steps p.tables e below (T.setTop g) target) ∨
    (∃ (q : Addr) (vm₁ : Vm) (B : Pt), s.WarmedH vm₁ ∧ Stand p l e R s m args below meth c B.U B.locs B.cells B.slots ∧ PostX ⟨T.setVm vm₁, locs, cells, slots⟩ argsL.toArray q B ∧
      Steps p.tables e below (T.setTop g) ((B.U.setTop { g with stack := rest }).pushFrame (.throwing q))) := by
  obtain ⟨mk, hnamed⟩ := Cond.code_named hcode
  obtain ⟨methM, cM, hmethM, -, -, -, -, -, -, hsigM⟩ := Cond.code_spec hnamed hcode
  have hstatic : methM.isStatic = true := Cond.static_spec hnamed hmethM hstat
  obtain ⟨kP, hkP, -⟩ := className_of_methodNamed hnamed
  have hinitP : kP.init = .initialized := Cond.initialized_spec (findClass_of_methodNamed hnamed) hkP hinit
  obtain ⟨vm₁, X₁, hstep₁⟩ := X.invokestaticNest hexec hown hlink hnamed hmethM hstatic hkP hinitP hy (g := g) hg (argsL := argsL) (rest := rest) (hlen _ hsigM) hstack hdg
  rcases hK m meth c ⟨T.setVm vm₁, locs, cells, slots⟩ { g with stack := rest } (.invokestatic index) mk argsL.toArray X₁ hg hsize hdg hW (X₁.named hnamed) (hpre vm₁ X₁.warmed) with ⟨v, B, X', hpost, hsteps⟩ | ⟨q, B, X', hpost, hsteps⟩
  · exact Or.inl ⟨v, vm₁, B, X₁.warmed, X', hpost, fun target h => hstep₁ _ fun acts => by rw [doInvoke_state]; exact hsteps.trans h⟩
  · exact Or.inr ⟨q, vm₁, B, X₁.warmed, X', hpost, hstep₁ _ fun acts => by rw [doInvoke_state]; exact hsteps⟩
theorem vx_runVN {y : MethodName} {bytes cc : ByteArray} {maxL nL mc ms n index : Nat} {ret : Option FieldType} {ws : List Cond} {rm : Room} {Pc : Array Value → State → Prop} {Qc : Array Value → State → Outcome → State → Prop} {XC : String → State → State → Prop} {free : Addr → Prop} {Ts : List Cond} {own C host : String} {b : Addr} {As rest : List Value} {g : JFrame}
    (S : CallFix p m c cc nL s args Ts own) (hM : vx_Met l y ws rm Pc Qc XC mc ms free) (cw : va_CN R s args own index y host bytes maxL ret ws rm mc ms n ∧ (Cond.instanceMethod y).before args s = true ∧ (Cond.selects C y y).before args s = true) (hp : PreV s H C b Pc As)
    (hg : g.method = m) (hn : As.length = n) (hsize : g.locals.size = nL) (hstack : g.stack = As.reverse ++ .ref b :: rest) (hW : 2 * g.monitorRoom + (rest.map fun v => v.category).sum ≤ 8) (hdg : decode cc g.pc = .ok (.invokevirtual index, 3)) (hf : cells + mc ≤ R.cells ∧ slots + ms ≤ R.slots) :
    vx_Run p l e R s m args below meth c H locs cells slots mc ms g rest (Qc (Value.ref b :: As).toArray) XC free := by
  obtain ⟨⟨⟨hrc, hrs, hfr, hlo, hws, hcw⟩, hcode, hini, hy, hlen, hl⟩, hx1, hx2⟩ := cw
  have hK : vx_Back l R p e below s args y 3 8 (PreOf R mc ms Pc) (PostOf Qc mc ms free) (vx_Post XC mc ms free) := vx_back (bytes := bytes) (maxL := maxL) (ret := ret) hM hp.1 hrc hrs hfr hlo hws hcw (fun a' U hW => word_at hW (Or.inl (by first | rfl | simp [Cond.onTables, Cond.keeps, Cond.steady])) hini)
  obtain ⟨hx, hb, hml, ho, -⟩ := S
  obtain ⟨-, ⟨cellB, hcB, hoB, hclB⟩, hPc⟩ := hp
  intro T hT X
  rcases vx_callVN X hx (C := C) (bytes := bytes) (maxL := maxL) (ret := ret) ho hl hx1 hx2 hcode hy hK (by rw [hT]; exact hcB) hoB hclB hg (hsize.trans hml.symm) (argsL := As) (rest := rest) (fun sig h => hn.trans (hlen sig h)) hstack hW (by rw [hb]; exact hdg)
    (fun vm₁ hW₁ => ⟨hf.1, hf.2, hPc (T.setVm vm₁) hT hW₁⟩) with ⟨v, vm₁, ⟨U', l2, c2, s2⟩, hW₁, X', ⟨g', mk, t, L, e1, e2, hq, h1, hL, h2, h3⟩, st⟩ | ⟨q, vm₁, ⟨U', l2, c2, s2⟩, hW₁, X', ⟨g', mk, t, L, E, ce, e1, e2, hq, hce, hcv, hcl, h1, hL, h2, h3⟩, st⟩
  · dsimp only [Pt.U, Pt.locs, Pt.cells, Pt.slots] at X' e1 e2 h1 h2 h3 st
    subst h1; subst h2; subst h3
    exact Or.inl ⟨v, (T.setVm vm₁).calling g' mk (Value.ref b :: As).toArray, t, U', L, hT, X', hL, e1, e2, hq, st⟩
  · dsimp only [Pt.U, Pt.locs, Pt.cells, Pt.slots] at X' e1 e2 h1 h2 h3 st hcl
    subst h1; subst h2; subst h3
    exact Or.inr ⟨q, (T.setVm vm₁).calling g' mk (Value.ref b :: As).toArray, t, U', L, E, ce, hT, X', hL, e1, e2, hq, hce, hcv, vx_cls hW₁ hcl, st⟩
theorem vx_runSN {y : MethodName} {bytes cc : ByteArray} {maxL nL mc ms n index : Nat} {ret : Option FieldType} {ws : List Cond} {rm : Room} {Pc : Array Value → State → Prop} {Qc : Array Value → State → Outcome → State → Prop} {XC : String → State → State → Prop} {free : Addr → Prop} {Ts : List Cond} {own host : String} {As rest : List Value} {g : JFrame}
    (S : CallFix p m c cc nL s args Ts own) (hM : vx_Met l y ws rm Pc Qc XC mc ms free) (cw : va_CN R s args own index y host bytes maxL ret ws rm mc ms n ∧ (Cond.static y).before args s = true ∧ True) (hp : PreS s H Pc As)
    (hg : g.method = m) (hn : As.length = n) (hsize : g.locals.size = nL) (hstack : g.stack = As.reverse ++ rest) (hW : 2 * g.monitorRoom + (rest.map fun v => v.category).sum ≤ 8) (hdg : decode cc g.pc = .ok (.invokestatic index, 3)) (hf : cells + mc ≤ R.cells ∧ slots + ms ≤ R.slots) :
    vx_Run p l e R s m args below meth c H locs cells slots mc ms g rest (Qc As.toArray) XC free := by
  obtain ⟨⟨⟨hrc, hrs, hfr, hlo, hws, hcw⟩, hcode, hini, hy, hlen, hl⟩, hx1, hx2⟩ := cw
  have hK : vx_Back l R p e below s args y 3 8 (PreOf R mc ms Pc) (PostOf Qc mc ms free) (vx_Post XC mc ms free) := vx_back (bytes := bytes) (maxL := maxL) (ret := ret) hM hp.1 hrc hrs hfr hlo hws hcw (fun a' U hW => word_at hW (Or.inl (by first | rfl | simp [Cond.onTables, Cond.keeps, Cond.steady])) hini)
  obtain ⟨hx, hb, hml, ho, -⟩ := S
  have hPc := hp.2
  intro T hT X
  rcases vx_callSN X hx (bytes := bytes) (maxL := maxL) (ret := ret) ho hl hx1 hini hcode hy hK hg (hsize.trans hml.symm) (argsL := As) (rest := rest) (fun sig h => hn.trans (hlen sig h)) hstack hW (by rw [hb]; exact hdg)
    (fun vm₁ hW₁ => ⟨hf.1, hf.2, hPc (T.setVm vm₁) hT hW₁⟩) with ⟨v, vm₁, ⟨U', l2, c2, s2⟩, hW₁, X', ⟨g', mk, t, L, e1, e2, hq, h1, hL, h2, h3⟩, st⟩ | ⟨q, vm₁, ⟨U', l2, c2, s2⟩, hW₁, X', ⟨g', mk, t, L, E, ce, e1, e2, hq, hce, hcv, hcl, h1, hL, h2, h3⟩, st⟩
  · dsimp only [Pt.U, Pt.locs, Pt.cells, Pt.slots] at X' e1 e2 h1 h2 h3 st
    subst h1; subst h2; subst h3
    exact Or.inl ⟨v, (T.setVm vm₁).calling g' mk As.toArray, t, U', L, hT, X', hL, e1, e2, hq, st⟩
  · dsimp only [Pt.U, Pt.locs, Pt.cells, Pt.slots] at X' e1 e2 h1 h2 h3 st hcl
    subst h1; subst h2; subst h3
    exact Or.inr ⟨q, (T.setVm vm₁).calling g' mk As.toArray, t, U', L, E, ce, hT, X', hL, e1, e2, hq, hce, hcv, vx_cls hW₁ hcl, st⟩
end

def R_law : String := "FrameClayLaw"
def lw_P (b : Addr) (xs : List Int32) (args : Array Value) (s : State) : Prop := args = #[.ref b] ∧ s.IntsAt b xs ∧ xs.length ≤ 2560 ∧ (Jvm.Cond.and given_1 narrow_1).before args s = true
def lw_Q (_ : Array Value) (s : State) (o : Outcome) (t : State) : Prop := o = .returned (some (.int 1)) ∧ Framed s o t [] 601024 7293034
def lw_Z (below : List Frame) (a : Array Value) (s : State) : State → Prop := fun t => ∃ o, t.status = .running ∧ Ended t below o ∧ lw_Q a s o t
/-- the law's own end, with 1 on the stack, nothing written that was there before, its room as the claim has it -/
theorem lw_ret {p : Program} {l : Launch} {e : Env} {s : State} {m : MethodId} {below : List Frame} {meth : Method} {c : Code} {b : Nat} (hx : p.tables.exec = Jvm.exec) (hb : c.code = code) (hr : meth.sig.returnType = ret) (hlocks : meth.locks = false) {pc : Nat} {H : Heap} {ls : Array Slot} (hdg : decode code pc = .ok (.ireturn, 1)) : W p l e room_1 s m #[Value.ref b] below meth c H [] 601024 7293034 (lw_Z below #[Value.ref b] s) (F0 m pc ls [.int 1]) := by
  intro T hT X
  obtain ⟨fs, hret, hrun, hended, hW, hframe⟩ := X.leave (v := some (.int 1)) (hlocks := hlocks) (fun h => by rw [hr] at h; cases h)
  have hmeth' : T.vm.method? m = some meth := X.method'
  refine ⟨T.setFrames fs, ?_, .returned (some (.int 1)), hrun, hended, rfl, ⟨_, rfl⟩, hW, hframe⟩
  jvm_step X.here [X.here.top, hx, hb, hdg, hmeth', hr, ret, narrow_b1]
  (try refine ⟨rfl, ?_⟩); (try refine ⟨rfl, ?_⟩)
  first | (intro acts; rw [hret _ acts rfl rfl rfl]) | rw [hret _ _ rfl rfl rfl]
  exact Steps.refl _
/-- what holds at the law's entry: the machine, the code, the tables' words (any of lw_tbl by 'hts w (by decide +kernel)'), the script of L ints xs at the cell b, what the Statement gives of the start (any of its parts by flat_of_before) -/
def lw_At (p : Program) (s : State) (m : MethodId) (meth : Method) (c : Code) (b L : Nat) (xs : Nat → Int32) : Prop :=
  p.tables.exec = Jvm.exec ∧ c.code = code ∧ meth.sig.returnType = ret ∧ c.maxLocals = 7 ∧ s.vm.findClass R_law = some m.cls ∧ (∀ w ∈ lw_tbl, w.before #[Value.ref b] s = true) ∧ va_X b L xs s s.heap ∧ b < s.heap.size ∧ meth.locks = false ∧ (Jvm.Cond.and given_1 narrow_1).before #[Value.ref b] s = true
end
section
def RX0 : String := "FrameClay$Puppet"
def TX0 : u_T := fun k => match k with
  | 0 => ("FrameClay$Puppet", "joints", "I", true)
  | 1 => ("FrameClay$Puppet", "stands", "[I", true)
  | 2 => ("FrameClay$Puppet", "worn", "[I", true)
  | _ => ("FrameClay$Puppet", "mouthsLeft", "[I", true)
def tyX0 : Nat → FieldType := fun k => match k with
  | 0 => .int
  | 1 => .array .int
  | 2 => .array .int
  | _ => .array .int
abbrev wsX00 : List Cond := u_ws RX0 TX0 4
theorem nmX0 : ∀ a, a < 4 → ∀ b, b < 4 → a ≠ b → (TX0 a).2.1 ≠ (TX0 b).2.1 := by decide +kernel
theorem tyX0_ok : ∀ k, k < 4 → parseFieldDescriptor (TX0 k).2.2.1 = some (tyX0 k) := by decide +kernel
abbrev cX0_init : ByteArray := prog_2_method_1_code
def yX0_init : MethodName := ⟨RX0, "<init>", "(I)V"⟩
abbrev cX0_turn : ByteArray := prog_2_method_2_code
def yX0_turn : MethodName := ⟨RX0, "turn", "(II)V"⟩
abbrev cX0_isBroken : ByteArray := prog_2_method_3_code
def yX0_isBroken : MethodName := ⟨RX0, "isBroken", "()Z"⟩
def RX1 : String := "FrameClay$Reel"
def TX1 : u_T := fun k => match k with
  | 0 => ("FrameClay$Reel", "poses", "[[I", true)
  | 1 => ("FrameClay$Reel", "mouths", "[I", true)
  | 2 => ("FrameClay$Reel", "cameras", "[I", true)
  | 3 => ("FrameClay$Reel", "lights", "[I", true)
  | 4 => ("FrameClay$Reel", "tables", "[I", true)
  | 5 => ("FrameClay$Reel", "toldPlaces", "[I", true)
  | _ => ("FrameClay$Reel", "count", "I", false)
def tyX1 : Nat → FieldType := fun k => match k with
  | 0 => .array (.array .int)
  | 1 => .array .int
  | 2 => .array .int
  | 3 => .array .int
  | 4 => .array .int
  | 5 => .array .int
  | _ => .int
abbrev wsX10 : List Cond := u_ws RX1 TX1 7
theorem nmX1 : ∀ a, a < 7 → ∀ b, b < 7 → a ≠ b → (TX1 a).2.1 ≠ (TX1 b).2.1 := by decide +kernel
theorem tyX1_ok : ∀ k, k < 7 → parseFieldDescriptor (TX1 k).2.2.1 = some (tyX1 k) := by decide +kernel
abbrev cX1_init : ByteArray := prog_3_method_1_code
def yX1_init : MethodName := ⟨RX1, "<init>", "(II)V"⟩
abbrev cX1_lastMouth : ByteArray := prog_3_method_2_code
def yX1_lastMouth : MethodName := ⟨RX1, "lastMouth", "()I"⟩
abbrev cX1_repeatPoseAndMouth : ByteArray := prog_3_method_3_code
def yX1_repeatPoseAndMouth : MethodName := ⟨RX1, "repeatPoseAndMouth", "()V"⟩
abbrev cX1_keepNext : ByteArray := prog_3_method_4_code
def yX1_keepNext : MethodName := ⟨RX1, "keepNext", "(IIII)V"⟩
abbrev cX1_cameraOfNext : ByteArray := prog_3_method_5_code
def yX1_cameraOfNext : MethodName := ⟨RX1, "cameraOfNext", "(I)I"⟩
def RX2 : String := "FrameClay$Shot"
def TX2 : u_T := fun k => match k with
  | 0 => ("FrameClay$Shot", "doll", "LFrameClay$Puppet;", true)
  | 1 => ("FrameClay$Shot", "frames", "I", true)
  | 2 => ("FrameClay$Shot", "step", "I", true)
  | 3 => ("FrameClay$Shot", "voice", "I", false)
  | 4 => ("FrameClay$Shot", "animator", "I", false)
  | 5 => ("FrameClay$Shot", "table", "I", false)
  | 6 => ("FrameClay$Shot", "degrees", "[LFrameClay$Track;", true)
  | 7 => ("FrameClay$Shot", "places", "LFrameClay$Track;", true)
  | _ => ("FrameClay$Shot", "reel", "LFrameClay$Reel;", true)
def tyX2 : Nat → FieldType := fun k => match k with
  | 0 => .object "FrameClay$Puppet"
  | 1 => .int
  | 2 => .int
  | 3 => .int
  | 4 => .int
  | 5 => .int
  | 6 => .array (.object "FrameClay$Track")
  | 7 => .object "FrameClay$Track"
  | _ => .object "FrameClay$Reel"
abbrev wsX20 : List Cond := u_ws RX2 TX2 9
theorem nmX2 : ∀ a, a < 9 → ∀ b, b < 9 → a ≠ b → (TX2 a).2.1 ≠ (TX2 b).2.1 := by decide +kernel
theorem tyX2_ok : ∀ k, k < 9 → parseFieldDescriptor (TX2 k).2.2.1 = some (tyX2 k) := by decide +kernel
abbrev cX2_init : ByteArray := prog_4_method_1_code
def yX2_init : MethodName := ⟨RX2, "<init>", "(LFrameClay$Puppet;III)V"⟩
abbrev cX2_isHeld : ByteArray := prog_4_method_2_code
def yX2_isHeld : MethodName := ⟨RX2, "isHeld", "(I)Z"⟩
abbrev cX2_posedFrame : ByteArray := prog_4_method_3_code
def yX2_posedFrame : MethodName := ⟨RX2, "posedFrame", "(I)I"⟩
abbrev cX2_isStruck : ByteArray := prog_4_method_4_code
def yX2_isStruck : MethodName := ⟨RX2, "isStruck", "(I)Z"⟩
abbrev cX2_hasBegun : ByteArray := prog_4_method_5_code
def yX2_hasBegun : MethodName := ⟨RX2, "hasBegun", "()Z"⟩
abbrev cX2_isDone : ByteArray := prog_4_method_6_code
def yX2_isDone : MethodName := ⟨RX2, "isDone", "()Z"⟩
abbrev cX2_isUnderWay : ByteArray := prog_4_method_7_code
def yX2_isUnderWay : MethodName := ⟨RX2, "isUnderWay", "()Z"⟩
abbrev cX2_sheetDegree : ByteArray := prog_4_method_8_code
def yX2_sheetDegree : MethodName := ⟨RX2, "sheetDegree", "(II)I"⟩
abbrev cX2_posedAsSheet : ByteArray := prog_4_method_9_code
def yX2_posedAsSheet : MethodName := ⟨RX2, "posedAsSheet", "(I)Z"⟩
def RX3 : String := "FrameClay$Track"
def TX3 : u_T := fun k => match k with
  | 0 => ("FrameClay$Track", "goesRound", "Z", true)
  | 1 => ("FrameClay$Track", "values", "[I", true)
  | _ => ("FrameClay$Track", "told", "[Z", true)
def tyX3 : Nat → FieldType := fun k => match k with
  | 0 => .boolean
  | 1 => .array .int
  | _ => .array .boolean
abbrev wsX30 : List Cond := u_ws RX3 TX3 3
theorem nmX3 : ∀ a, a < 3 → ∀ b, b < 3 → a ≠ b → (TX3 a).2.1 ≠ (TX3 b).2.1 := by decide +kernel
theorem tyX3_ok : ∀ k, k < 3 → parseFieldDescriptor (TX3 k).2.2.1 = some (tyX3 k) := by decide +kernel
abbrev cX3_init : ByteArray := prog_5_method_1_code
def yX3_init : MethodName := ⟨RX3, "<init>", "(IZ)V"⟩
abbrev cX3_tell : ByteArray := prog_5_method_2_code
def yX3_tell : MethodName := ⟨RX3, "tell", "(II)V"⟩
abbrev cX3_valueAt : ByteArray := prog_5_method_3_code
def yX3_valueAt : MethodName := ⟨RX3, "valueAt", "(I)I"⟩
abbrev cX3_keyUpTo : ByteArray := prog_5_method_4_code
def yX3_keyUpTo : MethodName := ⟨RX3, "keyUpTo", "(I)I"⟩
abbrev cX3_keyFrom : ByteArray := prog_5_method_5_code
def yX3_keyFrom : MethodName := ⟨RX3, "keyFrom", "(I)I"⟩
abbrev cX3_between : ByteArray := prog_5_method_6_code
def yX3_between : MethodName := ⟨RX3, "between", "(III)I"⟩
def RX4 : String := "FrameClay$Voice"
def TX4 : u_T := fun k => match k with
  | 0 => ("FrameClay$Voice", "sounds", "[I", true)
  | 1 => ("FrameClay$Voice", "ends", "[I", true)
  | _ => ("FrameClay$Voice", "count", "I", false)
def tyX4 : Nat → FieldType := fun k => match k with
  | 0 => .array .int
  | 1 => .array .int
  | _ => .int
abbrev wsX40 : List Cond := u_ws RX4 TX4 3
theorem nmX4 : ∀ a, a < 3 → ∀ b, b < 3 → a ≠ b → (TX4 a).2.1 ≠ (TX4 b).2.1 := by decide +kernel
theorem tyX4_ok : ∀ k, k < 3 → parseFieldDescriptor (TX4 k).2.2.1 = some (tyX4 k) := by decide +kernel
abbrev cX4_init : ByteArray := prog_6_method_1_code
def yX4_init : MethodName := ⟨RX4, "<init>", "()V"⟩
abbrev cX4_add : ByteArray := prog_6_method_2_code
def yX4_add : MethodName := ⟨RX4, "add", "(II)V"⟩
abbrev cX4_soundAt : ByteArray := prog_6_method_3_code
def yX4_soundAt : MethodName := ⟨RX4, "soundAt", "(I)I"⟩
def RX5 : String := "FrameClay"
def TX5 : u_T := fun k => match k with
  | 0 => ("FrameClay", "puppets", "[LFrameClay$Puppet;", true)
  | 1 => ("FrameClay", "puppetCount", "I", false)
  | 2 => ("FrameClay", "voices", "[LFrameClay$Voice;", true)
  | 3 => ("FrameClay", "voiceCount", "I", false)
  | 4 => ("FrameClay", "spoken", "LFrameClay$Voice;", false)
  | 5 => ("FrameClay", "shots", "[LFrameClay$Shot;", true)
  | 6 => ("FrameClay", "shotCount", "I", false)
  | 7 => ("FrameClay", "illness", "[Z", true)
  | 8 => ("FrameClay", "cuts", "[I", true)
  | 9 => ("FrameClay", "cutCount", "I", false)
  | 10 => ("FrameClay", "motorPlay", "I", false)
  | _ => ("FrameClay", "framesUnderLamp", "I", false)
def tyX5 : Nat → FieldType := fun k => match k with
  | 0 => .array (.object "FrameClay$Puppet")
  | 1 => .int
  | 2 => .array (.object "FrameClay$Voice")
  | 3 => .int
  | 4 => .object "FrameClay$Voice"
  | 5 => .array (.object "FrameClay$Shot")
  | 6 => .int
  | 7 => .array .boolean
  | 8 => .array .int
  | 9 => .int
  | 10 => .int
  | _ => .int
abbrev wsX50 : List Cond := u_ws RX5 TX5 12
theorem nmX5 : ∀ a, a < 12 → ∀ b, b < 12 → a ≠ b → (TX5 a).2.1 ≠ (TX5 b).2.1 := by decide +kernel
theorem tyX5_ok : ∀ k, k < 12 → parseFieldDescriptor (TX5 k).2.2.1 = some (tyX5 k) := by decide +kernel
abbrev cX5_init : ByteArray := prog_1_method_1_code
def yX5_init : MethodName := ⟨RX5, "<init>", "()V"⟩
abbrev cX5_puppet : ByteArray := prog_1_method_2_code
def yX5_puppet : MethodName := ⟨RX5, "puppet", "(I)I"⟩
abbrev cX5_mouths : ByteArray := prog_1_method_3_code
def yX5_mouths : MethodName := ⟨RX5, "mouths", "(III)I"⟩
abbrev cX5_sound : ByteArray := prog_1_method_4_code
def yX5_sound : MethodName := ⟨RX5, "sound", "(II)I"⟩
abbrev cX5_voice : ByteArray := prog_1_method_5_code
def yX5_voice : MethodName := ⟨RX5, "voice", "()I"⟩
abbrev cX5_shot : ByteArray := prog_1_method_6_code
def yX5_shot : MethodName := ⟨RX5, "shot", "(IIII)I"⟩
abbrev cX5_assign : ByteArray := prog_1_method_7_code
def yX5_assign : MethodName := ⟨RX5, "assign", "(II)I"⟩
abbrev cX5_ill : ByteArray := prog_1_method_8_code
def yX5_ill : MethodName := ⟨RX5, "ill", "(IZ)Z"⟩
abbrev cX5_dub : ByteArray := prog_1_method_9_code
def yX5_dub : MethodName := ⟨RX5, "dub", "(II)I"⟩
abbrev cX5_key : ByteArray := prog_1_method_10_code
def yX5_key : MethodName := ⟨RX5, "key", "(IIII)I"⟩
abbrev cX5_camera : ByteArray := prog_1_method_11_code
def yX5_camera : MethodName := ⟨RX5, "camera", "(III)I"⟩
abbrev cX5_play : ByteArray := prog_1_method_12_code
def yX5_play : MethodName := ⟨RX5, "play", "(I)I"⟩
abbrev cX5_strike : ByteArray := prog_1_method_13_code
def yX5_strike : MethodName := ⟨RX5, "strike", "(I)I"⟩
abbrev cX5_bump : ByteArray := prog_1_method_14_code
def yX5_bump : MethodName := ⟨RX5, "bump", "(II)I"⟩
abbrev cX5_level : ByteArray := prog_1_method_15_code
def yX5_level : MethodName := ⟨RX5, "level", "(I)I"⟩
abbrev cX5_anew : ByteArray := prog_1_method_16_code
def yX5_anew : MethodName := ⟨RX5, "anew", "(II)I"⟩
abbrev cX5_mend : ByteArray := prog_1_method_17_code
def yX5_mend : MethodName := ⟨RX5, "mend", "(II)I"⟩
abbrev cX5_lamp : ByteArray := prog_1_method_18_code
def yX5_lamp : MethodName := ⟨RX5, "lamp", "()I"⟩
abbrev cX5_cut : ByteArray := prog_1_method_19_code
def yX5_cut : MethodName := ⟨RX5, "cut", "(I)I"⟩
abbrev cX5_cutOut : ByteArray := prog_1_method_20_code
def yX5_cutOut : MethodName := ⟨RX5, "cutOut", "(I)I"⟩
abbrev cX5_degree : ByteArray := prog_1_method_21_code
def yX5_degree : MethodName := ⟨RX5, "degree", "(III)I"⟩
abbrev cX5_mouth : ByteArray := prog_1_method_22_code
def yX5_mouth : MethodName := ⟨RX5, "mouth", "(II)I"⟩
abbrev cX5_place : ByteArray := prog_1_method_23_code
def yX5_place : MethodName := ⟨RX5, "place", "(II)I"⟩
abbrev cX5_wants : ByteArray := prog_1_method_24_code
def yX5_wants : MethodName := ⟨RX5, "wants", "(II)I"⟩
abbrev cX5_bars : ByteArray := prog_1_method_25_code
def yX5_bars : MethodName := ⟨RX5, "bars", "(I)I"⟩
abbrev cX5_wears : ByteArray := prog_1_method_26_code
def yX5_wears : MethodName := ⟨RX5, "wears", "(II)I"⟩
abbrev cX5_struck : ByteArray := prog_1_method_27_code
def yX5_struck : MethodName := ⟨RX5, "struck", "(I)I"⟩
abbrev cX5_pose : ByteArray := prog_1_method_28_code
def yX5_pose : MethodName := ⟨RX5, "pose", "(III)I"⟩
abbrev cX5_ofFrame : ByteArray := prog_1_method_29_code
def yX5_ofFrame : MethodName := ⟨RX5, "ofFrame", "(III)I"⟩
abbrev cX5_faults : ByteArray := prog_1_method_30_code
def yX5_faults : MethodName := ⟨RX5, "faults", "(II)I"⟩
abbrev cX5_ofJoint : ByteArray := prog_1_method_31_code
def yX5_ofJoint : MethodName := ⟨RX5, "ofJoint", "(III)I"⟩
abbrev cX5_left : ByteArray := prog_1_method_32_code
def yX5_left : MethodName := ⟨RX5, "left", "(II)I"⟩
abbrev cX5_light : ByteArray := prog_1_method_33_code
def yX5_light : MethodName := ⟨RX5, "light", "()I"⟩
abbrev cX5_film : ByteArray := prog_1_method_34_code
def yX5_film : MethodName := ⟨RX5, "film", "(I)I"⟩
abbrev cX5_needRange : ByteArray := prog_1_method_35_code
def yX5_needRange : MethodName := ⟨RX5, "needRange", "(III)V"⟩
abbrev cX5_needSound : ByteArray := prog_1_method_36_code
def yX5_needSound : MethodName := ⟨RX5, "needSound", "(I)V"⟩
abbrev cX5_needAnimator : ByteArray := prog_1_method_37_code
def yX5_needAnimator : MethodName := ⟨RX5, "needAnimator", "(I)V"⟩
abbrev cX5_needVoiceOrNone : ByteArray := prog_1_method_38_code
def yX5_needVoiceOrNone : MethodName := ⟨RX5, "needVoiceOrNone", "(I)V"⟩
abbrev cX5_needShot : ByteArray := prog_1_method_39_code
def yX5_needShot : MethodName := ⟨RX5, "needShot", "(I)V"⟩
abbrev cX5_needJoint : ByteArray := prog_1_method_40_code
def yX5_needJoint : MethodName := ⟨RX5, "needJoint", "(LFrameClay$Puppet;I)V"⟩
abbrev cX5_needFrame : ByteArray := prog_1_method_41_code
def yX5_needFrame : MethodName := ⟨RX5, "needFrame", "(LFrameClay$Shot;I)V"⟩
abbrev cX5_needStruck : ByteArray := prog_1_method_42_code
def yX5_needStruck : MethodName := ⟨RX5, "needStruck", "(LFrameClay$Shot;I)V"⟩
abbrev cX5_needNotStruck : ByteArray := prog_1_method_43_code
def yX5_needNotStruck : MethodName := ⟨RX5, "needNotStruck", "(LFrameClay$Shot;I)V"⟩
abbrev cX5_puppetAt : ByteArray := prog_1_method_44_code
def yX5_puppetAt : MethodName := ⟨RX5, "puppetAt", "(I)LFrameClay$Puppet;"⟩
abbrev cX5_shotAt : ByteArray := prog_1_method_45_code
def yX5_shotAt : MethodName := ⟨RX5, "shotAt", "(I)LFrameClay$Shot;"⟩
abbrev cX5_isIll : ByteArray := prog_1_method_46_code
def yX5_isIll : MethodName := ⟨RX5, "isIll", "(I)Z"⟩
abbrev cX5_barOf : ByteArray := prog_1_method_47_code
def yX5_barOf : MethodName := ⟨RX5, "barOf", "(LFrameClay$Shot;)I"⟩
abbrev cX5_barOfPosing : ByteArray := prog_1_method_48_code
def yX5_barOfPosing : MethodName := ⟨RX5, "barOfPosing", "(LFrameClay$Shot;)I"⟩
abbrev cX5_animatorIsBusy : ByteArray := prog_1_method_49_code
def yX5_animatorIsBusy : MethodName := ⟨RX5, "animatorIsBusy", "(LFrameClay$Shot;)Z"⟩
abbrev cX5_puppetIsBusy : ByteArray := prog_1_method_50_code
def yX5_puppetIsBusy : MethodName := ⟨RX5, "puppetIsBusy", "(LFrameClay$Shot;)Z"⟩
abbrev cX5_refuseBarred : ByteArray := prog_1_method_51_code
def yX5_refuseBarred : MethodName := ⟨RX5, "refuseBarred", "(I)V"⟩
abbrev cX5_poseNext : ByteArray := prog_1_method_52_code
def yX5_poseNext : MethodName := ⟨RX5, "poseNext", "(LFrameClay$Shot;I)V"⟩
abbrev cX5_sheetMouth : ByteArray := prog_1_method_53_code
def yX5_sheetMouth : MethodName := ⟨RX5, "sheetMouth", "(LFrameClay$Shot;I)I"⟩
abbrev cX5_mouthWanted : ByteArray := prog_1_method_54_code
def yX5_mouthWanted : MethodName := ⟨RX5, "mouthWanted", "(LFrameClay$Shot;I)I"⟩
abbrev cX5_lampLight : ByteArray := prog_1_method_55_code
def yX5_lampLight : MethodName := ⟨RX5, "lampLight", "()I"⟩
abbrev cX5_cutIndex : ByteArray := prog_1_method_56_code
def yX5_cutIndex : MethodName := ⟨RX5, "cutIndex", "(I)I"⟩
abbrev cX5_filmLength : ByteArray := prog_1_method_57_code
def yX5_filmLength : MethodName := ⟨RX5, "filmLength", "()I"⟩
abbrev cX5_shorterWay : ByteArray := prog_1_method_58_code
def yX5_shorterWay : MethodName := ⟨RX5, "shorterWay", "(II)I"⟩
def RX6 : String := "FrameClayModel"
def TX6 : u_T := fun k => match k with
  | 0 => ("FrameClayModel", "puppets", "I", false)
  | 1 => ("FrameClayModel", "joints", "[I", true)
  | 2 => ("FrameClayModel", "stands", "[I", true)
  | 3 => ("FrameClayModel", "worn", "[I", true)
  | 4 => ("FrameClayModel", "mouths", "[I", true)
  | 5 => ("FrameClayModel", "voices", "I", false)
  | 6 => ("FrameClayModel", "sounds", "[I", true)
  | 7 => ("FrameClayModel", "sound", "[I", true)
  | 8 => ("FrameClayModel", "lasts", "[I", true)
  | 9 => ("FrameClayModel", "shots", "I", false)
  | 10 => ("FrameClayModel", "puppet", "[I", true)
  | 11 => ("FrameClayModel", "frames", "[I", true)
  | 12 => ("FrameClayModel", "step", "[I", true)
  | 13 => ("FrameClayModel", "voice", "[I", true)
  | 14 => ("FrameClayModel", "animator", "[I", true)
  | 15 => ("FrameClayModel", "struck", "[I", true)
  | 16 => ("FrameClayModel", "table", "[I", true)
  | 17 => ("FrameClayModel", "isIll", "[Z", true)
  | 18 => ("FrameClayModel", "key", "[I", true)
  | 19 => ("FrameClayModel", "cameraKey", "[I", true)
  | 20 => ("FrameClayModel", "play", "I", false)
  | 21 => ("FrameClayModel", "lampFrames", "I", false)
  | 22 => ("FrameClayModel", "pose", "[I", true)
  | 23 => ("FrameClayModel", "mouth", "[I", true)
  | 24 => ("FrameClayModel", "told", "[I", true)
  | 25 => ("FrameClayModel", "camera", "[I", true)
  | 26 => ("FrameClayModel", "light", "[I", true)
  | 27 => ("FrameClayModel", "bumped", "[I", true)
  | 28 => ("FrameClayModel", "inFilm", "I", false)
  | 29 => ("FrameClayModel", "film", "[I", true)
  | _ => ("FrameClayModel", "thrown", "I", false)
def tyX6 : Nat → FieldType := fun k => match k with
  | 0 => .int
  | 1 => .array .int
  | 2 => .array .int
  | 3 => .array .int
  | 4 => .array .int
  | 5 => .int
  | 6 => .array .int
  | 7 => .array .int
  | 8 => .array .int
  | 9 => .int
  | 10 => .array .int
  | 11 => .array .int
  | 12 => .array .int
  | 13 => .array .int
  | 14 => .array .int
  | 15 => .array .int
  | 16 => .array .int
  | 17 => .array .boolean
  | 18 => .array .int
  | 19 => .array .int
  | 20 => .int
  | 21 => .int
  | 22 => .array .int
  | 23 => .array .int
  | 24 => .array .int
  | 25 => .array .int
  | 26 => .array .int
  | 27 => .array .int
  | 28 => .int
  | 29 => .array .int
  | _ => .int
abbrev wsX60 : List Cond := u_ws RX6 TX6 31
theorem nmX6 : ∀ a, a < 31 → ∀ b, b < 31 → a ≠ b → (TX6 a).2.1 ≠ (TX6 b).2.1 := by decide +kernel
theorem tyX6_ok : ∀ k, k < 31 → parseFieldDescriptor (TX6 k).2.2.1 = some (tyX6 k) := by decide +kernel
abbrev cX6_init : ByteArray := prog_8_method_1_code
def yX6_init : MethodName := ⟨RX6, "<init>", "()V"⟩
abbrev cX6_thrown : ByteArray := prog_8_method_2_code
def yX6_thrown : MethodName := ⟨RX6, "thrown", "()I"⟩
abbrev cX6_fails : ByteArray := prog_8_method_3_code
def yX6_fails : MethodName := ⟨RX6, "fails", "(I)Z"⟩
abbrev cX6_isIn : ByteArray := prog_8_method_4_code
def yX6_isIn : MethodName := ⟨RX6, "isIn", "(III)Z"⟩
abbrev cX6_isPuppet : ByteArray := prog_8_method_5_code
def yX6_isPuppet : MethodName := ⟨RX6, "isPuppet", "(I)Z"⟩
abbrev cX6_isJoint : ByteArray := prog_8_method_6_code
def yX6_isJoint : MethodName := ⟨RX6, "isJoint", "(II)Z"⟩
abbrev cX6_isVoice : ByteArray := prog_8_method_7_code
def yX6_isVoice : MethodName := ⟨RX6, "isVoice", "(I)Z"⟩
abbrev cX6_isShot : ByteArray := prog_8_method_8_code
def yX6_isShot : MethodName := ⟨RX6, "isShot", "(I)Z"⟩
abbrev cX6_isFrame : ByteArray := prog_8_method_9_code
def yX6_isFrame : MethodName := ⟨RX6, "isFrame", "(II)Z"⟩
abbrev cX6_isStruck : ByteArray := prog_8_method_10_code
def yX6_isStruck : MethodName := ⟨RX6, "isStruck", "(II)Z"⟩
abbrev cX6_isAnimator : ByteArray := prog_8_method_11_code
def yX6_isAnimator : MethodName := ⟨RX6, "isAnimator", "(I)Z"⟩
abbrev cX6_isSound : ByteArray := prog_8_method_12_code
def yX6_isSound : MethodName := ⟨RX6, "isSound", "(I)Z"⟩
abbrev cX6_puppet : ByteArray := prog_8_method_13_code
def yX6_puppet : MethodName := ⟨RX6, "puppet", "(I)I"⟩
abbrev cX6_mouths : ByteArray := prog_8_method_14_code
def yX6_mouths : MethodName := ⟨RX6, "mouths", "(III)I"⟩
abbrev cX6_sound : ByteArray := prog_8_method_15_code
def yX6_sound : MethodName := ⟨RX6, "sound", "(II)I"⟩
abbrev cX6_voice : ByteArray := prog_8_method_16_code
def yX6_voice : MethodName := ⟨RX6, "voice", "()I"⟩
abbrev cX6_shot : ByteArray := prog_8_method_17_code
def yX6_shot : MethodName := ⟨RX6, "shot", "(IIII)I"⟩
abbrev cX6_isDone : ByteArray := prog_8_method_18_code
def yX6_isDone : MethodName := ⟨RX6, "isDone", "(I)Z"⟩
abbrev cX6_isOn : ByteArray := prog_8_method_19_code
def yX6_isOn : MethodName := ⟨RX6, "isOn", "(I)Z"⟩
abbrev cX6_assign : ByteArray := prog_8_method_20_code
def yX6_assign : MethodName := ⟨RX6, "assign", "(II)I"⟩
abbrev cX6_ill : ByteArray := prog_8_method_21_code
def yX6_ill : MethodName := ⟨RX6, "ill", "(IZ)Z"⟩
abbrev cX6_dub : ByteArray := prog_8_method_22_code
def yX6_dub : MethodName := ⟨RX6, "dub", "(II)I"⟩
abbrev cX6_isHeld : ByteArray := prog_8_method_23_code
def yX6_isHeld : MethodName := ⟨RX6, "isHeld", "(II)Z"⟩
abbrev cX6_row : ByteArray := prog_8_method_24_code
def yX6_row : MethodName := ⟨RX6, "row", "(II)I"⟩
abbrev cX6_nearest : ByteArray := prog_8_method_25_code
def yX6_nearest : MethodName := ⟨RX6, "nearest", "([IIIII)I"⟩
abbrev cX6_degreeAt : ByteArray := prog_8_method_26_code
def yX6_degreeAt : MethodName := ⟨RX6, "degreeAt", "(III)I"⟩
abbrev cX6_placeAt : ByteArray := prog_8_method_27_code
def yX6_placeAt : MethodName := ⟨RX6, "placeAt", "(II)I"⟩
abbrev cX6_mouthAt : ByteArray := prog_8_method_28_code
def yX6_mouthAt : MethodName := ⟨RX6, "mouthAt", "(II)I"⟩
abbrev cX6_isJointOf : ByteArray := prog_8_method_29_code
def yX6_isJointOf : MethodName := ⟨RX6, "isJointOf", "(II)Z"⟩
abbrev cX6_key : ByteArray := prog_8_method_30_code
def yX6_key : MethodName := ⟨RX6, "key", "(IIII)I"⟩
abbrev cX6_camera : ByteArray := prog_8_method_31_code
def yX6_camera : MethodName := ⟨RX6, "camera", "(III)I"⟩
abbrev cX6_play : ByteArray := prog_8_method_32_code
def yX6_play : MethodName := ⟨RX6, "play", "(I)I"⟩
abbrev cX6_lightNow : ByteArray := prog_8_method_33_code
def yX6_lightNow : MethodName := ⟨RX6, "lightNow", "()I"⟩
abbrev cX6_wanted : ByteArray := prog_8_method_34_code
def yX6_wanted : MethodName := ⟨RX6, "wanted", "(I)I"⟩
abbrev cX6_isBroken : ByteArray := prog_8_method_35_code
def yX6_isBroken : MethodName := ⟨RX6, "isBroken", "(I)Z"⟩
abbrev cX6_reason : ByteArray := prog_8_method_36_code
def yX6_reason : MethodName := ⟨RX6, "reason", "(I)I"⟩
abbrev cX6_shorter : ByteArray := prog_8_method_37_code
def yX6_shorter : MethodName := ⟨RX6, "shorter", "(II)I"⟩
abbrev cX6_poses : ByteArray := prog_8_method_38_code
def yX6_poses : MethodName := ⟨RX6, "poses", "(II)V"⟩
abbrev cX6_holds : ByteArray := prog_8_method_39_code
def yX6_holds : MethodName := ⟨RX6, "holds", "(II)V"⟩
abbrev cX6_stays : ByteArray := prog_8_method_40_code
def yX6_stays : MethodName := ⟨RX6, "stays", "(II)I"⟩
abbrev cX6_strike : ByteArray := prog_8_method_41_code
def yX6_strike : MethodName := ⟨RX6, "strike", "(I)I"⟩
abbrev cX6_bump : ByteArray := prog_8_method_42_code
def yX6_bump : MethodName := ⟨RX6, "bump", "(II)I"⟩
abbrev cX6_level : ByteArray := prog_8_method_43_code
def yX6_level : MethodName := ⟨RX6, "level", "(I)I"⟩
abbrev cX6_inFilm : ByteArray := prog_8_method_44_code
def yX6_inFilm : MethodName := ⟨RX6, "inFilm", "(I)I"⟩
abbrev cX6_anew : ByteArray := prog_8_method_45_code
def yX6_anew : MethodName := ⟨RX6, "anew", "(II)I"⟩
abbrev cX6_mend : ByteArray := prog_8_method_46_code
def yX6_mend : MethodName := ⟨RX6, "mend", "(II)I"⟩
abbrev cX6_lamp : ByteArray := prog_8_method_47_code
def yX6_lamp : MethodName := ⟨RX6, "lamp", "()I"⟩
abbrev cX6_framesInFilm : ByteArray := prog_8_method_48_code
def yX6_framesInFilm : MethodName := ⟨RX6, "framesInFilm", "()I"⟩
abbrev cX6_cut : ByteArray := prog_8_method_49_code
def yX6_cut : MethodName := ⟨RX6, "cut", "(I)I"⟩
abbrev cX6_cutOut : ByteArray := prog_8_method_50_code
def yX6_cutOut : MethodName := ⟨RX6, "cutOut", "(I)I"⟩
abbrev cX6_degree : ByteArray := prog_8_method_51_code
def yX6_degree : MethodName := ⟨RX6, "degree", "(III)I"⟩
abbrev cX6_mouth : ByteArray := prog_8_method_52_code
def yX6_mouth : MethodName := ⟨RX6, "mouth", "(II)I"⟩
abbrev cX6_place : ByteArray := prog_8_method_53_code
def yX6_place : MethodName := ⟨RX6, "place", "(II)I"⟩
abbrev cX6_wants : ByteArray := prog_8_method_54_code
def yX6_wants : MethodName := ⟨RX6, "wants", "(II)I"⟩
abbrev cX6_bars : ByteArray := prog_8_method_55_code
def yX6_bars : MethodName := ⟨RX6, "bars", "(I)I"⟩
abbrev cX6_wears : ByteArray := prog_8_method_56_code
def yX6_wears : MethodName := ⟨RX6, "wears", "(II)I"⟩
abbrev cX6_struck : ByteArray := prog_8_method_57_code
def yX6_struck : MethodName := ⟨RX6, "struck", "(I)I"⟩
abbrev cX6_pose : ByteArray := prog_8_method_58_code
def yX6_pose : MethodName := ⟨RX6, "pose", "(III)I"⟩
abbrev cX6_ofFrame : ByteArray := prog_8_method_59_code
def yX6_ofFrame : MethodName := ⟨RX6, "ofFrame", "(III)I"⟩
abbrev cX6_faults : ByteArray := prog_8_method_60_code
def yX6_faults : MethodName := ⟨RX6, "faults", "(II)I"⟩
abbrev cX6_ofJoint : ByteArray := prog_8_method_61_code
def yX6_ofJoint : MethodName := ⟨RX6, "ofJoint", "(III)I"⟩
abbrev cX6_left : ByteArray := prog_8_method_62_code
def yX6_left : MethodName := ⟨RX6, "left", "(II)I"⟩
abbrev cX6_light : ByteArray := prog_8_method_63_code
def yX6_light : MethodName := ⟨RX6, "light", "()I"⟩
abbrev cX6_film : ByteArray := prog_8_method_64_code
def yX6_film : MethodName := ⟨RX6, "film", "(I)I"⟩
def RJ6 : String := "java/lang/Integer"
def TJ6 : u_T := fun k => match k with
  | _ => ("", "", "", false)
def tyJ6 : Nat → FieldType := fun k => match k with
  | _ => .int
abbrev wsJ60 : List Cond := u_ws RJ6 TJ6 0
theorem nmJ6 : ∀ a, a < 0 → ∀ b, b < 0 → a ≠ b → (TJ6 a).2.1 ≠ (TJ6 b).2.1 := by decide +kernel
theorem tyJ6_ok : ∀ k, k < 0 → parseFieldDescriptor (TJ6 k).2.2.1 = some (tyJ6 k) := by decide +kernel
abbrev cJ6_compare_7cf53 : ByteArray := prog_13_method_40_code
def yJ6_compare_7cf53 : MethodName := ⟨RJ6, "compare", "(II)I"⟩
def RJ9 : String := "java/lang/Math"
def TJ9 : u_T := fun k => match k with
  | _ => ("", "", "", false)
def tyJ9 : Nat → FieldType := fun k => match k with
  | _ => .int
abbrev wsJ90 : List Cond := u_ws RJ9 TJ9 0
theorem nmJ9 : ∀ a, a < 0 → ∀ b, b < 0 → a ≠ b → (TJ9 a).2.1 ≠ (TJ9 b).2.1 := by decide +kernel
theorem tyJ9_ok : ∀ k, k < 0 → parseFieldDescriptor (TJ9 k).2.2.1 = some (tyJ9 k) := by decide +kernel
abbrev cJ9_floorMod_7cf53 : ByteArray := prog_14_method_50_code
def yJ9_floorMod_7cf53 : MethodName := ⟨RJ9, "floorMod", "(II)I"⟩
abbrev cJ9_abs_0f7a4 : ByteArray := prog_14_method_59_code
def yJ9_abs_0f7a4 : MethodName := ⟨RJ9, "abs", "(I)I"⟩
abbrev cJ9_max_7cf53 : ByteArray := prog_14_method_65_code
def yJ9_max_7cf53 : MethodName := ⟨RJ9, "max", "(II)I"⟩
def RJ0 : String := "java/lang/String"
def TJ0 : u_T := fun k => match k with
  | _ => ("", "", "", false)
def tyJ0 : Nat → FieldType := fun k => match k with
  | _ => .int
abbrev wsJ00 : List Cond := u_ws RJ0 TJ0 0
theorem nmJ0 : ∀ a, a < 0 → ∀ b, b < 0 → a ≠ b → (TJ0 a).2.1 ≠ (TJ0 b).2.1 := by decide +kernel
theorem tyJ0_ok : ∀ k, k < 0 → parseFieldDescriptor (TJ0 k).2.2.1 = some (tyJ0 k) := by decide +kernel
def RL : String := "FrameClayLaw"
abbrev cL_puppet : ByteArray := method_3_code
def yL_puppet : MethodName := ⟨RL, "puppet", "(LFrameClay;I[J)I"⟩
abbrev cL_mouths : ByteArray := method_4_code
def yL_mouths : MethodName := ⟨RL, "mouths", "(LFrameClay;III[J)I"⟩
abbrev cL_sound : ByteArray := method_5_code
def yL_sound : MethodName := ⟨RL, "sound", "(LFrameClay;II[J)I"⟩
abbrev cL_voice : ByteArray := method_6_code
def yL_voice : MethodName := ⟨RL, "voice", "(LFrameClay;[J)I"⟩
abbrev cL_shot : ByteArray := method_7_code
def yL_shot : MethodName := ⟨RL, "shot", "(LFrameClay;IIII[J)I"⟩
abbrev cL_assign : ByteArray := method_8_code
def yL_assign : MethodName := ⟨RL, "assign", "(LFrameClay;II[J)I"⟩
abbrev cL_ill : ByteArray := method_9_code
def yL_ill : MethodName := ⟨RL, "ill", "(LFrameClay;IZ[J)I"⟩
abbrev cL_dub : ByteArray := method_10_code
def yL_dub : MethodName := ⟨RL, "dub", "(LFrameClay;II[J)I"⟩
abbrev cL_key : ByteArray := method_11_code
def yL_key : MethodName := ⟨RL, "key", "(LFrameClay;IIII[J)I"⟩
abbrev cL_camera : ByteArray := method_12_code
def yL_camera : MethodName := ⟨RL, "camera", "(LFrameClay;III[J)I"⟩
abbrev cL_play : ByteArray := method_13_code
def yL_play : MethodName := ⟨RL, "play", "(LFrameClay;I[J)I"⟩
abbrev cL_strike : ByteArray := method_14_code
def yL_strike : MethodName := ⟨RL, "strike", "(LFrameClay;I[J)I"⟩
abbrev cL_bump : ByteArray := method_15_code
def yL_bump : MethodName := ⟨RL, "bump", "(LFrameClay;II[J)I"⟩
abbrev cL_level : ByteArray := method_16_code
def yL_level : MethodName := ⟨RL, "level", "(LFrameClay;I[J)I"⟩
abbrev cL_anew : ByteArray := method_17_code
def yL_anew : MethodName := ⟨RL, "anew", "(LFrameClay;II[J)I"⟩
abbrev cL_mend : ByteArray := method_18_code
def yL_mend : MethodName := ⟨RL, "mend", "(LFrameClay;II[J)I"⟩
abbrev cL_cut : ByteArray := method_19_code
def yL_cut : MethodName := ⟨RL, "cut", "(LFrameClay;I[J)I"⟩
abbrev cL_cutOut : ByteArray := method_20_code
def yL_cutOut : MethodName := ⟨RL, "cutOut", "(LFrameClay;I[J)I"⟩
abbrev cL_degree : ByteArray := method_21_code
def yL_degree : MethodName := ⟨RL, "degree", "(LFrameClay;III[J)I"⟩
abbrev cL_mouth : ByteArray := method_22_code
def yL_mouth : MethodName := ⟨RL, "mouth", "(LFrameClay;II[J)I"⟩
abbrev cL_place : ByteArray := method_23_code
def yL_place : MethodName := ⟨RL, "place", "(LFrameClay;II[J)I"⟩
abbrev cL_wants : ByteArray := method_24_code
def yL_wants : MethodName := ⟨RL, "wants", "(LFrameClay;II[J)I"⟩
abbrev cL_bars : ByteArray := method_25_code
def yL_bars : MethodName := ⟨RL, "bars", "(LFrameClay;I[J)I"⟩
abbrev cL_wears : ByteArray := method_26_code
def yL_wears : MethodName := ⟨RL, "wears", "(LFrameClay;II[J)I"⟩
abbrev cL_struck : ByteArray := method_27_code
def yL_struck : MethodName := ⟨RL, "struck", "(LFrameClay;I[J)I"⟩
abbrev cL_pose : ByteArray := method_28_code
def yL_pose : MethodName := ⟨RL, "pose", "(LFrameClay;III[J)I"⟩
abbrev cL_ofFrame : ByteArray := method_29_code
def yL_ofFrame : MethodName := ⟨RL, "ofFrame", "(LFrameClay;III[J)I"⟩
abbrev cL_faults : ByteArray := method_30_code
def yL_faults : MethodName := ⟨RL, "faults", "(LFrameClay;II[J)I"⟩
abbrev cL_ofJoint : ByteArray := method_31_code
def yL_ofJoint : MethodName := ⟨RL, "ofJoint", "(LFrameClay;III[J)I"⟩
abbrev cL_left : ByteArray := method_32_code
def yL_left : MethodName := ⟨RL, "left", "(LFrameClay;II[J)I"⟩
abbrev cL_film : ByteArray := method_33_code
def yL_film : MethodName := ⟨RL, "film", "(LFrameClay;I[J)I"⟩
abbrev cL_law : ByteArray := code
def yL_law : MethodName := ⟨RL, "law", "([I)Z"⟩
abbrev vwCl : List vw_C := [(RX0, TX0, 4), (RX1, TX1, 7), (RX2, TX2, 9), (RX3, TX3, 3), (RX4, TX4, 3), (RX5, TX5, 12), (RX6, TX6, 31)]
end
section
theorem dX0_init_0 : decode cX0_init 0 = .ok (.aload_n 0, 1) := by decide +kernel
theorem dX0_init_1 : decode cX0_init 1 = .ok (.invokespecial 3, 3) := by decide +kernel
theorem dX0_init_4 : decode cX0_init 4 = .ok (.aload_n 0, 1) := by decide +kernel
theorem dX0_init_5 : decode cX0_init 5 = .ok (.bipush 10, 2) := by decide +kernel
theorem dX0_init_7 : decode cX0_init 7 = .ok (.newarray .int, 2) := by decide +kernel
theorem dX0_init_9 : decode cX0_init 9 = .ok (.putfield 9, 3) := by decide +kernel
theorem dX0_init_12 : decode cX0_init 12 = .ok (.aload_n 0, 1) := by decide +kernel
theorem dX0_init_13 : decode cX0_init 13 = .ok (.iload_n 1, 1) := by decide +kernel
theorem dX0_init_14 : decode cX0_init 14 = .ok (.putfield 15, 3) := by decide +kernel
theorem dX0_init_17 : decode cX0_init 17 = .ok (.aload_n 0, 1) := by decide +kernel
theorem dX0_init_18 : decode cX0_init 18 = .ok (.iload_n 1, 1) := by decide +kernel
theorem dX0_init_19 : decode cX0_init 19 = .ok (.newarray .int, 2) := by decide +kernel
theorem dX0_init_21 : decode cX0_init 21 = .ok (.putfield 19, 3) := by decide +kernel
theorem dX0_init_24 : decode cX0_init 24 = .ok (.aload_n 0, 1) := by decide +kernel
theorem dX0_init_25 : decode cX0_init 25 = .ok (.iload_n 1, 1) := by decide +kernel
theorem dX0_init_26 : decode cX0_init 26 = .ok (.newarray .int, 2) := by decide +kernel
theorem dX0_init_28 : decode cX0_init 28 = .ok (.putfield 22, 3) := by decide +kernel
theorem dX0_init_31 : decode cX0_init 31 = .ok (.return_, 1) := by decide +kernel
theorem dX0_turn_0 : decode cX0_turn 0 = .ok (.aload_n 0, 1) := by decide +kernel
theorem dX0_turn_1 : decode cX0_turn 1 = .ok (.getfield 22, 3) := by decide +kernel
theorem dX0_turn_4 : decode cX0_turn 4 = .ok (.iload_n 1, 1) := by decide +kernel
theorem dX0_turn_5 : decode cX0_turn 5 = .ok (.dup2, 1) := by decide +kernel
theorem dX0_turn_6 : decode cX0_turn 6 = .ok (.iaload, 1) := by decide +kernel
theorem dX0_turn_7 : decode cX0_turn 7 = .ok (.aload_n 0, 1) := by decide +kernel
theorem dX0_turn_8 : decode cX0_turn 8 = .ok (.getfield 19, 3) := by decide +kernel
theorem dX0_turn_11 : decode cX0_turn 11 = .ok (.iload_n 1, 1) := by decide +kernel
theorem dX0_turn_12 : decode cX0_turn 12 = .ok (.iaload, 1) := by decide +kernel
theorem dX0_turn_13 : decode cX0_turn 13 = .ok (.iload_n 2, 1) := by decide +kernel
theorem dX0_turn_14 : decode cX0_turn 14 = .ok (.invokestatic 25, 3) := by decide +kernel
theorem dX0_turn_17 : decode cX0_turn 17 = .ok (.invokestatic 29, 3) := by decide +kernel
theorem dX0_turn_20 : decode cX0_turn 20 = .ok (.iadd, 1) := by decide +kernel
theorem dX0_turn_21 : decode cX0_turn 21 = .ok (.iastore, 1) := by decide +kernel
theorem dX0_turn_22 : decode cX0_turn 22 = .ok (.aload_n 0, 1) := by decide +kernel
theorem dX0_turn_23 : decode cX0_turn 23 = .ok (.getfield 19, 3) := by decide +kernel
theorem dX0_turn_26 : decode cX0_turn 26 = .ok (.iload_n 1, 1) := by decide +kernel
theorem dX0_turn_27 : decode cX0_turn 27 = .ok (.iload_n 2, 1) := by decide +kernel
theorem dX0_turn_28 : decode cX0_turn 28 = .ok (.iastore, 1) := by decide +kernel
theorem dX0_turn_29 : decode cX0_turn 29 = .ok (.return_, 1) := by decide +kernel
theorem dX0_isBroken_0 : decode cX0_isBroken 0 = .ok (.iconst 0, 1) := by decide +kernel
theorem dX0_isBroken_1 : decode cX0_isBroken 1 = .ok (.istore_n 1, 1) := by decide +kernel
theorem dX0_isBroken_2 : decode cX0_isBroken 2 = .ok (.iload_n 1, 1) := by decide +kernel
theorem dX0_isBroken_3 : decode cX0_isBroken 3 = .ok (.aload_n 0, 1) := by decide +kernel
theorem dX0_isBroken_4 : decode cX0_isBroken 4 = .ok (.getfield 15, 3) := by decide +kernel
theorem dX0_isBroken_7 : decode cX0_isBroken 7 = .ok (.if_icmp .ge 23, 3) := by decide +kernel
theorem dX0_isBroken_10 : decode cX0_isBroken 10 = .ok (.aload_n 0, 1) := by decide +kernel
theorem dX0_isBroken_11 : decode cX0_isBroken 11 = .ok (.getfield 22, 3) := by decide +kernel
theorem dX0_isBroken_14 : decode cX0_isBroken 14 = .ok (.iload_n 1, 1) := by decide +kernel
theorem dX0_isBroken_15 : decode cX0_isBroken 15 = .ok (.iaload, 1) := by decide +kernel
theorem dX0_isBroken_16 : decode cX0_isBroken 16 = .ok (.sipush 1000, 3) := by decide +kernel
theorem dX0_isBroken_19 : decode cX0_isBroken 19 = .ok (.if_icmp .lt 5, 3) := by decide +kernel
theorem dX0_isBroken_22 : decode cX0_isBroken 22 = .ok (.iconst 1, 1) := by decide +kernel
theorem dX0_isBroken_23 : decode cX0_isBroken 23 = .ok (.ireturn, 1) := by decide +kernel
theorem dX0_isBroken_24 : decode cX0_isBroken 24 = .ok (.iinc 1 1, 3) := by decide +kernel
theorem dX0_isBroken_27 : decode cX0_isBroken 27 = .ok (.goto (-25), 3) := by decide +kernel
theorem dX0_isBroken_30 : decode cX0_isBroken 30 = .ok (.iconst 0, 1) := by decide +kernel
theorem dX0_isBroken_31 : decode cX0_isBroken 31 = .ok (.ireturn, 1) := by decide +kernel
theorem dX1_init_0 : decode cX1_init 0 = .ok (.aload_n 0, 1) := by decide +kernel
theorem dX1_init_1 : decode cX1_init 1 = .ok (.invokespecial 3, 3) := by decide +kernel
theorem dX1_init_4 : decode cX1_init 4 = .ok (.aload_n 0, 1) := by decide +kernel
theorem dX1_init_5 : decode cX1_init 5 = .ok (.iconst 0, 1) := by decide +kernel
theorem dX1_init_6 : decode cX1_init 6 = .ok (.putfield 9, 3) := by decide +kernel
theorem dX1_init_9 : decode cX1_init 9 = .ok (.aload_n 0, 1) := by decide +kernel
theorem dX1_init_10 : decode cX1_init 10 = .ok (.iload_n 1, 1) := by decide +kernel
theorem dX1_init_11 : decode cX1_init 11 = .ok (.iload_n 2, 1) := by decide +kernel
theorem dX1_init_12 : decode cX1_init 12 = .ok (.multianewarray 15 2, 4) := by decide +kernel
theorem dX1_init_16 : decode cX1_init 16 = .ok (.putfield 17, 3) := by decide +kernel
theorem dX1_init_19 : decode cX1_init 19 = .ok (.aload_n 0, 1) := by decide +kernel
theorem dX1_init_20 : decode cX1_init 20 = .ok (.iload_n 2, 1) := by decide +kernel
theorem dX1_init_21 : decode cX1_init 21 = .ok (.newarray .int, 2) := by decide +kernel
theorem dX1_init_23 : decode cX1_init 23 = .ok (.putfield 20, 3) := by decide +kernel
theorem dX1_init_26 : decode cX1_init 26 = .ok (.aload_n 0, 1) := by decide +kernel
theorem dX1_init_27 : decode cX1_init 27 = .ok (.iload_n 2, 1) := by decide +kernel
theorem dX1_init_28 : decode cX1_init 28 = .ok (.newarray .int, 2) := by decide +kernel
theorem dX1_init_30 : decode cX1_init 30 = .ok (.putfield 24, 3) := by decide +kernel
theorem dX1_init_33 : decode cX1_init 33 = .ok (.aload_n 0, 1) := by decide +kernel
theorem dX1_init_34 : decode cX1_init 34 = .ok (.iload_n 2, 1) := by decide +kernel
theorem dX1_init_35 : decode cX1_init 35 = .ok (.newarray .int, 2) := by decide +kernel
theorem dX1_init_37 : decode cX1_init 37 = .ok (.putfield 27, 3) := by decide +kernel
theorem dX1_init_40 : decode cX1_init 40 = .ok (.aload_n 0, 1) := by decide +kernel
theorem dX1_init_41 : decode cX1_init 41 = .ok (.iload_n 2, 1) := by decide +kernel
theorem dX1_init_42 : decode cX1_init 42 = .ok (.newarray .int, 2) := by decide +kernel
theorem dX1_init_44 : decode cX1_init 44 = .ok (.putfield 30, 3) := by decide +kernel
theorem dX1_init_47 : decode cX1_init 47 = .ok (.aload_n 0, 1) := by decide +kernel
theorem dX1_init_48 : decode cX1_init 48 = .ok (.iload_n 2, 1) := by decide +kernel
theorem dX1_init_49 : decode cX1_init 49 = .ok (.newarray .int, 2) := by decide +kernel
theorem dX1_init_51 : decode cX1_init 51 = .ok (.putfield 33, 3) := by decide +kernel
theorem dX1_init_54 : decode cX1_init 54 = .ok (.return_, 1) := by decide +kernel
theorem dX1_lastMouth_0 : decode cX1_lastMouth 0 = .ok (.aload_n 0, 1) := by decide +kernel
theorem dX1_lastMouth_1 : decode cX1_lastMouth 1 = .ok (.getfield 9, 3) := by decide +kernel
theorem dX1_lastMouth_4 : decode cX1_lastMouth 4 = .ok (.ifCond .ne 7, 3) := by decide +kernel
theorem dX1_lastMouth_7 : decode cX1_lastMouth 7 = .ok (.iconst (-1), 1) := by decide +kernel
theorem dX1_lastMouth_8 : decode cX1_lastMouth 8 = .ok (.goto 14, 3) := by decide +kernel
theorem dX1_lastMouth_11 : decode cX1_lastMouth 11 = .ok (.aload_n 0, 1) := by decide +kernel
theorem dX1_lastMouth_12 : decode cX1_lastMouth 12 = .ok (.getfield 20, 3) := by decide +kernel
theorem dX1_lastMouth_15 : decode cX1_lastMouth 15 = .ok (.aload_n 0, 1) := by decide +kernel
theorem dX1_lastMouth_16 : decode cX1_lastMouth 16 = .ok (.getfield 9, 3) := by decide +kernel
theorem dX1_lastMouth_19 : decode cX1_lastMouth 19 = .ok (.iconst 1, 1) := by decide +kernel
theorem dX1_lastMouth_20 : decode cX1_lastMouth 20 = .ok (.isub, 1) := by decide +kernel
theorem dX1_lastMouth_21 : decode cX1_lastMouth 21 = .ok (.iaload, 1) := by decide +kernel
theorem dX1_lastMouth_22 : decode cX1_lastMouth 22 = .ok (.ireturn, 1) := by decide +kernel
theorem dX1_repeatPoseAndMouth_0 : decode cX1_repeatPoseAndMouth 0 = .ok (.aload_n 0, 1) := by decide +kernel
theorem dX1_repeatPoseAndMouth_1 : decode cX1_repeatPoseAndMouth 1 = .ok (.getfield 20, 3) := by decide +kernel
theorem dX1_repeatPoseAndMouth_4 : decode cX1_repeatPoseAndMouth 4 = .ok (.aload_n 0, 1) := by decide +kernel
theorem dX1_repeatPoseAndMouth_5 : decode cX1_repeatPoseAndMouth 5 = .ok (.getfield 9, 3) := by decide +kernel
theorem dX1_repeatPoseAndMouth_8 : decode cX1_repeatPoseAndMouth 8 = .ok (.aload_n 0, 1) := by decide +kernel
theorem dX1_repeatPoseAndMouth_9 : decode cX1_repeatPoseAndMouth 9 = .ok (.invokevirtual 36, 3) := by decide +kernel
theorem dX1_repeatPoseAndMouth_12 : decode cX1_repeatPoseAndMouth 12 = .ok (.iastore, 1) := by decide +kernel
theorem dX1_repeatPoseAndMouth_13 : decode cX1_repeatPoseAndMouth 13 = .ok (.aload_n 0, 1) := by decide +kernel
theorem dX1_repeatPoseAndMouth_14 : decode cX1_repeatPoseAndMouth 14 = .ok (.getfield 9, 3) := by decide +kernel
theorem dX1_repeatPoseAndMouth_17 : decode cX1_repeatPoseAndMouth 17 = .ok (.ifCond .ne 4, 3) := by decide +kernel
theorem dX1_repeatPoseAndMouth_20 : decode cX1_repeatPoseAndMouth 20 = .ok (.return_, 1) := by decide +kernel
theorem dX1_repeatPoseAndMouth_21 : decode cX1_repeatPoseAndMouth 21 = .ok (.iconst 0, 1) := by decide +kernel
theorem dX1_repeatPoseAndMouth_22 : decode cX1_repeatPoseAndMouth 22 = .ok (.istore_n 1, 1) := by decide +kernel
theorem dX1_repeatPoseAndMouth_23 : decode cX1_repeatPoseAndMouth 23 = .ok (.iload_n 1, 1) := by decide +kernel
theorem dX1_repeatPoseAndMouth_24 : decode cX1_repeatPoseAndMouth 24 = .ok (.aload_n 0, 1) := by decide +kernel
theorem dX1_repeatPoseAndMouth_25 : decode cX1_repeatPoseAndMouth 25 = .ok (.getfield 17, 3) := by decide +kernel
theorem dX1_repeatPoseAndMouth_28 : decode cX1_repeatPoseAndMouth 28 = .ok (.arraylength, 1) := by decide +kernel
theorem dX1_repeatPoseAndMouth_29 : decode cX1_repeatPoseAndMouth 29 = .ok (.if_icmp .ge 33, 3) := by decide +kernel
theorem dX1_repeatPoseAndMouth_32 : decode cX1_repeatPoseAndMouth 32 = .ok (.aload_n 0, 1) := by decide +kernel
theorem dX1_repeatPoseAndMouth_33 : decode cX1_repeatPoseAndMouth 33 = .ok (.getfield 17, 3) := by decide +kernel
theorem dX1_repeatPoseAndMouth_36 : decode cX1_repeatPoseAndMouth 36 = .ok (.iload_n 1, 1) := by decide +kernel
theorem dX1_repeatPoseAndMouth_37 : decode cX1_repeatPoseAndMouth 37 = .ok (.aaload, 1) := by decide +kernel
theorem dX1_repeatPoseAndMouth_38 : decode cX1_repeatPoseAndMouth 38 = .ok (.aload_n 0, 1) := by decide +kernel
theorem dX1_repeatPoseAndMouth_39 : decode cX1_repeatPoseAndMouth 39 = .ok (.getfield 9, 3) := by decide +kernel
theorem dX1_repeatPoseAndMouth_42 : decode cX1_repeatPoseAndMouth 42 = .ok (.aload_n 0, 1) := by decide +kernel
theorem dX1_repeatPoseAndMouth_43 : decode cX1_repeatPoseAndMouth 43 = .ok (.getfield 17, 3) := by decide +kernel
theorem dX1_repeatPoseAndMouth_46 : decode cX1_repeatPoseAndMouth 46 = .ok (.iload_n 1, 1) := by decide +kernel
theorem dX1_repeatPoseAndMouth_47 : decode cX1_repeatPoseAndMouth 47 = .ok (.aaload, 1) := by decide +kernel
theorem dX1_repeatPoseAndMouth_48 : decode cX1_repeatPoseAndMouth 48 = .ok (.aload_n 0, 1) := by decide +kernel
theorem dX1_repeatPoseAndMouth_49 : decode cX1_repeatPoseAndMouth 49 = .ok (.getfield 9, 3) := by decide +kernel
theorem dX1_repeatPoseAndMouth_52 : decode cX1_repeatPoseAndMouth 52 = .ok (.iconst 1, 1) := by decide +kernel
theorem dX1_repeatPoseAndMouth_53 : decode cX1_repeatPoseAndMouth 53 = .ok (.isub, 1) := by decide +kernel
theorem dX1_repeatPoseAndMouth_54 : decode cX1_repeatPoseAndMouth 54 = .ok (.iaload, 1) := by decide +kernel
theorem dX1_repeatPoseAndMouth_55 : decode cX1_repeatPoseAndMouth 55 = .ok (.iastore, 1) := by decide +kernel
theorem dX1_repeatPoseAndMouth_56 : decode cX1_repeatPoseAndMouth 56 = .ok (.iinc 1 1, 3) := by decide +kernel
theorem dX1_repeatPoseAndMouth_59 : decode cX1_repeatPoseAndMouth 59 = .ok (.goto (-36), 3) := by decide +kernel
theorem dX1_repeatPoseAndMouth_62 : decode cX1_repeatPoseAndMouth 62 = .ok (.return_, 1) := by decide +kernel
theorem dX1_keepNext_0 : decode cX1_keepNext 0 = .ok (.aload_n 0, 1) := by decide +kernel
theorem dX1_keepNext_1 : decode cX1_keepNext 1 = .ok (.getfield 33, 3) := by decide +kernel
theorem dX1_keepNext_4 : decode cX1_keepNext 4 = .ok (.aload_n 0, 1) := by decide +kernel
theorem dX1_keepNext_5 : decode cX1_keepNext 5 = .ok (.getfield 9, 3) := by decide +kernel
theorem dX1_keepNext_8 : decode cX1_keepNext 8 = .ok (.iload_n 1, 1) := by decide +kernel
theorem dX1_keepNext_9 : decode cX1_keepNext 9 = .ok (.iastore, 1) := by decide +kernel
theorem dX1_keepNext_10 : decode cX1_keepNext 10 = .ok (.aload_n 0, 1) := by decide +kernel
theorem dX1_keepNext_11 : decode cX1_keepNext 11 = .ok (.getfield 24, 3) := by decide +kernel
theorem dX1_keepNext_14 : decode cX1_keepNext 14 = .ok (.aload_n 0, 1) := by decide +kernel
theorem dX1_keepNext_15 : decode cX1_keepNext 15 = .ok (.getfield 9, 3) := by decide +kernel
theorem dX1_keepNext_18 : decode cX1_keepNext 18 = .ok (.aload_n 0, 1) := by decide +kernel
theorem dX1_keepNext_19 : decode cX1_keepNext 19 = .ok (.iload_n 2, 1) := by decide +kernel
theorem dX1_keepNext_20 : decode cX1_keepNext 20 = .ok (.invokevirtual 40, 3) := by decide +kernel
theorem dX1_keepNext_23 : decode cX1_keepNext 23 = .ok (.iastore, 1) := by decide +kernel
theorem dX1_keepNext_24 : decode cX1_keepNext 24 = .ok (.aload_n 0, 1) := by decide +kernel
theorem dX1_keepNext_25 : decode cX1_keepNext 25 = .ok (.getfield 27, 3) := by decide +kernel
theorem dX1_keepNext_28 : decode cX1_keepNext 28 = .ok (.aload_n 0, 1) := by decide +kernel
theorem dX1_keepNext_29 : decode cX1_keepNext 29 = .ok (.getfield 9, 3) := by decide +kernel
theorem dX1_keepNext_32 : decode cX1_keepNext 32 = .ok (.iload_n 3, 1) := by decide +kernel
theorem dX1_keepNext_33 : decode cX1_keepNext 33 = .ok (.iastore, 1) := by decide +kernel
theorem dX1_keepNext_34 : decode cX1_keepNext 34 = .ok (.aload_n 0, 1) := by decide +kernel
theorem dX1_keepNext_35 : decode cX1_keepNext 35 = .ok (.getfield 30, 3) := by decide +kernel
theorem dX1_keepNext_38 : decode cX1_keepNext 38 = .ok (.aload_n 0, 1) := by decide +kernel
theorem dX1_keepNext_39 : decode cX1_keepNext 39 = .ok (.getfield 9, 3) := by decide +kernel
theorem dX1_keepNext_42 : decode cX1_keepNext 42 = .ok (.iload 4, 2) := by decide +kernel
theorem dX1_keepNext_44 : decode cX1_keepNext 44 = .ok (.iastore, 1) := by decide +kernel
theorem dX1_keepNext_45 : decode cX1_keepNext 45 = .ok (.aload_n 0, 1) := by decide +kernel
theorem dX1_keepNext_46 : decode cX1_keepNext 46 = .ok (.dup, 1) := by decide +kernel
theorem dX1_keepNext_47 : decode cX1_keepNext 47 = .ok (.getfield 9, 3) := by decide +kernel
theorem dX1_keepNext_50 : decode cX1_keepNext 50 = .ok (.iconst 1, 1) := by decide +kernel
theorem dX1_keepNext_51 : decode cX1_keepNext 51 = .ok (.iadd, 1) := by decide +kernel
theorem dX1_keepNext_52 : decode cX1_keepNext 52 = .ok (.putfield 9, 3) := by decide +kernel
theorem dX1_keepNext_55 : decode cX1_keepNext 55 = .ok (.return_, 1) := by decide +kernel
theorem dX1_cameraOfNext_0 : decode cX1_cameraOfNext 0 = .ok (.iconst 0, 1) := by decide +kernel
theorem dX1_cameraOfNext_1 : decode cX1_cameraOfNext 1 = .ok (.istore_n 2, 1) := by decide +kernel
theorem dX1_cameraOfNext_2 : decode cX1_cameraOfNext 2 = .ok (.iconst 0, 1) := by decide +kernel
theorem dX1_cameraOfNext_3 : decode cX1_cameraOfNext 3 = .ok (.istore_n 3, 1) := by decide +kernel
theorem dX1_cameraOfNext_4 : decode cX1_cameraOfNext 4 = .ok (.iconst 1, 1) := by decide +kernel
theorem dX1_cameraOfNext_5 : decode cX1_cameraOfNext 5 = .ok (.istore 4, 2) := by decide +kernel
theorem dX1_cameraOfNext_7 : decode cX1_cameraOfNext 7 = .ok (.iload 4, 2) := by decide +kernel
theorem dX1_cameraOfNext_9 : decode cX1_cameraOfNext 9 = .ok (.aload_n 0, 1) := by decide +kernel
theorem dX1_cameraOfNext_10 : decode cX1_cameraOfNext 10 = .ok (.getfield 9, 3) := by decide +kernel
theorem dX1_cameraOfNext_13 : decode cX1_cameraOfNext 13 = .ok (.if_icmp .gt 55, 3) := by decide +kernel
theorem dX1_cameraOfNext_16 : decode cX1_cameraOfNext 16 = .ok (.aload_n 0, 1) := by decide +kernel
theorem dX1_cameraOfNext_17 : decode cX1_cameraOfNext 17 = .ok (.getfield 33, 3) := by decide +kernel
theorem dX1_cameraOfNext_20 : decode cX1_cameraOfNext 20 = .ok (.iload 4, 2) := by decide +kernel
theorem dX1_cameraOfNext_22 : decode cX1_cameraOfNext 22 = .ok (.iaload, 1) := by decide +kernel
theorem dX1_cameraOfNext_23 : decode cX1_cameraOfNext 23 = .ok (.aload_n 0, 1) := by decide +kernel
theorem dX1_cameraOfNext_24 : decode cX1_cameraOfNext 24 = .ok (.getfield 33, 3) := by decide +kernel
theorem dX1_cameraOfNext_27 : decode cX1_cameraOfNext 27 = .ok (.iload 4, 2) := by decide +kernel
theorem dX1_cameraOfNext_29 : decode cX1_cameraOfNext 29 = .ok (.iconst 1, 1) := by decide +kernel
theorem dX1_cameraOfNext_30 : decode cX1_cameraOfNext 30 = .ok (.isub, 1) := by decide +kernel
theorem dX1_cameraOfNext_31 : decode cX1_cameraOfNext 31 = .ok (.iaload, 1) := by decide +kernel
theorem dX1_cameraOfNext_32 : decode cX1_cameraOfNext 32 = .ok (.invokestatic 44, 3) := by decide +kernel
theorem dX1_cameraOfNext_35 : decode cX1_cameraOfNext 35 = .ok (.istore 5, 2) := by decide +kernel
theorem dX1_cameraOfNext_37 : decode cX1_cameraOfNext 37 = .ok (.iload 5, 2) := by decide +kernel
theorem dX1_cameraOfNext_39 : decode cX1_cameraOfNext 39 = .ok (.ifCond .eq 23, 3) := by decide +kernel
theorem dX1_cameraOfNext_42 : decode cX1_cameraOfNext 42 = .ok (.iload_n 3, 1) := by decide +kernel
theorem dX1_cameraOfNext_43 : decode cX1_cameraOfNext 43 = .ok (.ifCond .ne 10, 3) := by decide +kernel
theorem dX1_cameraOfNext_46 : decode cX1_cameraOfNext 46 = .ok (.iload_n 2, 1) := by decide +kernel
theorem dX1_cameraOfNext_47 : decode cX1_cameraOfNext 47 = .ok (.iload 5, 2) := by decide +kernel
theorem dX1_cameraOfNext_49 : decode cX1_cameraOfNext 49 = .ok (.imul, 1) := by decide +kernel
theorem dX1_cameraOfNext_50 : decode cX1_cameraOfNext 50 = .ok (.ifCond .ge 7, 3) := by decide +kernel
theorem dX1_cameraOfNext_53 : decode cX1_cameraOfNext 53 = .ok (.iconst 1, 1) := by decide +kernel
theorem dX1_cameraOfNext_54 : decode cX1_cameraOfNext 54 = .ok (.goto 4, 3) := by decide +kernel
theorem dX1_cameraOfNext_57 : decode cX1_cameraOfNext 57 = .ok (.iconst 0, 1) := by decide +kernel
theorem dX1_cameraOfNext_58 : decode cX1_cameraOfNext 58 = .ok (.istore_n 3, 1) := by decide +kernel
theorem dX1_cameraOfNext_59 : decode cX1_cameraOfNext 59 = .ok (.iload 5, 2) := by decide +kernel
theorem dX1_cameraOfNext_61 : decode cX1_cameraOfNext 61 = .ok (.istore_n 2, 1) := by decide +kernel
theorem dX1_cameraOfNext_62 : decode cX1_cameraOfNext 62 = .ok (.iinc 4 1, 3) := by decide +kernel
theorem dX1_cameraOfNext_65 : decode cX1_cameraOfNext 65 = .ok (.goto (-58), 3) := by decide +kernel
theorem dX1_cameraOfNext_68 : decode cX1_cameraOfNext 68 = .ok (.iload_n 3, 1) := by decide +kernel
theorem dX1_cameraOfNext_69 : decode cX1_cameraOfNext 69 = .ok (.ifCond .ne 13, 3) := by decide +kernel
theorem dX1_cameraOfNext_72 : decode cX1_cameraOfNext 72 = .ok (.aload_n 0, 1) := by decide +kernel
theorem dX1_cameraOfNext_73 : decode cX1_cameraOfNext 73 = .ok (.getfield 33, 3) := by decide +kernel
theorem dX1_cameraOfNext_76 : decode cX1_cameraOfNext 76 = .ok (.aload_n 0, 1) := by decide +kernel
theorem dX1_cameraOfNext_77 : decode cX1_cameraOfNext 77 = .ok (.getfield 9, 3) := by decide +kernel
theorem dX1_cameraOfNext_80 : decode cX1_cameraOfNext 80 = .ok (.iaload, 1) := by decide +kernel
theorem dX1_cameraOfNext_81 : decode cX1_cameraOfNext 81 = .ok (.ireturn, 1) := by decide +kernel
theorem dX1_cameraOfNext_82 : decode cX1_cameraOfNext 82 = .ok (.iload_n 2, 1) := by decide +kernel
theorem dX1_cameraOfNext_83 : decode cX1_cameraOfNext 83 = .ok (.ifCond .le 17, 3) := by decide +kernel
theorem dX1_cameraOfNext_86 : decode cX1_cameraOfNext 86 = .ok (.aload_n 0, 1) := by decide +kernel
theorem dX1_cameraOfNext_87 : decode cX1_cameraOfNext 87 = .ok (.getfield 33, 3) := by decide +kernel
theorem dX1_cameraOfNext_90 : decode cX1_cameraOfNext 90 = .ok (.aload_n 0, 1) := by decide +kernel
theorem dX1_cameraOfNext_91 : decode cX1_cameraOfNext 91 = .ok (.getfield 9, 3) := by decide +kernel
theorem dX1_cameraOfNext_94 : decode cX1_cameraOfNext 94 = .ok (.iaload, 1) := by decide +kernel
theorem dX1_cameraOfNext_95 : decode cX1_cameraOfNext 95 = .ok (.iload_n 1, 1) := by decide +kernel
theorem dX1_cameraOfNext_96 : decode cX1_cameraOfNext 96 = .ok (.isub, 1) := by decide +kernel
theorem dX1_cameraOfNext_97 : decode cX1_cameraOfNext 97 = .ok (.goto 14, 3) := by decide +kernel
theorem dX1_cameraOfNext_100 : decode cX1_cameraOfNext 100 = .ok (.aload_n 0, 1) := by decide +kernel
theorem dX1_cameraOfNext_101 : decode cX1_cameraOfNext 101 = .ok (.getfield 33, 3) := by decide +kernel
theorem dX1_cameraOfNext_104 : decode cX1_cameraOfNext 104 = .ok (.aload_n 0, 1) := by decide +kernel
theorem dX1_cameraOfNext_105 : decode cX1_cameraOfNext 105 = .ok (.getfield 9, 3) := by decide +kernel
theorem dX1_cameraOfNext_108 : decode cX1_cameraOfNext 108 = .ok (.iaload, 1) := by decide +kernel
theorem dX1_cameraOfNext_109 : decode cX1_cameraOfNext 109 = .ok (.iload_n 1, 1) := by decide +kernel
theorem dX1_cameraOfNext_110 : decode cX1_cameraOfNext 110 = .ok (.iadd, 1) := by decide +kernel
theorem dX1_cameraOfNext_111 : decode cX1_cameraOfNext 111 = .ok (.ireturn, 1) := by decide +kernel
theorem dX2_init_0 : decode cX2_init 0 = .ok (.aload_n 0, 1) := by decide +kernel
theorem dX2_init_1 : decode cX2_init 1 = .ok (.invokespecial 3, 3) := by decide +kernel
theorem dX2_init_4 : decode cX2_init 4 = .ok (.aload_n 0, 1) := by decide +kernel
theorem dX2_init_5 : decode cX2_init 5 = .ok (.iconst (-1), 1) := by decide +kernel
theorem dX2_init_6 : decode cX2_init 6 = .ok (.putfield 9, 3) := by decide +kernel
theorem dX2_init_9 : decode cX2_init 9 = .ok (.aload_n 0, 1) := by decide +kernel
theorem dX2_init_10 : decode cX2_init 10 = .ok (.iconst 0, 1) := by decide +kernel
theorem dX2_init_11 : decode cX2_init 11 = .ok (.putfield 15, 3) := by decide +kernel
theorem dX2_init_14 : decode cX2_init 14 = .ok (.aload_n 0, 1) := by decide +kernel
theorem dX2_init_15 : decode cX2_init 15 = .ok (.aload_n 1, 1) := by decide +kernel
theorem dX2_init_16 : decode cX2_init 16 = .ok (.putfield 18, 3) := by decide +kernel
theorem dX2_init_19 : decode cX2_init 19 = .ok (.aload_n 0, 1) := by decide +kernel
theorem dX2_init_20 : decode cX2_init 20 = .ok (.iload_n 2, 1) := by decide +kernel
theorem dX2_init_21 : decode cX2_init 21 = .ok (.putfield 22, 3) := by decide +kernel
theorem dX2_init_24 : decode cX2_init 24 = .ok (.aload_n 0, 1) := by decide +kernel
theorem dX2_init_25 : decode cX2_init 25 = .ok (.iload_n 3, 1) := by decide +kernel
theorem dX2_init_26 : decode cX2_init 26 = .ok (.putfield 25, 3) := by decide +kernel
theorem dX2_init_29 : decode cX2_init 29 = .ok (.aload_n 0, 1) := by decide +kernel
theorem dX2_init_30 : decode cX2_init 30 = .ok (.iload 4, 2) := by decide +kernel
theorem dX2_init_32 : decode cX2_init 32 = .ok (.putfield 28, 3) := by decide +kernel
theorem dX2_init_35 : decode cX2_init 35 = .ok (.aload_n 0, 1) := by decide +kernel
theorem dX2_init_36 : decode cX2_init 36 = .ok (.aload_n 1, 1) := by decide +kernel
theorem dX2_init_37 : decode cX2_init 37 = .ok (.getfield 31, 3) := by decide +kernel
theorem dX2_init_40 : decode cX2_init 40 = .ok (.anewarray 36, 3) := by decide +kernel
theorem dX2_init_43 : decode cX2_init 43 = .ok (.putfield 38, 3) := by decide +kernel
theorem dX2_init_46 : decode cX2_init 46 = .ok (.iconst 0, 1) := by decide +kernel
theorem dX2_init_47 : decode cX2_init 47 = .ok (.istore 5, 2) := by decide +kernel
theorem dX2_init_49 : decode cX2_init 49 = .ok (.iload 5, 2) := by decide +kernel
theorem dX2_init_51 : decode cX2_init 51 = .ok (.aload_n 1, 1) := by decide +kernel
theorem dX2_init_52 : decode cX2_init 52 = .ok (.getfield 31, 3) := by decide +kernel
theorem dX2_init_55 : decode cX2_init 55 = .ok (.if_icmp .ge 25, 3) := by decide +kernel
theorem dX2_init_58 : decode cX2_init 58 = .ok (.aload_n 0, 1) := by decide +kernel
theorem dX2_init_59 : decode cX2_init 59 = .ok (.getfield 38, 3) := by decide +kernel
theorem dX2_init_62 : decode cX2_init 62 = .ok (.iload 5, 2) := by decide +kernel
theorem dX2_init_64 : decode cX2_init 64 = .ok (.new 36, 3) := by decide +kernel
theorem dX2_init_67 : decode cX2_init 67 = .ok (.dup, 1) := by decide +kernel
theorem dX2_init_68 : decode cX2_init 68 = .ok (.iload_n 2, 1) := by decide +kernel
theorem dX2_init_69 : decode cX2_init 69 = .ok (.iconst 1, 1) := by decide +kernel
theorem dX2_init_70 : decode cX2_init 70 = .ok (.invokespecial 42, 3) := by decide +kernel
theorem dX2_init_73 : decode cX2_init 73 = .ok (.aastore, 1) := by decide +kernel
theorem dX2_init_74 : decode cX2_init 74 = .ok (.iinc 5 1, 3) := by decide +kernel
theorem dX2_init_77 : decode cX2_init 77 = .ok (.goto (-28), 3) := by decide +kernel
theorem dX2_init_80 : decode cX2_init 80 = .ok (.aload_n 0, 1) := by decide +kernel
theorem dX2_init_81 : decode cX2_init 81 = .ok (.new 36, 3) := by decide +kernel
theorem dX2_init_84 : decode cX2_init 84 = .ok (.dup, 1) := by decide +kernel
theorem dX2_init_85 : decode cX2_init 85 = .ok (.iload_n 2, 1) := by decide +kernel
theorem dX2_init_86 : decode cX2_init 86 = .ok (.iconst 0, 1) := by decide +kernel
theorem dX2_init_87 : decode cX2_init 87 = .ok (.invokespecial 42, 3) := by decide +kernel
theorem dX2_init_90 : decode cX2_init 90 = .ok (.putfield 45, 3) := by decide +kernel
theorem dX2_init_93 : decode cX2_init 93 = .ok (.aload_n 0, 1) := by decide +kernel
theorem dX2_init_94 : decode cX2_init 94 = .ok (.new 49, 3) := by decide +kernel
theorem dX2_init_97 : decode cX2_init 97 = .ok (.dup, 1) := by decide +kernel
theorem dX2_init_98 : decode cX2_init 98 = .ok (.aload_n 1, 1) := by decide +kernel
theorem dX2_init_99 : decode cX2_init 99 = .ok (.getfield 31, 3) := by decide +kernel
theorem dX2_init_102 : decode cX2_init 102 = .ok (.iload_n 2, 1) := by decide +kernel
theorem dX2_init_103 : decode cX2_init 103 = .ok (.invokespecial 51, 3) := by decide +kernel
theorem dX2_init_106 : decode cX2_init 106 = .ok (.putfield 54, 3) := by decide +kernel
theorem dX2_init_109 : decode cX2_init 109 = .ok (.return_, 1) := by decide +kernel
theorem dX2_isHeld_0 : decode cX2_isHeld 0 = .ok (.aload_n 0, 1) := by decide +kernel
theorem dX2_isHeld_1 : decode cX2_isHeld 1 = .ok (.iload_n 1, 1) := by decide +kernel
theorem dX2_isHeld_2 : decode cX2_isHeld 2 = .ok (.invokevirtual 58, 3) := by decide +kernel
theorem dX2_isHeld_5 : decode cX2_isHeld 5 = .ok (.iload_n 1, 1) := by decide +kernel
theorem dX2_isHeld_6 : decode cX2_isHeld 6 = .ok (.if_icmp .eq 7, 3) := by decide +kernel
theorem dX2_isHeld_9 : decode cX2_isHeld 9 = .ok (.iconst 1, 1) := by decide +kernel
theorem dX2_isHeld_10 : decode cX2_isHeld 10 = .ok (.goto 4, 3) := by decide +kernel
theorem dX2_isHeld_13 : decode cX2_isHeld 13 = .ok (.iconst 0, 1) := by decide +kernel
theorem dX2_isHeld_14 : decode cX2_isHeld 14 = .ok (.ireturn, 1) := by decide +kernel
theorem dX2_posedFrame_0 : decode cX2_posedFrame 0 = .ok (.aload_n 0, 1) := by decide +kernel
theorem dX2_posedFrame_1 : decode cX2_posedFrame 1 = .ok (.getfield 25, 3) := by decide +kernel
theorem dX2_posedFrame_4 : decode cX2_posedFrame 4 = .ok (.iconst 2, 1) := by decide +kernel
theorem dX2_posedFrame_5 : decode cX2_posedFrame 5 = .ok (.if_icmp .ne 16, 3) := by decide +kernel
theorem dX2_posedFrame_8 : decode cX2_posedFrame 8 = .ok (.iload_n 1, 1) := by decide +kernel
theorem dX2_posedFrame_9 : decode cX2_posedFrame 9 = .ok (.iconst 2, 1) := by decide +kernel
theorem dX2_posedFrame_10 : decode cX2_posedFrame 10 = .ok (.irem, 1) := by decide +kernel
theorem dX2_posedFrame_11 : decode cX2_posedFrame 11 = .ok (.iconst 1, 1) := by decide +kernel
theorem dX2_posedFrame_12 : decode cX2_posedFrame 12 = .ok (.if_icmp .ne 9, 3) := by decide +kernel
theorem dX2_posedFrame_15 : decode cX2_posedFrame 15 = .ok (.iload_n 1, 1) := by decide +kernel
theorem dX2_posedFrame_16 : decode cX2_posedFrame 16 = .ok (.iconst 1, 1) := by decide +kernel
theorem dX2_posedFrame_17 : decode cX2_posedFrame 17 = .ok (.isub, 1) := by decide +kernel
theorem dX2_posedFrame_18 : decode cX2_posedFrame 18 = .ok (.goto 4, 3) := by decide +kernel
theorem dX2_posedFrame_21 : decode cX2_posedFrame 21 = .ok (.iload_n 1, 1) := by decide +kernel
theorem dX2_posedFrame_22 : decode cX2_posedFrame 22 = .ok (.ireturn, 1) := by decide +kernel
theorem dX2_isStruck_0 : decode cX2_isStruck 0 = .ok (.iload_n 1, 1) := by decide +kernel
theorem dX2_isStruck_1 : decode cX2_isStruck 1 = .ok (.aload_n 0, 1) := by decide +kernel
theorem dX2_isStruck_2 : decode cX2_isStruck 2 = .ok (.getfield 54, 3) := by decide +kernel
theorem dX2_isStruck_5 : decode cX2_isStruck 5 = .ok (.getfield 62, 3) := by decide +kernel
theorem dX2_isStruck_8 : decode cX2_isStruck 8 = .ok (.if_icmp .ge 7, 3) := by decide +kernel
theorem dX2_isStruck_11 : decode cX2_isStruck 11 = .ok (.iconst 1, 1) := by decide +kernel
theorem dX2_isStruck_12 : decode cX2_isStruck 12 = .ok (.goto 4, 3) := by decide +kernel
theorem dX2_isStruck_15 : decode cX2_isStruck 15 = .ok (.iconst 0, 1) := by decide +kernel
theorem dX2_isStruck_16 : decode cX2_isStruck 16 = .ok (.ireturn, 1) := by decide +kernel
theorem dX2_hasBegun_0 : decode cX2_hasBegun 0 = .ok (.aload_n 0, 1) := by decide +kernel
theorem dX2_hasBegun_1 : decode cX2_hasBegun 1 = .ok (.getfield 54, 3) := by decide +kernel
theorem dX2_hasBegun_4 : decode cX2_hasBegun 4 = .ok (.getfield 62, 3) := by decide +kernel
theorem dX2_hasBegun_7 : decode cX2_hasBegun 7 = .ok (.ifCond .le 7, 3) := by decide +kernel
theorem dX2_hasBegun_10 : decode cX2_hasBegun 10 = .ok (.iconst 1, 1) := by decide +kernel
theorem dX2_hasBegun_11 : decode cX2_hasBegun 11 = .ok (.goto 4, 3) := by decide +kernel
theorem dX2_hasBegun_14 : decode cX2_hasBegun 14 = .ok (.iconst 0, 1) := by decide +kernel
theorem dX2_hasBegun_15 : decode cX2_hasBegun 15 = .ok (.ireturn, 1) := by decide +kernel
theorem dX2_isDone_0 : decode cX2_isDone 0 = .ok (.aload_n 0, 1) := by decide +kernel
theorem dX2_isDone_1 : decode cX2_isDone 1 = .ok (.getfield 54, 3) := by decide +kernel
theorem dX2_isDone_4 : decode cX2_isDone 4 = .ok (.getfield 62, 3) := by decide +kernel
theorem dX2_isDone_7 : decode cX2_isDone 7 = .ok (.aload_n 0, 1) := by decide +kernel
theorem dX2_isDone_8 : decode cX2_isDone 8 = .ok (.getfield 22, 3) := by decide +kernel
theorem dX2_isDone_11 : decode cX2_isDone 11 = .ok (.if_icmp .lt 7, 3) := by decide +kernel
theorem dX2_isDone_14 : decode cX2_isDone 14 = .ok (.iconst 1, 1) := by decide +kernel
theorem dX2_isDone_15 : decode cX2_isDone 15 = .ok (.goto 4, 3) := by decide +kernel
theorem dX2_isDone_18 : decode cX2_isDone 18 = .ok (.iconst 0, 1) := by decide +kernel
theorem dX2_isDone_19 : decode cX2_isDone 19 = .ok (.ireturn, 1) := by decide +kernel
theorem dX2_isUnderWay_0 : decode cX2_isUnderWay 0 = .ok (.aload_n 0, 1) := by decide +kernel
theorem dX2_isUnderWay_1 : decode cX2_isUnderWay 1 = .ok (.invokevirtual 65, 3) := by decide +kernel
theorem dX2_isUnderWay_4 : decode cX2_isUnderWay 4 = .ok (.ifCond .eq 14, 3) := by decide +kernel
theorem dX2_isUnderWay_7 : decode cX2_isUnderWay 7 = .ok (.aload_n 0, 1) := by decide +kernel
theorem dX2_isUnderWay_8 : decode cX2_isUnderWay 8 = .ok (.invokevirtual 69, 3) := by decide +kernel
theorem dX2_isUnderWay_11 : decode cX2_isUnderWay 11 = .ok (.ifCond .ne 7, 3) := by decide +kernel
theorem dX2_isUnderWay_14 : decode cX2_isUnderWay 14 = .ok (.iconst 1, 1) := by decide +kernel
theorem dX2_isUnderWay_15 : decode cX2_isUnderWay 15 = .ok (.goto 4, 3) := by decide +kernel
theorem dX2_isUnderWay_18 : decode cX2_isUnderWay 18 = .ok (.iconst 0, 1) := by decide +kernel
theorem dX2_isUnderWay_19 : decode cX2_isUnderWay 19 = .ok (.ireturn, 1) := by decide +kernel
theorem dX2_sheetDegree_0 : decode cX2_sheetDegree 0 = .ok (.aload_n 0, 1) := by decide +kernel
theorem dX2_sheetDegree_1 : decode cX2_sheetDegree 1 = .ok (.getfield 38, 3) := by decide +kernel
theorem dX2_sheetDegree_4 : decode cX2_sheetDegree 4 = .ok (.iload_n 1, 1) := by decide +kernel
theorem dX2_sheetDegree_5 : decode cX2_sheetDegree 5 = .ok (.aaload, 1) := by decide +kernel
theorem dX2_sheetDegree_6 : decode cX2_sheetDegree 6 = .ok (.aload_n 0, 1) := by decide +kernel
theorem dX2_sheetDegree_7 : decode cX2_sheetDegree 7 = .ok (.iload_n 2, 1) := by decide +kernel
theorem dX2_sheetDegree_8 : decode cX2_sheetDegree 8 = .ok (.invokevirtual 58, 3) := by decide +kernel
theorem dX2_sheetDegree_11 : decode cX2_sheetDegree 11 = .ok (.invokevirtual 72, 3) := by decide +kernel
theorem dX2_sheetDegree_14 : decode cX2_sheetDegree 14 = .ok (.ireturn, 1) := by decide +kernel
theorem dX2_posedAsSheet_0 : decode cX2_posedAsSheet 0 = .ok (.iconst 0, 1) := by decide +kernel
theorem dX2_posedAsSheet_1 : decode cX2_posedAsSheet 1 = .ok (.istore_n 2, 1) := by decide +kernel
theorem dX2_posedAsSheet_2 : decode cX2_posedAsSheet 2 = .ok (.iload_n 2, 1) := by decide +kernel
theorem dX2_posedAsSheet_3 : decode cX2_posedAsSheet 3 = .ok (.aload_n 0, 1) := by decide +kernel
theorem dX2_posedAsSheet_4 : decode cX2_posedAsSheet 4 = .ok (.getfield 38, 3) := by decide +kernel
theorem dX2_posedAsSheet_7 : decode cX2_posedAsSheet 7 = .ok (.arraylength, 1) := by decide +kernel
theorem dX2_posedAsSheet_8 : decode cX2_posedAsSheet 8 = .ok (.if_icmp .ge 31, 3) := by decide +kernel
theorem dX2_posedAsSheet_11 : decode cX2_posedAsSheet 11 = .ok (.aload_n 0, 1) := by decide +kernel
theorem dX2_posedAsSheet_12 : decode cX2_posedAsSheet 12 = .ok (.getfield 54, 3) := by decide +kernel
theorem dX2_posedAsSheet_15 : decode cX2_posedAsSheet 15 = .ok (.getfield 75, 3) := by decide +kernel
theorem dX2_posedAsSheet_18 : decode cX2_posedAsSheet 18 = .ok (.iload_n 2, 1) := by decide +kernel
theorem dX2_posedAsSheet_19 : decode cX2_posedAsSheet 19 = .ok (.aaload, 1) := by decide +kernel
theorem dX2_posedAsSheet_20 : decode cX2_posedAsSheet 20 = .ok (.iload_n 1, 1) := by decide +kernel
theorem dX2_posedAsSheet_21 : decode cX2_posedAsSheet 21 = .ok (.iaload, 1) := by decide +kernel
theorem dX2_posedAsSheet_22 : decode cX2_posedAsSheet 22 = .ok (.aload_n 0, 1) := by decide +kernel
theorem dX2_posedAsSheet_23 : decode cX2_posedAsSheet 23 = .ok (.iload_n 2, 1) := by decide +kernel
theorem dX2_posedAsSheet_24 : decode cX2_posedAsSheet 24 = .ok (.iload_n 1, 1) := by decide +kernel
theorem dX2_posedAsSheet_25 : decode cX2_posedAsSheet 25 = .ok (.invokevirtual 79, 3) := by decide +kernel
theorem dX2_posedAsSheet_28 : decode cX2_posedAsSheet 28 = .ok (.if_icmp .eq 5, 3) := by decide +kernel
theorem dX2_posedAsSheet_31 : decode cX2_posedAsSheet 31 = .ok (.iconst 0, 1) := by decide +kernel
theorem dX2_posedAsSheet_32 : decode cX2_posedAsSheet 32 = .ok (.ireturn, 1) := by decide +kernel
theorem dX2_posedAsSheet_33 : decode cX2_posedAsSheet 33 = .ok (.iinc 2 1, 3) := by decide +kernel
theorem dX2_posedAsSheet_36 : decode cX2_posedAsSheet 36 = .ok (.goto (-34), 3) := by decide +kernel
theorem dX2_posedAsSheet_39 : decode cX2_posedAsSheet 39 = .ok (.iconst 1, 1) := by decide +kernel
theorem dX2_posedAsSheet_40 : decode cX2_posedAsSheet 40 = .ok (.ireturn, 1) := by decide +kernel
theorem dX3_init_0 : decode cX3_init 0 = .ok (.aload_n 0, 1) := by decide +kernel
theorem dX3_init_1 : decode cX3_init 1 = .ok (.invokespecial 3, 3) := by decide +kernel
theorem dX3_init_4 : decode cX3_init 4 = .ok (.aload_n 0, 1) := by decide +kernel
theorem dX3_init_5 : decode cX3_init 5 = .ok (.iload_n 2, 1) := by decide +kernel
theorem dX3_init_6 : decode cX3_init 6 = .ok (.putfield 9, 3) := by decide +kernel
theorem dX3_init_9 : decode cX3_init 9 = .ok (.aload_n 0, 1) := by decide +kernel
theorem dX3_init_10 : decode cX3_init 10 = .ok (.iload_n 1, 1) := by decide +kernel
theorem dX3_init_11 : decode cX3_init 11 = .ok (.newarray .int, 2) := by decide +kernel
theorem dX3_init_13 : decode cX3_init 13 = .ok (.putfield 15, 3) := by decide +kernel
theorem dX3_init_16 : decode cX3_init 16 = .ok (.aload_n 0, 1) := by decide +kernel
theorem dX3_init_17 : decode cX3_init 17 = .ok (.iload_n 1, 1) := by decide +kernel
theorem dX3_init_18 : decode cX3_init 18 = .ok (.newarray .boolean, 2) := by decide +kernel
theorem dX3_init_20 : decode cX3_init 20 = .ok (.putfield 19, 3) := by decide +kernel
theorem dX3_init_23 : decode cX3_init 23 = .ok (.return_, 1) := by decide +kernel
theorem dX3_tell_0 : decode cX3_tell 0 = .ok (.aload_n 0, 1) := by decide +kernel
theorem dX3_tell_1 : decode cX3_tell 1 = .ok (.getfield 15, 3) := by decide +kernel
theorem dX3_tell_4 : decode cX3_tell 4 = .ok (.iload_n 1, 1) := by decide +kernel
theorem dX3_tell_5 : decode cX3_tell 5 = .ok (.iload_n 2, 1) := by decide +kernel
theorem dX3_tell_6 : decode cX3_tell 6 = .ok (.iastore, 1) := by decide +kernel
theorem dX3_tell_7 : decode cX3_tell 7 = .ok (.aload_n 0, 1) := by decide +kernel
theorem dX3_tell_8 : decode cX3_tell 8 = .ok (.getfield 19, 3) := by decide +kernel
theorem dX3_tell_11 : decode cX3_tell 11 = .ok (.iload_n 1, 1) := by decide +kernel
theorem dX3_tell_12 : decode cX3_tell 12 = .ok (.iconst 1, 1) := by decide +kernel
theorem dX3_tell_13 : decode cX3_tell 13 = .ok (.bastore, 1) := by decide +kernel
theorem dX3_tell_14 : decode cX3_tell 14 = .ok (.return_, 1) := by decide +kernel
theorem dX3_valueAt_0 : decode cX3_valueAt 0 = .ok (.aload_n 0, 1) := by decide +kernel
theorem dX3_valueAt_1 : decode cX3_valueAt 1 = .ok (.iload_n 1, 1) := by decide +kernel
theorem dX3_valueAt_2 : decode cX3_valueAt 2 = .ok (.invokevirtual 23, 3) := by decide +kernel
theorem dX3_valueAt_5 : decode cX3_valueAt 5 = .ok (.istore_n 2, 1) := by decide +kernel
theorem dX3_valueAt_6 : decode cX3_valueAt 6 = .ok (.aload_n 0, 1) := by decide +kernel
theorem dX3_valueAt_7 : decode cX3_valueAt 7 = .ok (.iload_n 1, 1) := by decide +kernel
theorem dX3_valueAt_8 : decode cX3_valueAt 8 = .ok (.invokevirtual 27, 3) := by decide +kernel
theorem dX3_valueAt_11 : decode cX3_valueAt 11 = .ok (.istore_n 3, 1) := by decide +kernel
theorem dX3_valueAt_12 : decode cX3_valueAt 12 = .ok (.iload_n 2, 1) := by decide +kernel
theorem dX3_valueAt_13 : decode cX3_valueAt 13 = .ok (.iconst (-1), 1) := by decide +kernel
theorem dX3_valueAt_14 : decode cX3_valueAt 14 = .ok (.if_icmp .ne 19, 3) := by decide +kernel
theorem dX3_valueAt_17 : decode cX3_valueAt 17 = .ok (.iload_n 3, 1) := by decide +kernel
theorem dX3_valueAt_18 : decode cX3_valueAt 18 = .ok (.iconst (-1), 1) := by decide +kernel
theorem dX3_valueAt_19 : decode cX3_valueAt 19 = .ok (.if_icmp .ne 7, 3) := by decide +kernel
theorem dX3_valueAt_22 : decode cX3_valueAt 22 = .ok (.iconst 0, 1) := by decide +kernel
theorem dX3_valueAt_23 : decode cX3_valueAt 23 = .ok (.goto 9, 3) := by decide +kernel
theorem dX3_valueAt_26 : decode cX3_valueAt 26 = .ok (.aload_n 0, 1) := by decide +kernel
theorem dX3_valueAt_27 : decode cX3_valueAt 27 = .ok (.getfield 15, 3) := by decide +kernel
theorem dX3_valueAt_30 : decode cX3_valueAt 30 = .ok (.iload_n 3, 1) := by decide +kernel
theorem dX3_valueAt_31 : decode cX3_valueAt 31 = .ok (.iaload, 1) := by decide +kernel
theorem dX3_valueAt_32 : decode cX3_valueAt 32 = .ok (.ireturn, 1) := by decide +kernel
theorem dX3_valueAt_33 : decode cX3_valueAt 33 = .ok (.iload_n 3, 1) := by decide +kernel
theorem dX3_valueAt_34 : decode cX3_valueAt 34 = .ok (.iload_n 2, 1) := by decide +kernel
theorem dX3_valueAt_35 : decode cX3_valueAt 35 = .ok (.if_icmp .gt 10, 3) := by decide +kernel
theorem dX3_valueAt_38 : decode cX3_valueAt 38 = .ok (.aload_n 0, 1) := by decide +kernel
theorem dX3_valueAt_39 : decode cX3_valueAt 39 = .ok (.getfield 15, 3) := by decide +kernel
theorem dX3_valueAt_42 : decode cX3_valueAt 42 = .ok (.iload_n 2, 1) := by decide +kernel
theorem dX3_valueAt_43 : decode cX3_valueAt 43 = .ok (.iaload, 1) := by decide +kernel
theorem dX3_valueAt_44 : decode cX3_valueAt 44 = .ok (.ireturn, 1) := by decide +kernel
theorem dX3_valueAt_45 : decode cX3_valueAt 45 = .ok (.aload_n 0, 1) := by decide +kernel
theorem dX3_valueAt_46 : decode cX3_valueAt 46 = .ok (.iload_n 2, 1) := by decide +kernel
theorem dX3_valueAt_47 : decode cX3_valueAt 47 = .ok (.iload_n 3, 1) := by decide +kernel
theorem dX3_valueAt_48 : decode cX3_valueAt 48 = .ok (.iload_n 1, 1) := by decide +kernel
theorem dX3_valueAt_49 : decode cX3_valueAt 49 = .ok (.invokevirtual 30, 3) := by decide +kernel
theorem dX3_valueAt_52 : decode cX3_valueAt 52 = .ok (.ireturn, 1) := by decide +kernel
theorem dX3_keyUpTo_0 : decode cX3_keyUpTo 0 = .ok (.iload_n 1, 1) := by decide +kernel
theorem dX3_keyUpTo_1 : decode cX3_keyUpTo 1 = .ok (.istore_n 2, 1) := by decide +kernel
theorem dX3_keyUpTo_2 : decode cX3_keyUpTo 2 = .ok (.iload_n 2, 1) := by decide +kernel
theorem dX3_keyUpTo_3 : decode cX3_keyUpTo 3 = .ok (.ifCond .lt 20, 3) := by decide +kernel
theorem dX3_keyUpTo_6 : decode cX3_keyUpTo 6 = .ok (.aload_n 0, 1) := by decide +kernel
theorem dX3_keyUpTo_7 : decode cX3_keyUpTo 7 = .ok (.getfield 19, 3) := by decide +kernel
theorem dX3_keyUpTo_10 : decode cX3_keyUpTo 10 = .ok (.iload_n 2, 1) := by decide +kernel
theorem dX3_keyUpTo_11 : decode cX3_keyUpTo 11 = .ok (.baload, 1) := by decide +kernel
theorem dX3_keyUpTo_12 : decode cX3_keyUpTo 12 = .ok (.ifCond .eq 5, 3) := by decide +kernel
theorem dX3_keyUpTo_15 : decode cX3_keyUpTo 15 = .ok (.iload_n 2, 1) := by decide +kernel
theorem dX3_keyUpTo_16 : decode cX3_keyUpTo 16 = .ok (.ireturn, 1) := by decide +kernel
theorem dX3_keyUpTo_17 : decode cX3_keyUpTo 17 = .ok (.iinc 2 (-1), 3) := by decide +kernel
theorem dX3_keyUpTo_20 : decode cX3_keyUpTo 20 = .ok (.goto (-18), 3) := by decide +kernel
theorem dX3_keyUpTo_23 : decode cX3_keyUpTo 23 = .ok (.iconst (-1), 1) := by decide +kernel
theorem dX3_keyUpTo_24 : decode cX3_keyUpTo 24 = .ok (.ireturn, 1) := by decide +kernel
theorem dX3_keyFrom_0 : decode cX3_keyFrom 0 = .ok (.iload_n 1, 1) := by decide +kernel
theorem dX3_keyFrom_1 : decode cX3_keyFrom 1 = .ok (.istore_n 2, 1) := by decide +kernel
theorem dX3_keyFrom_2 : decode cX3_keyFrom 2 = .ok (.iload_n 2, 1) := by decide +kernel
theorem dX3_keyFrom_3 : decode cX3_keyFrom 3 = .ok (.aload_n 0, 1) := by decide +kernel
theorem dX3_keyFrom_4 : decode cX3_keyFrom 4 = .ok (.getfield 19, 3) := by decide +kernel
theorem dX3_keyFrom_7 : decode cX3_keyFrom 7 = .ok (.arraylength, 1) := by decide +kernel
theorem dX3_keyFrom_8 : decode cX3_keyFrom 8 = .ok (.if_icmp .ge 20, 3) := by decide +kernel
theorem dX3_keyFrom_11 : decode cX3_keyFrom 11 = .ok (.aload_n 0, 1) := by decide +kernel
theorem dX3_keyFrom_12 : decode cX3_keyFrom 12 = .ok (.getfield 19, 3) := by decide +kernel
theorem dX3_keyFrom_15 : decode cX3_keyFrom 15 = .ok (.iload_n 2, 1) := by decide +kernel
theorem dX3_keyFrom_16 : decode cX3_keyFrom 16 = .ok (.baload, 1) := by decide +kernel
theorem dX3_keyFrom_17 : decode cX3_keyFrom 17 = .ok (.ifCond .eq 5, 3) := by decide +kernel
theorem dX3_keyFrom_20 : decode cX3_keyFrom 20 = .ok (.iload_n 2, 1) := by decide +kernel
theorem dX3_keyFrom_21 : decode cX3_keyFrom 21 = .ok (.ireturn, 1) := by decide +kernel
theorem dX3_keyFrom_22 : decode cX3_keyFrom 22 = .ok (.iinc 2 1, 3) := by decide +kernel
theorem dX3_keyFrom_25 : decode cX3_keyFrom 25 = .ok (.goto (-23), 3) := by decide +kernel
theorem dX3_keyFrom_28 : decode cX3_keyFrom 28 = .ok (.iconst (-1), 1) := by decide +kernel
theorem dX3_keyFrom_29 : decode cX3_keyFrom 29 = .ok (.ireturn, 1) := by decide +kernel
theorem dX3_between_0 : decode cX3_between 0 = .ok (.iload_n 2, 1) := by decide +kernel
theorem dX3_between_1 : decode cX3_between 1 = .ok (.iload_n 1, 1) := by decide +kernel
theorem dX3_between_2 : decode cX3_between 2 = .ok (.isub, 1) := by decide +kernel
theorem dX3_between_3 : decode cX3_between 3 = .ok (.istore 4, 2) := by decide +kernel
theorem dX3_between_5 : decode cX3_between 5 = .ok (.iload 4, 2) := by decide +kernel
theorem dX3_between_7 : decode cX3_between 7 = .ok (.ifCond .gt 10, 3) := by decide +kernel
theorem dX3_between_10 : decode cX3_between 10 = .ok (.aload_n 0, 1) := by decide +kernel
theorem dX3_between_11 : decode cX3_between 11 = .ok (.getfield 15, 3) := by decide +kernel
theorem dX3_between_14 : decode cX3_between 14 = .ok (.iload_n 1, 1) := by decide +kernel
theorem dX3_between_15 : decode cX3_between 15 = .ok (.iaload, 1) := by decide +kernel
theorem dX3_between_16 : decode cX3_between 16 = .ok (.ireturn, 1) := by decide +kernel
theorem dX3_between_17 : decode cX3_between 17 = .ok (.aload_n 0, 1) := by decide +kernel
theorem dX3_between_18 : decode cX3_between 18 = .ok (.getfield 9, 3) := by decide +kernel
theorem dX3_between_21 : decode cX3_between 21 = .ok (.ifCond .eq 21, 3) := by decide +kernel
theorem dX3_between_24 : decode cX3_between 24 = .ok (.aload_n 0, 1) := by decide +kernel
theorem dX3_between_25 : decode cX3_between 25 = .ok (.getfield 15, 3) := by decide +kernel
theorem dX3_between_28 : decode cX3_between 28 = .ok (.iload_n 1, 1) := by decide +kernel
theorem dX3_between_29 : decode cX3_between 29 = .ok (.iaload, 1) := by decide +kernel
theorem dX3_between_30 : decode cX3_between 30 = .ok (.aload_n 0, 1) := by decide +kernel
theorem dX3_between_31 : decode cX3_between 31 = .ok (.getfield 15, 3) := by decide +kernel
theorem dX3_between_34 : decode cX3_between 34 = .ok (.iload_n 2, 1) := by decide +kernel
theorem dX3_between_35 : decode cX3_between 35 = .ok (.iaload, 1) := by decide +kernel
theorem dX3_between_36 : decode cX3_between 36 = .ok (.invokestatic 34, 3) := by decide +kernel
theorem dX3_between_39 : decode cX3_between 39 = .ok (.goto 16, 3) := by decide +kernel
theorem dX3_between_42 : decode cX3_between 42 = .ok (.aload_n 0, 1) := by decide +kernel
theorem dX3_between_43 : decode cX3_between 43 = .ok (.getfield 15, 3) := by decide +kernel
theorem dX3_between_46 : decode cX3_between 46 = .ok (.iload_n 2, 1) := by decide +kernel
theorem dX3_between_47 : decode cX3_between 47 = .ok (.iaload, 1) := by decide +kernel
theorem dX3_between_48 : decode cX3_between 48 = .ok (.aload_n 0, 1) := by decide +kernel
theorem dX3_between_49 : decode cX3_between 49 = .ok (.getfield 15, 3) := by decide +kernel
theorem dX3_between_52 : decode cX3_between 52 = .ok (.iload_n 1, 1) := by decide +kernel
theorem dX3_between_53 : decode cX3_between 53 = .ok (.iaload, 1) := by decide +kernel
theorem dX3_between_54 : decode cX3_between 54 = .ok (.isub, 1) := by decide +kernel
theorem dX3_between_55 : decode cX3_between 55 = .ok (.istore 5, 2) := by decide +kernel
theorem dX3_between_57 : decode cX3_between 57 = .ok (.aload_n 0, 1) := by decide +kernel
theorem dX3_between_58 : decode cX3_between 58 = .ok (.getfield 15, 3) := by decide +kernel
theorem dX3_between_61 : decode cX3_between 61 = .ok (.iload_n 1, 1) := by decide +kernel
theorem dX3_between_62 : decode cX3_between 62 = .ok (.iaload, 1) := by decide +kernel
theorem dX3_between_63 : decode cX3_between 63 = .ok (.iload 5, 2) := by decide +kernel
theorem dX3_between_65 : decode cX3_between 65 = .ok (.iload_n 3, 1) := by decide +kernel
theorem dX3_between_66 : decode cX3_between 66 = .ok (.iload_n 1, 1) := by decide +kernel
theorem dX3_between_67 : decode cX3_between 67 = .ok (.isub, 1) := by decide +kernel
theorem dX3_between_68 : decode cX3_between 68 = .ok (.imul, 1) := by decide +kernel
theorem dX3_between_69 : decode cX3_between 69 = .ok (.iload 4, 2) := by decide +kernel
theorem dX3_between_71 : decode cX3_between 71 = .ok (.idiv, 1) := by decide +kernel
theorem dX3_between_72 : decode cX3_between 72 = .ok (.iadd, 1) := by decide +kernel
theorem dX3_between_73 : decode cX3_between 73 = .ok (.istore 6, 2) := by decide +kernel
theorem dX3_between_75 : decode cX3_between 75 = .ok (.aload_n 0, 1) := by decide +kernel
theorem dX3_between_76 : decode cX3_between 76 = .ok (.getfield 9, 3) := by decide +kernel
theorem dX3_between_79 : decode cX3_between 79 = .ok (.ifCond .eq 14, 3) := by decide +kernel
theorem dX3_between_82 : decode cX3_between 82 = .ok (.iload 6, 2) := by decide +kernel
theorem dX3_between_84 : decode cX3_between 84 = .ok (.sipush 360, 3) := by decide +kernel
theorem dX3_between_87 : decode cX3_between 87 = .ok (.invokestatic 38, 3) := by decide +kernel
theorem dX3_between_90 : decode cX3_between 90 = .ok (.goto 5, 3) := by decide +kernel
theorem dX3_between_93 : decode cX3_between 93 = .ok (.iload 6, 2) := by decide +kernel
theorem dX3_between_95 : decode cX3_between 95 = .ok (.ireturn, 1) := by decide +kernel
theorem dX4_init_0 : decode cX4_init 0 = .ok (.aload_n 0, 1) := by decide +kernel
theorem dX4_init_1 : decode cX4_init 1 = .ok (.invokespecial 3, 3) := by decide +kernel
theorem dX4_init_4 : decode cX4_init 4 = .ok (.aload_n 0, 1) := by decide +kernel
theorem dX4_init_5 : decode cX4_init 5 = .ok (.bipush 12, 2) := by decide +kernel
theorem dX4_init_7 : decode cX4_init 7 = .ok (.newarray .int, 2) := by decide +kernel
theorem dX4_init_9 : decode cX4_init 9 = .ok (.putfield 9, 3) := by decide +kernel
theorem dX4_init_12 : decode cX4_init 12 = .ok (.aload_n 0, 1) := by decide +kernel
theorem dX4_init_13 : decode cX4_init 13 = .ok (.bipush 12, 2) := by decide +kernel
theorem dX4_init_15 : decode cX4_init 15 = .ok (.newarray .int, 2) := by decide +kernel
theorem dX4_init_17 : decode cX4_init 17 = .ok (.putfield 15, 3) := by decide +kernel
theorem dX4_init_20 : decode cX4_init 20 = .ok (.aload_n 0, 1) := by decide +kernel
theorem dX4_init_21 : decode cX4_init 21 = .ok (.iconst 0, 1) := by decide +kernel
theorem dX4_init_22 : decode cX4_init 22 = .ok (.putfield 18, 3) := by decide +kernel
theorem dX4_init_25 : decode cX4_init 25 = .ok (.return_, 1) := by decide +kernel
theorem dX4_add_0 : decode cX4_add 0 = .ok (.aload_n 0, 1) := by decide +kernel
theorem dX4_add_1 : decode cX4_add 1 = .ok (.getfield 9, 3) := by decide +kernel
theorem dX4_add_4 : decode cX4_add 4 = .ok (.aload_n 0, 1) := by decide +kernel
theorem dX4_add_5 : decode cX4_add 5 = .ok (.getfield 18, 3) := by decide +kernel
theorem dX4_add_8 : decode cX4_add 8 = .ok (.iload_n 1, 1) := by decide +kernel
theorem dX4_add_9 : decode cX4_add 9 = .ok (.iastore, 1) := by decide +kernel
theorem dX4_add_10 : decode cX4_add 10 = .ok (.aload_n 0, 1) := by decide +kernel
theorem dX4_add_11 : decode cX4_add 11 = .ok (.getfield 15, 3) := by decide +kernel
theorem dX4_add_14 : decode cX4_add 14 = .ok (.aload_n 0, 1) := by decide +kernel
theorem dX4_add_15 : decode cX4_add 15 = .ok (.getfield 18, 3) := by decide +kernel
theorem dX4_add_18 : decode cX4_add 18 = .ok (.aload_n 0, 1) := by decide +kernel
theorem dX4_add_19 : decode cX4_add 19 = .ok (.getfield 18, 3) := by decide +kernel
theorem dX4_add_22 : decode cX4_add 22 = .ok (.ifCond .ne 7, 3) := by decide +kernel
theorem dX4_add_25 : decode cX4_add 25 = .ok (.iload_n 2, 1) := by decide +kernel
theorem dX4_add_26 : decode cX4_add 26 = .ok (.goto 16, 3) := by decide +kernel
theorem dX4_add_29 : decode cX4_add 29 = .ok (.aload_n 0, 1) := by decide +kernel
theorem dX4_add_30 : decode cX4_add 30 = .ok (.getfield 15, 3) := by decide +kernel
theorem dX4_add_33 : decode cX4_add 33 = .ok (.aload_n 0, 1) := by decide +kernel
theorem dX4_add_34 : decode cX4_add 34 = .ok (.getfield 18, 3) := by decide +kernel
theorem dX4_add_37 : decode cX4_add 37 = .ok (.iconst 1, 1) := by decide +kernel
theorem dX4_add_38 : decode cX4_add 38 = .ok (.isub, 1) := by decide +kernel
theorem dX4_add_39 : decode cX4_add 39 = .ok (.iaload, 1) := by decide +kernel
theorem dX4_add_40 : decode cX4_add 40 = .ok (.iload_n 2, 1) := by decide +kernel
theorem dX4_add_41 : decode cX4_add 41 = .ok (.iadd, 1) := by decide +kernel
theorem dX4_add_42 : decode cX4_add 42 = .ok (.iastore, 1) := by decide +kernel
theorem dX4_add_43 : decode cX4_add 43 = .ok (.aload_n 0, 1) := by decide +kernel
theorem dX4_add_44 : decode cX4_add 44 = .ok (.dup, 1) := by decide +kernel
theorem dX4_add_45 : decode cX4_add 45 = .ok (.getfield 18, 3) := by decide +kernel
theorem dX4_add_48 : decode cX4_add 48 = .ok (.iconst 1, 1) := by decide +kernel
theorem dX4_add_49 : decode cX4_add 49 = .ok (.iadd, 1) := by decide +kernel
theorem dX4_add_50 : decode cX4_add 50 = .ok (.putfield 18, 3) := by decide +kernel
theorem dX4_add_53 : decode cX4_add 53 = .ok (.return_, 1) := by decide +kernel
theorem dX4_soundAt_0 : decode cX4_soundAt 0 = .ok (.iconst 0, 1) := by decide +kernel
theorem dX4_soundAt_1 : decode cX4_soundAt 1 = .ok (.istore_n 2, 1) := by decide +kernel
theorem dX4_soundAt_2 : decode cX4_soundAt 2 = .ok (.iload_n 2, 1) := by decide +kernel
theorem dX4_soundAt_3 : decode cX4_soundAt 3 = .ok (.aload_n 0, 1) := by decide +kernel
theorem dX4_soundAt_4 : decode cX4_soundAt 4 = .ok (.getfield 18, 3) := by decide +kernel
theorem dX4_soundAt_7 : decode cX4_soundAt 7 = .ok (.if_icmp .ge 26, 3) := by decide +kernel
theorem dX4_soundAt_10 : decode cX4_soundAt 10 = .ok (.iload_n 1, 1) := by decide +kernel
theorem dX4_soundAt_11 : decode cX4_soundAt 11 = .ok (.aload_n 0, 1) := by decide +kernel
theorem dX4_soundAt_12 : decode cX4_soundAt 12 = .ok (.getfield 15, 3) := by decide +kernel
theorem dX4_soundAt_15 : decode cX4_soundAt 15 = .ok (.iload_n 2, 1) := by decide +kernel
theorem dX4_soundAt_16 : decode cX4_soundAt 16 = .ok (.iaload, 1) := by decide +kernel
theorem dX4_soundAt_17 : decode cX4_soundAt 17 = .ok (.if_icmp .ge 10, 3) := by decide +kernel
theorem dX4_soundAt_20 : decode cX4_soundAt 20 = .ok (.aload_n 0, 1) := by decide +kernel
theorem dX4_soundAt_21 : decode cX4_soundAt 21 = .ok (.getfield 9, 3) := by decide +kernel
theorem dX4_soundAt_24 : decode cX4_soundAt 24 = .ok (.iload_n 2, 1) := by decide +kernel
theorem dX4_soundAt_25 : decode cX4_soundAt 25 = .ok (.iaload, 1) := by decide +kernel
theorem dX4_soundAt_26 : decode cX4_soundAt 26 = .ok (.ireturn, 1) := by decide +kernel
theorem dX4_soundAt_27 : decode cX4_soundAt 27 = .ok (.iinc 2 1, 3) := by decide +kernel
theorem dX4_soundAt_30 : decode cX4_soundAt 30 = .ok (.goto (-28), 3) := by decide +kernel
theorem dX4_soundAt_33 : decode cX4_soundAt 33 = .ok (.iconst (-1), 1) := by decide +kernel
theorem dX4_soundAt_34 : decode cX4_soundAt 34 = .ok (.ireturn, 1) := by decide +kernel
theorem dX5_init_0 : decode cX5_init 0 = .ok (.aload_n 0, 1) := by decide +kernel
theorem dX5_init_1 : decode cX5_init 1 = .ok (.invokespecial 1, 3) := by decide +kernel
theorem dX5_init_4 : decode cX5_init 4 = .ok (.aload_n 0, 1) := by decide +kernel
theorem dX5_init_5 : decode cX5_init 5 = .ok (.iconst 5, 1) := by decide +kernel
theorem dX5_init_6 : decode cX5_init 6 = .ok (.anewarray 9, 3) := by decide +kernel
theorem dX5_init_9 : decode cX5_init 9 = .ok (.putfield 11, 3) := by decide +kernel
theorem dX5_init_12 : decode cX5_init 12 = .ok (.aload_n 0, 1) := by decide +kernel
theorem dX5_init_13 : decode cX5_init 13 = .ok (.iconst 0, 1) := by decide +kernel
theorem dX5_init_14 : decode cX5_init 14 = .ok (.putfield 15, 3) := by decide +kernel
theorem dX5_init_17 : decode cX5_init 17 = .ok (.aload_n 0, 1) := by decide +kernel
theorem dX5_init_18 : decode cX5_init 18 = .ok (.bipush 6, 2) := by decide +kernel
theorem dX5_init_20 : decode cX5_init 20 = .ok (.anewarray 19, 3) := by decide +kernel
theorem dX5_init_23 : decode cX5_init 23 = .ok (.putfield 21, 3) := by decide +kernel
theorem dX5_init_26 : decode cX5_init 26 = .ok (.aload_n 0, 1) := by decide +kernel
theorem dX5_init_27 : decode cX5_init 27 = .ok (.iconst 0, 1) := by decide +kernel
theorem dX5_init_28 : decode cX5_init 28 = .ok (.putfield 25, 3) := by decide +kernel
theorem dX5_init_31 : decode cX5_init 31 = .ok (.aload_n 0, 1) := by decide +kernel
theorem dX5_init_32 : decode cX5_init 32 = .ok (.new 19, 3) := by decide +kernel
theorem dX5_init_35 : decode cX5_init 35 = .ok (.dup, 1) := by decide +kernel
theorem dX5_init_36 : decode cX5_init 36 = .ok (.invokespecial 28, 3) := by decide +kernel
theorem dX5_init_39 : decode cX5_init 39 = .ok (.putfield 29, 3) := by decide +kernel
theorem dX5_init_42 : decode cX5_init 42 = .ok (.aload_n 0, 1) := by decide +kernel
theorem dX5_init_43 : decode cX5_init 43 = .ok (.bipush 8, 2) := by decide +kernel
theorem dX5_init_45 : decode cX5_init 45 = .ok (.anewarray 33, 3) := by decide +kernel
theorem dX5_init_48 : decode cX5_init 48 = .ok (.putfield 35, 3) := by decide +kernel
theorem dX5_init_51 : decode cX5_init 51 = .ok (.aload_n 0, 1) := by decide +kernel
theorem dX5_init_52 : decode cX5_init 52 = .ok (.iconst 0, 1) := by decide +kernel
theorem dX5_init_53 : decode cX5_init 53 = .ok (.putfield 39, 3) := by decide +kernel
theorem dX5_init_56 : decode cX5_init 56 = .ok (.aload_n 0, 1) := by decide +kernel
theorem dX5_init_57 : decode cX5_init 57 = .ok (.iconst 5, 1) := by decide +kernel
theorem dX5_init_58 : decode cX5_init 58 = .ok (.newarray .boolean, 2) := by decide +kernel
theorem dX5_init_60 : decode cX5_init 60 = .ok (.putfield 42, 3) := by decide +kernel
theorem dX5_init_63 : decode cX5_init 63 = .ok (.aload_n 0, 1) := by decide +kernel
theorem dX5_init_64 : decode cX5_init 64 = .ok (.bipush 8, 2) := by decide +kernel
theorem dX5_init_66 : decode cX5_init 66 = .ok (.newarray .int, 2) := by decide +kernel
theorem dX5_init_68 : decode cX5_init 68 = .ok (.putfield 46, 3) := by decide +kernel
theorem dX5_init_71 : decode cX5_init 71 = .ok (.aload_n 0, 1) := by decide +kernel
theorem dX5_init_72 : decode cX5_init 72 = .ok (.iconst 0, 1) := by decide +kernel
theorem dX5_init_73 : decode cX5_init 73 = .ok (.putfield 50, 3) := by decide +kernel
theorem dX5_init_76 : decode cX5_init 76 = .ok (.aload_n 0, 1) := by decide +kernel
theorem dX5_init_77 : decode cX5_init 77 = .ok (.iconst 0, 1) := by decide +kernel
theorem dX5_init_78 : decode cX5_init 78 = .ok (.putfield 53, 3) := by decide +kernel
theorem dX5_init_81 : decode cX5_init 81 = .ok (.aload_n 0, 1) := by decide +kernel
theorem dX5_init_82 : decode cX5_init 82 = .ok (.iconst 0, 1) := by decide +kernel
theorem dX5_init_83 : decode cX5_init 83 = .ok (.putfield 56, 3) := by decide +kernel
theorem dX5_init_86 : decode cX5_init 86 = .ok (.return_, 1) := by decide +kernel
theorem dX5_puppet_0 : decode cX5_puppet 0 = .ok (.iload_n 1, 1) := by decide +kernel
theorem dX5_puppet_1 : decode cX5_puppet 1 = .ok (.iconst 1, 1) := by decide +kernel
theorem dX5_puppet_2 : decode cX5_puppet 2 = .ok (.bipush 6, 2) := by decide +kernel
theorem dX5_puppet_4 : decode cX5_puppet 4 = .ok (.invokestatic 59, 3) := by decide +kernel
theorem dX5_puppet_7 : decode cX5_puppet 7 = .ok (.aload_n 0, 1) := by decide +kernel
theorem dX5_puppet_8 : decode cX5_puppet 8 = .ok (.getfield 15, 3) := by decide +kernel
theorem dX5_puppet_11 : decode cX5_puppet 11 = .ok (.iconst 5, 1) := by decide +kernel
theorem dX5_puppet_12 : decode cX5_puppet 12 = .ok (.if_icmp .lt 13, 3) := by decide +kernel
theorem dX5_puppet_15 : decode cX5_puppet 15 = .ok (.new 63, 3) := by decide +kernel
theorem dX5_puppet_18 : decode cX5_puppet 18 = .ok (.dup, 1) := by decide +kernel
theorem dX5_puppet_19 : decode cX5_puppet 19 = .ok (.ldc 65, 2) := by decide +kernel
theorem dX5_puppet_21 : decode cX5_puppet 21 = .ok (.invokespecial 67, 3) := by decide +kernel
theorem dX5_puppet_24 : decode cX5_puppet 24 = .ok (.athrow, 1) := by decide +kernel
theorem dX5_puppet_25 : decode cX5_puppet 25 = .ok (.aload_n 0, 1) := by decide +kernel
theorem dX5_puppet_26 : decode cX5_puppet 26 = .ok (.getfield 11, 3) := by decide +kernel
theorem dX5_puppet_29 : decode cX5_puppet 29 = .ok (.aload_n 0, 1) := by decide +kernel
theorem dX5_puppet_30 : decode cX5_puppet 30 = .ok (.getfield 15, 3) := by decide +kernel
theorem dX5_puppet_33 : decode cX5_puppet 33 = .ok (.new 9, 3) := by decide +kernel
theorem dX5_puppet_36 : decode cX5_puppet 36 = .ok (.dup, 1) := by decide +kernel
theorem dX5_puppet_37 : decode cX5_puppet 37 = .ok (.iload_n 1, 1) := by decide +kernel
theorem dX5_puppet_38 : decode cX5_puppet 38 = .ok (.invokespecial 70, 3) := by decide +kernel
theorem dX5_puppet_41 : decode cX5_puppet 41 = .ok (.aastore, 1) := by decide +kernel
theorem dX5_puppet_42 : decode cX5_puppet 42 = .ok (.aload_n 0, 1) := by decide +kernel
theorem dX5_puppet_43 : decode cX5_puppet 43 = .ok (.dup, 1) := by decide +kernel
theorem dX5_puppet_44 : decode cX5_puppet 44 = .ok (.getfield 15, 3) := by decide +kernel
theorem dX5_puppet_47 : decode cX5_puppet 47 = .ok (.dup_x1, 1) := by decide +kernel
theorem dX5_puppet_48 : decode cX5_puppet 48 = .ok (.iconst 1, 1) := by decide +kernel
theorem dX5_puppet_49 : decode cX5_puppet 49 = .ok (.iadd, 1) := by decide +kernel
theorem dX5_puppet_50 : decode cX5_puppet 50 = .ok (.putfield 15, 3) := by decide +kernel
theorem dX5_puppet_53 : decode cX5_puppet 53 = .ok (.ireturn, 1) := by decide +kernel
theorem dX5_mouths_0 : decode cX5_mouths 0 = .ok (.aload_n 0, 1) := by decide +kernel
theorem dX5_mouths_1 : decode cX5_mouths 1 = .ok (.iload_n 1, 1) := by decide +kernel
theorem dX5_mouths_2 : decode cX5_mouths 2 = .ok (.invokevirtual 73, 3) := by decide +kernel
theorem dX5_mouths_5 : decode cX5_mouths 5 = .ok (.astore 4, 2) := by decide +kernel
theorem dX5_mouths_7 : decode cX5_mouths 7 = .ok (.iload_n 2, 1) := by decide +kernel
theorem dX5_mouths_8 : decode cX5_mouths 8 = .ok (.invokestatic 77, 3) := by decide +kernel
theorem dX5_mouths_11 : decode cX5_mouths 11 = .ok (.iload_n 3, 1) := by decide +kernel
theorem dX5_mouths_12 : decode cX5_mouths 12 = .ok (.iconst 1, 1) := by decide +kernel
theorem dX5_mouths_13 : decode cX5_mouths 13 = .ok (.bipush 9, 2) := by decide +kernel
theorem dX5_mouths_15 : decode cX5_mouths 15 = .ok (.invokestatic 59, 3) := by decide +kernel
theorem dX5_mouths_18 : decode cX5_mouths 18 = .ok (.aload 4, 2) := by decide +kernel
theorem dX5_mouths_20 : decode cX5_mouths 20 = .ok (.getfield 80, 3) := by decide +kernel
theorem dX5_mouths_23 : decode cX5_mouths 23 = .ok (.iload_n 2, 1) := by decide +kernel
theorem dX5_mouths_24 : decode cX5_mouths 24 = .ok (.iaload, 1) := by decide +kernel
theorem dX5_mouths_25 : decode cX5_mouths 25 = .ok (.iload_n 3, 1) := by decide +kernel
theorem dX5_mouths_26 : decode cX5_mouths 26 = .ok (.iadd, 1) := by decide +kernel
theorem dX5_mouths_27 : decode cX5_mouths 27 = .ok (.bipush 9, 2) := by decide +kernel
theorem dX5_mouths_29 : decode cX5_mouths 29 = .ok (.if_icmp .le 13, 3) := by decide +kernel
theorem dX5_mouths_32 : decode cX5_mouths 32 = .ok (.new 63, 3) := by decide +kernel
theorem dX5_mouths_35 : decode cX5_mouths 35 = .ok (.dup, 1) := by decide +kernel
theorem dX5_mouths_36 : decode cX5_mouths 36 = .ok (.ldc 83, 2) := by decide +kernel
theorem dX5_mouths_38 : decode cX5_mouths 38 = .ok (.invokespecial 67, 3) := by decide +kernel
theorem dX5_mouths_41 : decode cX5_mouths 41 = .ok (.athrow, 1) := by decide +kernel
theorem dX5_mouths_42 : decode cX5_mouths 42 = .ok (.aload 4, 2) := by decide +kernel
theorem dX5_mouths_44 : decode cX5_mouths 44 = .ok (.getfield 80, 3) := by decide +kernel
theorem dX5_mouths_47 : decode cX5_mouths 47 = .ok (.iload_n 2, 1) := by decide +kernel
theorem dX5_mouths_48 : decode cX5_mouths 48 = .ok (.dup2, 1) := by decide +kernel
theorem dX5_mouths_49 : decode cX5_mouths 49 = .ok (.iaload, 1) := by decide +kernel
theorem dX5_mouths_50 : decode cX5_mouths 50 = .ok (.iload_n 3, 1) := by decide +kernel
theorem dX5_mouths_51 : decode cX5_mouths 51 = .ok (.iadd, 1) := by decide +kernel
theorem dX5_mouths_52 : decode cX5_mouths 52 = .ok (.iastore, 1) := by decide +kernel
theorem dX5_mouths_53 : decode cX5_mouths 53 = .ok (.aload 4, 2) := by decide +kernel
theorem dX5_mouths_55 : decode cX5_mouths 55 = .ok (.getfield 80, 3) := by decide +kernel
theorem dX5_mouths_58 : decode cX5_mouths 58 = .ok (.iload_n 2, 1) := by decide +kernel
theorem dX5_mouths_59 : decode cX5_mouths 59 = .ok (.iaload, 1) := by decide +kernel
theorem dX5_mouths_60 : decode cX5_mouths 60 = .ok (.ireturn, 1) := by decide +kernel
theorem dX5_sound_0 : decode cX5_sound 0 = .ok (.iload_n 1, 1) := by decide +kernel
theorem dX5_sound_1 : decode cX5_sound 1 = .ok (.invokestatic 77, 3) := by decide +kernel
theorem dX5_sound_4 : decode cX5_sound 4 = .ok (.iload_n 2, 1) := by decide +kernel
theorem dX5_sound_5 : decode cX5_sound 5 = .ok (.iconst 1, 1) := by decide +kernel
theorem dX5_sound_6 : decode cX5_sound 6 = .ok (.bipush 24, 2) := by decide +kernel
theorem dX5_sound_8 : decode cX5_sound 8 = .ok (.invokestatic 59, 3) := by decide +kernel
theorem dX5_sound_11 : decode cX5_sound 11 = .ok (.aload_n 0, 1) := by decide +kernel
theorem dX5_sound_12 : decode cX5_sound 12 = .ok (.getfield 29, 3) := by decide +kernel
theorem dX5_sound_15 : decode cX5_sound 15 = .ok (.getfield 85, 3) := by decide +kernel
theorem dX5_sound_18 : decode cX5_sound 18 = .ok (.bipush 12, 2) := by decide +kernel
theorem dX5_sound_20 : decode cX5_sound 20 = .ok (.if_icmp .lt 13, 3) := by decide +kernel
theorem dX5_sound_23 : decode cX5_sound 23 = .ok (.new 63, 3) := by decide +kernel
theorem dX5_sound_26 : decode cX5_sound 26 = .ok (.dup, 1) := by decide +kernel
theorem dX5_sound_27 : decode cX5_sound 27 = .ok (.ldc 88, 2) := by decide +kernel
theorem dX5_sound_29 : decode cX5_sound 29 = .ok (.invokespecial 67, 3) := by decide +kernel
theorem dX5_sound_32 : decode cX5_sound 32 = .ok (.athrow, 1) := by decide +kernel
theorem dX5_sound_33 : decode cX5_sound 33 = .ok (.aload_n 0, 1) := by decide +kernel
theorem dX5_sound_34 : decode cX5_sound 34 = .ok (.getfield 29, 3) := by decide +kernel
theorem dX5_sound_37 : decode cX5_sound 37 = .ok (.iload_n 1, 1) := by decide +kernel
theorem dX5_sound_38 : decode cX5_sound 38 = .ok (.iload_n 2, 1) := by decide +kernel
theorem dX5_sound_39 : decode cX5_sound 39 = .ok (.invokevirtual 90, 3) := by decide +kernel
theorem dX5_sound_42 : decode cX5_sound 42 = .ok (.aload_n 0, 1) := by decide +kernel
theorem dX5_sound_43 : decode cX5_sound 43 = .ok (.getfield 29, 3) := by decide +kernel
theorem dX5_sound_46 : decode cX5_sound 46 = .ok (.getfield 85, 3) := by decide +kernel
theorem dX5_sound_49 : decode cX5_sound 49 = .ok (.ireturn, 1) := by decide +kernel
theorem dX5_voice_0 : decode cX5_voice 0 = .ok (.aload_n 0, 1) := by decide +kernel
theorem dX5_voice_1 : decode cX5_voice 1 = .ok (.getfield 29, 3) := by decide +kernel
theorem dX5_voice_4 : decode cX5_voice 4 = .ok (.getfield 85, 3) := by decide +kernel
theorem dX5_voice_7 : decode cX5_voice 7 = .ok (.ifCond .ne 13, 3) := by decide +kernel
theorem dX5_voice_10 : decode cX5_voice 10 = .ok (.new 63, 3) := by decide +kernel
theorem dX5_voice_13 : decode cX5_voice 13 = .ok (.dup, 1) := by decide +kernel
theorem dX5_voice_14 : decode cX5_voice 14 = .ok (.ldc 94, 2) := by decide +kernel
theorem dX5_voice_16 : decode cX5_voice 16 = .ok (.invokespecial 67, 3) := by decide +kernel
theorem dX5_voice_19 : decode cX5_voice 19 = .ok (.athrow, 1) := by decide +kernel
theorem dX5_voice_20 : decode cX5_voice 20 = .ok (.aload_n 0, 1) := by decide +kernel
theorem dX5_voice_21 : decode cX5_voice 21 = .ok (.getfield 25, 3) := by decide +kernel
theorem dX5_voice_24 : decode cX5_voice 24 = .ok (.bipush 6, 2) := by decide +kernel
theorem dX5_voice_26 : decode cX5_voice 26 = .ok (.if_icmp .lt 13, 3) := by decide +kernel
theorem dX5_voice_29 : decode cX5_voice 29 = .ok (.new 63, 3) := by decide +kernel
theorem dX5_voice_32 : decode cX5_voice 32 = .ok (.dup, 1) := by decide +kernel
theorem dX5_voice_33 : decode cX5_voice 33 = .ok (.ldc 96, 2) := by decide +kernel
theorem dX5_voice_35 : decode cX5_voice 35 = .ok (.invokespecial 67, 3) := by decide +kernel
theorem dX5_voice_38 : decode cX5_voice 38 = .ok (.athrow, 1) := by decide +kernel
theorem dX5_voice_39 : decode cX5_voice 39 = .ok (.aload_n 0, 1) := by decide +kernel
theorem dX5_voice_40 : decode cX5_voice 40 = .ok (.getfield 21, 3) := by decide +kernel
theorem dX5_voice_43 : decode cX5_voice 43 = .ok (.aload_n 0, 1) := by decide +kernel
theorem dX5_voice_44 : decode cX5_voice 44 = .ok (.getfield 25, 3) := by decide +kernel
theorem dX5_voice_47 : decode cX5_voice 47 = .ok (.aload_n 0, 1) := by decide +kernel
theorem dX5_voice_48 : decode cX5_voice 48 = .ok (.getfield 29, 3) := by decide +kernel
theorem dX5_voice_51 : decode cX5_voice 51 = .ok (.aastore, 1) := by decide +kernel
theorem dX5_voice_52 : decode cX5_voice 52 = .ok (.aload_n 0, 1) := by decide +kernel
theorem dX5_voice_53 : decode cX5_voice 53 = .ok (.new 19, 3) := by decide +kernel
theorem dX5_voice_56 : decode cX5_voice 56 = .ok (.dup, 1) := by decide +kernel
theorem dX5_voice_57 : decode cX5_voice 57 = .ok (.invokespecial 28, 3) := by decide +kernel
theorem dX5_voice_60 : decode cX5_voice 60 = .ok (.putfield 29, 3) := by decide +kernel
theorem dX5_voice_63 : decode cX5_voice 63 = .ok (.aload_n 0, 1) := by decide +kernel
theorem dX5_voice_64 : decode cX5_voice 64 = .ok (.dup, 1) := by decide +kernel
theorem dX5_voice_65 : decode cX5_voice 65 = .ok (.getfield 25, 3) := by decide +kernel
theorem dX5_voice_68 : decode cX5_voice 68 = .ok (.dup_x1, 1) := by decide +kernel
theorem dX5_voice_69 : decode cX5_voice 69 = .ok (.iconst 1, 1) := by decide +kernel
theorem dX5_voice_70 : decode cX5_voice 70 = .ok (.iadd, 1) := by decide +kernel
theorem dX5_voice_71 : decode cX5_voice 71 = .ok (.putfield 25, 3) := by decide +kernel
theorem dX5_voice_74 : decode cX5_voice 74 = .ok (.ireturn, 1) := by decide +kernel
theorem dX5_shot_0 : decode cX5_shot 0 = .ok (.aload_n 0, 1) := by decide +kernel
theorem dX5_shot_1 : decode cX5_shot 1 = .ok (.iload_n 1, 1) := by decide +kernel
theorem dX5_shot_2 : decode cX5_shot 2 = .ok (.invokevirtual 73, 3) := by decide +kernel
theorem dX5_shot_5 : decode cX5_shot 5 = .ok (.astore 5, 2) := by decide +kernel
theorem dX5_shot_7 : decode cX5_shot 7 = .ok (.aload_n 0, 1) := by decide +kernel
theorem dX5_shot_8 : decode cX5_shot 8 = .ok (.iload 4, 2) := by decide +kernel
theorem dX5_shot_10 : decode cX5_shot 10 = .ok (.invokevirtual 98, 3) := by decide +kernel
theorem dX5_shot_13 : decode cX5_shot 13 = .ok (.iload_n 2, 1) := by decide +kernel
theorem dX5_shot_14 : decode cX5_shot 14 = .ok (.iconst 1, 1) := by decide +kernel
theorem dX5_shot_15 : decode cX5_shot 15 = .ok (.bipush 48, 2) := by decide +kernel
theorem dX5_shot_17 : decode cX5_shot 17 = .ok (.invokestatic 59, 3) := by decide +kernel
theorem dX5_shot_20 : decode cX5_shot 20 = .ok (.iload_n 3, 1) := by decide +kernel
theorem dX5_shot_21 : decode cX5_shot 21 = .ok (.iconst 1, 1) := by decide +kernel
theorem dX5_shot_22 : decode cX5_shot 22 = .ok (.iconst 2, 1) := by decide +kernel
theorem dX5_shot_23 : decode cX5_shot 23 = .ok (.invokestatic 59, 3) := by decide +kernel
theorem dX5_shot_26 : decode cX5_shot 26 = .ok (.aload_n 0, 1) := by decide +kernel
theorem dX5_shot_27 : decode cX5_shot 27 = .ok (.getfield 39, 3) := by decide +kernel
theorem dX5_shot_30 : decode cX5_shot 30 = .ok (.bipush 8, 2) := by decide +kernel
theorem dX5_shot_32 : decode cX5_shot 32 = .ok (.if_icmp .lt 13, 3) := by decide +kernel
theorem dX5_shot_35 : decode cX5_shot 35 = .ok (.new 63, 3) := by decide +kernel
theorem dX5_shot_38 : decode cX5_shot 38 = .ok (.dup, 1) := by decide +kernel
theorem dX5_shot_39 : decode cX5_shot 39 = .ok (.ldc 101, 2) := by decide +kernel
theorem dX5_shot_41 : decode cX5_shot 41 = .ok (.invokespecial 67, 3) := by decide +kernel
theorem dX5_shot_44 : decode cX5_shot 44 = .ok (.athrow, 1) := by decide +kernel
theorem dX5_shot_45 : decode cX5_shot 45 = .ok (.aload_n 0, 1) := by decide +kernel
theorem dX5_shot_46 : decode cX5_shot 46 = .ok (.getfield 35, 3) := by decide +kernel
theorem dX5_shot_49 : decode cX5_shot 49 = .ok (.aload_n 0, 1) := by decide +kernel
theorem dX5_shot_50 : decode cX5_shot 50 = .ok (.getfield 39, 3) := by decide +kernel
theorem dX5_shot_53 : decode cX5_shot 53 = .ok (.new 33, 3) := by decide +kernel
theorem dX5_shot_56 : decode cX5_shot 56 = .ok (.dup, 1) := by decide +kernel
theorem dX5_shot_57 : decode cX5_shot 57 = .ok (.aload 5, 2) := by decide +kernel
theorem dX5_shot_59 : decode cX5_shot 59 = .ok (.iload_n 2, 1) := by decide +kernel
theorem dX5_shot_60 : decode cX5_shot 60 = .ok (.iload_n 3, 1) := by decide +kernel
theorem dX5_shot_61 : decode cX5_shot 61 = .ok (.iload 4, 2) := by decide +kernel
theorem dX5_shot_63 : decode cX5_shot 63 = .ok (.invokespecial 103, 3) := by decide +kernel
theorem dX5_shot_66 : decode cX5_shot 66 = .ok (.aastore, 1) := by decide +kernel
theorem dX5_shot_67 : decode cX5_shot 67 = .ok (.aload_n 0, 1) := by decide +kernel
theorem dX5_shot_68 : decode cX5_shot 68 = .ok (.dup, 1) := by decide +kernel
theorem dX5_shot_69 : decode cX5_shot 69 = .ok (.getfield 39, 3) := by decide +kernel
theorem dX5_shot_72 : decode cX5_shot 72 = .ok (.dup_x1, 1) := by decide +kernel
theorem dX5_shot_73 : decode cX5_shot 73 = .ok (.iconst 1, 1) := by decide +kernel
theorem dX5_shot_74 : decode cX5_shot 74 = .ok (.iadd, 1) := by decide +kernel
theorem dX5_shot_75 : decode cX5_shot 75 = .ok (.putfield 39, 3) := by decide +kernel
theorem dX5_shot_78 : decode cX5_shot 78 = .ok (.ireturn, 1) := by decide +kernel
theorem dX5_assign_0 : decode cX5_assign 0 = .ok (.aload_n 0, 1) := by decide +kernel
theorem dX5_assign_1 : decode cX5_assign 1 = .ok (.iload_n 1, 1) := by decide +kernel
theorem dX5_assign_2 : decode cX5_assign 2 = .ok (.invokevirtual 106, 3) := by decide +kernel
theorem dX5_assign_5 : decode cX5_assign 5 = .ok (.astore_n 3, 1) := by decide +kernel
theorem dX5_assign_6 : decode cX5_assign 6 = .ok (.iload_n 2, 1) := by decide +kernel
theorem dX5_assign_7 : decode cX5_assign 7 = .ok (.invokestatic 110, 3) := by decide +kernel
theorem dX5_assign_10 : decode cX5_assign 10 = .ok (.aload_n 3, 1) := by decide +kernel
theorem dX5_assign_11 : decode cX5_assign 11 = .ok (.invokevirtual 113, 3) := by decide +kernel
theorem dX5_assign_14 : decode cX5_assign 14 = .ok (.ifCond .eq 13, 3) := by decide +kernel
theorem dX5_assign_17 : decode cX5_assign 17 = .ok (.new 63, 3) := by decide +kernel
theorem dX5_assign_20 : decode cX5_assign 20 = .ok (.dup, 1) := by decide +kernel
theorem dX5_assign_21 : decode cX5_assign 21 = .ok (.ldc 117, 2) := by decide +kernel
theorem dX5_assign_23 : decode cX5_assign 23 = .ok (.invokespecial 67, 3) := by decide +kernel
theorem dX5_assign_26 : decode cX5_assign 26 = .ok (.athrow, 1) := by decide +kernel
theorem dX5_assign_27 : decode cX5_assign 27 = .ok (.aload_n 3, 1) := by decide +kernel
theorem dX5_assign_28 : decode cX5_assign 28 = .ok (.invokevirtual 119, 3) := by decide +kernel
theorem dX5_assign_31 : decode cX5_assign 31 = .ok (.ifCond .eq 24, 3) := by decide +kernel
theorem dX5_assign_34 : decode cX5_assign 34 = .ok (.aload_n 0, 1) := by decide +kernel
theorem dX5_assign_35 : decode cX5_assign 35 = .ok (.aload_n 3, 1) := by decide +kernel
theorem dX5_assign_36 : decode cX5_assign 36 = .ok (.getfield 122, 3) := by decide +kernel
theorem dX5_assign_39 : decode cX5_assign 39 = .ok (.invokevirtual 125, 3) := by decide +kernel
theorem dX5_assign_42 : decode cX5_assign 42 = .ok (.ifCond .ne 13, 3) := by decide +kernel
theorem dX5_assign_45 : decode cX5_assign 45 = .ok (.new 63, 3) := by decide +kernel
theorem dX5_assign_48 : decode cX5_assign 48 = .ok (.dup, 1) := by decide +kernel
theorem dX5_assign_49 : decode cX5_assign 49 = .ok (.ldc 129, 2) := by decide +kernel
theorem dX5_assign_51 : decode cX5_assign 51 = .ok (.invokespecial 67, 3) := by decide +kernel
theorem dX5_assign_54 : decode cX5_assign 54 = .ok (.athrow, 1) := by decide +kernel
theorem dX5_assign_55 : decode cX5_assign 55 = .ok (.aload_n 3, 1) := by decide +kernel
theorem dX5_assign_56 : decode cX5_assign 56 = .ok (.getfield 122, 3) := by decide +kernel
theorem dX5_assign_59 : decode cX5_assign 59 = .ok (.istore 4, 2) := by decide +kernel
theorem dX5_assign_61 : decode cX5_assign 61 = .ok (.aload_n 3, 1) := by decide +kernel
theorem dX5_assign_62 : decode cX5_assign 62 = .ok (.iload_n 2, 1) := by decide +kernel
theorem dX5_assign_63 : decode cX5_assign 63 = .ok (.putfield 122, 3) := by decide +kernel
theorem dX5_assign_66 : decode cX5_assign 66 = .ok (.iload 4, 2) := by decide +kernel
theorem dX5_assign_68 : decode cX5_assign 68 = .ok (.ireturn, 1) := by decide +kernel
theorem dX5_ill_0 : decode cX5_ill 0 = .ok (.iload_n 1, 1) := by decide +kernel
theorem dX5_ill_1 : decode cX5_ill 1 = .ok (.invokestatic 110, 3) := by decide +kernel
theorem dX5_ill_4 : decode cX5_ill 4 = .ok (.aload_n 0, 1) := by decide +kernel
theorem dX5_ill_5 : decode cX5_ill 5 = .ok (.getfield 42, 3) := by decide +kernel
theorem dX5_ill_8 : decode cX5_ill 8 = .ok (.iload_n 1, 1) := by decide +kernel
theorem dX5_ill_9 : decode cX5_ill 9 = .ok (.baload, 1) := by decide +kernel
theorem dX5_ill_10 : decode cX5_ill 10 = .ok (.istore_n 3, 1) := by decide +kernel
theorem dX5_ill_11 : decode cX5_ill 11 = .ok (.aload_n 0, 1) := by decide +kernel
theorem dX5_ill_12 : decode cX5_ill 12 = .ok (.getfield 42, 3) := by decide +kernel
theorem dX5_ill_15 : decode cX5_ill 15 = .ok (.iload_n 1, 1) := by decide +kernel
theorem dX5_ill_16 : decode cX5_ill 16 = .ok (.iload_n 2, 1) := by decide +kernel
theorem dX5_ill_17 : decode cX5_ill 17 = .ok (.bastore, 1) := by decide +kernel
theorem dX5_ill_18 : decode cX5_ill 18 = .ok (.iload_n 3, 1) := by decide +kernel
theorem dX5_ill_19 : decode cX5_ill 19 = .ok (.ireturn, 1) := by decide +kernel
theorem dX5_dub_0 : decode cX5_dub 0 = .ok (.aload_n 0, 1) := by decide +kernel
theorem dX5_dub_1 : decode cX5_dub 1 = .ok (.iload_n 1, 1) := by decide +kernel
theorem dX5_dub_2 : decode cX5_dub 2 = .ok (.invokevirtual 106, 3) := by decide +kernel
theorem dX5_dub_5 : decode cX5_dub 5 = .ok (.astore_n 3, 1) := by decide +kernel
theorem dX5_dub_6 : decode cX5_dub 6 = .ok (.aload_n 0, 1) := by decide +kernel
theorem dX5_dub_7 : decode cX5_dub 7 = .ok (.iload_n 2, 1) := by decide +kernel
theorem dX5_dub_8 : decode cX5_dub 8 = .ok (.invokevirtual 98, 3) := by decide +kernel
theorem dX5_dub_11 : decode cX5_dub 11 = .ok (.aload_n 3, 1) := by decide +kernel
theorem dX5_dub_12 : decode cX5_dub 12 = .ok (.getfield 131, 3) := by decide +kernel
theorem dX5_dub_15 : decode cX5_dub 15 = .ok (.istore 4, 2) := by decide +kernel
theorem dX5_dub_17 : decode cX5_dub 17 = .ok (.aload_n 3, 1) := by decide +kernel
theorem dX5_dub_18 : decode cX5_dub 18 = .ok (.iload_n 2, 1) := by decide +kernel
theorem dX5_dub_19 : decode cX5_dub 19 = .ok (.putfield 131, 3) := by decide +kernel
theorem dX5_dub_22 : decode cX5_dub 22 = .ok (.iload 4, 2) := by decide +kernel
theorem dX5_dub_24 : decode cX5_dub 24 = .ok (.ireturn, 1) := by decide +kernel
theorem dX5_key_0 : decode cX5_key 0 = .ok (.aload_n 0, 1) := by decide +kernel
theorem dX5_key_1 : decode cX5_key 1 = .ok (.iload_n 1, 1) := by decide +kernel
theorem dX5_key_2 : decode cX5_key 2 = .ok (.invokevirtual 106, 3) := by decide +kernel
theorem dX5_key_5 : decode cX5_key 5 = .ok (.astore 5, 2) := by decide +kernel
theorem dX5_key_7 : decode cX5_key 7 = .ok (.aload 5, 2) := by decide +kernel
theorem dX5_key_9 : decode cX5_key 9 = .ok (.getfield 134, 3) := by decide +kernel
theorem dX5_key_12 : decode cX5_key 12 = .ok (.iload_n 2, 1) := by decide +kernel
theorem dX5_key_13 : decode cX5_key 13 = .ok (.invokestatic 138, 3) := by decide +kernel
theorem dX5_key_16 : decode cX5_key 16 = .ok (.aload 5, 2) := by decide +kernel
theorem dX5_key_18 : decode cX5_key 18 = .ok (.iload_n 3, 1) := by decide +kernel
theorem dX5_key_19 : decode cX5_key 19 = .ok (.invokestatic 142, 3) := by decide +kernel
theorem dX5_key_22 : decode cX5_key 22 = .ok (.iload 4, 2) := by decide +kernel
theorem dX5_key_24 : decode cX5_key 24 = .ok (.iconst 0, 1) := by decide +kernel
theorem dX5_key_25 : decode cX5_key 25 = .ok (.sipush 359, 3) := by decide +kernel
theorem dX5_key_28 : decode cX5_key 28 = .ok (.invokestatic 59, 3) := by decide +kernel
theorem dX5_key_31 : decode cX5_key 31 = .ok (.aload 5, 2) := by decide +kernel
theorem dX5_key_33 : decode cX5_key 33 = .ok (.iload_n 3, 1) := by decide +kernel
theorem dX5_key_34 : decode cX5_key 34 = .ok (.invokestatic 146, 3) := by decide +kernel
theorem dX5_key_37 : decode cX5_key 37 = .ok (.aload 5, 2) := by decide +kernel
theorem dX5_key_39 : decode cX5_key 39 = .ok (.iload_n 3, 1) := by decide +kernel
theorem dX5_key_40 : decode cX5_key 40 = .ok (.invokevirtual 149, 3) := by decide +kernel
theorem dX5_key_43 : decode cX5_key 43 = .ok (.ifCond .eq 13, 3) := by decide +kernel
theorem dX5_key_46 : decode cX5_key 46 = .ok (.new 63, 3) := by decide +kernel
theorem dX5_key_49 : decode cX5_key 49 = .ok (.dup, 1) := by decide +kernel
theorem dX5_key_50 : decode cX5_key 50 = .ok (.ldc 152, 2) := by decide +kernel
theorem dX5_key_52 : decode cX5_key 52 = .ok (.invokespecial 67, 3) := by decide +kernel
theorem dX5_key_55 : decode cX5_key 55 = .ok (.athrow, 1) := by decide +kernel
theorem dX5_key_56 : decode cX5_key 56 = .ok (.aload 5, 2) := by decide +kernel
theorem dX5_key_58 : decode cX5_key 58 = .ok (.iload_n 2, 1) := by decide +kernel
theorem dX5_key_59 : decode cX5_key 59 = .ok (.iload_n 3, 1) := by decide +kernel
theorem dX5_key_60 : decode cX5_key 60 = .ok (.invokevirtual 154, 3) := by decide +kernel
theorem dX5_key_63 : decode cX5_key 63 = .ok (.istore 6, 2) := by decide +kernel
theorem dX5_key_65 : decode cX5_key 65 = .ok (.aload 5, 2) := by decide +kernel
theorem dX5_key_67 : decode cX5_key 67 = .ok (.getfield 158, 3) := by decide +kernel
theorem dX5_key_70 : decode cX5_key 70 = .ok (.iload_n 2, 1) := by decide +kernel
theorem dX5_key_71 : decode cX5_key 71 = .ok (.aaload, 1) := by decide +kernel
theorem dX5_key_72 : decode cX5_key 72 = .ok (.iload_n 3, 1) := by decide +kernel
theorem dX5_key_73 : decode cX5_key 73 = .ok (.iload 4, 2) := by decide +kernel
theorem dX5_key_75 : decode cX5_key 75 = .ok (.invokevirtual 162, 3) := by decide +kernel
theorem dX5_key_78 : decode cX5_key 78 = .ok (.iload 6, 2) := by decide +kernel
theorem dX5_key_80 : decode cX5_key 80 = .ok (.ireturn, 1) := by decide +kernel
theorem dX5_camera_0 : decode cX5_camera 0 = .ok (.aload_n 0, 1) := by decide +kernel
theorem dX5_camera_1 : decode cX5_camera 1 = .ok (.iload_n 1, 1) := by decide +kernel
theorem dX5_camera_2 : decode cX5_camera 2 = .ok (.invokevirtual 106, 3) := by decide +kernel
theorem dX5_camera_5 : decode cX5_camera 5 = .ok (.astore 4, 2) := by decide +kernel
theorem dX5_camera_7 : decode cX5_camera 7 = .ok (.aload 4, 2) := by decide +kernel
theorem dX5_camera_9 : decode cX5_camera 9 = .ok (.iload_n 2, 1) := by decide +kernel
theorem dX5_camera_10 : decode cX5_camera 10 = .ok (.invokestatic 142, 3) := by decide +kernel
theorem dX5_camera_13 : decode cX5_camera 13 = .ok (.iload_n 3, 1) := by decide +kernel
theorem dX5_camera_14 : decode cX5_camera 14 = .ok (.sipush (-999), 3) := by decide +kernel
theorem dX5_camera_17 : decode cX5_camera 17 = .ok (.sipush 999, 3) := by decide +kernel
theorem dX5_camera_20 : decode cX5_camera 20 = .ok (.invokestatic 59, 3) := by decide +kernel
theorem dX5_camera_23 : decode cX5_camera 23 = .ok (.aload 4, 2) := by decide +kernel
theorem dX5_camera_25 : decode cX5_camera 25 = .ok (.iload_n 2, 1) := by decide +kernel
theorem dX5_camera_26 : decode cX5_camera 26 = .ok (.invokestatic 146, 3) := by decide +kernel
theorem dX5_camera_29 : decode cX5_camera 29 = .ok (.aload 4, 2) := by decide +kernel
theorem dX5_camera_31 : decode cX5_camera 31 = .ok (.getfield 167, 3) := by decide +kernel
theorem dX5_camera_34 : decode cX5_camera 34 = .ok (.iload_n 2, 1) := by decide +kernel
theorem dX5_camera_35 : decode cX5_camera 35 = .ok (.invokevirtual 171, 3) := by decide +kernel
theorem dX5_camera_38 : decode cX5_camera 38 = .ok (.istore 5, 2) := by decide +kernel
theorem dX5_camera_40 : decode cX5_camera 40 = .ok (.aload 4, 2) := by decide +kernel
theorem dX5_camera_42 : decode cX5_camera 42 = .ok (.getfield 167, 3) := by decide +kernel
theorem dX5_camera_45 : decode cX5_camera 45 = .ok (.iload_n 2, 1) := by decide +kernel
theorem dX5_camera_46 : decode cX5_camera 46 = .ok (.iload_n 3, 1) := by decide +kernel
theorem dX5_camera_47 : decode cX5_camera 47 = .ok (.invokevirtual 162, 3) := by decide +kernel
theorem dX5_camera_50 : decode cX5_camera 50 = .ok (.iload 5, 2) := by decide +kernel
theorem dX5_camera_52 : decode cX5_camera 52 = .ok (.ireturn, 1) := by decide +kernel
theorem dX5_play_0 : decode cX5_play 0 = .ok (.iload_n 1, 1) := by decide +kernel
theorem dX5_play_1 : decode cX5_play 1 = .ok (.iconst 0, 1) := by decide +kernel
theorem dX5_play_2 : decode cX5_play 2 = .ok (.bipush 20, 2) := by decide +kernel
theorem dX5_play_4 : decode cX5_play 4 = .ok (.invokestatic 59, 3) := by decide +kernel
theorem dX5_play_7 : decode cX5_play 7 = .ok (.aload_n 0, 1) := by decide +kernel
theorem dX5_play_8 : decode cX5_play 8 = .ok (.getfield 53, 3) := by decide +kernel
theorem dX5_play_11 : decode cX5_play 11 = .ok (.istore_n 2, 1) := by decide +kernel
theorem dX5_play_12 : decode cX5_play 12 = .ok (.aload_n 0, 1) := by decide +kernel
theorem dX5_play_13 : decode cX5_play 13 = .ok (.iload_n 1, 1) := by decide +kernel
theorem dX5_play_14 : decode cX5_play 14 = .ok (.putfield 53, 3) := by decide +kernel
theorem dX5_play_17 : decode cX5_play 17 = .ok (.iload_n 2, 1) := by decide +kernel
theorem dX5_play_18 : decode cX5_play 18 = .ok (.ireturn, 1) := by decide +kernel
theorem dX5_strike_0 : decode cX5_strike 0 = .ok (.aload_n 0, 1) := by decide +kernel
theorem dX5_strike_1 : decode cX5_strike 1 = .ok (.iload_n 1, 1) := by decide +kernel
theorem dX5_strike_2 : decode cX5_strike 2 = .ok (.invokevirtual 106, 3) := by decide +kernel
theorem dX5_strike_5 : decode cX5_strike 5 = .ok (.astore_n 2, 1) := by decide +kernel
theorem dX5_strike_6 : decode cX5_strike 6 = .ok (.aload_n 0, 1) := by decide +kernel
theorem dX5_strike_7 : decode cX5_strike 7 = .ok (.aload_n 2, 1) := by decide +kernel
theorem dX5_strike_8 : decode cX5_strike 8 = .ok (.invokevirtual 175, 3) := by decide +kernel
theorem dX5_strike_11 : decode cX5_strike 11 = .ok (.invokestatic 179, 3) := by decide +kernel
theorem dX5_strike_14 : decode cX5_strike 14 = .ok (.aload_n 2, 1) := by decide +kernel
theorem dX5_strike_15 : decode cX5_strike 15 = .ok (.getfield 182, 3) := by decide +kernel
theorem dX5_strike_18 : decode cX5_strike 18 = .ok (.astore_n 3, 1) := by decide +kernel
theorem dX5_strike_19 : decode cX5_strike 19 = .ok (.aload_n 3, 1) := by decide +kernel
theorem dX5_strike_20 : decode cX5_strike 20 = .ok (.getfield 186, 3) := by decide +kernel
theorem dX5_strike_23 : decode cX5_strike 23 = .ok (.istore 4, 2) := by decide +kernel
theorem dX5_strike_25 : decode cX5_strike 25 = .ok (.aload_n 2, 1) := by decide +kernel
theorem dX5_strike_26 : decode cX5_strike 26 = .ok (.iload 4, 2) := by decide +kernel
theorem dX5_strike_28 : decode cX5_strike 28 = .ok (.invokevirtual 149, 3) := by decide +kernel
theorem dX5_strike_31 : decode cX5_strike 31 = .ok (.ifCond .eq 10, 3) := by decide +kernel
theorem dX5_strike_34 : decode cX5_strike 34 = .ok (.aload_n 3, 1) := by decide +kernel
theorem dX5_strike_35 : decode cX5_strike 35 = .ok (.invokevirtual 189, 3) := by decide +kernel
theorem dX5_strike_38 : decode cX5_strike 38 = .ok (.goto 10, 3) := by decide +kernel
theorem dX5_strike_41 : decode cX5_strike 41 = .ok (.aload_n 0, 1) := by decide +kernel
theorem dX5_strike_42 : decode cX5_strike 42 = .ok (.aload_n 2, 1) := by decide +kernel
theorem dX5_strike_43 : decode cX5_strike 43 = .ok (.iload 4, 2) := by decide +kernel
theorem dX5_strike_45 : decode cX5_strike 45 = .ok (.invokevirtual 192, 3) := by decide +kernel
theorem dX5_strike_48 : decode cX5_strike 48 = .ok (.aload_n 3, 1) := by decide +kernel
theorem dX5_strike_49 : decode cX5_strike 49 = .ok (.aload_n 2, 1) := by decide +kernel
theorem dX5_strike_50 : decode cX5_strike 50 = .ok (.getfield 167, 3) := by decide +kernel
theorem dX5_strike_53 : decode cX5_strike 53 = .ok (.iload 4, 2) := by decide +kernel
theorem dX5_strike_55 : decode cX5_strike 55 = .ok (.invokevirtual 171, 3) := by decide +kernel
theorem dX5_strike_58 : decode cX5_strike 58 = .ok (.aload_n 0, 1) := by decide +kernel
theorem dX5_strike_59 : decode cX5_strike 59 = .ok (.getfield 53, 3) := by decide +kernel
theorem dX5_strike_62 : decode cX5_strike 62 = .ok (.aload_n 0, 1) := by decide +kernel
theorem dX5_strike_63 : decode cX5_strike 63 = .ok (.invokevirtual 195, 3) := by decide +kernel
theorem dX5_strike_66 : decode cX5_strike 66 = .ok (.aload_n 2, 1) := by decide +kernel
theorem dX5_strike_67 : decode cX5_strike 67 = .ok (.getfield 199, 3) := by decide +kernel
theorem dX5_strike_70 : decode cX5_strike 70 = .ok (.invokevirtual 202, 3) := by decide +kernel
theorem dX5_strike_73 : decode cX5_strike 73 = .ok (.aload_n 0, 1) := by decide +kernel
theorem dX5_strike_74 : decode cX5_strike 74 = .ok (.dup, 1) := by decide +kernel
theorem dX5_strike_75 : decode cX5_strike 75 = .ok (.getfield 56, 3) := by decide +kernel
theorem dX5_strike_78 : decode cX5_strike 78 = .ok (.iconst 1, 1) := by decide +kernel
theorem dX5_strike_79 : decode cX5_strike 79 = .ok (.iadd, 1) := by decide +kernel
theorem dX5_strike_80 : decode cX5_strike 80 = .ok (.putfield 56, 3) := by decide +kernel
theorem dX5_strike_83 : decode cX5_strike 83 = .ok (.iload 4, 2) := by decide +kernel
theorem dX5_strike_85 : decode cX5_strike 85 = .ok (.ireturn, 1) := by decide +kernel
theorem dX5_bump_0 : decode cX5_bump 0 = .ok (.aload_n 0, 1) := by decide +kernel
theorem dX5_bump_1 : decode cX5_bump 1 = .ok (.iload_n 1, 1) := by decide +kernel
theorem dX5_bump_2 : decode cX5_bump 2 = .ok (.invokevirtual 106, 3) := by decide +kernel
theorem dX5_bump_5 : decode cX5_bump 5 = .ok (.astore_n 3, 1) := by decide +kernel
theorem dX5_bump_6 : decode cX5_bump 6 = .ok (.iload_n 2, 1) := by decide +kernel
theorem dX5_bump_7 : decode cX5_bump 7 = .ok (.bipush (-99), 2) := by decide +kernel
theorem dX5_bump_9 : decode cX5_bump 9 = .ok (.bipush 99, 2) := by decide +kernel
theorem dX5_bump_11 : decode cX5_bump 11 = .ok (.invokestatic 59, 3) := by decide +kernel
theorem dX5_bump_14 : decode cX5_bump 14 = .ok (.aload_n 3, 1) := by decide +kernel
theorem dX5_bump_15 : decode cX5_bump 15 = .ok (.invokevirtual 119, 3) := by decide +kernel
theorem dX5_bump_18 : decode cX5_bump 18 = .ok (.ifCond .ne 13, 3) := by decide +kernel
theorem dX5_bump_21 : decode cX5_bump 21 = .ok (.new 63, 3) := by decide +kernel
theorem dX5_bump_24 : decode cX5_bump 24 = .ok (.dup, 1) := by decide +kernel
theorem dX5_bump_25 : decode cX5_bump 25 = .ok (.ldc 206, 2) := by decide +kernel
theorem dX5_bump_27 : decode cX5_bump 27 = .ok (.invokespecial 67, 3) := by decide +kernel
theorem dX5_bump_30 : decode cX5_bump 30 = .ok (.athrow, 1) := by decide +kernel
theorem dX5_bump_31 : decode cX5_bump 31 = .ok (.aload_n 3, 1) := by decide +kernel
theorem dX5_bump_32 : decode cX5_bump 32 = .ok (.dup, 1) := by decide +kernel
theorem dX5_bump_33 : decode cX5_bump 33 = .ok (.getfield 199, 3) := by decide +kernel
theorem dX5_bump_36 : decode cX5_bump 36 = .ok (.iload_n 2, 1) := by decide +kernel
theorem dX5_bump_37 : decode cX5_bump 37 = .ok (.iadd, 1) := by decide +kernel
theorem dX5_bump_38 : decode cX5_bump 38 = .ok (.putfield 199, 3) := by decide +kernel
theorem dX5_bump_41 : decode cX5_bump 41 = .ok (.aload_n 3, 1) := by decide +kernel
theorem dX5_bump_42 : decode cX5_bump 42 = .ok (.getfield 199, 3) := by decide +kernel
theorem dX5_bump_45 : decode cX5_bump 45 = .ok (.ireturn, 1) := by decide +kernel
theorem dX5_level_0 : decode cX5_level 0 = .ok (.aload_n 0, 1) := by decide +kernel
theorem dX5_level_1 : decode cX5_level 1 = .ok (.iload_n 1, 1) := by decide +kernel
theorem dX5_level_2 : decode cX5_level 2 = .ok (.invokevirtual 106, 3) := by decide +kernel
theorem dX5_level_5 : decode cX5_level 5 = .ok (.astore_n 2, 1) := by decide +kernel
theorem dX5_level_6 : decode cX5_level 6 = .ok (.aload_n 2, 1) := by decide +kernel
theorem dX5_level_7 : decode cX5_level 7 = .ok (.getfield 199, 3) := by decide +kernel
theorem dX5_level_10 : decode cX5_level 10 = .ok (.istore_n 3, 1) := by decide +kernel
theorem dX5_level_11 : decode cX5_level 11 = .ok (.aload_n 2, 1) := by decide +kernel
theorem dX5_level_12 : decode cX5_level 12 = .ok (.iconst 0, 1) := by decide +kernel
theorem dX5_level_13 : decode cX5_level 13 = .ok (.putfield 199, 3) := by decide +kernel
theorem dX5_level_16 : decode cX5_level 16 = .ok (.iload_n 3, 1) := by decide +kernel
theorem dX5_level_17 : decode cX5_level 17 = .ok (.ireturn, 1) := by decide +kernel
theorem dX5_anew_0 : decode cX5_anew 0 = .ok (.aload_n 0, 1) := by decide +kernel
theorem dX5_anew_1 : decode cX5_anew 1 = .ok (.iload_n 1, 1) := by decide +kernel
theorem dX5_anew_2 : decode cX5_anew 2 = .ok (.invokevirtual 106, 3) := by decide +kernel
theorem dX5_anew_5 : decode cX5_anew 5 = .ok (.astore_n 3, 1) := by decide +kernel
theorem dX5_anew_6 : decode cX5_anew 6 = .ok (.aload_n 3, 1) := by decide +kernel
theorem dX5_anew_7 : decode cX5_anew 7 = .ok (.iload_n 2, 1) := by decide +kernel
theorem dX5_anew_8 : decode cX5_anew 8 = .ok (.invokestatic 142, 3) := by decide +kernel
theorem dX5_anew_11 : decode cX5_anew 11 = .ok (.aload_n 3, 1) := by decide +kernel
theorem dX5_anew_12 : decode cX5_anew 12 = .ok (.iload_n 2, 1) := by decide +kernel
theorem dX5_anew_13 : decode cX5_anew 13 = .ok (.invokevirtual 208, 3) := by decide +kernel
theorem dX5_anew_16 : decode cX5_anew 16 = .ok (.ifCond .ne 13, 3) := by decide +kernel
theorem dX5_anew_19 : decode cX5_anew 19 = .ok (.new 63, 3) := by decide +kernel
theorem dX5_anew_22 : decode cX5_anew 22 = .ok (.dup, 1) := by decide +kernel
theorem dX5_anew_23 : decode cX5_anew 23 = .ok (.ldc 211, 2) := by decide +kernel
theorem dX5_anew_25 : decode cX5_anew 25 = .ok (.invokespecial 67, 3) := by decide +kernel
theorem dX5_anew_28 : decode cX5_anew 28 = .ok (.athrow, 1) := by decide +kernel
theorem dX5_anew_29 : decode cX5_anew 29 = .ok (.aload_n 0, 1) := by decide +kernel
theorem dX5_anew_30 : decode cX5_anew 30 = .ok (.iload_n 1, 1) := by decide +kernel
theorem dX5_anew_31 : decode cX5_anew 31 = .ok (.invokevirtual 213, 3) := by decide +kernel
theorem dX5_anew_34 : decode cX5_anew 34 = .ok (.iconst (-1), 1) := by decide +kernel
theorem dX5_anew_35 : decode cX5_anew 35 = .ok (.if_icmp .eq 13, 3) := by decide +kernel
theorem dX5_anew_38 : decode cX5_anew 38 = .ok (.new 63, 3) := by decide +kernel
theorem dX5_anew_41 : decode cX5_anew 41 = .ok (.dup, 1) := by decide +kernel
theorem dX5_anew_42 : decode cX5_anew 42 = .ok (.ldc 216, 2) := by decide +kernel
theorem dX5_anew_44 : decode cX5_anew 44 = .ok (.invokespecial 67, 3) := by decide +kernel
theorem dX5_anew_47 : decode cX5_anew 47 = .ok (.athrow, 1) := by decide +kernel
theorem dX5_anew_48 : decode cX5_anew 48 = .ok (.aload_n 3, 1) := by decide +kernel
theorem dX5_anew_49 : decode cX5_anew 49 = .ok (.getfield 182, 3) := by decide +kernel
theorem dX5_anew_52 : decode cX5_anew 52 = .ok (.getfield 186, 3) := by decide +kernel
theorem dX5_anew_55 : decode cX5_anew 55 = .ok (.iload_n 2, 1) := by decide +kernel
theorem dX5_anew_56 : decode cX5_anew 56 = .ok (.isub, 1) := by decide +kernel
theorem dX5_anew_57 : decode cX5_anew 57 = .ok (.istore 4, 2) := by decide +kernel
theorem dX5_anew_59 : decode cX5_anew 59 = .ok (.aload_n 3, 1) := by decide +kernel
theorem dX5_anew_60 : decode cX5_anew 60 = .ok (.getfield 182, 3) := by decide +kernel
theorem dX5_anew_63 : decode cX5_anew 63 = .ok (.iload_n 2, 1) := by decide +kernel
theorem dX5_anew_64 : decode cX5_anew 64 = .ok (.putfield 186, 3) := by decide +kernel
theorem dX5_anew_67 : decode cX5_anew 67 = .ok (.iload 4, 2) := by decide +kernel
theorem dX5_anew_69 : decode cX5_anew 69 = .ok (.ireturn, 1) := by decide +kernel
theorem dX5_mend_0 : decode cX5_mend 0 = .ok (.aload_n 0, 1) := by decide +kernel
theorem dX5_mend_1 : decode cX5_mend 1 = .ok (.iload_n 1, 1) := by decide +kernel
theorem dX5_mend_2 : decode cX5_mend 2 = .ok (.invokevirtual 73, 3) := by decide +kernel
theorem dX5_mend_5 : decode cX5_mend 5 = .ok (.astore_n 3, 1) := by decide +kernel
theorem dX5_mend_6 : decode cX5_mend 6 = .ok (.aload_n 3, 1) := by decide +kernel
theorem dX5_mend_7 : decode cX5_mend 7 = .ok (.iload_n 2, 1) := by decide +kernel
theorem dX5_mend_8 : decode cX5_mend 8 = .ok (.invokestatic 138, 3) := by decide +kernel
theorem dX5_mend_11 : decode cX5_mend 11 = .ok (.aload_n 3, 1) := by decide +kernel
theorem dX5_mend_12 : decode cX5_mend 12 = .ok (.getfield 218, 3) := by decide +kernel
theorem dX5_mend_15 : decode cX5_mend 15 = .ok (.iload_n 2, 1) := by decide +kernel
theorem dX5_mend_16 : decode cX5_mend 16 = .ok (.iaload, 1) := by decide +kernel
theorem dX5_mend_17 : decode cX5_mend 17 = .ok (.istore 4, 2) := by decide +kernel
theorem dX5_mend_19 : decode cX5_mend 19 = .ok (.aload_n 3, 1) := by decide +kernel
theorem dX5_mend_20 : decode cX5_mend 20 = .ok (.getfield 218, 3) := by decide +kernel
theorem dX5_mend_23 : decode cX5_mend 23 = .ok (.iload_n 2, 1) := by decide +kernel
theorem dX5_mend_24 : decode cX5_mend 24 = .ok (.iconst 0, 1) := by decide +kernel
theorem dX5_mend_25 : decode cX5_mend 25 = .ok (.iastore, 1) := by decide +kernel
theorem dX5_mend_26 : decode cX5_mend 26 = .ok (.iload 4, 2) := by decide +kernel
theorem dX5_mend_28 : decode cX5_mend 28 = .ok (.ireturn, 1) := by decide +kernel
theorem dX5_lamp_0 : decode cX5_lamp 0 = .ok (.aload_n 0, 1) := by decide +kernel
theorem dX5_lamp_1 : decode cX5_lamp 1 = .ok (.invokevirtual 195, 3) := by decide +kernel
theorem dX5_lamp_4 : decode cX5_lamp 4 = .ok (.istore_n 1, 1) := by decide +kernel
theorem dX5_lamp_5 : decode cX5_lamp 5 = .ok (.aload_n 0, 1) := by decide +kernel
theorem dX5_lamp_6 : decode cX5_lamp 6 = .ok (.iconst 0, 1) := by decide +kernel
theorem dX5_lamp_7 : decode cX5_lamp 7 = .ok (.putfield 56, 3) := by decide +kernel
theorem dX5_lamp_10 : decode cX5_lamp 10 = .ok (.iload_n 1, 1) := by decide +kernel
theorem dX5_lamp_11 : decode cX5_lamp 11 = .ok (.ireturn, 1) := by decide +kernel
theorem dX5_cut_0 : decode cX5_cut 0 = .ok (.aload_n 0, 1) := by decide +kernel
theorem dX5_cut_1 : decode cX5_cut 1 = .ok (.iload_n 1, 1) := by decide +kernel
theorem dX5_cut_2 : decode cX5_cut 2 = .ok (.invokevirtual 106, 3) := by decide +kernel
theorem dX5_cut_5 : decode cX5_cut 5 = .ok (.astore_n 2, 1) := by decide +kernel
theorem dX5_cut_6 : decode cX5_cut 6 = .ok (.aload_n 2, 1) := by decide +kernel
theorem dX5_cut_7 : decode cX5_cut 7 = .ok (.invokevirtual 113, 3) := by decide +kernel
theorem dX5_cut_10 : decode cX5_cut 10 = .ok (.ifCond .ne 13, 3) := by decide +kernel
theorem dX5_cut_13 : decode cX5_cut 13 = .ok (.new 63, 3) := by decide +kernel
theorem dX5_cut_16 : decode cX5_cut 16 = .ok (.dup, 1) := by decide +kernel
theorem dX5_cut_17 : decode cX5_cut 17 = .ok (.ldc 221, 2) := by decide +kernel
theorem dX5_cut_19 : decode cX5_cut 19 = .ok (.invokespecial 67, 3) := by decide +kernel
theorem dX5_cut_22 : decode cX5_cut 22 = .ok (.athrow, 1) := by decide +kernel
theorem dX5_cut_23 : decode cX5_cut 23 = .ok (.aload_n 0, 1) := by decide +kernel
theorem dX5_cut_24 : decode cX5_cut 24 = .ok (.iload_n 1, 1) := by decide +kernel
theorem dX5_cut_25 : decode cX5_cut 25 = .ok (.invokevirtual 213, 3) := by decide +kernel
theorem dX5_cut_28 : decode cX5_cut 28 = .ok (.iconst (-1), 1) := by decide +kernel
theorem dX5_cut_29 : decode cX5_cut 29 = .ok (.if_icmp .ne 12, 3) := by decide +kernel
theorem dX5_cut_32 : decode cX5_cut 32 = .ok (.aload_n 0, 1) := by decide +kernel
theorem dX5_cut_33 : decode cX5_cut 33 = .ok (.getfield 50, 3) := by decide +kernel
theorem dX5_cut_36 : decode cX5_cut 36 = .ok (.bipush 8, 2) := by decide +kernel
theorem dX5_cut_38 : decode cX5_cut 38 = .ok (.if_icmp .lt 13, 3) := by decide +kernel
theorem dX5_cut_41 : decode cX5_cut 41 = .ok (.new 63, 3) := by decide +kernel
theorem dX5_cut_44 : decode cX5_cut 44 = .ok (.dup, 1) := by decide +kernel
theorem dX5_cut_45 : decode cX5_cut 45 = .ok (.ldc 216, 2) := by decide +kernel
theorem dX5_cut_47 : decode cX5_cut 47 = .ok (.invokespecial 67, 3) := by decide +kernel
theorem dX5_cut_50 : decode cX5_cut 50 = .ok (.athrow, 1) := by decide +kernel
theorem dX5_cut_51 : decode cX5_cut 51 = .ok (.aload_n 0, 1) := by decide +kernel
theorem dX5_cut_52 : decode cX5_cut 52 = .ok (.getfield 46, 3) := by decide +kernel
theorem dX5_cut_55 : decode cX5_cut 55 = .ok (.aload_n 0, 1) := by decide +kernel
theorem dX5_cut_56 : decode cX5_cut 56 = .ok (.getfield 50, 3) := by decide +kernel
theorem dX5_cut_59 : decode cX5_cut 59 = .ok (.iload_n 1, 1) := by decide +kernel
theorem dX5_cut_60 : decode cX5_cut 60 = .ok (.iastore, 1) := by decide +kernel
theorem dX5_cut_61 : decode cX5_cut 61 = .ok (.aload_n 0, 1) := by decide +kernel
theorem dX5_cut_62 : decode cX5_cut 62 = .ok (.dup, 1) := by decide +kernel
theorem dX5_cut_63 : decode cX5_cut 63 = .ok (.getfield 50, 3) := by decide +kernel
theorem dX5_cut_66 : decode cX5_cut 66 = .ok (.iconst 1, 1) := by decide +kernel
theorem dX5_cut_67 : decode cX5_cut 67 = .ok (.iadd, 1) := by decide +kernel
theorem dX5_cut_68 : decode cX5_cut 68 = .ok (.putfield 50, 3) := by decide +kernel
theorem dX5_cut_71 : decode cX5_cut 71 = .ok (.aload_n 0, 1) := by decide +kernel
theorem dX5_cut_72 : decode cX5_cut 72 = .ok (.invokevirtual 223, 3) := by decide +kernel
theorem dX5_cut_75 : decode cX5_cut 75 = .ok (.ireturn, 1) := by decide +kernel
theorem dX5_cutOut_0 : decode cX5_cutOut 0 = .ok (.aload_n 0, 1) := by decide +kernel
theorem dX5_cutOut_1 : decode cX5_cutOut 1 = .ok (.iload_n 1, 1) := by decide +kernel
theorem dX5_cutOut_2 : decode cX5_cutOut 2 = .ok (.invokevirtual 226, 3) := by decide +kernel
theorem dX5_cutOut_5 : decode cX5_cutOut 5 = .ok (.aload_n 0, 1) := by decide +kernel
theorem dX5_cutOut_6 : decode cX5_cutOut 6 = .ok (.iload_n 1, 1) := by decide +kernel
theorem dX5_cutOut_7 : decode cX5_cutOut 7 = .ok (.invokevirtual 213, 3) := by decide +kernel
theorem dX5_cutOut_10 : decode cX5_cutOut 10 = .ok (.istore_n 2, 1) := by decide +kernel
theorem dX5_cutOut_11 : decode cX5_cutOut 11 = .ok (.iload_n 2, 1) := by decide +kernel
theorem dX5_cutOut_12 : decode cX5_cutOut 12 = .ok (.iconst (-1), 1) := by decide +kernel
theorem dX5_cutOut_13 : decode cX5_cutOut 13 = .ok (.if_icmp .ne 13, 3) := by decide +kernel
theorem dX5_cutOut_16 : decode cX5_cutOut 16 = .ok (.new 63, 3) := by decide +kernel
theorem dX5_cutOut_19 : decode cX5_cutOut 19 = .ok (.dup, 1) := by decide +kernel
theorem dX5_cutOut_20 : decode cX5_cutOut 20 = .ok (.ldc 229, 2) := by decide +kernel
theorem dX5_cutOut_22 : decode cX5_cutOut 22 = .ok (.invokespecial 67, 3) := by decide +kernel
theorem dX5_cutOut_25 : decode cX5_cutOut 25 = .ok (.athrow, 1) := by decide +kernel
theorem dX5_cutOut_26 : decode cX5_cutOut 26 = .ok (.aload_n 0, 1) := by decide +kernel
theorem dX5_cutOut_27 : decode cX5_cutOut 27 = .ok (.dup, 1) := by decide +kernel
theorem dX5_cutOut_28 : decode cX5_cutOut 28 = .ok (.getfield 50, 3) := by decide +kernel
theorem dX5_cutOut_31 : decode cX5_cutOut 31 = .ok (.iconst 1, 1) := by decide +kernel
theorem dX5_cutOut_32 : decode cX5_cutOut 32 = .ok (.isub, 1) := by decide +kernel
theorem dX5_cutOut_33 : decode cX5_cutOut 33 = .ok (.putfield 50, 3) := by decide +kernel
theorem dX5_cutOut_36 : decode cX5_cutOut 36 = .ok (.iload_n 2, 1) := by decide +kernel
theorem dX5_cutOut_37 : decode cX5_cutOut 37 = .ok (.istore_n 3, 1) := by decide +kernel
theorem dX5_cutOut_38 : decode cX5_cutOut 38 = .ok (.iload_n 3, 1) := by decide +kernel
theorem dX5_cutOut_39 : decode cX5_cutOut 39 = .ok (.aload_n 0, 1) := by decide +kernel
theorem dX5_cutOut_40 : decode cX5_cutOut 40 = .ok (.getfield 50, 3) := by decide +kernel
theorem dX5_cutOut_43 : decode cX5_cutOut 43 = .ok (.if_icmp .ge 23, 3) := by decide +kernel
theorem dX5_cutOut_46 : decode cX5_cutOut 46 = .ok (.aload_n 0, 1) := by decide +kernel
theorem dX5_cutOut_47 : decode cX5_cutOut 47 = .ok (.getfield 46, 3) := by decide +kernel
theorem dX5_cutOut_50 : decode cX5_cutOut 50 = .ok (.iload_n 3, 1) := by decide +kernel
theorem dX5_cutOut_51 : decode cX5_cutOut 51 = .ok (.aload_n 0, 1) := by decide +kernel
theorem dX5_cutOut_52 : decode cX5_cutOut 52 = .ok (.getfield 46, 3) := by decide +kernel
theorem dX5_cutOut_55 : decode cX5_cutOut 55 = .ok (.iload_n 3, 1) := by decide +kernel
theorem dX5_cutOut_56 : decode cX5_cutOut 56 = .ok (.iconst 1, 1) := by decide +kernel
theorem dX5_cutOut_57 : decode cX5_cutOut 57 = .ok (.iadd, 1) := by decide +kernel
theorem dX5_cutOut_58 : decode cX5_cutOut 58 = .ok (.iaload, 1) := by decide +kernel
theorem dX5_cutOut_59 : decode cX5_cutOut 59 = .ok (.iastore, 1) := by decide +kernel
theorem dX5_cutOut_60 : decode cX5_cutOut 60 = .ok (.iinc 3 1, 3) := by decide +kernel
theorem dX5_cutOut_63 : decode cX5_cutOut 63 = .ok (.goto (-25), 3) := by decide +kernel
theorem dX5_cutOut_66 : decode cX5_cutOut 66 = .ok (.aload_n 0, 1) := by decide +kernel
theorem dX5_cutOut_67 : decode cX5_cutOut 67 = .ok (.invokevirtual 223, 3) := by decide +kernel
theorem dX5_cutOut_70 : decode cX5_cutOut 70 = .ok (.ireturn, 1) := by decide +kernel
theorem dX5_degree_0 : decode cX5_degree 0 = .ok (.aload_n 0, 1) := by decide +kernel
theorem dX5_degree_1 : decode cX5_degree 1 = .ok (.iload_n 1, 1) := by decide +kernel
theorem dX5_degree_2 : decode cX5_degree 2 = .ok (.invokevirtual 106, 3) := by decide +kernel
theorem dX5_degree_5 : decode cX5_degree 5 = .ok (.astore 4, 2) := by decide +kernel
theorem dX5_degree_7 : decode cX5_degree 7 = .ok (.aload 4, 2) := by decide +kernel
end
section
theorem dX5_degree_9 : decode cX5_degree 9 = .ok (.getfield 134, 3) := by decide +kernel
theorem dX5_degree_12 : decode cX5_degree 12 = .ok (.iload_n 2, 1) := by decide +kernel
theorem dX5_degree_13 : decode cX5_degree 13 = .ok (.invokestatic 138, 3) := by decide +kernel
theorem dX5_degree_16 : decode cX5_degree 16 = .ok (.aload 4, 2) := by decide +kernel
theorem dX5_degree_18 : decode cX5_degree 18 = .ok (.iload_n 3, 1) := by decide +kernel
theorem dX5_degree_19 : decode cX5_degree 19 = .ok (.invokestatic 142, 3) := by decide +kernel
theorem dX5_degree_22 : decode cX5_degree 22 = .ok (.aload 4, 2) := by decide +kernel
theorem dX5_degree_24 : decode cX5_degree 24 = .ok (.iload_n 2, 1) := by decide +kernel
theorem dX5_degree_25 : decode cX5_degree 25 = .ok (.iload_n 3, 1) := by decide +kernel
theorem dX5_degree_26 : decode cX5_degree 26 = .ok (.invokevirtual 154, 3) := by decide +kernel
theorem dX5_degree_29 : decode cX5_degree 29 = .ok (.ireturn, 1) := by decide +kernel
theorem dX5_mouth_0 : decode cX5_mouth 0 = .ok (.aload_n 0, 1) := by decide +kernel
theorem dX5_mouth_1 : decode cX5_mouth 1 = .ok (.iload_n 1, 1) := by decide +kernel
theorem dX5_mouth_2 : decode cX5_mouth 2 = .ok (.invokevirtual 106, 3) := by decide +kernel
theorem dX5_mouth_5 : decode cX5_mouth 5 = .ok (.astore_n 3, 1) := by decide +kernel
theorem dX5_mouth_6 : decode cX5_mouth 6 = .ok (.aload_n 3, 1) := by decide +kernel
theorem dX5_mouth_7 : decode cX5_mouth 7 = .ok (.iload_n 2, 1) := by decide +kernel
theorem dX5_mouth_8 : decode cX5_mouth 8 = .ok (.invokestatic 142, 3) := by decide +kernel
theorem dX5_mouth_11 : decode cX5_mouth 11 = .ok (.aload_n 0, 1) := by decide +kernel
theorem dX5_mouth_12 : decode cX5_mouth 12 = .ok (.aload_n 3, 1) := by decide +kernel
theorem dX5_mouth_13 : decode cX5_mouth 13 = .ok (.iload_n 2, 1) := by decide +kernel
theorem dX5_mouth_14 : decode cX5_mouth 14 = .ok (.invokevirtual 231, 3) := by decide +kernel
theorem dX5_mouth_17 : decode cX5_mouth 17 = .ok (.ireturn, 1) := by decide +kernel
theorem dX5_place_0 : decode cX5_place 0 = .ok (.aload_n 0, 1) := by decide +kernel
theorem dX5_place_1 : decode cX5_place 1 = .ok (.iload_n 1, 1) := by decide +kernel
theorem dX5_place_2 : decode cX5_place 2 = .ok (.invokevirtual 106, 3) := by decide +kernel
theorem dX5_place_5 : decode cX5_place 5 = .ok (.astore_n 3, 1) := by decide +kernel
theorem dX5_place_6 : decode cX5_place 6 = .ok (.aload_n 3, 1) := by decide +kernel
theorem dX5_place_7 : decode cX5_place 7 = .ok (.iload_n 2, 1) := by decide +kernel
theorem dX5_place_8 : decode cX5_place 8 = .ok (.invokestatic 142, 3) := by decide +kernel
theorem dX5_place_11 : decode cX5_place 11 = .ok (.aload_n 3, 1) := by decide +kernel
theorem dX5_place_12 : decode cX5_place 12 = .ok (.getfield 167, 3) := by decide +kernel
theorem dX5_place_15 : decode cX5_place 15 = .ok (.iload_n 2, 1) := by decide +kernel
theorem dX5_place_16 : decode cX5_place 16 = .ok (.invokevirtual 171, 3) := by decide +kernel
theorem dX5_place_19 : decode cX5_place 19 = .ok (.ireturn, 1) := by decide +kernel
theorem dX5_wants_0 : decode cX5_wants 0 = .ok (.aload_n 0, 1) := by decide +kernel
theorem dX5_wants_1 : decode cX5_wants 1 = .ok (.iload_n 1, 1) := by decide +kernel
theorem dX5_wants_2 : decode cX5_wants 2 = .ok (.invokevirtual 106, 3) := by decide +kernel
theorem dX5_wants_5 : decode cX5_wants 5 = .ok (.astore_n 3, 1) := by decide +kernel
theorem dX5_wants_6 : decode cX5_wants 6 = .ok (.iload_n 2, 1) := by decide +kernel
theorem dX5_wants_7 : decode cX5_wants 7 = .ok (.invokestatic 77, 3) := by decide +kernel
theorem dX5_wants_10 : decode cX5_wants 10 = .ok (.iconst 0, 1) := by decide +kernel
theorem dX5_wants_11 : decode cX5_wants 11 = .ok (.istore 4, 2) := by decide +kernel
theorem dX5_wants_13 : decode cX5_wants 13 = .ok (.iconst (-1), 1) := by decide +kernel
theorem dX5_wants_14 : decode cX5_wants 14 = .ok (.istore 5, 2) := by decide +kernel
theorem dX5_wants_16 : decode cX5_wants 16 = .ok (.iconst 0, 1) := by decide +kernel
theorem dX5_wants_17 : decode cX5_wants 17 = .ok (.istore 6, 2) := by decide +kernel
theorem dX5_wants_19 : decode cX5_wants 19 = .ok (.iload 6, 2) := by decide +kernel
theorem dX5_wants_21 : decode cX5_wants 21 = .ok (.aload_n 3, 1) := by decide +kernel
theorem dX5_wants_22 : decode cX5_wants 22 = .ok (.getfield 235, 3) := by decide +kernel
theorem dX5_wants_25 : decode cX5_wants 25 = .ok (.if_icmp .ge 38, 3) := by decide +kernel
theorem dX5_wants_28 : decode cX5_wants 28 = .ok (.aload_n 0, 1) := by decide +kernel
theorem dX5_wants_29 : decode cX5_wants 29 = .ok (.aload_n 3, 1) := by decide +kernel
theorem dX5_wants_30 : decode cX5_wants 30 = .ok (.iload 6, 2) := by decide +kernel
theorem dX5_wants_32 : decode cX5_wants 32 = .ok (.invokevirtual 231, 3) := by decide +kernel
theorem dX5_wants_35 : decode cX5_wants 35 = .ok (.istore 7, 2) := by decide +kernel
theorem dX5_wants_37 : decode cX5_wants 37 = .ok (.iload 7, 2) := by decide +kernel
theorem dX5_wants_39 : decode cX5_wants 39 = .ok (.iload_n 2, 1) := by decide +kernel
theorem dX5_wants_40 : decode cX5_wants 40 = .ok (.if_icmp .ne 13, 3) := by decide +kernel
theorem dX5_wants_43 : decode cX5_wants 43 = .ok (.iload 7, 2) := by decide +kernel
theorem dX5_wants_45 : decode cX5_wants 45 = .ok (.iload 5, 2) := by decide +kernel
theorem dX5_wants_47 : decode cX5_wants 47 = .ok (.if_icmp .eq 6, 3) := by decide +kernel
theorem dX5_wants_50 : decode cX5_wants 50 = .ok (.iinc 4 1, 3) := by decide +kernel
theorem dX5_wants_53 : decode cX5_wants 53 = .ok (.iload 7, 2) := by decide +kernel
theorem dX5_wants_55 : decode cX5_wants 55 = .ok (.istore 5, 2) := by decide +kernel
theorem dX5_wants_57 : decode cX5_wants 57 = .ok (.iinc 6 1, 3) := by decide +kernel
theorem dX5_wants_60 : decode cX5_wants 60 = .ok (.goto (-41), 3) := by decide +kernel
theorem dX5_wants_63 : decode cX5_wants 63 = .ok (.iload 4, 2) := by decide +kernel
theorem dX5_wants_65 : decode cX5_wants 65 = .ok (.ireturn, 1) := by decide +kernel
theorem dX5_bars_0 : decode cX5_bars 0 = .ok (.aload_n 0, 1) := by decide +kernel
theorem dX5_bars_1 : decode cX5_bars 1 = .ok (.aload_n 0, 1) := by decide +kernel
theorem dX5_bars_2 : decode cX5_bars 2 = .ok (.iload_n 1, 1) := by decide +kernel
theorem dX5_bars_3 : decode cX5_bars 3 = .ok (.invokevirtual 106, 3) := by decide +kernel
theorem dX5_bars_6 : decode cX5_bars 6 = .ok (.invokevirtual 175, 3) := by decide +kernel
theorem dX5_bars_9 : decode cX5_bars 9 = .ok (.ireturn, 1) := by decide +kernel
theorem dX5_wears_0 : decode cX5_wears 0 = .ok (.aload_n 0, 1) := by decide +kernel
theorem dX5_wears_1 : decode cX5_wears 1 = .ok (.iload_n 1, 1) := by decide +kernel
theorem dX5_wears_2 : decode cX5_wears 2 = .ok (.invokevirtual 106, 3) := by decide +kernel
theorem dX5_wears_5 : decode cX5_wears 5 = .ok (.astore_n 3, 1) := by decide +kernel
theorem dX5_wears_6 : decode cX5_wears 6 = .ok (.aload_n 3, 1) := by decide +kernel
theorem dX5_wears_7 : decode cX5_wears 7 = .ok (.getfield 134, 3) := by decide +kernel
theorem dX5_wears_10 : decode cX5_wears 10 = .ok (.iload_n 2, 1) := by decide +kernel
theorem dX5_wears_11 : decode cX5_wears 11 = .ok (.invokestatic 138, 3) := by decide +kernel
theorem dX5_wears_14 : decode cX5_wears 14 = .ok (.aload_n 3, 1) := by decide +kernel
theorem dX5_wears_15 : decode cX5_wears 15 = .ok (.getfield 134, 3) := by decide +kernel
theorem dX5_wears_18 : decode cX5_wears 18 = .ok (.getfield 238, 3) := by decide +kernel
theorem dX5_wears_21 : decode cX5_wears 21 = .ok (.iload_n 2, 1) := by decide +kernel
theorem dX5_wears_22 : decode cX5_wears 22 = .ok (.iaload, 1) := by decide +kernel
theorem dX5_wears_23 : decode cX5_wears 23 = .ok (.istore 4, 2) := by decide +kernel
theorem dX5_wears_25 : decode cX5_wears 25 = .ok (.iconst 0, 1) := by decide +kernel
theorem dX5_wears_26 : decode cX5_wears 26 = .ok (.istore 5, 2) := by decide +kernel
theorem dX5_wears_28 : decode cX5_wears 28 = .ok (.aload_n 3, 1) := by decide +kernel
theorem dX5_wears_29 : decode cX5_wears 29 = .ok (.getfield 182, 3) := by decide +kernel
theorem dX5_wears_32 : decode cX5_wears 32 = .ok (.getfield 186, 3) := by decide +kernel
theorem dX5_wears_35 : decode cX5_wears 35 = .ok (.istore 6, 2) := by decide +kernel
theorem dX5_wears_37 : decode cX5_wears 37 = .ok (.iload 6, 2) := by decide +kernel
theorem dX5_wears_39 : decode cX5_wears 39 = .ok (.aload_n 3, 1) := by decide +kernel
theorem dX5_wears_40 : decode cX5_wears 40 = .ok (.getfield 235, 3) := by decide +kernel
theorem dX5_wears_43 : decode cX5_wears 43 = .ok (.if_icmp .ge 46, 3) := by decide +kernel
theorem dX5_wears_46 : decode cX5_wears 46 = .ok (.aload_n 3, 1) := by decide +kernel
theorem dX5_wears_47 : decode cX5_wears 47 = .ok (.iload 6, 2) := by decide +kernel
theorem dX5_wears_49 : decode cX5_wears 49 = .ok (.invokevirtual 149, 3) := by decide +kernel
theorem dX5_wears_52 : decode cX5_wears 52 = .ok (.ifCond .ne 31, 3) := by decide +kernel
theorem dX5_wears_55 : decode cX5_wears 55 = .ok (.aload_n 3, 1) := by decide +kernel
theorem dX5_wears_56 : decode cX5_wears 56 = .ok (.iload_n 2, 1) := by decide +kernel
theorem dX5_wears_57 : decode cX5_wears 57 = .ok (.iload 6, 2) := by decide +kernel
theorem dX5_wears_59 : decode cX5_wears 59 = .ok (.invokevirtual 154, 3) := by decide +kernel
theorem dX5_wears_62 : decode cX5_wears 62 = .ok (.istore 7, 2) := by decide +kernel
theorem dX5_wears_64 : decode cX5_wears 64 = .ok (.iload 5, 2) := by decide +kernel
theorem dX5_wears_66 : decode cX5_wears 66 = .ok (.iload 4, 2) := by decide +kernel
theorem dX5_wears_68 : decode cX5_wears 68 = .ok (.iload 7, 2) := by decide +kernel
theorem dX5_wears_70 : decode cX5_wears 70 = .ok (.invokestatic 241, 3) := by decide +kernel
theorem dX5_wears_73 : decode cX5_wears 73 = .ok (.invokestatic 244, 3) := by decide +kernel
theorem dX5_wears_76 : decode cX5_wears 76 = .ok (.iadd, 1) := by decide +kernel
theorem dX5_wears_77 : decode cX5_wears 77 = .ok (.istore 5, 2) := by decide +kernel
theorem dX5_wears_79 : decode cX5_wears 79 = .ok (.iload 7, 2) := by decide +kernel
theorem dX5_wears_81 : decode cX5_wears 81 = .ok (.istore 4, 2) := by decide +kernel
theorem dX5_wears_83 : decode cX5_wears 83 = .ok (.iinc 6 1, 3) := by decide +kernel
theorem dX5_wears_86 : decode cX5_wears 86 = .ok (.goto (-49), 3) := by decide +kernel
theorem dX5_wears_89 : decode cX5_wears 89 = .ok (.iload 5, 2) := by decide +kernel
theorem dX5_wears_91 : decode cX5_wears 91 = .ok (.ireturn, 1) := by decide +kernel
theorem dX5_struck_0 : decode cX5_struck 0 = .ok (.aload_n 0, 1) := by decide +kernel
theorem dX5_struck_1 : decode cX5_struck 1 = .ok (.iload_n 1, 1) := by decide +kernel
theorem dX5_struck_2 : decode cX5_struck 2 = .ok (.invokevirtual 106, 3) := by decide +kernel
theorem dX5_struck_5 : decode cX5_struck 5 = .ok (.getfield 182, 3) := by decide +kernel
theorem dX5_struck_8 : decode cX5_struck 8 = .ok (.getfield 186, 3) := by decide +kernel
theorem dX5_struck_11 : decode cX5_struck 11 = .ok (.ireturn, 1) := by decide +kernel
theorem dX5_pose_0 : decode cX5_pose 0 = .ok (.aload_n 0, 1) := by decide +kernel
theorem dX5_pose_1 : decode cX5_pose 1 = .ok (.iload_n 1, 1) := by decide +kernel
theorem dX5_pose_2 : decode cX5_pose 2 = .ok (.invokevirtual 106, 3) := by decide +kernel
theorem dX5_pose_5 : decode cX5_pose 5 = .ok (.astore 4, 2) := by decide +kernel
theorem dX5_pose_7 : decode cX5_pose 7 = .ok (.aload 4, 2) := by decide +kernel
theorem dX5_pose_9 : decode cX5_pose 9 = .ok (.getfield 134, 3) := by decide +kernel
theorem dX5_pose_12 : decode cX5_pose 12 = .ok (.iload_n 2, 1) := by decide +kernel
theorem dX5_pose_13 : decode cX5_pose 13 = .ok (.invokestatic 138, 3) := by decide +kernel
theorem dX5_pose_16 : decode cX5_pose 16 = .ok (.aload 4, 2) := by decide +kernel
theorem dX5_pose_18 : decode cX5_pose 18 = .ok (.iload_n 3, 1) := by decide +kernel
theorem dX5_pose_19 : decode cX5_pose 19 = .ok (.invokestatic 249, 3) := by decide +kernel
theorem dX5_pose_22 : decode cX5_pose 22 = .ok (.aload 4, 2) := by decide +kernel
theorem dX5_pose_24 : decode cX5_pose 24 = .ok (.getfield 182, 3) := by decide +kernel
theorem dX5_pose_27 : decode cX5_pose 27 = .ok (.getfield 252, 3) := by decide +kernel
theorem dX5_pose_30 : decode cX5_pose 30 = .ok (.iload_n 2, 1) := by decide +kernel
theorem dX5_pose_31 : decode cX5_pose 31 = .ok (.aaload, 1) := by decide +kernel
theorem dX5_pose_32 : decode cX5_pose 32 = .ok (.iload_n 3, 1) := by decide +kernel
theorem dX5_pose_33 : decode cX5_pose 33 = .ok (.iaload, 1) := by decide +kernel
theorem dX5_pose_34 : decode cX5_pose 34 = .ok (.ireturn, 1) := by decide +kernel
theorem dX5_ofFrame_0 : decode cX5_ofFrame 0 = .ok (.aload_n 0, 1) := by decide +kernel
theorem dX5_ofFrame_1 : decode cX5_ofFrame 1 = .ok (.iload_n 1, 1) := by decide +kernel
theorem dX5_ofFrame_2 : decode cX5_ofFrame 2 = .ok (.invokevirtual 106, 3) := by decide +kernel
theorem dX5_ofFrame_5 : decode cX5_ofFrame 5 = .ok (.astore 4, 2) := by decide +kernel
theorem dX5_ofFrame_7 : decode cX5_ofFrame 7 = .ok (.aload 4, 2) := by decide +kernel
theorem dX5_ofFrame_9 : decode cX5_ofFrame 9 = .ok (.iload_n 2, 1) := by decide +kernel
theorem dX5_ofFrame_10 : decode cX5_ofFrame 10 = .ok (.invokestatic 249, 3) := by decide +kernel
theorem dX5_ofFrame_13 : decode cX5_ofFrame 13 = .ok (.iload_n 3, 1) := by decide +kernel
theorem dX5_ofFrame_14 : decode cX5_ofFrame 14 = .ok (.iconst 0, 1) := by decide +kernel
theorem dX5_ofFrame_15 : decode cX5_ofFrame 15 = .ok (.iconst 3, 1) := by decide +kernel
theorem dX5_ofFrame_16 : decode cX5_ofFrame 16 = .ok (.invokestatic 59, 3) := by decide +kernel
theorem dX5_ofFrame_19 : decode cX5_ofFrame 19 = .ok (.iload_n 3, 1) := by decide +kernel
theorem dX5_ofFrame_20 : decode cX5_ofFrame 20 = .ok (.tableswitch 61 0 2 #[28, 39, 50], 28) := by decide +kernel
theorem dX5_ofFrame_48 : decode cX5_ofFrame 48 = .ok (.aload 4, 2) := by decide +kernel
theorem dX5_ofFrame_50 : decode cX5_ofFrame 50 = .ok (.getfield 182, 3) := by decide +kernel
theorem dX5_ofFrame_53 : decode cX5_ofFrame 53 = .ok (.getfield 256, 3) := by decide +kernel
theorem dX5_ofFrame_56 : decode cX5_ofFrame 56 = .ok (.iload_n 2, 1) := by decide +kernel
theorem dX5_ofFrame_57 : decode cX5_ofFrame 57 = .ok (.iaload, 1) := by decide +kernel
theorem dX5_ofFrame_58 : decode cX5_ofFrame 58 = .ok (.ireturn, 1) := by decide +kernel
theorem dX5_ofFrame_59 : decode cX5_ofFrame 59 = .ok (.aload 4, 2) := by decide +kernel
theorem dX5_ofFrame_61 : decode cX5_ofFrame 61 = .ok (.getfield 182, 3) := by decide +kernel
theorem dX5_ofFrame_64 : decode cX5_ofFrame 64 = .ok (.getfield 259, 3) := by decide +kernel
theorem dX5_ofFrame_67 : decode cX5_ofFrame 67 = .ok (.iload_n 2, 1) := by decide +kernel
theorem dX5_ofFrame_68 : decode cX5_ofFrame 68 = .ok (.iaload, 1) := by decide +kernel
theorem dX5_ofFrame_69 : decode cX5_ofFrame 69 = .ok (.ireturn, 1) := by decide +kernel
theorem dX5_ofFrame_70 : decode cX5_ofFrame 70 = .ok (.aload 4, 2) := by decide +kernel
theorem dX5_ofFrame_72 : decode cX5_ofFrame 72 = .ok (.getfield 182, 3) := by decide +kernel
theorem dX5_ofFrame_75 : decode cX5_ofFrame 75 = .ok (.getfield 262, 3) := by decide +kernel
theorem dX5_ofFrame_78 : decode cX5_ofFrame 78 = .ok (.iload_n 2, 1) := by decide +kernel
theorem dX5_ofFrame_79 : decode cX5_ofFrame 79 = .ok (.iaload, 1) := by decide +kernel
theorem dX5_ofFrame_80 : decode cX5_ofFrame 80 = .ok (.ireturn, 1) := by decide +kernel
theorem dX5_ofFrame_81 : decode cX5_ofFrame 81 = .ok (.aload 4, 2) := by decide +kernel
theorem dX5_ofFrame_83 : decode cX5_ofFrame 83 = .ok (.getfield 182, 3) := by decide +kernel
theorem dX5_ofFrame_86 : decode cX5_ofFrame 86 = .ok (.getfield 265, 3) := by decide +kernel
theorem dX5_ofFrame_89 : decode cX5_ofFrame 89 = .ok (.iload_n 2, 1) := by decide +kernel
theorem dX5_ofFrame_90 : decode cX5_ofFrame 90 = .ok (.iaload, 1) := by decide +kernel
theorem dX5_ofFrame_91 : decode cX5_ofFrame 91 = .ok (.ireturn, 1) := by decide +kernel
theorem dX5_faults_0 : decode cX5_faults 0 = .ok (.aload_n 0, 1) := by decide +kernel
theorem dX5_faults_1 : decode cX5_faults 1 = .ok (.iload_n 1, 1) := by decide +kernel
theorem dX5_faults_2 : decode cX5_faults 2 = .ok (.invokevirtual 106, 3) := by decide +kernel
theorem dX5_faults_5 : decode cX5_faults 5 = .ok (.astore_n 3, 1) := by decide +kernel
theorem dX5_faults_6 : decode cX5_faults 6 = .ok (.aload_n 3, 1) := by decide +kernel
theorem dX5_faults_7 : decode cX5_faults 7 = .ok (.iload_n 2, 1) := by decide +kernel
theorem dX5_faults_8 : decode cX5_faults 8 = .ok (.invokestatic 249, 3) := by decide +kernel
theorem dX5_faults_11 : decode cX5_faults 11 = .ok (.aload_n 3, 1) := by decide +kernel
theorem dX5_faults_12 : decode cX5_faults 12 = .ok (.getfield 182, 3) := by decide +kernel
theorem dX5_faults_15 : decode cX5_faults 15 = .ok (.astore 4, 2) := by decide +kernel
theorem dX5_faults_17 : decode cX5_faults 17 = .ok (.aload_n 3, 1) := by decide +kernel
theorem dX5_faults_18 : decode cX5_faults 18 = .ok (.iload_n 2, 1) := by decide +kernel
theorem dX5_faults_19 : decode cX5_faults 19 = .ok (.invokevirtual 268, 3) := by decide +kernel
theorem dX5_faults_22 : decode cX5_faults 22 = .ok (.ifCond .eq 7, 3) := by decide +kernel
theorem dX5_faults_25 : decode cX5_faults 25 = .ok (.iconst 0, 1) := by decide +kernel
theorem dX5_faults_26 : decode cX5_faults 26 = .ok (.goto 4, 3) := by decide +kernel
theorem dX5_faults_29 : decode cX5_faults 29 = .ok (.iconst 1, 1) := by decide +kernel
theorem dX5_faults_30 : decode cX5_faults 30 = .ok (.istore 5, 2) := by decide +kernel
theorem dX5_faults_32 : decode cX5_faults 32 = .ok (.aload 4, 2) := by decide +kernel
theorem dX5_faults_34 : decode cX5_faults 34 = .ok (.getfield 256, 3) := by decide +kernel
theorem dX5_faults_37 : decode cX5_faults 37 = .ok (.iload_n 2, 1) := by decide +kernel
theorem dX5_faults_38 : decode cX5_faults 38 = .ok (.iaload, 1) := by decide +kernel
theorem dX5_faults_39 : decode cX5_faults 39 = .ok (.aload_n 0, 1) := by decide +kernel
theorem dX5_faults_40 : decode cX5_faults 40 = .ok (.aload_n 3, 1) := by decide +kernel
theorem dX5_faults_41 : decode cX5_faults 41 = .ok (.iload_n 2, 1) := by decide +kernel
theorem dX5_faults_42 : decode cX5_faults 42 = .ok (.invokevirtual 231, 3) := by decide +kernel
theorem dX5_faults_45 : decode cX5_faults 45 = .ok (.if_icmp .eq 9, 3) := by decide +kernel
theorem dX5_faults_48 : decode cX5_faults 48 = .ok (.iload 5, 2) := by decide +kernel
theorem dX5_faults_50 : decode cX5_faults 50 = .ok (.iconst 2, 1) := by decide +kernel
theorem dX5_faults_51 : decode cX5_faults 51 = .ok (.ior, 1) := by decide +kernel
theorem dX5_faults_52 : decode cX5_faults 52 = .ok (.istore 5, 2) := by decide +kernel
theorem dX5_faults_54 : decode cX5_faults 54 = .ok (.aload 4, 2) := by decide +kernel
theorem dX5_faults_56 : decode cX5_faults 56 = .ok (.getfield 265, 3) := by decide +kernel
theorem dX5_faults_59 : decode cX5_faults 59 = .ok (.iload_n 2, 1) := by decide +kernel
theorem dX5_faults_60 : decode cX5_faults 60 = .ok (.iaload, 1) := by decide +kernel
theorem dX5_faults_61 : decode cX5_faults 61 = .ok (.ifCond .eq 9, 3) := by decide +kernel
theorem dX5_faults_64 : decode cX5_faults 64 = .ok (.iload 5, 2) := by decide +kernel
theorem dX5_faults_66 : decode cX5_faults 66 = .ok (.iconst 4, 1) := by decide +kernel
theorem dX5_faults_67 : decode cX5_faults 67 = .ok (.ior, 1) := by decide +kernel
theorem dX5_faults_68 : decode cX5_faults 68 = .ok (.istore 5, 2) := by decide +kernel
theorem dX5_faults_70 : decode cX5_faults 70 = .ok (.iload_n 2, 1) := by decide +kernel
theorem dX5_faults_71 : decode cX5_faults 71 = .ok (.ifCond .le 35, 3) := by decide +kernel
theorem dX5_faults_74 : decode cX5_faults 74 = .ok (.aload 4, 2) := by decide +kernel
theorem dX5_faults_76 : decode cX5_faults 76 = .ok (.getfield 262, 3) := by decide +kernel
theorem dX5_faults_79 : decode cX5_faults 79 = .ok (.iload_n 2, 1) := by decide +kernel
theorem dX5_faults_80 : decode cX5_faults 80 = .ok (.iaload, 1) := by decide +kernel
theorem dX5_faults_81 : decode cX5_faults 81 = .ok (.aload 4, 2) := by decide +kernel
theorem dX5_faults_83 : decode cX5_faults 83 = .ok (.getfield 262, 3) := by decide +kernel
theorem dX5_faults_86 : decode cX5_faults 86 = .ok (.iload_n 2, 1) := by decide +kernel
theorem dX5_faults_87 : decode cX5_faults 87 = .ok (.iconst 1, 1) := by decide +kernel
theorem dX5_faults_88 : decode cX5_faults 88 = .ok (.isub, 1) := by decide +kernel
theorem dX5_faults_89 : decode cX5_faults 89 = .ok (.iaload, 1) := by decide +kernel
theorem dX5_faults_90 : decode cX5_faults 90 = .ok (.isub, 1) := by decide +kernel
theorem dX5_faults_91 : decode cX5_faults 91 = .ok (.invokestatic 244, 3) := by decide +kernel
theorem dX5_faults_94 : decode cX5_faults 94 = .ok (.bipush 20, 2) := by decide +kernel
theorem dX5_faults_96 : decode cX5_faults 96 = .ok (.if_icmp .le 10, 3) := by decide +kernel
theorem dX5_faults_99 : decode cX5_faults 99 = .ok (.iload 5, 2) := by decide +kernel
theorem dX5_faults_101 : decode cX5_faults 101 = .ok (.bipush 8, 2) := by decide +kernel
theorem dX5_faults_103 : decode cX5_faults 103 = .ok (.ior, 1) := by decide +kernel
theorem dX5_faults_104 : decode cX5_faults 104 = .ok (.istore 5, 2) := by decide +kernel
theorem dX5_faults_106 : decode cX5_faults 106 = .ok (.aload 4, 2) := by decide +kernel
theorem dX5_faults_108 : decode cX5_faults 108 = .ok (.getfield 259, 3) := by decide +kernel
theorem dX5_faults_111 : decode cX5_faults 111 = .ok (.iload_n 2, 1) := by decide +kernel
theorem dX5_faults_112 : decode cX5_faults 112 = .ok (.iaload, 1) := by decide +kernel
theorem dX5_faults_113 : decode cX5_faults 113 = .ok (.aload_n 3, 1) := by decide +kernel
theorem dX5_faults_114 : decode cX5_faults 114 = .ok (.getfield 167, 3) := by decide +kernel
theorem dX5_faults_117 : decode cX5_faults 117 = .ok (.iload_n 2, 1) := by decide +kernel
theorem dX5_faults_118 : decode cX5_faults 118 = .ok (.invokevirtual 171, 3) := by decide +kernel
theorem dX5_faults_121 : decode cX5_faults 121 = .ok (.if_icmp .eq 10, 3) := by decide +kernel
theorem dX5_faults_124 : decode cX5_faults 124 = .ok (.iload 5, 2) := by decide +kernel
theorem dX5_faults_126 : decode cX5_faults 126 = .ok (.bipush 16, 2) := by decide +kernel
theorem dX5_faults_128 : decode cX5_faults 128 = .ok (.ior, 1) := by decide +kernel
theorem dX5_faults_129 : decode cX5_faults 129 = .ok (.istore 5, 2) := by decide +kernel
theorem dX5_faults_131 : decode cX5_faults 131 = .ok (.iload 5, 2) := by decide +kernel
theorem dX5_faults_133 : decode cX5_faults 133 = .ok (.ireturn, 1) := by decide +kernel
theorem dX5_ofJoint_0 : decode cX5_ofJoint 0 = .ok (.aload_n 0, 1) := by decide +kernel
theorem dX5_ofJoint_1 : decode cX5_ofJoint 1 = .ok (.iload_n 1, 1) := by decide +kernel
theorem dX5_ofJoint_2 : decode cX5_ofJoint 2 = .ok (.invokevirtual 73, 3) := by decide +kernel
theorem dX5_ofJoint_5 : decode cX5_ofJoint 5 = .ok (.astore 4, 2) := by decide +kernel
theorem dX5_ofJoint_7 : decode cX5_ofJoint 7 = .ok (.aload 4, 2) := by decide +kernel
theorem dX5_ofJoint_9 : decode cX5_ofJoint 9 = .ok (.iload_n 2, 1) := by decide +kernel
theorem dX5_ofJoint_10 : decode cX5_ofJoint 10 = .ok (.invokestatic 138, 3) := by decide +kernel
theorem dX5_ofJoint_13 : decode cX5_ofJoint 13 = .ok (.iload_n 3, 1) := by decide +kernel
theorem dX5_ofJoint_14 : decode cX5_ofJoint 14 = .ok (.iconst 0, 1) := by decide +kernel
theorem dX5_ofJoint_15 : decode cX5_ofJoint 15 = .ok (.iconst 1, 1) := by decide +kernel
theorem dX5_ofJoint_16 : decode cX5_ofJoint 16 = .ok (.invokestatic 59, 3) := by decide +kernel
theorem dX5_ofJoint_19 : decode cX5_ofJoint 19 = .ok (.iload_n 3, 1) := by decide +kernel
theorem dX5_ofJoint_20 : decode cX5_ofJoint 20 = .ok (.ifCond .ne 13, 3) := by decide +kernel
theorem dX5_ofJoint_23 : decode cX5_ofJoint 23 = .ok (.aload 4, 2) := by decide +kernel
theorem dX5_ofJoint_25 : decode cX5_ofJoint 25 = .ok (.getfield 238, 3) := by decide +kernel
theorem dX5_ofJoint_28 : decode cX5_ofJoint 28 = .ok (.iload_n 2, 1) := by decide +kernel
theorem dX5_ofJoint_29 : decode cX5_ofJoint 29 = .ok (.iaload, 1) := by decide +kernel
theorem dX5_ofJoint_30 : decode cX5_ofJoint 30 = .ok (.goto 10, 3) := by decide +kernel
theorem dX5_ofJoint_33 : decode cX5_ofJoint 33 = .ok (.aload 4, 2) := by decide +kernel
theorem dX5_ofJoint_35 : decode cX5_ofJoint 35 = .ok (.getfield 218, 3) := by decide +kernel
theorem dX5_ofJoint_38 : decode cX5_ofJoint 38 = .ok (.iload_n 2, 1) := by decide +kernel
theorem dX5_ofJoint_39 : decode cX5_ofJoint 39 = .ok (.iaload, 1) := by decide +kernel
theorem dX5_ofJoint_40 : decode cX5_ofJoint 40 = .ok (.ireturn, 1) := by decide +kernel
theorem dX5_left_0 : decode cX5_left 0 = .ok (.aload_n 0, 1) := by decide +kernel
theorem dX5_left_1 : decode cX5_left 1 = .ok (.iload_n 1, 1) := by decide +kernel
theorem dX5_left_2 : decode cX5_left 2 = .ok (.invokevirtual 73, 3) := by decide +kernel
theorem dX5_left_5 : decode cX5_left 5 = .ok (.astore_n 3, 1) := by decide +kernel
theorem dX5_left_6 : decode cX5_left 6 = .ok (.iload_n 2, 1) := by decide +kernel
theorem dX5_left_7 : decode cX5_left 7 = .ok (.invokestatic 77, 3) := by decide +kernel
theorem dX5_left_10 : decode cX5_left 10 = .ok (.aload_n 3, 1) := by decide +kernel
theorem dX5_left_11 : decode cX5_left 11 = .ok (.getfield 80, 3) := by decide +kernel
theorem dX5_left_14 : decode cX5_left 14 = .ok (.iload_n 2, 1) := by decide +kernel
theorem dX5_left_15 : decode cX5_left 15 = .ok (.iaload, 1) := by decide +kernel
theorem dX5_left_16 : decode cX5_left 16 = .ok (.ireturn, 1) := by decide +kernel
theorem dX5_light_0 : decode cX5_light 0 = .ok (.aload_n 0, 1) := by decide +kernel
theorem dX5_light_1 : decode cX5_light 1 = .ok (.invokevirtual 195, 3) := by decide +kernel
theorem dX5_light_4 : decode cX5_light 4 = .ok (.ireturn, 1) := by decide +kernel
theorem dX5_film_0 : decode cX5_film 0 = .ok (.iload_n 1, 1) := by decide +kernel
theorem dX5_film_1 : decode cX5_film 1 = .ok (.ifCond .ge 14, 3) := by decide +kernel
theorem dX5_film_4 : decode cX5_film 4 = .ok (.new 271, 3) := by decide +kernel
theorem dX5_film_7 : decode cX5_film 7 = .ok (.dup, 1) := by decide +kernel
theorem dX5_film_8 : decode cX5_film 8 = .ok (.ldc_w 273, 3) := by decide +kernel
theorem dX5_film_11 : decode cX5_film 11 = .ok (.invokespecial 275, 3) := by decide +kernel
theorem dX5_film_14 : decode cX5_film 14 = .ok (.athrow, 1) := by decide +kernel
theorem dX5_film_15 : decode cX5_film 15 = .ok (.iconst 0, 1) := by decide +kernel
theorem dX5_film_16 : decode cX5_film 16 = .ok (.istore_n 2, 1) := by decide +kernel
theorem dX5_film_17 : decode cX5_film 17 = .ok (.iconst 0, 1) := by decide +kernel
theorem dX5_film_18 : decode cX5_film 18 = .ok (.istore_n 3, 1) := by decide +kernel
theorem dX5_film_19 : decode cX5_film 19 = .ok (.iload_n 3, 1) := by decide +kernel
theorem dX5_film_20 : decode cX5_film 20 = .ok (.aload_n 0, 1) := by decide +kernel
theorem dX5_film_21 : decode cX5_film 21 = .ok (.getfield 50, 3) := by decide +kernel
theorem dX5_film_24 : decode cX5_film 24 = .ok (.if_icmp .ge 52, 3) := by decide +kernel
theorem dX5_film_27 : decode cX5_film 27 = .ok (.aload_n 0, 1) := by decide +kernel
theorem dX5_film_28 : decode cX5_film 28 = .ok (.getfield 35, 3) := by decide +kernel
theorem dX5_film_31 : decode cX5_film 31 = .ok (.aload_n 0, 1) := by decide +kernel
theorem dX5_film_32 : decode cX5_film 32 = .ok (.getfield 46, 3) := by decide +kernel
theorem dX5_film_35 : decode cX5_film 35 = .ok (.iload_n 3, 1) := by decide +kernel
theorem dX5_film_36 : decode cX5_film 36 = .ok (.iaload, 1) := by decide +kernel
theorem dX5_film_37 : decode cX5_film 37 = .ok (.aaload, 1) := by decide +kernel
theorem dX5_film_38 : decode cX5_film 38 = .ok (.getfield 235, 3) := by decide +kernel
theorem dX5_film_41 : decode cX5_film 41 = .ok (.istore 4, 2) := by decide +kernel
theorem dX5_film_43 : decode cX5_film 43 = .ok (.iload_n 1, 1) := by decide +kernel
theorem dX5_film_44 : decode cX5_film 44 = .ok (.iload_n 2, 1) := by decide +kernel
theorem dX5_film_45 : decode cX5_film 45 = .ok (.isub, 1) := by decide +kernel
theorem dX5_film_46 : decode cX5_film 46 = .ok (.iload 4, 2) := by decide +kernel
theorem dX5_film_48 : decode cX5_film 48 = .ok (.if_icmp .ge 17, 3) := by decide +kernel
theorem dX5_film_51 : decode cX5_film 51 = .ok (.bipush 100, 2) := by decide +kernel
theorem dX5_film_53 : decode cX5_film 53 = .ok (.aload_n 0, 1) := by decide +kernel
theorem dX5_film_54 : decode cX5_film 54 = .ok (.getfield 46, 3) := by decide +kernel
theorem dX5_film_57 : decode cX5_film 57 = .ok (.iload_n 3, 1) := by decide +kernel
theorem dX5_film_58 : decode cX5_film 58 = .ok (.iaload, 1) := by decide +kernel
theorem dX5_film_59 : decode cX5_film 59 = .ok (.imul, 1) := by decide +kernel
theorem dX5_film_60 : decode cX5_film 60 = .ok (.iload_n 1, 1) := by decide +kernel
theorem dX5_film_61 : decode cX5_film 61 = .ok (.iadd, 1) := by decide +kernel
theorem dX5_film_62 : decode cX5_film 62 = .ok (.iload_n 2, 1) := by decide +kernel
theorem dX5_film_63 : decode cX5_film 63 = .ok (.isub, 1) := by decide +kernel
theorem dX5_film_64 : decode cX5_film 64 = .ok (.ireturn, 1) := by decide +kernel
theorem dX5_film_65 : decode cX5_film 65 = .ok (.iload_n 2, 1) := by decide +kernel
theorem dX5_film_66 : decode cX5_film 66 = .ok (.iload 4, 2) := by decide +kernel
theorem dX5_film_68 : decode cX5_film 68 = .ok (.iadd, 1) := by decide +kernel
theorem dX5_film_69 : decode cX5_film 69 = .ok (.istore_n 2, 1) := by decide +kernel
theorem dX5_film_70 : decode cX5_film 70 = .ok (.iinc 3 1, 3) := by decide +kernel
theorem dX5_film_73 : decode cX5_film 73 = .ok (.goto (-54), 3) := by decide +kernel
theorem dX5_film_76 : decode cX5_film 76 = .ok (.iconst (-1), 1) := by decide +kernel
theorem dX5_film_77 : decode cX5_film 77 = .ok (.ireturn, 1) := by decide +kernel
theorem dX5_needRange_0 : decode cX5_needRange 0 = .ok (.iload_n 0, 1) := by decide +kernel
theorem dX5_needRange_1 : decode cX5_needRange 1 = .ok (.iload_n 1, 1) := by decide +kernel
theorem dX5_needRange_2 : decode cX5_needRange 2 = .ok (.if_icmp .lt 8, 3) := by decide +kernel
theorem dX5_needRange_5 : decode cX5_needRange 5 = .ok (.iload_n 0, 1) := by decide +kernel
theorem dX5_needRange_6 : decode cX5_needRange 6 = .ok (.iload_n 2, 1) := by decide +kernel
theorem dX5_needRange_7 : decode cX5_needRange 7 = .ok (.if_icmp .le 14, 3) := by decide +kernel
theorem dX5_needRange_10 : decode cX5_needRange 10 = .ok (.new 276, 3) := by decide +kernel
theorem dX5_needRange_13 : decode cX5_needRange 13 = .ok (.dup, 1) := by decide +kernel
theorem dX5_needRange_14 : decode cX5_needRange 14 = .ok (.ldc_w 278, 3) := by decide +kernel
theorem dX5_needRange_17 : decode cX5_needRange 17 = .ok (.invokespecial 280, 3) := by decide +kernel
theorem dX5_needRange_20 : decode cX5_needRange 20 = .ok (.athrow, 1) := by decide +kernel
theorem dX5_needRange_21 : decode cX5_needRange 21 = .ok (.return_, 1) := by decide +kernel
theorem dX5_needSound_0 : decode cX5_needSound 0 = .ok (.iload_n 0, 1) := by decide +kernel
theorem dX5_needSound_1 : decode cX5_needSound 1 = .ok (.iconst 0, 1) := by decide +kernel
theorem dX5_needSound_2 : decode cX5_needSound 2 = .ok (.bipush 9, 2) := by decide +kernel
theorem dX5_needSound_4 : decode cX5_needSound 4 = .ok (.invokestatic 59, 3) := by decide +kernel
theorem dX5_needSound_7 : decode cX5_needSound 7 = .ok (.return_, 1) := by decide +kernel
theorem dX5_needAnimator_0 : decode cX5_needAnimator 0 = .ok (.iload_n 0, 1) := by decide +kernel
theorem dX5_needAnimator_1 : decode cX5_needAnimator 1 = .ok (.ifCond .lt 8, 3) := by decide +kernel
theorem dX5_needAnimator_4 : decode cX5_needAnimator 4 = .ok (.iload_n 0, 1) := by decide +kernel
theorem dX5_needAnimator_5 : decode cX5_needAnimator 5 = .ok (.iconst 5, 1) := by decide +kernel
theorem dX5_needAnimator_6 : decode cX5_needAnimator 6 = .ok (.if_icmp .lt 14, 3) := by decide +kernel
theorem dX5_needAnimator_9 : decode cX5_needAnimator 9 = .ok (.new 271, 3) := by decide +kernel
theorem dX5_needAnimator_12 : decode cX5_needAnimator 12 = .ok (.dup, 1) := by decide +kernel
theorem dX5_needAnimator_13 : decode cX5_needAnimator 13 = .ok (.ldc_w 281, 3) := by decide +kernel
theorem dX5_needAnimator_16 : decode cX5_needAnimator 16 = .ok (.invokespecial 275, 3) := by decide +kernel
theorem dX5_needAnimator_19 : decode cX5_needAnimator 19 = .ok (.athrow, 1) := by decide +kernel
theorem dX5_needAnimator_20 : decode cX5_needAnimator 20 = .ok (.return_, 1) := by decide +kernel
theorem dX5_needVoiceOrNone_0 : decode cX5_needVoiceOrNone 0 = .ok (.iload_n 1, 1) := by decide +kernel
theorem dX5_needVoiceOrNone_1 : decode cX5_needVoiceOrNone 1 = .ok (.iconst (-1), 1) := by decide +kernel
theorem dX5_needVoiceOrNone_2 : decode cX5_needVoiceOrNone 2 = .ok (.if_icmp .eq 26, 3) := by decide +kernel
theorem dX5_needVoiceOrNone_5 : decode cX5_needVoiceOrNone 5 = .ok (.iload_n 1, 1) := by decide +kernel
theorem dX5_needVoiceOrNone_6 : decode cX5_needVoiceOrNone 6 = .ok (.ifCond .lt 11, 3) := by decide +kernel
theorem dX5_needVoiceOrNone_9 : decode cX5_needVoiceOrNone 9 = .ok (.iload_n 1, 1) := by decide +kernel
theorem dX5_needVoiceOrNone_10 : decode cX5_needVoiceOrNone 10 = .ok (.aload_n 0, 1) := by decide +kernel
theorem dX5_needVoiceOrNone_11 : decode cX5_needVoiceOrNone 11 = .ok (.getfield 25, 3) := by decide +kernel
theorem dX5_needVoiceOrNone_14 : decode cX5_needVoiceOrNone 14 = .ok (.if_icmp .lt 14, 3) := by decide +kernel
theorem dX5_needVoiceOrNone_17 : decode cX5_needVoiceOrNone 17 = .ok (.new 271, 3) := by decide +kernel
theorem dX5_needVoiceOrNone_20 : decode cX5_needVoiceOrNone 20 = .ok (.dup, 1) := by decide +kernel
theorem dX5_needVoiceOrNone_21 : decode cX5_needVoiceOrNone 21 = .ok (.ldc_w 283, 3) := by decide +kernel
theorem dX5_needVoiceOrNone_24 : decode cX5_needVoiceOrNone 24 = .ok (.invokespecial 275, 3) := by decide +kernel
theorem dX5_needVoiceOrNone_27 : decode cX5_needVoiceOrNone 27 = .ok (.athrow, 1) := by decide +kernel
theorem dX5_needVoiceOrNone_28 : decode cX5_needVoiceOrNone 28 = .ok (.return_, 1) := by decide +kernel
theorem dX5_needShot_0 : decode cX5_needShot 0 = .ok (.iload_n 1, 1) := by decide +kernel
theorem dX5_needShot_1 : decode cX5_needShot 1 = .ok (.ifCond .lt 11, 3) := by decide +kernel
theorem dX5_needShot_4 : decode cX5_needShot 4 = .ok (.iload_n 1, 1) := by decide +kernel
theorem dX5_needShot_5 : decode cX5_needShot 5 = .ok (.aload_n 0, 1) := by decide +kernel
theorem dX5_needShot_6 : decode cX5_needShot 6 = .ok (.getfield 39, 3) := by decide +kernel
theorem dX5_needShot_9 : decode cX5_needShot 9 = .ok (.if_icmp .lt 14, 3) := by decide +kernel
theorem dX5_needShot_12 : decode cX5_needShot 12 = .ok (.new 271, 3) := by decide +kernel
theorem dX5_needShot_15 : decode cX5_needShot 15 = .ok (.dup, 1) := by decide +kernel
theorem dX5_needShot_16 : decode cX5_needShot 16 = .ok (.ldc_w 285, 3) := by decide +kernel
theorem dX5_needShot_19 : decode cX5_needShot 19 = .ok (.invokespecial 275, 3) := by decide +kernel
theorem dX5_needShot_22 : decode cX5_needShot 22 = .ok (.athrow, 1) := by decide +kernel
theorem dX5_needShot_23 : decode cX5_needShot 23 = .ok (.return_, 1) := by decide +kernel
theorem dX5_needJoint_0 : decode cX5_needJoint 0 = .ok (.iload_n 1, 1) := by decide +kernel
theorem dX5_needJoint_1 : decode cX5_needJoint 1 = .ok (.ifCond .lt 11, 3) := by decide +kernel
theorem dX5_needJoint_4 : decode cX5_needJoint 4 = .ok (.iload_n 1, 1) := by decide +kernel
theorem dX5_needJoint_5 : decode cX5_needJoint 5 = .ok (.aload_n 0, 1) := by decide +kernel
theorem dX5_needJoint_6 : decode cX5_needJoint 6 = .ok (.getfield 287, 3) := by decide +kernel
theorem dX5_needJoint_9 : decode cX5_needJoint 9 = .ok (.if_icmp .lt 14, 3) := by decide +kernel
theorem dX5_needJoint_12 : decode cX5_needJoint 12 = .ok (.new 271, 3) := by decide +kernel
theorem dX5_needJoint_15 : decode cX5_needJoint 15 = .ok (.dup, 1) := by decide +kernel
theorem dX5_needJoint_16 : decode cX5_needJoint 16 = .ok (.ldc_w 290, 3) := by decide +kernel
theorem dX5_needJoint_19 : decode cX5_needJoint 19 = .ok (.invokespecial 275, 3) := by decide +kernel
theorem dX5_needJoint_22 : decode cX5_needJoint 22 = .ok (.athrow, 1) := by decide +kernel
theorem dX5_needJoint_23 : decode cX5_needJoint 23 = .ok (.return_, 1) := by decide +kernel
theorem dX5_needFrame_0 : decode cX5_needFrame 0 = .ok (.iload_n 1, 1) := by decide +kernel
theorem dX5_needFrame_1 : decode cX5_needFrame 1 = .ok (.ifCond .lt 11, 3) := by decide +kernel
theorem dX5_needFrame_4 : decode cX5_needFrame 4 = .ok (.iload_n 1, 1) := by decide +kernel
theorem dX5_needFrame_5 : decode cX5_needFrame 5 = .ok (.aload_n 0, 1) := by decide +kernel
theorem dX5_needFrame_6 : decode cX5_needFrame 6 = .ok (.getfield 235, 3) := by decide +kernel
theorem dX5_needFrame_9 : decode cX5_needFrame 9 = .ok (.if_icmp .lt 14, 3) := by decide +kernel
theorem dX5_needFrame_12 : decode cX5_needFrame 12 = .ok (.new 271, 3) := by decide +kernel
theorem dX5_needFrame_15 : decode cX5_needFrame 15 = .ok (.dup, 1) := by decide +kernel
theorem dX5_needFrame_16 : decode cX5_needFrame 16 = .ok (.ldc_w 292, 3) := by decide +kernel
theorem dX5_needFrame_19 : decode cX5_needFrame 19 = .ok (.invokespecial 275, 3) := by decide +kernel
theorem dX5_needFrame_22 : decode cX5_needFrame 22 = .ok (.athrow, 1) := by decide +kernel
theorem dX5_needFrame_23 : decode cX5_needFrame 23 = .ok (.return_, 1) := by decide +kernel
theorem dX5_needStruck_0 : decode cX5_needStruck 0 = .ok (.iload_n 1, 1) := by decide +kernel
theorem dX5_needStruck_1 : decode cX5_needStruck 1 = .ok (.ifCond .lt 11, 3) := by decide +kernel
theorem dX5_needStruck_4 : decode cX5_needStruck 4 = .ok (.aload_n 0, 1) := by decide +kernel
theorem dX5_needStruck_5 : decode cX5_needStruck 5 = .ok (.iload_n 1, 1) := by decide +kernel
theorem dX5_needStruck_6 : decode cX5_needStruck 6 = .ok (.invokevirtual 208, 3) := by decide +kernel
theorem dX5_needStruck_9 : decode cX5_needStruck 9 = .ok (.ifCond .ne 14, 3) := by decide +kernel
theorem dX5_needStruck_12 : decode cX5_needStruck 12 = .ok (.new 271, 3) := by decide +kernel
theorem dX5_needStruck_15 : decode cX5_needStruck 15 = .ok (.dup, 1) := by decide +kernel
theorem dX5_needStruck_16 : decode cX5_needStruck 16 = .ok (.ldc_w 294, 3) := by decide +kernel
theorem dX5_needStruck_19 : decode cX5_needStruck 19 = .ok (.invokespecial 275, 3) := by decide +kernel
theorem dX5_needStruck_22 : decode cX5_needStruck 22 = .ok (.athrow, 1) := by decide +kernel
theorem dX5_needStruck_23 : decode cX5_needStruck 23 = .ok (.return_, 1) := by decide +kernel
theorem dX5_needNotStruck_0 : decode cX5_needNotStruck 0 = .ok (.aload_n 0, 1) := by decide +kernel
theorem dX5_needNotStruck_1 : decode cX5_needNotStruck 1 = .ok (.iload_n 1, 1) := by decide +kernel
theorem dX5_needNotStruck_2 : decode cX5_needNotStruck 2 = .ok (.invokevirtual 208, 3) := by decide +kernel
theorem dX5_needNotStruck_5 : decode cX5_needNotStruck 5 = .ok (.ifCond .eq 14, 3) := by decide +kernel
theorem dX5_needNotStruck_8 : decode cX5_needNotStruck 8 = .ok (.new 63, 3) := by decide +kernel
theorem dX5_needNotStruck_11 : decode cX5_needNotStruck 11 = .ok (.dup, 1) := by decide +kernel
theorem dX5_needNotStruck_12 : decode cX5_needNotStruck 12 = .ok (.ldc_w 296, 3) := by decide +kernel
theorem dX5_needNotStruck_15 : decode cX5_needNotStruck 15 = .ok (.invokespecial 67, 3) := by decide +kernel
theorem dX5_needNotStruck_18 : decode cX5_needNotStruck 18 = .ok (.athrow, 1) := by decide +kernel
theorem dX5_needNotStruck_19 : decode cX5_needNotStruck 19 = .ok (.return_, 1) := by decide +kernel
theorem dX5_puppetAt_0 : decode cX5_puppetAt 0 = .ok (.iload_n 1, 1) := by decide +kernel
theorem dX5_puppetAt_1 : decode cX5_puppetAt 1 = .ok (.ifCond .lt 11, 3) := by decide +kernel
theorem dX5_puppetAt_4 : decode cX5_puppetAt 4 = .ok (.iload_n 1, 1) := by decide +kernel
theorem dX5_puppetAt_5 : decode cX5_puppetAt 5 = .ok (.aload_n 0, 1) := by decide +kernel
theorem dX5_puppetAt_6 : decode cX5_puppetAt 6 = .ok (.getfield 15, 3) := by decide +kernel
theorem dX5_puppetAt_9 : decode cX5_puppetAt 9 = .ok (.if_icmp .lt 14, 3) := by decide +kernel
theorem dX5_puppetAt_12 : decode cX5_puppetAt 12 = .ok (.new 271, 3) := by decide +kernel
theorem dX5_puppetAt_15 : decode cX5_puppetAt 15 = .ok (.dup, 1) := by decide +kernel
theorem dX5_puppetAt_16 : decode cX5_puppetAt 16 = .ok (.ldc_w 298, 3) := by decide +kernel
theorem dX5_puppetAt_19 : decode cX5_puppetAt 19 = .ok (.invokespecial 275, 3) := by decide +kernel
theorem dX5_puppetAt_22 : decode cX5_puppetAt 22 = .ok (.athrow, 1) := by decide +kernel
theorem dX5_puppetAt_23 : decode cX5_puppetAt 23 = .ok (.aload_n 0, 1) := by decide +kernel
theorem dX5_puppetAt_24 : decode cX5_puppetAt 24 = .ok (.getfield 11, 3) := by decide +kernel
theorem dX5_puppetAt_27 : decode cX5_puppetAt 27 = .ok (.iload_n 1, 1) := by decide +kernel
theorem dX5_puppetAt_28 : decode cX5_puppetAt 28 = .ok (.aaload, 1) := by decide +kernel
theorem dX5_puppetAt_29 : decode cX5_puppetAt 29 = .ok (.areturn, 1) := by decide +kernel
theorem dX5_shotAt_0 : decode cX5_shotAt 0 = .ok (.aload_n 0, 1) := by decide +kernel
theorem dX5_shotAt_1 : decode cX5_shotAt 1 = .ok (.iload_n 1, 1) := by decide +kernel
theorem dX5_shotAt_2 : decode cX5_shotAt 2 = .ok (.invokevirtual 226, 3) := by decide +kernel
theorem dX5_shotAt_5 : decode cX5_shotAt 5 = .ok (.aload_n 0, 1) := by decide +kernel
theorem dX5_shotAt_6 : decode cX5_shotAt 6 = .ok (.getfield 35, 3) := by decide +kernel
theorem dX5_shotAt_9 : decode cX5_shotAt 9 = .ok (.iload_n 1, 1) := by decide +kernel
theorem dX5_shotAt_10 : decode cX5_shotAt 10 = .ok (.aaload, 1) := by decide +kernel
theorem dX5_shotAt_11 : decode cX5_shotAt 11 = .ok (.areturn, 1) := by decide +kernel
theorem dX5_isIll_0 : decode cX5_isIll 0 = .ok (.iload_n 1, 1) := by decide +kernel
theorem dX5_isIll_1 : decode cX5_isIll 1 = .ok (.iconst (-1), 1) := by decide +kernel
theorem dX5_isIll_2 : decode cX5_isIll 2 = .ok (.if_icmp .eq 16, 3) := by decide +kernel
theorem dX5_isIll_5 : decode cX5_isIll 5 = .ok (.aload_n 0, 1) := by decide +kernel
theorem dX5_isIll_6 : decode cX5_isIll 6 = .ok (.getfield 42, 3) := by decide +kernel
theorem dX5_isIll_9 : decode cX5_isIll 9 = .ok (.iload_n 1, 1) := by decide +kernel
theorem dX5_isIll_10 : decode cX5_isIll 10 = .ok (.baload, 1) := by decide +kernel
theorem dX5_isIll_11 : decode cX5_isIll 11 = .ok (.ifCond .eq 7, 3) := by decide +kernel
theorem dX5_isIll_14 : decode cX5_isIll 14 = .ok (.iconst 1, 1) := by decide +kernel
theorem dX5_isIll_15 : decode cX5_isIll 15 = .ok (.goto 4, 3) := by decide +kernel
theorem dX5_isIll_18 : decode cX5_isIll 18 = .ok (.iconst 0, 1) := by decide +kernel
theorem dX5_isIll_19 : decode cX5_isIll 19 = .ok (.ireturn, 1) := by decide +kernel
theorem dX5_barOf_0 : decode cX5_barOf 0 = .ok (.aload_n 1, 1) := by decide +kernel
theorem dX5_barOf_1 : decode cX5_barOf 1 = .ok (.invokevirtual 113, 3) := by decide +kernel
theorem dX5_barOf_4 : decode cX5_barOf 4 = .ok (.ifCond .eq 6, 3) := by decide +kernel
theorem dX5_barOf_7 : decode cX5_barOf 7 = .ok (.bipush 7, 2) := by decide +kernel
theorem dX5_barOf_9 : decode cX5_barOf 9 = .ok (.ireturn, 1) := by decide +kernel
theorem dX5_barOf_10 : decode cX5_barOf 10 = .ok (.aload_n 1, 1) := by decide +kernel
theorem dX5_barOf_11 : decode cX5_barOf 11 = .ok (.getfield 122, 3) := by decide +kernel
theorem dX5_barOf_14 : decode cX5_barOf 14 = .ok (.iconst (-1), 1) := by decide +kernel
theorem dX5_barOf_15 : decode cX5_barOf 15 = .ok (.if_icmp .ne 5, 3) := by decide +kernel
theorem dX5_barOf_18 : decode cX5_barOf 18 = .ok (.iconst 1, 1) := by decide +kernel
theorem dX5_barOf_19 : decode cX5_barOf 19 = .ok (.ireturn, 1) := by decide +kernel
theorem dX5_barOf_20 : decode cX5_barOf 20 = .ok (.aload_n 0, 1) := by decide +kernel
theorem dX5_barOf_21 : decode cX5_barOf 21 = .ok (.aload_n 1, 1) := by decide +kernel
theorem dX5_barOf_22 : decode cX5_barOf 22 = .ok (.getfield 122, 3) := by decide +kernel
theorem dX5_barOf_25 : decode cX5_barOf 25 = .ok (.invokevirtual 125, 3) := by decide +kernel
theorem dX5_barOf_28 : decode cX5_barOf 28 = .ok (.ifCond .eq 5, 3) := by decide +kernel
theorem dX5_barOf_31 : decode cX5_barOf 31 = .ok (.iconst 2, 1) := by decide +kernel
theorem dX5_barOf_32 : decode cX5_barOf 32 = .ok (.ireturn, 1) := by decide +kernel
theorem dX5_barOf_33 : decode cX5_barOf 33 = .ok (.aload_n 0, 1) := by decide +kernel
theorem dX5_barOf_34 : decode cX5_barOf 34 = .ok (.aload_n 1, 1) := by decide +kernel
theorem dX5_barOf_35 : decode cX5_barOf 35 = .ok (.invokevirtual 300, 3) := by decide +kernel
theorem dX5_barOf_38 : decode cX5_barOf 38 = .ok (.ifCond .eq 5, 3) := by decide +kernel
theorem dX5_barOf_41 : decode cX5_barOf 41 = .ok (.iconst 3, 1) := by decide +kernel
theorem dX5_barOf_42 : decode cX5_barOf 42 = .ok (.ireturn, 1) := by decide +kernel
theorem dX5_barOf_43 : decode cX5_barOf 43 = .ok (.aload_n 0, 1) := by decide +kernel
theorem dX5_barOf_44 : decode cX5_barOf 44 = .ok (.aload_n 1, 1) := by decide +kernel
theorem dX5_barOf_45 : decode cX5_barOf 45 = .ok (.invokevirtual 304, 3) := by decide +kernel
theorem dX5_barOf_48 : decode cX5_barOf 48 = .ok (.ifCond .eq 5, 3) := by decide +kernel
theorem dX5_barOf_51 : decode cX5_barOf 51 = .ok (.iconst 4, 1) := by decide +kernel
theorem dX5_barOf_52 : decode cX5_barOf 52 = .ok (.ireturn, 1) := by decide +kernel
theorem dX5_barOf_53 : decode cX5_barOf 53 = .ok (.aload_n 1, 1) := by decide +kernel
theorem dX5_barOf_54 : decode cX5_barOf 54 = .ok (.aload_n 1, 1) := by decide +kernel
theorem dX5_barOf_55 : decode cX5_barOf 55 = .ok (.getfield 182, 3) := by decide +kernel
theorem dX5_barOf_58 : decode cX5_barOf 58 = .ok (.getfield 186, 3) := by decide +kernel
theorem dX5_barOf_61 : decode cX5_barOf 61 = .ok (.invokevirtual 149, 3) := by decide +kernel
theorem dX5_barOf_64 : decode cX5_barOf 64 = .ok (.ifCond .eq 7, 3) := by decide +kernel
theorem dX5_barOf_67 : decode cX5_barOf 67 = .ok (.iconst 0, 1) := by decide +kernel
theorem dX5_barOf_68 : decode cX5_barOf 68 = .ok (.goto 8, 3) := by decide +kernel
theorem dX5_barOf_71 : decode cX5_barOf 71 = .ok (.aload_n 0, 1) := by decide +kernel
theorem dX5_barOf_72 : decode cX5_barOf 72 = .ok (.aload_n 1, 1) := by decide +kernel
theorem dX5_barOf_73 : decode cX5_barOf 73 = .ok (.invokevirtual 307, 3) := by decide +kernel
theorem dX5_barOf_76 : decode cX5_barOf 76 = .ok (.ireturn, 1) := by decide +kernel
theorem dX5_barOfPosing_0 : decode cX5_barOfPosing 0 = .ok (.aload_n 1, 1) := by decide +kernel
theorem dX5_barOfPosing_1 : decode cX5_barOfPosing 1 = .ok (.getfield 134, 3) := by decide +kernel
theorem dX5_barOfPosing_4 : decode cX5_barOfPosing 4 = .ok (.invokevirtual 310, 3) := by decide +kernel
theorem dX5_barOfPosing_7 : decode cX5_barOfPosing 7 = .ok (.ifCond .eq 5, 3) := by decide +kernel
theorem dX5_barOfPosing_10 : decode cX5_barOfPosing 10 = .ok (.iconst 5, 1) := by decide +kernel
theorem dX5_barOfPosing_11 : decode cX5_barOfPosing 11 = .ok (.ireturn, 1) := by decide +kernel
theorem dX5_barOfPosing_12 : decode cX5_barOfPosing 12 = .ok (.aload_n 0, 1) := by decide +kernel
theorem dX5_barOfPosing_13 : decode cX5_barOfPosing 13 = .ok (.aload_n 1, 1) := by decide +kernel
theorem dX5_barOfPosing_14 : decode cX5_barOfPosing 14 = .ok (.aload_n 1, 1) := by decide +kernel
theorem dX5_barOfPosing_15 : decode cX5_barOfPosing 15 = .ok (.getfield 182, 3) := by decide +kernel
theorem dX5_barOfPosing_18 : decode cX5_barOfPosing 18 = .ok (.getfield 186, 3) := by decide +kernel
theorem dX5_barOfPosing_21 : decode cX5_barOfPosing 21 = .ok (.invokevirtual 313, 3) := by decide +kernel
theorem dX5_barOfPosing_24 : decode cX5_barOfPosing 24 = .ok (.istore_n 2, 1) := by decide +kernel
theorem dX5_barOfPosing_25 : decode cX5_barOfPosing 25 = .ok (.iload_n 2, 1) := by decide +kernel
theorem dX5_barOfPosing_26 : decode cX5_barOfPosing 26 = .ok (.iconst (-1), 1) := by decide +kernel
theorem dX5_barOfPosing_27 : decode cX5_barOfPosing 27 = .ok (.if_icmp .eq 18, 3) := by decide +kernel
theorem dX5_barOfPosing_30 : decode cX5_barOfPosing 30 = .ok (.aload_n 1, 1) := by decide +kernel
theorem dX5_barOfPosing_31 : decode cX5_barOfPosing 31 = .ok (.getfield 134, 3) := by decide +kernel
theorem dX5_barOfPosing_34 : decode cX5_barOfPosing 34 = .ok (.getfield 80, 3) := by decide +kernel
theorem dX5_barOfPosing_37 : decode cX5_barOfPosing 37 = .ok (.iload_n 2, 1) := by decide +kernel
theorem dX5_barOfPosing_38 : decode cX5_barOfPosing 38 = .ok (.iaload, 1) := by decide +kernel
theorem dX5_barOfPosing_39 : decode cX5_barOfPosing 39 = .ok (.ifCond .ne 6, 3) := by decide +kernel
theorem dX5_barOfPosing_42 : decode cX5_barOfPosing 42 = .ok (.bipush 6, 2) := by decide +kernel
theorem dX5_barOfPosing_44 : decode cX5_barOfPosing 44 = .ok (.ireturn, 1) := by decide +kernel
theorem dX5_barOfPosing_45 : decode cX5_barOfPosing 45 = .ok (.iconst 0, 1) := by decide +kernel
theorem dX5_barOfPosing_46 : decode cX5_barOfPosing 46 = .ok (.ireturn, 1) := by decide +kernel
theorem dX5_animatorIsBusy_0 : decode cX5_animatorIsBusy 0 = .ok (.iconst 0, 1) := by decide +kernel
theorem dX5_animatorIsBusy_1 : decode cX5_animatorIsBusy 1 = .ok (.istore_n 2, 1) := by decide +kernel
theorem dX5_animatorIsBusy_2 : decode cX5_animatorIsBusy 2 = .ok (.iload_n 2, 1) := by decide +kernel
theorem dX5_animatorIsBusy_3 : decode cX5_animatorIsBusy 3 = .ok (.aload_n 0, 1) := by decide +kernel
theorem dX5_animatorIsBusy_4 : decode cX5_animatorIsBusy 4 = .ok (.getfield 39, 3) := by decide +kernel
theorem dX5_animatorIsBusy_7 : decode cX5_animatorIsBusy 7 = .ok (.if_icmp .ge 41, 3) := by decide +kernel
theorem dX5_animatorIsBusy_10 : decode cX5_animatorIsBusy 10 = .ok (.aload_n 0, 1) := by decide +kernel
theorem dX5_animatorIsBusy_11 : decode cX5_animatorIsBusy 11 = .ok (.getfield 35, 3) := by decide +kernel
theorem dX5_animatorIsBusy_14 : decode cX5_animatorIsBusy 14 = .ok (.iload_n 2, 1) := by decide +kernel
theorem dX5_animatorIsBusy_15 : decode cX5_animatorIsBusy 15 = .ok (.aaload, 1) := by decide +kernel
theorem dX5_animatorIsBusy_16 : decode cX5_animatorIsBusy 16 = .ok (.astore_n 3, 1) := by decide +kernel
theorem dX5_animatorIsBusy_17 : decode cX5_animatorIsBusy 17 = .ok (.aload_n 3, 1) := by decide +kernel
theorem dX5_animatorIsBusy_18 : decode cX5_animatorIsBusy 18 = .ok (.aload_n 1, 1) := by decide +kernel
theorem dX5_animatorIsBusy_19 : decode cX5_animatorIsBusy 19 = .ok (.if_acmp .eq 23, 3) := by decide +kernel
theorem dX5_animatorIsBusy_22 : decode cX5_animatorIsBusy 22 = .ok (.aload_n 3, 1) := by decide +kernel
theorem dX5_animatorIsBusy_23 : decode cX5_animatorIsBusy 23 = .ok (.invokevirtual 316, 3) := by decide +kernel
theorem dX5_animatorIsBusy_26 : decode cX5_animatorIsBusy 26 = .ok (.ifCond .eq 16, 3) := by decide +kernel
theorem dX5_animatorIsBusy_29 : decode cX5_animatorIsBusy 29 = .ok (.aload_n 3, 1) := by decide +kernel
theorem dX5_animatorIsBusy_30 : decode cX5_animatorIsBusy 30 = .ok (.getfield 122, 3) := by decide +kernel
theorem dX5_animatorIsBusy_33 : decode cX5_animatorIsBusy 33 = .ok (.aload_n 1, 1) := by decide +kernel
theorem dX5_animatorIsBusy_34 : decode cX5_animatorIsBusy 34 = .ok (.getfield 122, 3) := by decide +kernel
theorem dX5_animatorIsBusy_37 : decode cX5_animatorIsBusy 37 = .ok (.if_icmp .ne 5, 3) := by decide +kernel
theorem dX5_animatorIsBusy_40 : decode cX5_animatorIsBusy 40 = .ok (.iconst 1, 1) := by decide +kernel
theorem dX5_animatorIsBusy_41 : decode cX5_animatorIsBusy 41 = .ok (.ireturn, 1) := by decide +kernel
theorem dX5_animatorIsBusy_42 : decode cX5_animatorIsBusy 42 = .ok (.iinc 2 1, 3) := by decide +kernel
theorem dX5_animatorIsBusy_45 : decode cX5_animatorIsBusy 45 = .ok (.goto (-43), 3) := by decide +kernel
theorem dX5_animatorIsBusy_48 : decode cX5_animatorIsBusy 48 = .ok (.iconst 0, 1) := by decide +kernel
theorem dX5_animatorIsBusy_49 : decode cX5_animatorIsBusy 49 = .ok (.ireturn, 1) := by decide +kernel
theorem dX5_puppetIsBusy_0 : decode cX5_puppetIsBusy 0 = .ok (.iconst 0, 1) := by decide +kernel
theorem dX5_puppetIsBusy_1 : decode cX5_puppetIsBusy 1 = .ok (.istore_n 2, 1) := by decide +kernel
theorem dX5_puppetIsBusy_2 : decode cX5_puppetIsBusy 2 = .ok (.iload_n 2, 1) := by decide +kernel
theorem dX5_puppetIsBusy_3 : decode cX5_puppetIsBusy 3 = .ok (.aload_n 0, 1) := by decide +kernel
theorem dX5_puppetIsBusy_4 : decode cX5_puppetIsBusy 4 = .ok (.getfield 39, 3) := by decide +kernel
theorem dX5_puppetIsBusy_7 : decode cX5_puppetIsBusy 7 = .ok (.if_icmp .ge 41, 3) := by decide +kernel
theorem dX5_puppetIsBusy_10 : decode cX5_puppetIsBusy 10 = .ok (.aload_n 0, 1) := by decide +kernel
theorem dX5_puppetIsBusy_11 : decode cX5_puppetIsBusy 11 = .ok (.getfield 35, 3) := by decide +kernel
theorem dX5_puppetIsBusy_14 : decode cX5_puppetIsBusy 14 = .ok (.iload_n 2, 1) := by decide +kernel
theorem dX5_puppetIsBusy_15 : decode cX5_puppetIsBusy 15 = .ok (.aaload, 1) := by decide +kernel
theorem dX5_puppetIsBusy_16 : decode cX5_puppetIsBusy 16 = .ok (.astore_n 3, 1) := by decide +kernel
theorem dX5_puppetIsBusy_17 : decode cX5_puppetIsBusy 17 = .ok (.aload_n 3, 1) := by decide +kernel
theorem dX5_puppetIsBusy_18 : decode cX5_puppetIsBusy 18 = .ok (.aload_n 1, 1) := by decide +kernel
theorem dX5_puppetIsBusy_19 : decode cX5_puppetIsBusy 19 = .ok (.if_acmp .eq 23, 3) := by decide +kernel
theorem dX5_puppetIsBusy_22 : decode cX5_puppetIsBusy 22 = .ok (.aload_n 3, 1) := by decide +kernel
theorem dX5_puppetIsBusy_23 : decode cX5_puppetIsBusy 23 = .ok (.invokevirtual 316, 3) := by decide +kernel
theorem dX5_puppetIsBusy_26 : decode cX5_puppetIsBusy 26 = .ok (.ifCond .eq 16, 3) := by decide +kernel
theorem dX5_puppetIsBusy_29 : decode cX5_puppetIsBusy 29 = .ok (.aload_n 3, 1) := by decide +kernel
theorem dX5_puppetIsBusy_30 : decode cX5_puppetIsBusy 30 = .ok (.getfield 134, 3) := by decide +kernel
theorem dX5_puppetIsBusy_33 : decode cX5_puppetIsBusy 33 = .ok (.aload_n 1, 1) := by decide +kernel
theorem dX5_puppetIsBusy_34 : decode cX5_puppetIsBusy 34 = .ok (.getfield 134, 3) := by decide +kernel
theorem dX5_puppetIsBusy_37 : decode cX5_puppetIsBusy 37 = .ok (.if_acmp .ne 5, 3) := by decide +kernel
theorem dX5_puppetIsBusy_40 : decode cX5_puppetIsBusy 40 = .ok (.iconst 1, 1) := by decide +kernel
theorem dX5_puppetIsBusy_41 : decode cX5_puppetIsBusy 41 = .ok (.ireturn, 1) := by decide +kernel
theorem dX5_puppetIsBusy_42 : decode cX5_puppetIsBusy 42 = .ok (.iinc 2 1, 3) := by decide +kernel
theorem dX5_puppetIsBusy_45 : decode cX5_puppetIsBusy 45 = .ok (.goto (-43), 3) := by decide +kernel
theorem dX5_puppetIsBusy_48 : decode cX5_puppetIsBusy 48 = .ok (.iconst 0, 1) := by decide +kernel
theorem dX5_puppetIsBusy_49 : decode cX5_puppetIsBusy 49 = .ok (.ireturn, 1) := by decide +kernel
theorem dX5_refuseBarred_0 : decode cX5_refuseBarred 0 = .ok (.iload_n 0, 1) := by decide +kernel
theorem dX5_refuseBarred_1 : decode cX5_refuseBarred 1 = .ok (.tableswitch 99 0 6 #[43, 44, 55, 66, 66, 77, 88], 43) := by decide +kernel
theorem dX5_refuseBarred_44 : decode cX5_refuseBarred 44 = .ok (.return_, 1) := by decide +kernel
theorem dX5_refuseBarred_45 : decode cX5_refuseBarred 45 = .ok (.new 63, 3) := by decide +kernel
theorem dX5_refuseBarred_48 : decode cX5_refuseBarred 48 = .ok (.dup, 1) := by decide +kernel
theorem dX5_refuseBarred_49 : decode cX5_refuseBarred 49 = .ok (.ldc_w 319, 3) := by decide +kernel
theorem dX5_refuseBarred_52 : decode cX5_refuseBarred 52 = .ok (.invokespecial 67, 3) := by decide +kernel
theorem dX5_refuseBarred_55 : decode cX5_refuseBarred 55 = .ok (.athrow, 1) := by decide +kernel
theorem dX5_refuseBarred_56 : decode cX5_refuseBarred 56 = .ok (.new 63, 3) := by decide +kernel
theorem dX5_refuseBarred_59 : decode cX5_refuseBarred 59 = .ok (.dup, 1) := by decide +kernel
theorem dX5_refuseBarred_60 : decode cX5_refuseBarred 60 = .ok (.ldc_w 321, 3) := by decide +kernel
theorem dX5_refuseBarred_63 : decode cX5_refuseBarred 63 = .ok (.invokespecial 67, 3) := by decide +kernel
theorem dX5_refuseBarred_66 : decode cX5_refuseBarred 66 = .ok (.athrow, 1) := by decide +kernel
theorem dX5_refuseBarred_67 : decode cX5_refuseBarred 67 = .ok (.new 63, 3) := by decide +kernel
theorem dX5_refuseBarred_70 : decode cX5_refuseBarred 70 = .ok (.dup, 1) := by decide +kernel
theorem dX5_refuseBarred_71 : decode cX5_refuseBarred 71 = .ok (.ldc_w 323, 3) := by decide +kernel
theorem dX5_refuseBarred_74 : decode cX5_refuseBarred 74 = .ok (.invokespecial 67, 3) := by decide +kernel
theorem dX5_refuseBarred_77 : decode cX5_refuseBarred 77 = .ok (.athrow, 1) := by decide +kernel
theorem dX5_refuseBarred_78 : decode cX5_refuseBarred 78 = .ok (.new 63, 3) := by decide +kernel
theorem dX5_refuseBarred_81 : decode cX5_refuseBarred 81 = .ok (.dup, 1) := by decide +kernel
theorem dX5_refuseBarred_82 : decode cX5_refuseBarred 82 = .ok (.ldc_w 325, 3) := by decide +kernel
theorem dX5_refuseBarred_85 : decode cX5_refuseBarred 85 = .ok (.invokespecial 67, 3) := by decide +kernel
theorem dX5_refuseBarred_88 : decode cX5_refuseBarred 88 = .ok (.athrow, 1) := by decide +kernel
theorem dX5_refuseBarred_89 : decode cX5_refuseBarred 89 = .ok (.new 63, 3) := by decide +kernel
theorem dX5_refuseBarred_92 : decode cX5_refuseBarred 92 = .ok (.dup, 1) := by decide +kernel
theorem dX5_refuseBarred_93 : decode cX5_refuseBarred 93 = .ok (.ldc_w 327, 3) := by decide +kernel
theorem dX5_refuseBarred_96 : decode cX5_refuseBarred 96 = .ok (.invokespecial 67, 3) := by decide +kernel
theorem dX5_refuseBarred_99 : decode cX5_refuseBarred 99 = .ok (.athrow, 1) := by decide +kernel
theorem dX5_refuseBarred_100 : decode cX5_refuseBarred 100 = .ok (.new 63, 3) := by decide +kernel
theorem dX5_refuseBarred_103 : decode cX5_refuseBarred 103 = .ok (.dup, 1) := by decide +kernel
theorem dX5_refuseBarred_104 : decode cX5_refuseBarred 104 = .ok (.ldc 117, 2) := by decide +kernel
theorem dX5_refuseBarred_106 : decode cX5_refuseBarred 106 = .ok (.invokespecial 67, 3) := by decide +kernel
theorem dX5_refuseBarred_109 : decode cX5_refuseBarred 109 = .ok (.athrow, 1) := by decide +kernel
theorem dX5_poseNext_0 : decode cX5_poseNext 0 = .ok (.aload_n 0, 1) := by decide +kernel
theorem dX5_poseNext_1 : decode cX5_poseNext 1 = .ok (.aload_n 1, 1) := by decide +kernel
theorem dX5_poseNext_2 : decode cX5_poseNext 2 = .ok (.iload_n 2, 1) := by decide +kernel
theorem dX5_poseNext_3 : decode cX5_poseNext 3 = .ok (.invokevirtual 313, 3) := by decide +kernel
theorem dX5_poseNext_6 : decode cX5_poseNext 6 = .ok (.istore_n 3, 1) := by decide +kernel
theorem dX5_poseNext_7 : decode cX5_poseNext 7 = .ok (.iload_n 3, 1) := by decide +kernel
theorem dX5_poseNext_8 : decode cX5_poseNext 8 = .ok (.iconst (-1), 1) := by decide +kernel
theorem dX5_poseNext_9 : decode cX5_poseNext 9 = .ok (.if_icmp .eq 16, 3) := by decide +kernel
theorem dX5_poseNext_12 : decode cX5_poseNext 12 = .ok (.aload_n 1, 1) := by decide +kernel
theorem dX5_poseNext_13 : decode cX5_poseNext 13 = .ok (.getfield 134, 3) := by decide +kernel
theorem dX5_poseNext_16 : decode cX5_poseNext 16 = .ok (.getfield 80, 3) := by decide +kernel
theorem dX5_poseNext_19 : decode cX5_poseNext 19 = .ok (.iload_n 3, 1) := by decide +kernel
theorem dX5_poseNext_20 : decode cX5_poseNext 20 = .ok (.dup2, 1) := by decide +kernel
theorem dX5_poseNext_21 : decode cX5_poseNext 21 = .ok (.iaload, 1) := by decide +kernel
theorem dX5_poseNext_22 : decode cX5_poseNext 22 = .ok (.iconst 1, 1) := by decide +kernel
theorem dX5_poseNext_23 : decode cX5_poseNext 23 = .ok (.isub, 1) := by decide +kernel
theorem dX5_poseNext_24 : decode cX5_poseNext 24 = .ok (.iastore, 1) := by decide +kernel
theorem dX5_poseNext_25 : decode cX5_poseNext 25 = .ok (.aload_n 1, 1) := by decide +kernel
theorem dX5_poseNext_26 : decode cX5_poseNext 26 = .ok (.getfield 182, 3) := by decide +kernel
theorem dX5_poseNext_29 : decode cX5_poseNext 29 = .ok (.getfield 256, 3) := by decide +kernel
theorem dX5_poseNext_32 : decode cX5_poseNext 32 = .ok (.iload_n 2, 1) := by decide +kernel
theorem dX5_poseNext_33 : decode cX5_poseNext 33 = .ok (.aload_n 0, 1) := by decide +kernel
theorem dX5_poseNext_34 : decode cX5_poseNext 34 = .ok (.aload_n 1, 1) := by decide +kernel
theorem dX5_poseNext_35 : decode cX5_poseNext 35 = .ok (.iload_n 2, 1) := by decide +kernel
theorem dX5_poseNext_36 : decode cX5_poseNext 36 = .ok (.invokevirtual 231, 3) := by decide +kernel
theorem dX5_poseNext_39 : decode cX5_poseNext 39 = .ok (.iastore, 1) := by decide +kernel
theorem dX5_poseNext_40 : decode cX5_poseNext 40 = .ok (.iconst 0, 1) := by decide +kernel
theorem dX5_poseNext_41 : decode cX5_poseNext 41 = .ok (.istore 4, 2) := by decide +kernel
theorem dX5_poseNext_43 : decode cX5_poseNext 43 = .ok (.iload 4, 2) := by decide +kernel
theorem dX5_poseNext_45 : decode cX5_poseNext 45 = .ok (.aload_n 1, 1) := by decide +kernel
theorem dX5_poseNext_46 : decode cX5_poseNext 46 = .ok (.getfield 134, 3) := by decide +kernel
theorem dX5_poseNext_49 : decode cX5_poseNext 49 = .ok (.getfield 287, 3) := by decide +kernel
theorem dX5_poseNext_52 : decode cX5_poseNext 52 = .ok (.if_icmp .ge 43, 3) := by decide +kernel
theorem dX5_poseNext_55 : decode cX5_poseNext 55 = .ok (.aload_n 1, 1) := by decide +kernel
theorem dX5_poseNext_56 : decode cX5_poseNext 56 = .ok (.iload 4, 2) := by decide +kernel
theorem dX5_poseNext_58 : decode cX5_poseNext 58 = .ok (.iload_n 2, 1) := by decide +kernel
theorem dX5_poseNext_59 : decode cX5_poseNext 59 = .ok (.invokevirtual 154, 3) := by decide +kernel
theorem dX5_poseNext_62 : decode cX5_poseNext 62 = .ok (.istore 5, 2) := by decide +kernel
theorem dX5_poseNext_64 : decode cX5_poseNext 64 = .ok (.aload_n 1, 1) := by decide +kernel
theorem dX5_poseNext_65 : decode cX5_poseNext 65 = .ok (.getfield 134, 3) := by decide +kernel
theorem dX5_poseNext_68 : decode cX5_poseNext 68 = .ok (.iload 4, 2) := by decide +kernel
theorem dX5_poseNext_70 : decode cX5_poseNext 70 = .ok (.iload 5, 2) := by decide +kernel
theorem dX5_poseNext_72 : decode cX5_poseNext 72 = .ok (.invokevirtual 329, 3) := by decide +kernel
theorem dX5_poseNext_75 : decode cX5_poseNext 75 = .ok (.aload_n 1, 1) := by decide +kernel
theorem dX5_poseNext_76 : decode cX5_poseNext 76 = .ok (.getfield 182, 3) := by decide +kernel
theorem dX5_poseNext_79 : decode cX5_poseNext 79 = .ok (.getfield 252, 3) := by decide +kernel
theorem dX5_poseNext_82 : decode cX5_poseNext 82 = .ok (.iload 4, 2) := by decide +kernel
theorem dX5_poseNext_84 : decode cX5_poseNext 84 = .ok (.aaload, 1) := by decide +kernel
theorem dX5_poseNext_85 : decode cX5_poseNext 85 = .ok (.iload_n 2, 1) := by decide +kernel
theorem dX5_poseNext_86 : decode cX5_poseNext 86 = .ok (.iload 5, 2) := by decide +kernel
theorem dX5_poseNext_88 : decode cX5_poseNext 88 = .ok (.iastore, 1) := by decide +kernel
theorem dX5_poseNext_89 : decode cX5_poseNext 89 = .ok (.iinc 4 1, 3) := by decide +kernel
theorem dX5_poseNext_92 : decode cX5_poseNext 92 = .ok (.goto (-49), 3) := by decide +kernel
theorem dX5_poseNext_95 : decode cX5_poseNext 95 = .ok (.return_, 1) := by decide +kernel
theorem dX5_sheetMouth_0 : decode cX5_sheetMouth 0 = .ok (.aload_n 1, 1) := by decide +kernel
theorem dX5_sheetMouth_1 : decode cX5_sheetMouth 1 = .ok (.getfield 131, 3) := by decide +kernel
theorem dX5_sheetMouth_4 : decode cX5_sheetMouth 4 = .ok (.iconst (-1), 1) := by decide +kernel
theorem dX5_sheetMouth_5 : decode cX5_sheetMouth 5 = .ok (.if_icmp .ne 7, 3) := by decide +kernel
theorem dX5_sheetMouth_8 : decode cX5_sheetMouth 8 = .ok (.iconst (-1), 1) := by decide +kernel
theorem dX5_sheetMouth_9 : decode cX5_sheetMouth 9 = .ok (.goto 20, 3) := by decide +kernel
theorem dX5_sheetMouth_12 : decode cX5_sheetMouth 12 = .ok (.aload_n 0, 1) := by decide +kernel
theorem dX5_sheetMouth_13 : decode cX5_sheetMouth 13 = .ok (.getfield 21, 3) := by decide +kernel
theorem dX5_sheetMouth_16 : decode cX5_sheetMouth 16 = .ok (.aload_n 1, 1) := by decide +kernel
theorem dX5_sheetMouth_17 : decode cX5_sheetMouth 17 = .ok (.getfield 131, 3) := by decide +kernel
theorem dX5_sheetMouth_20 : decode cX5_sheetMouth 20 = .ok (.aaload, 1) := by decide +kernel
theorem dX5_sheetMouth_21 : decode cX5_sheetMouth 21 = .ok (.aload_n 1, 1) := by decide +kernel
theorem dX5_sheetMouth_22 : decode cX5_sheetMouth 22 = .ok (.iload_n 2, 1) := by decide +kernel
theorem dX5_sheetMouth_23 : decode cX5_sheetMouth 23 = .ok (.invokevirtual 332, 3) := by decide +kernel
theorem dX5_sheetMouth_26 : decode cX5_sheetMouth 26 = .ok (.invokevirtual 335, 3) := by decide +kernel
theorem dX5_sheetMouth_29 : decode cX5_sheetMouth 29 = .ok (.ireturn, 1) := by decide +kernel
theorem dX5_mouthWanted_0 : decode cX5_mouthWanted 0 = .ok (.aload_n 0, 1) := by decide +kernel
theorem dX5_mouthWanted_1 : decode cX5_mouthWanted 1 = .ok (.aload_n 1, 1) := by decide +kernel
theorem dX5_mouthWanted_2 : decode cX5_mouthWanted 2 = .ok (.iload_n 2, 1) := by decide +kernel
theorem dX5_mouthWanted_3 : decode cX5_mouthWanted 3 = .ok (.invokevirtual 231, 3) := by decide +kernel
theorem dX5_mouthWanted_6 : decode cX5_mouthWanted 6 = .ok (.istore_n 3, 1) := by decide +kernel
theorem dX5_mouthWanted_7 : decode cX5_mouthWanted 7 = .ok (.iload_n 3, 1) := by decide +kernel
theorem dX5_mouthWanted_8 : decode cX5_mouthWanted 8 = .ok (.aload_n 1, 1) := by decide +kernel
theorem dX5_mouthWanted_9 : decode cX5_mouthWanted 9 = .ok (.getfield 182, 3) := by decide +kernel
theorem dX5_mouthWanted_12 : decode cX5_mouthWanted 12 = .ok (.invokevirtual 338, 3) := by decide +kernel
theorem dX5_mouthWanted_15 : decode cX5_mouthWanted 15 = .ok (.if_icmp .ne 7, 3) := by decide +kernel
theorem dX5_mouthWanted_18 : decode cX5_mouthWanted 18 = .ok (.iconst (-1), 1) := by decide +kernel
theorem dX5_mouthWanted_19 : decode cX5_mouthWanted 19 = .ok (.goto 4, 3) := by decide +kernel
theorem dX5_mouthWanted_22 : decode cX5_mouthWanted 22 = .ok (.iload_n 3, 1) := by decide +kernel
theorem dX5_mouthWanted_23 : decode cX5_mouthWanted 23 = .ok (.ireturn, 1) := by decide +kernel
theorem dX5_lampLight_0 : decode cX5_lampLight 0 = .ok (.sipush 500, 3) := by decide +kernel
theorem dX5_lampLight_3 : decode cX5_lampLight 3 = .ok (.sipush 1000, 3) := by decide +kernel
theorem dX5_lampLight_6 : decode cX5_lampLight 6 = .ok (.aload_n 0, 1) := by decide +kernel
theorem dX5_lampLight_7 : decode cX5_lampLight 7 = .ok (.getfield 56, 3) := by decide +kernel
theorem dX5_lampLight_10 : decode cX5_lampLight 10 = .ok (.iconst 3, 1) := by decide +kernel
theorem dX5_lampLight_11 : decode cX5_lampLight 11 = .ok (.idiv, 1) := by decide +kernel
theorem dX5_lampLight_12 : decode cX5_lampLight 12 = .ok (.isub, 1) := by decide +kernel
theorem dX5_lampLight_13 : decode cX5_lampLight 13 = .ok (.invokestatic 341, 3) := by decide +kernel
theorem dX5_lampLight_16 : decode cX5_lampLight 16 = .ok (.ireturn, 1) := by decide +kernel
theorem dX5_cutIndex_0 : decode cX5_cutIndex 0 = .ok (.iconst 0, 1) := by decide +kernel
theorem dX5_cutIndex_1 : decode cX5_cutIndex 1 = .ok (.istore_n 2, 1) := by decide +kernel
theorem dX5_cutIndex_2 : decode cX5_cutIndex 2 = .ok (.iload_n 2, 1) := by decide +kernel
theorem dX5_cutIndex_3 : decode cX5_cutIndex 3 = .ok (.aload_n 0, 1) := by decide +kernel
theorem dX5_cutIndex_4 : decode cX5_cutIndex 4 = .ok (.getfield 50, 3) := by decide +kernel
theorem dX5_cutIndex_7 : decode cX5_cutIndex 7 = .ok (.if_icmp .ge 21, 3) := by decide +kernel
theorem dX5_cutIndex_10 : decode cX5_cutIndex 10 = .ok (.aload_n 0, 1) := by decide +kernel
theorem dX5_cutIndex_11 : decode cX5_cutIndex 11 = .ok (.getfield 46, 3) := by decide +kernel
theorem dX5_cutIndex_14 : decode cX5_cutIndex 14 = .ok (.iload_n 2, 1) := by decide +kernel
theorem dX5_cutIndex_15 : decode cX5_cutIndex 15 = .ok (.iaload, 1) := by decide +kernel
theorem dX5_cutIndex_16 : decode cX5_cutIndex 16 = .ok (.iload_n 1, 1) := by decide +kernel
theorem dX5_cutIndex_17 : decode cX5_cutIndex 17 = .ok (.if_icmp .ne 5, 3) := by decide +kernel
theorem dX5_cutIndex_20 : decode cX5_cutIndex 20 = .ok (.iload_n 2, 1) := by decide +kernel
theorem dX5_cutIndex_21 : decode cX5_cutIndex 21 = .ok (.ireturn, 1) := by decide +kernel
theorem dX5_cutIndex_22 : decode cX5_cutIndex 22 = .ok (.iinc 2 1, 3) := by decide +kernel
theorem dX5_cutIndex_25 : decode cX5_cutIndex 25 = .ok (.goto (-23), 3) := by decide +kernel
theorem dX5_cutIndex_28 : decode cX5_cutIndex 28 = .ok (.iconst (-1), 1) := by decide +kernel
theorem dX5_cutIndex_29 : decode cX5_cutIndex 29 = .ok (.ireturn, 1) := by decide +kernel
theorem dX5_filmLength_0 : decode cX5_filmLength 0 = .ok (.iconst 0, 1) := by decide +kernel
theorem dX5_filmLength_1 : decode cX5_filmLength 1 = .ok (.istore_n 1, 1) := by decide +kernel
theorem dX5_filmLength_2 : decode cX5_filmLength 2 = .ok (.iconst 0, 1) := by decide +kernel
theorem dX5_filmLength_3 : decode cX5_filmLength 3 = .ok (.istore_n 2, 1) := by decide +kernel
theorem dX5_filmLength_4 : decode cX5_filmLength 4 = .ok (.iload_n 2, 1) := by decide +kernel
theorem dX5_filmLength_5 : decode cX5_filmLength 5 = .ok (.aload_n 0, 1) := by decide +kernel
theorem dX5_filmLength_6 : decode cX5_filmLength 6 = .ok (.getfield 50, 3) := by decide +kernel
theorem dX5_filmLength_9 : decode cX5_filmLength 9 = .ok (.if_icmp .ge 26, 3) := by decide +kernel
theorem dX5_filmLength_12 : decode cX5_filmLength 12 = .ok (.iload_n 1, 1) := by decide +kernel
theorem dX5_filmLength_13 : decode cX5_filmLength 13 = .ok (.aload_n 0, 1) := by decide +kernel
theorem dX5_filmLength_14 : decode cX5_filmLength 14 = .ok (.getfield 35, 3) := by decide +kernel
theorem dX5_filmLength_17 : decode cX5_filmLength 17 = .ok (.aload_n 0, 1) := by decide +kernel
theorem dX5_filmLength_18 : decode cX5_filmLength 18 = .ok (.getfield 46, 3) := by decide +kernel
theorem dX5_filmLength_21 : decode cX5_filmLength 21 = .ok (.iload_n 2, 1) := by decide +kernel
theorem dX5_filmLength_22 : decode cX5_filmLength 22 = .ok (.iaload, 1) := by decide +kernel
theorem dX5_filmLength_23 : decode cX5_filmLength 23 = .ok (.aaload, 1) := by decide +kernel
theorem dX5_filmLength_24 : decode cX5_filmLength 24 = .ok (.getfield 235, 3) := by decide +kernel
theorem dX5_filmLength_27 : decode cX5_filmLength 27 = .ok (.iadd, 1) := by decide +kernel
theorem dX5_filmLength_28 : decode cX5_filmLength 28 = .ok (.istore_n 1, 1) := by decide +kernel
theorem dX5_filmLength_29 : decode cX5_filmLength 29 = .ok (.iinc 2 1, 3) := by decide +kernel
theorem dX5_filmLength_32 : decode cX5_filmLength 32 = .ok (.goto (-28), 3) := by decide +kernel
theorem dX5_filmLength_35 : decode cX5_filmLength 35 = .ok (.iload_n 1, 1) := by decide +kernel
theorem dX5_filmLength_36 : decode cX5_filmLength 36 = .ok (.ireturn, 1) := by decide +kernel
theorem dX5_shorterWay_0 : decode cX5_shorterWay 0 = .ok (.iload_n 1, 1) := by decide +kernel
theorem dX5_shorterWay_1 : decode cX5_shorterWay 1 = .ok (.iload_n 0, 1) := by decide +kernel
theorem dX5_shorterWay_2 : decode cX5_shorterWay 2 = .ok (.isub, 1) := by decide +kernel
theorem dX5_shorterWay_3 : decode cX5_shorterWay 3 = .ok (.sipush 360, 3) := by decide +kernel
theorem dX5_shorterWay_6 : decode cX5_shorterWay 6 = .ok (.invokestatic 344, 3) := by decide +kernel
theorem dX5_shorterWay_9 : decode cX5_shorterWay 9 = .ok (.istore_n 2, 1) := by decide +kernel
theorem dX5_shorterWay_10 : decode cX5_shorterWay 10 = .ok (.iload_n 2, 1) := by decide +kernel
theorem dX5_shorterWay_11 : decode cX5_shorterWay 11 = .ok (.sipush 180, 3) := by decide +kernel
theorem dX5_shorterWay_14 : decode cX5_shorterWay 14 = .ok (.if_icmp .le 11, 3) := by decide +kernel
theorem dX5_shorterWay_17 : decode cX5_shorterWay 17 = .ok (.iload_n 2, 1) := by decide +kernel
theorem dX5_shorterWay_18 : decode cX5_shorterWay 18 = .ok (.sipush 360, 3) := by decide +kernel
theorem dX5_shorterWay_21 : decode cX5_shorterWay 21 = .ok (.isub, 1) := by decide +kernel
theorem dX5_shorterWay_22 : decode cX5_shorterWay 22 = .ok (.goto 4, 3) := by decide +kernel
theorem dX5_shorterWay_25 : decode cX5_shorterWay 25 = .ok (.iload_n 2, 1) := by decide +kernel
theorem dX5_shorterWay_26 : decode cX5_shorterWay 26 = .ok (.ireturn, 1) := by decide +kernel
theorem dX6_init_0 : decode cX6_init 0 = .ok (.aload_n 0, 1) := by decide +kernel
theorem dX6_init_1 : decode cX6_init 1 = .ok (.invokespecial 1, 3) := by decide +kernel
theorem dX6_init_4 : decode cX6_init 4 = .ok (.aload_n 0, 1) := by decide +kernel
theorem dX6_init_5 : decode cX6_init 5 = .ok (.iconst 5, 1) := by decide +kernel
theorem dX6_init_6 : decode cX6_init 6 = .ok (.newarray .int, 2) := by decide +kernel
theorem dX6_init_8 : decode cX6_init 8 = .ok (.putfield 7, 3) := by decide +kernel
theorem dX6_init_11 : decode cX6_init 11 = .ok (.aload_n 0, 1) := by decide +kernel
theorem dX6_init_12 : decode cX6_init 12 = .ok (.bipush 30, 2) := by decide +kernel
theorem dX6_init_14 : decode cX6_init 14 = .ok (.newarray .int, 2) := by decide +kernel
theorem dX6_init_16 : decode cX6_init 16 = .ok (.putfield 13, 3) := by decide +kernel
theorem dX6_init_19 : decode cX6_init 19 = .ok (.aload_n 0, 1) := by decide +kernel
theorem dX6_init_20 : decode cX6_init 20 = .ok (.bipush 30, 2) := by decide +kernel
theorem dX6_init_22 : decode cX6_init 22 = .ok (.newarray .int, 2) := by decide +kernel
theorem dX6_init_24 : decode cX6_init 24 = .ok (.putfield 16, 3) := by decide +kernel
theorem dX6_init_27 : decode cX6_init 27 = .ok (.aload_n 0, 1) := by decide +kernel
theorem dX6_init_28 : decode cX6_init 28 = .ok (.bipush 50, 2) := by decide +kernel
theorem dX6_init_30 : decode cX6_init 30 = .ok (.newarray .int, 2) := by decide +kernel
theorem dX6_init_32 : decode cX6_init 32 = .ok (.putfield 19, 3) := by decide +kernel
theorem dX6_init_35 : decode cX6_init 35 = .ok (.aload_n 0, 1) := by decide +kernel
theorem dX6_init_36 : decode cX6_init 36 = .ok (.bipush 7, 2) := by decide +kernel
theorem dX6_init_38 : decode cX6_init 38 = .ok (.newarray .int, 2) := by decide +kernel
theorem dX6_init_40 : decode cX6_init 40 = .ok (.putfield 22, 3) := by decide +kernel
theorem dX6_init_43 : decode cX6_init 43 = .ok (.aload_n 0, 1) := by decide +kernel
theorem dX6_init_44 : decode cX6_init 44 = .ok (.bipush 84, 2) := by decide +kernel
theorem dX6_init_46 : decode cX6_init 46 = .ok (.newarray .int, 2) := by decide +kernel
theorem dX6_init_48 : decode cX6_init 48 = .ok (.putfield 25, 3) := by decide +kernel
theorem dX6_init_51 : decode cX6_init 51 = .ok (.aload_n 0, 1) := by decide +kernel
theorem dX6_init_52 : decode cX6_init 52 = .ok (.bipush 84, 2) := by decide +kernel
theorem dX6_init_54 : decode cX6_init 54 = .ok (.newarray .int, 2) := by decide +kernel
theorem dX6_init_56 : decode cX6_init 56 = .ok (.putfield 28, 3) := by decide +kernel
theorem dX6_init_59 : decode cX6_init 59 = .ok (.aload_n 0, 1) := by decide +kernel
theorem dX6_init_60 : decode cX6_init 60 = .ok (.bipush 8, 2) := by decide +kernel
theorem dX6_init_62 : decode cX6_init 62 = .ok (.newarray .int, 2) := by decide +kernel
theorem dX6_init_64 : decode cX6_init 64 = .ok (.putfield 31, 3) := by decide +kernel
theorem dX6_init_67 : decode cX6_init 67 = .ok (.aload_n 0, 1) := by decide +kernel
theorem dX6_init_68 : decode cX6_init 68 = .ok (.bipush 8, 2) := by decide +kernel
theorem dX6_init_70 : decode cX6_init 70 = .ok (.newarray .int, 2) := by decide +kernel
theorem dX6_init_72 : decode cX6_init 72 = .ok (.putfield 34, 3) := by decide +kernel
theorem dX6_init_75 : decode cX6_init 75 = .ok (.aload_n 0, 1) := by decide +kernel
theorem dX6_init_76 : decode cX6_init 76 = .ok (.bipush 8, 2) := by decide +kernel
theorem dX6_init_78 : decode cX6_init 78 = .ok (.newarray .int, 2) := by decide +kernel
theorem dX6_init_80 : decode cX6_init 80 = .ok (.putfield 37, 3) := by decide +kernel
theorem dX6_init_83 : decode cX6_init 83 = .ok (.aload_n 0, 1) := by decide +kernel
theorem dX6_init_84 : decode cX6_init 84 = .ok (.bipush 8, 2) := by decide +kernel
theorem dX6_init_86 : decode cX6_init 86 = .ok (.newarray .int, 2) := by decide +kernel
theorem dX6_init_88 : decode cX6_init 88 = .ok (.putfield 40, 3) := by decide +kernel
theorem dX6_init_91 : decode cX6_init 91 = .ok (.aload_n 0, 1) := by decide +kernel
theorem dX6_init_92 : decode cX6_init 92 = .ok (.bipush 8, 2) := by decide +kernel
theorem dX6_init_94 : decode cX6_init 94 = .ok (.newarray .int, 2) := by decide +kernel
theorem dX6_init_96 : decode cX6_init 96 = .ok (.putfield 43, 3) := by decide +kernel
theorem dX6_init_99 : decode cX6_init 99 = .ok (.aload_n 0, 1) := by decide +kernel
theorem dX6_init_100 : decode cX6_init 100 = .ok (.bipush 8, 2) := by decide +kernel
theorem dX6_init_102 : decode cX6_init 102 = .ok (.newarray .int, 2) := by decide +kernel
theorem dX6_init_104 : decode cX6_init 104 = .ok (.putfield 46, 3) := by decide +kernel
theorem dX6_init_107 : decode cX6_init 107 = .ok (.aload_n 0, 1) := by decide +kernel
theorem dX6_init_108 : decode cX6_init 108 = .ok (.bipush 8, 2) := by decide +kernel
theorem dX6_init_110 : decode cX6_init 110 = .ok (.newarray .int, 2) := by decide +kernel
theorem dX6_init_112 : decode cX6_init 112 = .ok (.putfield 49, 3) := by decide +kernel
theorem dX6_init_115 : decode cX6_init 115 = .ok (.aload_n 0, 1) := by decide +kernel
theorem dX6_init_116 : decode cX6_init 116 = .ok (.iconst 5, 1) := by decide +kernel
theorem dX6_init_117 : decode cX6_init 117 = .ok (.newarray .boolean, 2) := by decide +kernel
theorem dX6_init_119 : decode cX6_init 119 = .ok (.putfield 52, 3) := by decide +kernel
theorem dX6_init_122 : decode cX6_init 122 = .ok (.aload_n 0, 1) := by decide +kernel
theorem dX6_init_123 : decode cX6_init 123 = .ok (.sipush 2304, 3) := by decide +kernel
theorem dX6_init_126 : decode cX6_init 126 = .ok (.newarray .int, 2) := by decide +kernel
theorem dX6_init_128 : decode cX6_init 128 = .ok (.putfield 56, 3) := by decide +kernel
theorem dX6_init_131 : decode cX6_init 131 = .ok (.aload_n 0, 1) := by decide +kernel
theorem dX6_init_132 : decode cX6_init 132 = .ok (.sipush 384, 3) := by decide +kernel
theorem dX6_init_135 : decode cX6_init 135 = .ok (.newarray .int, 2) := by decide +kernel
theorem dX6_init_137 : decode cX6_init 137 = .ok (.putfield 59, 3) := by decide +kernel
theorem dX6_init_140 : decode cX6_init 140 = .ok (.aload_n 0, 1) := by decide +kernel
theorem dX6_init_141 : decode cX6_init 141 = .ok (.sipush 2304, 3) := by decide +kernel
theorem dX6_init_144 : decode cX6_init 144 = .ok (.newarray .int, 2) := by decide +kernel
theorem dX6_init_146 : decode cX6_init 146 = .ok (.putfield 62, 3) := by decide +kernel
theorem dX6_init_149 : decode cX6_init 149 = .ok (.aload_n 0, 1) := by decide +kernel
theorem dX6_init_150 : decode cX6_init 150 = .ok (.sipush 384, 3) := by decide +kernel
theorem dX6_init_153 : decode cX6_init 153 = .ok (.newarray .int, 2) := by decide +kernel
theorem dX6_init_155 : decode cX6_init 155 = .ok (.putfield 65, 3) := by decide +kernel
theorem dX6_init_158 : decode cX6_init 158 = .ok (.aload_n 0, 1) := by decide +kernel
theorem dX6_init_159 : decode cX6_init 159 = .ok (.sipush 384, 3) := by decide +kernel
theorem dX6_init_162 : decode cX6_init 162 = .ok (.newarray .int, 2) := by decide +kernel
theorem dX6_init_164 : decode cX6_init 164 = .ok (.putfield 68, 3) := by decide +kernel
theorem dX6_init_167 : decode cX6_init 167 = .ok (.aload_n 0, 1) := by decide +kernel
theorem dX6_init_168 : decode cX6_init 168 = .ok (.sipush 384, 3) := by decide +kernel
theorem dX6_init_171 : decode cX6_init 171 = .ok (.newarray .int, 2) := by decide +kernel
theorem dX6_init_173 : decode cX6_init 173 = .ok (.putfield 71, 3) := by decide +kernel
theorem dX6_init_176 : decode cX6_init 176 = .ok (.aload_n 0, 1) := by decide +kernel
theorem dX6_init_177 : decode cX6_init 177 = .ok (.sipush 384, 3) := by decide +kernel
theorem dX6_init_180 : decode cX6_init 180 = .ok (.newarray .int, 2) := by decide +kernel
theorem dX6_init_182 : decode cX6_init 182 = .ok (.putfield 74, 3) := by decide +kernel
theorem dX6_init_185 : decode cX6_init 185 = .ok (.aload_n 0, 1) := by decide +kernel
theorem dX6_init_186 : decode cX6_init 186 = .ok (.sipush 384, 3) := by decide +kernel
theorem dX6_init_189 : decode cX6_init 189 = .ok (.newarray .int, 2) := by decide +kernel
theorem dX6_init_191 : decode cX6_init 191 = .ok (.putfield 77, 3) := by decide +kernel
theorem dX6_init_194 : decode cX6_init 194 = .ok (.aload_n 0, 1) := by decide +kernel
theorem dX6_init_195 : decode cX6_init 195 = .ok (.bipush 8, 2) := by decide +kernel
theorem dX6_init_197 : decode cX6_init 197 = .ok (.newarray .int, 2) := by decide +kernel
theorem dX6_init_199 : decode cX6_init 199 = .ok (.putfield 80, 3) := by decide +kernel
theorem dX6_init_202 : decode cX6_init 202 = .ok (.iconst 0, 1) := by decide +kernel
theorem dX6_init_203 : decode cX6_init 203 = .ok (.istore_n 1, 1) := by decide +kernel
theorem dX6_init_204 : decode cX6_init 204 = .ok (.iload_n 1, 1) := by decide +kernel
theorem dX6_init_205 : decode cX6_init 205 = .ok (.sipush 2304, 3) := by decide +kernel
theorem dX6_init_208 : decode cX6_init 208 = .ok (.if_icmp .ge 16, 3) := by decide +kernel
theorem dX6_init_211 : decode cX6_init 211 = .ok (.aload_n 0, 1) := by decide +kernel
theorem dX6_init_212 : decode cX6_init 212 = .ok (.getfield 56, 3) := by decide +kernel
theorem dX6_init_215 : decode cX6_init 215 = .ok (.iload_n 1, 1) := by decide +kernel
theorem dX6_init_216 : decode cX6_init 216 = .ok (.iconst (-1), 1) := by decide +kernel
theorem dX6_init_217 : decode cX6_init 217 = .ok (.iastore, 1) := by decide +kernel
theorem dX6_init_218 : decode cX6_init 218 = .ok (.iinc 1 1, 3) := by decide +kernel
theorem dX6_init_221 : decode cX6_init 221 = .ok (.goto (-17), 3) := by decide +kernel
theorem dX6_init_224 : decode cX6_init 224 = .ok (.iconst 0, 1) := by decide +kernel
theorem dX6_init_225 : decode cX6_init 225 = .ok (.istore_n 1, 1) := by decide +kernel
theorem dX6_init_226 : decode cX6_init 226 = .ok (.iload_n 1, 1) := by decide +kernel
theorem dX6_init_227 : decode cX6_init 227 = .ok (.sipush 384, 3) := by decide +kernel
theorem dX6_init_230 : decode cX6_init 230 = .ok (.if_icmp .ge 17, 3) := by decide +kernel
theorem dX6_init_233 : decode cX6_init 233 = .ok (.aload_n 0, 1) := by decide +kernel
theorem dX6_init_234 : decode cX6_init 234 = .ok (.getfield 59, 3) := by decide +kernel
theorem dX6_init_237 : decode cX6_init 237 = .ok (.iload_n 1, 1) := by decide +kernel
theorem dX6_init_238 : decode cX6_init 238 = .ok (.ldc 83, 2) := by decide +kernel
theorem dX6_init_240 : decode cX6_init 240 = .ok (.iastore, 1) := by decide +kernel
theorem dX6_init_241 : decode cX6_init 241 = .ok (.iinc 1 1, 3) := by decide +kernel
theorem dX6_init_244 : decode cX6_init 244 = .ok (.goto (-18), 3) := by decide +kernel
theorem dX6_init_247 : decode cX6_init 247 = .ok (.return_, 1) := by decide +kernel
theorem dX6_thrown_0 : decode cX6_thrown 0 = .ok (.aload_n 0, 1) := by decide +kernel
theorem dX6_thrown_1 : decode cX6_thrown 1 = .ok (.getfield 84, 3) := by decide +kernel
theorem dX6_thrown_4 : decode cX6_thrown 4 = .ok (.ireturn, 1) := by decide +kernel
theorem dX6_fails_0 : decode cX6_fails 0 = .ok (.aload_n 0, 1) := by decide +kernel
theorem dX6_fails_1 : decode cX6_fails 1 = .ok (.iload_n 1, 1) := by decide +kernel
theorem dX6_fails_2 : decode cX6_fails 2 = .ok (.putfield 84, 3) := by decide +kernel
theorem dX6_fails_5 : decode cX6_fails 5 = .ok (.iload_n 1, 1) := by decide +kernel
theorem dX6_fails_6 : decode cX6_fails 6 = .ok (.ifCond .le 7, 3) := by decide +kernel
theorem dX6_fails_9 : decode cX6_fails 9 = .ok (.iconst 1, 1) := by decide +kernel
theorem dX6_fails_10 : decode cX6_fails 10 = .ok (.goto 4, 3) := by decide +kernel
theorem dX6_fails_13 : decode cX6_fails 13 = .ok (.iconst 0, 1) := by decide +kernel
theorem dX6_fails_14 : decode cX6_fails 14 = .ok (.ireturn, 1) := by decide +kernel
theorem dX6_isIn_0 : decode cX6_isIn 0 = .ok (.iload_n 0, 1) := by decide +kernel
theorem dX6_isIn_1 : decode cX6_isIn 1 = .ok (.iload_n 1, 1) := by decide +kernel
theorem dX6_isIn_2 : decode cX6_isIn 2 = .ok (.if_icmp .lt 12, 3) := by decide +kernel
theorem dX6_isIn_5 : decode cX6_isIn 5 = .ok (.iload_n 0, 1) := by decide +kernel
theorem dX6_isIn_6 : decode cX6_isIn 6 = .ok (.iload_n 2, 1) := by decide +kernel
theorem dX6_isIn_7 : decode cX6_isIn 7 = .ok (.if_icmp .gt 7, 3) := by decide +kernel
theorem dX6_isIn_10 : decode cX6_isIn 10 = .ok (.iconst 1, 1) := by decide +kernel
theorem dX6_isIn_11 : decode cX6_isIn 11 = .ok (.goto 4, 3) := by decide +kernel
theorem dX6_isIn_14 : decode cX6_isIn 14 = .ok (.iconst 0, 1) := by decide +kernel
theorem dX6_isIn_15 : decode cX6_isIn 15 = .ok (.ireturn, 1) := by decide +kernel
theorem dX6_isPuppet_0 : decode cX6_isPuppet 0 = .ok (.iload_n 1, 1) := by decide +kernel
theorem dX6_isPuppet_1 : decode cX6_isPuppet 1 = .ok (.iconst 0, 1) := by decide +kernel
theorem dX6_isPuppet_2 : decode cX6_isPuppet 2 = .ok (.aload_n 0, 1) := by decide +kernel
theorem dX6_isPuppet_3 : decode cX6_isPuppet 3 = .ok (.getfield 88, 3) := by decide +kernel
theorem dX6_isPuppet_6 : decode cX6_isPuppet 6 = .ok (.iconst 1, 1) := by decide +kernel
theorem dX6_isPuppet_7 : decode cX6_isPuppet 7 = .ok (.isub, 1) := by decide +kernel
theorem dX6_isPuppet_8 : decode cX6_isPuppet 8 = .ok (.invokestatic 91, 3) := by decide +kernel
theorem dX6_isPuppet_11 : decode cX6_isPuppet 11 = .ok (.ireturn, 1) := by decide +kernel
theorem dX6_isJoint_0 : decode cX6_isJoint 0 = .ok (.aload_n 0, 1) := by decide +kernel
theorem dX6_isJoint_1 : decode cX6_isJoint 1 = .ok (.iload_n 1, 1) := by decide +kernel
theorem dX6_isJoint_2 : decode cX6_isJoint 2 = .ok (.invokevirtual 95, 3) := by decide +kernel
theorem dX6_isJoint_5 : decode cX6_isJoint 5 = .ok (.ifCond .eq 23, 3) := by decide +kernel
theorem dX6_isJoint_8 : decode cX6_isJoint 8 = .ok (.iload_n 2, 1) := by decide +kernel
theorem dX6_isJoint_9 : decode cX6_isJoint 9 = .ok (.iconst 0, 1) := by decide +kernel
theorem dX6_isJoint_10 : decode cX6_isJoint 10 = .ok (.aload_n 0, 1) := by decide +kernel
theorem dX6_isJoint_11 : decode cX6_isJoint 11 = .ok (.getfield 7, 3) := by decide +kernel
theorem dX6_isJoint_14 : decode cX6_isJoint 14 = .ok (.iload_n 1, 1) := by decide +kernel
theorem dX6_isJoint_15 : decode cX6_isJoint 15 = .ok (.iaload, 1) := by decide +kernel
theorem dX6_isJoint_16 : decode cX6_isJoint 16 = .ok (.iconst 1, 1) := by decide +kernel
theorem dX6_isJoint_17 : decode cX6_isJoint 17 = .ok (.isub, 1) := by decide +kernel
theorem dX6_isJoint_18 : decode cX6_isJoint 18 = .ok (.invokestatic 91, 3) := by decide +kernel
theorem dX6_isJoint_21 : decode cX6_isJoint 21 = .ok (.ifCond .eq 7, 3) := by decide +kernel
theorem dX6_isJoint_24 : decode cX6_isJoint 24 = .ok (.iconst 1, 1) := by decide +kernel
theorem dX6_isJoint_25 : decode cX6_isJoint 25 = .ok (.goto 4, 3) := by decide +kernel
theorem dX6_isJoint_28 : decode cX6_isJoint 28 = .ok (.iconst 0, 1) := by decide +kernel
theorem dX6_isJoint_29 : decode cX6_isJoint 29 = .ok (.ireturn, 1) := by decide +kernel
theorem dX6_isVoice_0 : decode cX6_isVoice 0 = .ok (.iload_n 1, 1) := by decide +kernel
theorem dX6_isVoice_1 : decode cX6_isVoice 1 = .ok (.iconst (-1), 1) := by decide +kernel
theorem dX6_isVoice_2 : decode cX6_isVoice 2 = .ok (.aload_n 0, 1) := by decide +kernel
theorem dX6_isVoice_3 : decode cX6_isVoice 3 = .ok (.getfield 99, 3) := by decide +kernel
theorem dX6_isVoice_6 : decode cX6_isVoice 6 = .ok (.iconst 1, 1) := by decide +kernel
theorem dX6_isVoice_7 : decode cX6_isVoice 7 = .ok (.isub, 1) := by decide +kernel
theorem dX6_isVoice_8 : decode cX6_isVoice 8 = .ok (.invokestatic 91, 3) := by decide +kernel
theorem dX6_isVoice_11 : decode cX6_isVoice 11 = .ok (.ireturn, 1) := by decide +kernel
theorem dX6_isShot_0 : decode cX6_isShot 0 = .ok (.iload_n 1, 1) := by decide +kernel
theorem dX6_isShot_1 : decode cX6_isShot 1 = .ok (.iconst 0, 1) := by decide +kernel
theorem dX6_isShot_2 : decode cX6_isShot 2 = .ok (.aload_n 0, 1) := by decide +kernel
theorem dX6_isShot_3 : decode cX6_isShot 3 = .ok (.getfield 102, 3) := by decide +kernel
theorem dX6_isShot_6 : decode cX6_isShot 6 = .ok (.iconst 1, 1) := by decide +kernel
theorem dX6_isShot_7 : decode cX6_isShot 7 = .ok (.isub, 1) := by decide +kernel
theorem dX6_isShot_8 : decode cX6_isShot 8 = .ok (.invokestatic 91, 3) := by decide +kernel
theorem dX6_isShot_11 : decode cX6_isShot 11 = .ok (.ireturn, 1) := by decide +kernel
theorem dX6_isFrame_0 : decode cX6_isFrame 0 = .ok (.aload_n 0, 1) := by decide +kernel
theorem dX6_isFrame_1 : decode cX6_isFrame 1 = .ok (.iload_n 1, 1) := by decide +kernel
theorem dX6_isFrame_2 : decode cX6_isFrame 2 = .ok (.invokevirtual 105, 3) := by decide +kernel
theorem dX6_isFrame_5 : decode cX6_isFrame 5 = .ok (.ifCond .eq 23, 3) := by decide +kernel
theorem dX6_isFrame_8 : decode cX6_isFrame 8 = .ok (.iload_n 2, 1) := by decide +kernel
theorem dX6_isFrame_9 : decode cX6_isFrame 9 = .ok (.iconst 0, 1) := by decide +kernel
theorem dX6_isFrame_10 : decode cX6_isFrame 10 = .ok (.aload_n 0, 1) := by decide +kernel
theorem dX6_isFrame_11 : decode cX6_isFrame 11 = .ok (.getfield 34, 3) := by decide +kernel
theorem dX6_isFrame_14 : decode cX6_isFrame 14 = .ok (.iload_n 1, 1) := by decide +kernel
theorem dX6_isFrame_15 : decode cX6_isFrame 15 = .ok (.iaload, 1) := by decide +kernel
theorem dX6_isFrame_16 : decode cX6_isFrame 16 = .ok (.iconst 1, 1) := by decide +kernel
theorem dX6_isFrame_17 : decode cX6_isFrame 17 = .ok (.isub, 1) := by decide +kernel
theorem dX6_isFrame_18 : decode cX6_isFrame 18 = .ok (.invokestatic 91, 3) := by decide +kernel
theorem dX6_isFrame_21 : decode cX6_isFrame 21 = .ok (.ifCond .eq 7, 3) := by decide +kernel
theorem dX6_isFrame_24 : decode cX6_isFrame 24 = .ok (.iconst 1, 1) := by decide +kernel
theorem dX6_isFrame_25 : decode cX6_isFrame 25 = .ok (.goto 4, 3) := by decide +kernel
theorem dX6_isFrame_28 : decode cX6_isFrame 28 = .ok (.iconst 0, 1) := by decide +kernel
theorem dX6_isFrame_29 : decode cX6_isFrame 29 = .ok (.ireturn, 1) := by decide +kernel
theorem dX6_isStruck_0 : decode cX6_isStruck 0 = .ok (.aload_n 0, 1) := by decide +kernel
theorem dX6_isStruck_1 : decode cX6_isStruck 1 = .ok (.iload_n 1, 1) := by decide +kernel
theorem dX6_isStruck_2 : decode cX6_isStruck 2 = .ok (.invokevirtual 105, 3) := by decide +kernel
theorem dX6_isStruck_5 : decode cX6_isStruck 5 = .ok (.ifCond .eq 23, 3) := by decide +kernel
theorem dX6_isStruck_8 : decode cX6_isStruck 8 = .ok (.iload_n 2, 1) := by decide +kernel
theorem dX6_isStruck_9 : decode cX6_isStruck 9 = .ok (.iconst 0, 1) := by decide +kernel
theorem dX6_isStruck_10 : decode cX6_isStruck 10 = .ok (.aload_n 0, 1) := by decide +kernel
theorem dX6_isStruck_11 : decode cX6_isStruck 11 = .ok (.getfield 46, 3) := by decide +kernel
theorem dX6_isStruck_14 : decode cX6_isStruck 14 = .ok (.iload_n 1, 1) := by decide +kernel
theorem dX6_isStruck_15 : decode cX6_isStruck 15 = .ok (.iaload, 1) := by decide +kernel
theorem dX6_isStruck_16 : decode cX6_isStruck 16 = .ok (.iconst 1, 1) := by decide +kernel
theorem dX6_isStruck_17 : decode cX6_isStruck 17 = .ok (.isub, 1) := by decide +kernel
theorem dX6_isStruck_18 : decode cX6_isStruck 18 = .ok (.invokestatic 91, 3) := by decide +kernel
theorem dX6_isStruck_21 : decode cX6_isStruck 21 = .ok (.ifCond .eq 7, 3) := by decide +kernel
theorem dX6_isStruck_24 : decode cX6_isStruck 24 = .ok (.iconst 1, 1) := by decide +kernel
theorem dX6_isStruck_25 : decode cX6_isStruck 25 = .ok (.goto 4, 3) := by decide +kernel
theorem dX6_isStruck_28 : decode cX6_isStruck 28 = .ok (.iconst 0, 1) := by decide +kernel
theorem dX6_isStruck_29 : decode cX6_isStruck 29 = .ok (.ireturn, 1) := by decide +kernel
theorem dX6_isAnimator_0 : decode cX6_isAnimator 0 = .ok (.iload_n 0, 1) := by decide +kernel
theorem dX6_isAnimator_1 : decode cX6_isAnimator 1 = .ok (.iconst 0, 1) := by decide +kernel
theorem dX6_isAnimator_2 : decode cX6_isAnimator 2 = .ok (.iconst 4, 1) := by decide +kernel
theorem dX6_isAnimator_3 : decode cX6_isAnimator 3 = .ok (.invokestatic 91, 3) := by decide +kernel
theorem dX6_isAnimator_6 : decode cX6_isAnimator 6 = .ok (.ireturn, 1) := by decide +kernel
theorem dX6_isSound_0 : decode cX6_isSound 0 = .ok (.iload_n 0, 1) := by decide +kernel
theorem dX6_isSound_1 : decode cX6_isSound 1 = .ok (.iconst 0, 1) := by decide +kernel
theorem dX6_isSound_2 : decode cX6_isSound 2 = .ok (.bipush 9, 2) := by decide +kernel
theorem dX6_isSound_4 : decode cX6_isSound 4 = .ok (.invokestatic 91, 3) := by decide +kernel
theorem dX6_isSound_7 : decode cX6_isSound 7 = .ok (.ireturn, 1) := by decide +kernel
theorem dX6_puppet_0 : decode cX6_puppet 0 = .ok (.aload_n 0, 1) := by decide +kernel
theorem dX6_puppet_1 : decode cX6_puppet 1 = .ok (.iload_n 1, 1) := by decide +kernel
theorem dX6_puppet_2 : decode cX6_puppet 2 = .ok (.iconst 1, 1) := by decide +kernel
theorem dX6_puppet_3 : decode cX6_puppet 3 = .ok (.bipush 6, 2) := by decide +kernel
theorem dX6_puppet_5 : decode cX6_puppet 5 = .ok (.invokestatic 91, 3) := by decide +kernel
theorem dX6_puppet_8 : decode cX6_puppet 8 = .ok (.ifCond .ne 7, 3) := by decide +kernel
theorem dX6_puppet_11 : decode cX6_puppet 11 = .ok (.iconst 1, 1) := by decide +kernel
theorem dX6_puppet_12 : decode cX6_puppet 12 = .ok (.goto 16, 3) := by decide +kernel
theorem dX6_puppet_15 : decode cX6_puppet 15 = .ok (.aload_n 0, 1) := by decide +kernel
theorem dX6_puppet_16 : decode cX6_puppet 16 = .ok (.getfield 88, 3) := by decide +kernel
theorem dX6_puppet_19 : decode cX6_puppet 19 = .ok (.iconst 5, 1) := by decide +kernel
theorem dX6_puppet_20 : decode cX6_puppet 20 = .ok (.if_icmp .ne 7, 3) := by decide +kernel
theorem dX6_puppet_23 : decode cX6_puppet 23 = .ok (.iconst 2, 1) := by decide +kernel
theorem dX6_puppet_24 : decode cX6_puppet 24 = .ok (.goto 4, 3) := by decide +kernel
theorem dX6_puppet_27 : decode cX6_puppet 27 = .ok (.iconst 0, 1) := by decide +kernel
theorem dX6_puppet_28 : decode cX6_puppet 28 = .ok (.invokevirtual 108, 3) := by decide +kernel
theorem dX6_puppet_31 : decode cX6_puppet 31 = .ok (.ifCond .eq 5, 3) := by decide +kernel
theorem dX6_puppet_34 : decode cX6_puppet 34 = .ok (.iconst 0, 1) := by decide +kernel
theorem dX6_puppet_35 : decode cX6_puppet 35 = .ok (.ireturn, 1) := by decide +kernel
theorem dX6_puppet_36 : decode cX6_puppet 36 = .ok (.aload_n 0, 1) := by decide +kernel
theorem dX6_puppet_37 : decode cX6_puppet 37 = .ok (.getfield 7, 3) := by decide +kernel
theorem dX6_puppet_40 : decode cX6_puppet 40 = .ok (.aload_n 0, 1) := by decide +kernel
theorem dX6_puppet_41 : decode cX6_puppet 41 = .ok (.getfield 88, 3) := by decide +kernel
theorem dX6_puppet_44 : decode cX6_puppet 44 = .ok (.iload_n 1, 1) := by decide +kernel
theorem dX6_puppet_45 : decode cX6_puppet 45 = .ok (.iastore, 1) := by decide +kernel
theorem dX6_puppet_46 : decode cX6_puppet 46 = .ok (.aload_n 0, 1) := by decide +kernel
theorem dX6_puppet_47 : decode cX6_puppet 47 = .ok (.dup, 1) := by decide +kernel
theorem dX6_puppet_48 : decode cX6_puppet 48 = .ok (.getfield 88, 3) := by decide +kernel
theorem dX6_puppet_51 : decode cX6_puppet 51 = .ok (.iconst 1, 1) := by decide +kernel
theorem dX6_puppet_52 : decode cX6_puppet 52 = .ok (.iadd, 1) := by decide +kernel
theorem dX6_puppet_53 : decode cX6_puppet 53 = .ok (.putfield 88, 3) := by decide +kernel
theorem dX6_puppet_56 : decode cX6_puppet 56 = .ok (.aload_n 0, 1) := by decide +kernel
theorem dX6_puppet_57 : decode cX6_puppet 57 = .ok (.getfield 88, 3) := by decide +kernel
theorem dX6_puppet_60 : decode cX6_puppet 60 = .ok (.iconst 1, 1) := by decide +kernel
theorem dX6_puppet_61 : decode cX6_puppet 61 = .ok (.isub, 1) := by decide +kernel
theorem dX6_puppet_62 : decode cX6_puppet 62 = .ok (.ireturn, 1) := by decide +kernel
theorem dX6_mouths_0 : decode cX6_mouths 0 = .ok (.iload_n 2, 1) := by decide +kernel
theorem dX6_mouths_1 : decode cX6_mouths 1 = .ok (.invokestatic 111, 3) := by decide +kernel
theorem dX6_mouths_4 : decode cX6_mouths 4 = .ok (.ifCond .eq 17, 3) := by decide +kernel
theorem dX6_mouths_7 : decode cX6_mouths 7 = .ok (.iload_n 3, 1) := by decide +kernel
theorem dX6_mouths_8 : decode cX6_mouths 8 = .ok (.iconst 1, 1) := by decide +kernel
theorem dX6_mouths_9 : decode cX6_mouths 9 = .ok (.bipush 9, 2) := by decide +kernel
theorem dX6_mouths_11 : decode cX6_mouths 11 = .ok (.invokestatic 91, 3) := by decide +kernel
theorem dX6_mouths_14 : decode cX6_mouths 14 = .ok (.ifCond .eq 7, 3) := by decide +kernel
theorem dX6_mouths_17 : decode cX6_mouths 17 = .ok (.iconst 1, 1) := by decide +kernel
theorem dX6_mouths_18 : decode cX6_mouths 18 = .ok (.goto 4, 3) := by decide +kernel
theorem dX6_mouths_21 : decode cX6_mouths 21 = .ok (.iconst 0, 1) := by decide +kernel
theorem dX6_mouths_22 : decode cX6_mouths 22 = .ok (.istore 4, 2) := by decide +kernel
theorem dX6_mouths_24 : decode cX6_mouths 24 = .ok (.aload_n 0, 1) := by decide +kernel
theorem dX6_mouths_25 : decode cX6_mouths 25 = .ok (.aload_n 0, 1) := by decide +kernel
theorem dX6_mouths_26 : decode cX6_mouths 26 = .ok (.iload_n 1, 1) := by decide +kernel
theorem dX6_mouths_27 : decode cX6_mouths 27 = .ok (.invokevirtual 95, 3) := by decide +kernel
theorem dX6_mouths_30 : decode cX6_mouths 30 = .ok (.ifCond .ne 7, 3) := by decide +kernel
theorem dX6_mouths_33 : decode cX6_mouths 33 = .ok (.iconst 1, 1) := by decide +kernel
theorem dX6_mouths_34 : decode cX6_mouths 34 = .ok (.goto 35, 3) := by decide +kernel
theorem dX6_mouths_37 : decode cX6_mouths 37 = .ok (.iload 4, 2) := by decide +kernel
theorem dX6_mouths_39 : decode cX6_mouths 39 = .ok (.ifCond .ne 7, 3) := by decide +kernel
theorem dX6_mouths_42 : decode cX6_mouths 42 = .ok (.iconst 2, 1) := by decide +kernel
theorem dX6_mouths_43 : decode cX6_mouths 43 = .ok (.goto 26, 3) := by decide +kernel
theorem dX6_mouths_46 : decode cX6_mouths 46 = .ok (.aload_n 0, 1) := by decide +kernel
theorem dX6_mouths_47 : decode cX6_mouths 47 = .ok (.getfield 19, 3) := by decide +kernel
theorem dX6_mouths_50 : decode cX6_mouths 50 = .ok (.bipush 10, 2) := by decide +kernel
theorem dX6_mouths_52 : decode cX6_mouths 52 = .ok (.iload_n 1, 1) := by decide +kernel
theorem dX6_mouths_53 : decode cX6_mouths 53 = .ok (.imul, 1) := by decide +kernel
theorem dX6_mouths_54 : decode cX6_mouths 54 = .ok (.iload_n 2, 1) := by decide +kernel
theorem dX6_mouths_55 : decode cX6_mouths 55 = .ok (.iadd, 1) := by decide +kernel
theorem dX6_mouths_56 : decode cX6_mouths 56 = .ok (.iaload, 1) := by decide +kernel
theorem dX6_mouths_57 : decode cX6_mouths 57 = .ok (.iload_n 3, 1) := by decide +kernel
theorem dX6_mouths_58 : decode cX6_mouths 58 = .ok (.iadd, 1) := by decide +kernel
theorem dX6_mouths_59 : decode cX6_mouths 59 = .ok (.bipush 9, 2) := by decide +kernel
theorem dX6_mouths_61 : decode cX6_mouths 61 = .ok (.if_icmp .le 7, 3) := by decide +kernel
theorem dX6_mouths_64 : decode cX6_mouths 64 = .ok (.iconst 3, 1) := by decide +kernel
theorem dX6_mouths_65 : decode cX6_mouths 65 = .ok (.goto 4, 3) := by decide +kernel
theorem dX6_mouths_68 : decode cX6_mouths 68 = .ok (.iconst 0, 1) := by decide +kernel
theorem dX6_mouths_69 : decode cX6_mouths 69 = .ok (.invokevirtual 108, 3) := by decide +kernel
theorem dX6_mouths_72 : decode cX6_mouths 72 = .ok (.ifCond .eq 5, 3) := by decide +kernel
theorem dX6_mouths_75 : decode cX6_mouths 75 = .ok (.iconst 0, 1) := by decide +kernel
theorem dX6_mouths_76 : decode cX6_mouths 76 = .ok (.ireturn, 1) := by decide +kernel
theorem dX6_mouths_77 : decode cX6_mouths 77 = .ok (.aload_n 0, 1) := by decide +kernel
theorem dX6_mouths_78 : decode cX6_mouths 78 = .ok (.getfield 19, 3) := by decide +kernel
theorem dX6_mouths_81 : decode cX6_mouths 81 = .ok (.bipush 10, 2) := by decide +kernel
theorem dX6_mouths_83 : decode cX6_mouths 83 = .ok (.iload_n 1, 1) := by decide +kernel
theorem dX6_mouths_84 : decode cX6_mouths 84 = .ok (.imul, 1) := by decide +kernel
theorem dX6_mouths_85 : decode cX6_mouths 85 = .ok (.iload_n 2, 1) := by decide +kernel
theorem dX6_mouths_86 : decode cX6_mouths 86 = .ok (.iadd, 1) := by decide +kernel
theorem dX6_mouths_87 : decode cX6_mouths 87 = .ok (.dup2, 1) := by decide +kernel
theorem dX6_mouths_88 : decode cX6_mouths 88 = .ok (.iaload, 1) := by decide +kernel
theorem dX6_mouths_89 : decode cX6_mouths 89 = .ok (.iload_n 3, 1) := by decide +kernel
theorem dX6_mouths_90 : decode cX6_mouths 90 = .ok (.iadd, 1) := by decide +kernel
theorem dX6_mouths_91 : decode cX6_mouths 91 = .ok (.iastore, 1) := by decide +kernel
theorem dX6_mouths_92 : decode cX6_mouths 92 = .ok (.aload_n 0, 1) := by decide +kernel
theorem dX6_mouths_93 : decode cX6_mouths 93 = .ok (.getfield 19, 3) := by decide +kernel
theorem dX6_mouths_96 : decode cX6_mouths 96 = .ok (.bipush 10, 2) := by decide +kernel
theorem dX6_mouths_98 : decode cX6_mouths 98 = .ok (.iload_n 1, 1) := by decide +kernel
theorem dX6_mouths_99 : decode cX6_mouths 99 = .ok (.imul, 1) := by decide +kernel
theorem dX6_mouths_100 : decode cX6_mouths 100 = .ok (.iload_n 2, 1) := by decide +kernel
theorem dX6_mouths_101 : decode cX6_mouths 101 = .ok (.iadd, 1) := by decide +kernel
theorem dX6_mouths_102 : decode cX6_mouths 102 = .ok (.iaload, 1) := by decide +kernel
theorem dX6_mouths_103 : decode cX6_mouths 103 = .ok (.ireturn, 1) := by decide +kernel
theorem dX6_sound_0 : decode cX6_sound 0 = .ok (.iload_n 1, 1) := by decide +kernel
theorem dX6_sound_1 : decode cX6_sound 1 = .ok (.invokestatic 111, 3) := by decide +kernel
theorem dX6_sound_4 : decode cX6_sound 4 = .ok (.ifCond .eq 17, 3) := by decide +kernel
theorem dX6_sound_7 : decode cX6_sound 7 = .ok (.iload_n 2, 1) := by decide +kernel
theorem dX6_sound_8 : decode cX6_sound 8 = .ok (.iconst 1, 1) := by decide +kernel
theorem dX6_sound_9 : decode cX6_sound 9 = .ok (.bipush 24, 2) := by decide +kernel
theorem dX6_sound_11 : decode cX6_sound 11 = .ok (.invokestatic 91, 3) := by decide +kernel
theorem dX6_sound_14 : decode cX6_sound 14 = .ok (.ifCond .eq 7, 3) := by decide +kernel
theorem dX6_sound_17 : decode cX6_sound 17 = .ok (.iconst 1, 1) := by decide +kernel
theorem dX6_sound_18 : decode cX6_sound 18 = .ok (.goto 4, 3) := by decide +kernel
theorem dX6_sound_21 : decode cX6_sound 21 = .ok (.iconst 0, 1) := by decide +kernel
theorem dX6_sound_22 : decode cX6_sound 22 = .ok (.istore_n 3, 1) := by decide +kernel
theorem dX6_sound_23 : decode cX6_sound 23 = .ok (.aload_n 0, 1) := by decide +kernel
theorem dX6_sound_24 : decode cX6_sound 24 = .ok (.iload_n 3, 1) := by decide +kernel
theorem dX6_sound_25 : decode cX6_sound 25 = .ok (.ifCond .ne 7, 3) := by decide +kernel
theorem dX6_sound_28 : decode cX6_sound 28 = .ok (.iconst 1, 1) := by decide +kernel
theorem dX6_sound_29 : decode cX6_sound 29 = .ok (.goto 22, 3) := by decide +kernel
theorem dX6_sound_32 : decode cX6_sound 32 = .ok (.aload_n 0, 1) := by decide +kernel
theorem dX6_sound_33 : decode cX6_sound 33 = .ok (.getfield 22, 3) := by decide +kernel
theorem dX6_sound_36 : decode cX6_sound 36 = .ok (.aload_n 0, 1) := by decide +kernel
theorem dX6_sound_37 : decode cX6_sound 37 = .ok (.getfield 99, 3) := by decide +kernel
theorem dX6_sound_40 : decode cX6_sound 40 = .ok (.iaload, 1) := by decide +kernel
theorem dX6_sound_41 : decode cX6_sound 41 = .ok (.bipush 12, 2) := by decide +kernel
theorem dX6_sound_43 : decode cX6_sound 43 = .ok (.if_icmp .ne 7, 3) := by decide +kernel
theorem dX6_sound_46 : decode cX6_sound 46 = .ok (.iconst 2, 1) := by decide +kernel
theorem dX6_sound_47 : decode cX6_sound 47 = .ok (.goto 4, 3) := by decide +kernel
theorem dX6_sound_50 : decode cX6_sound 50 = .ok (.iconst 0, 1) := by decide +kernel
theorem dX6_sound_51 : decode cX6_sound 51 = .ok (.invokevirtual 108, 3) := by decide +kernel
theorem dX6_sound_54 : decode cX6_sound 54 = .ok (.ifCond .eq 5, 3) := by decide +kernel
theorem dX6_sound_57 : decode cX6_sound 57 = .ok (.iconst 0, 1) := by decide +kernel
theorem dX6_sound_58 : decode cX6_sound 58 = .ok (.ireturn, 1) := by decide +kernel
theorem dX6_sound_59 : decode cX6_sound 59 = .ok (.aload_n 0, 1) := by decide +kernel
theorem dX6_sound_60 : decode cX6_sound 60 = .ok (.getfield 25, 3) := by decide +kernel
theorem dX6_sound_63 : decode cX6_sound 63 = .ok (.bipush 12, 2) := by decide +kernel
theorem dX6_sound_65 : decode cX6_sound 65 = .ok (.aload_n 0, 1) := by decide +kernel
theorem dX6_sound_66 : decode cX6_sound 66 = .ok (.getfield 99, 3) := by decide +kernel
theorem dX6_sound_69 : decode cX6_sound 69 = .ok (.imul, 1) := by decide +kernel
theorem dX6_sound_70 : decode cX6_sound 70 = .ok (.aload_n 0, 1) := by decide +kernel
theorem dX6_sound_71 : decode cX6_sound 71 = .ok (.getfield 22, 3) := by decide +kernel
theorem dX6_sound_74 : decode cX6_sound 74 = .ok (.aload_n 0, 1) := by decide +kernel
theorem dX6_sound_75 : decode cX6_sound 75 = .ok (.getfield 99, 3) := by decide +kernel
theorem dX6_sound_78 : decode cX6_sound 78 = .ok (.iaload, 1) := by decide +kernel
theorem dX6_sound_79 : decode cX6_sound 79 = .ok (.iadd, 1) := by decide +kernel
theorem dX6_sound_80 : decode cX6_sound 80 = .ok (.iload_n 1, 1) := by decide +kernel
theorem dX6_sound_81 : decode cX6_sound 81 = .ok (.iastore, 1) := by decide +kernel
theorem dX6_sound_82 : decode cX6_sound 82 = .ok (.aload_n 0, 1) := by decide +kernel
theorem dX6_sound_83 : decode cX6_sound 83 = .ok (.getfield 28, 3) := by decide +kernel
theorem dX6_sound_86 : decode cX6_sound 86 = .ok (.bipush 12, 2) := by decide +kernel
theorem dX6_sound_88 : decode cX6_sound 88 = .ok (.aload_n 0, 1) := by decide +kernel
theorem dX6_sound_89 : decode cX6_sound 89 = .ok (.getfield 99, 3) := by decide +kernel
theorem dX6_sound_92 : decode cX6_sound 92 = .ok (.imul, 1) := by decide +kernel
theorem dX6_sound_93 : decode cX6_sound 93 = .ok (.aload_n 0, 1) := by decide +kernel
theorem dX6_sound_94 : decode cX6_sound 94 = .ok (.getfield 22, 3) := by decide +kernel
theorem dX6_sound_97 : decode cX6_sound 97 = .ok (.aload_n 0, 1) := by decide +kernel
theorem dX6_sound_98 : decode cX6_sound 98 = .ok (.getfield 99, 3) := by decide +kernel
theorem dX6_sound_101 : decode cX6_sound 101 = .ok (.iaload, 1) := by decide +kernel
theorem dX6_sound_102 : decode cX6_sound 102 = .ok (.iadd, 1) := by decide +kernel
theorem dX6_sound_103 : decode cX6_sound 103 = .ok (.iload_n 2, 1) := by decide +kernel
theorem dX6_sound_104 : decode cX6_sound 104 = .ok (.iastore, 1) := by decide +kernel
theorem dX6_sound_105 : decode cX6_sound 105 = .ok (.aload_n 0, 1) := by decide +kernel
theorem dX6_sound_106 : decode cX6_sound 106 = .ok (.getfield 22, 3) := by decide +kernel
theorem dX6_sound_109 : decode cX6_sound 109 = .ok (.aload_n 0, 1) := by decide +kernel
theorem dX6_sound_110 : decode cX6_sound 110 = .ok (.getfield 99, 3) := by decide +kernel
theorem dX6_sound_113 : decode cX6_sound 113 = .ok (.dup2, 1) := by decide +kernel
theorem dX6_sound_114 : decode cX6_sound 114 = .ok (.iaload, 1) := by decide +kernel
theorem dX6_sound_115 : decode cX6_sound 115 = .ok (.iconst 1, 1) := by decide +kernel
theorem dX6_sound_116 : decode cX6_sound 116 = .ok (.iadd, 1) := by decide +kernel
theorem dX6_sound_117 : decode cX6_sound 117 = .ok (.iastore, 1) := by decide +kernel
theorem dX6_sound_118 : decode cX6_sound 118 = .ok (.aload_n 0, 1) := by decide +kernel
theorem dX6_sound_119 : decode cX6_sound 119 = .ok (.getfield 22, 3) := by decide +kernel
theorem dX6_sound_122 : decode cX6_sound 122 = .ok (.aload_n 0, 1) := by decide +kernel
theorem dX6_sound_123 : decode cX6_sound 123 = .ok (.getfield 99, 3) := by decide +kernel
theorem dX6_sound_126 : decode cX6_sound 126 = .ok (.iaload, 1) := by decide +kernel
theorem dX6_sound_127 : decode cX6_sound 127 = .ok (.ireturn, 1) := by decide +kernel
theorem dX6_voice_0 : decode cX6_voice 0 = .ok (.aload_n 0, 1) := by decide +kernel
theorem dX6_voice_1 : decode cX6_voice 1 = .ok (.aload_n 0, 1) := by decide +kernel
theorem dX6_voice_2 : decode cX6_voice 2 = .ok (.getfield 22, 3) := by decide +kernel
theorem dX6_voice_5 : decode cX6_voice 5 = .ok (.aload_n 0, 1) := by decide +kernel
theorem dX6_voice_6 : decode cX6_voice 6 = .ok (.getfield 99, 3) := by decide +kernel
theorem dX6_voice_9 : decode cX6_voice 9 = .ok (.iaload, 1) := by decide +kernel
theorem dX6_voice_10 : decode cX6_voice 10 = .ok (.ifCond .eq 12, 3) := by decide +kernel
theorem dX6_voice_13 : decode cX6_voice 13 = .ok (.aload_n 0, 1) := by decide +kernel
end
section
theorem dX6_voice_14 : decode cX6_voice 14 = .ok (.getfield 99, 3) := by decide +kernel
theorem dX6_voice_17 : decode cX6_voice 17 = .ok (.bipush 6, 2) := by decide +kernel
theorem dX6_voice_19 : decode cX6_voice 19 = .ok (.if_icmp .ne 7, 3) := by decide +kernel
theorem dX6_voice_22 : decode cX6_voice 22 = .ok (.iconst 1, 1) := by decide +kernel
theorem dX6_voice_23 : decode cX6_voice 23 = .ok (.goto 4, 3) := by decide +kernel
theorem dX6_voice_26 : decode cX6_voice 26 = .ok (.iconst 0, 1) := by decide +kernel
theorem dX6_voice_27 : decode cX6_voice 27 = .ok (.invokevirtual 108, 3) := by decide +kernel
theorem dX6_voice_30 : decode cX6_voice 30 = .ok (.ifCond .eq 5, 3) := by decide +kernel
theorem dX6_voice_33 : decode cX6_voice 33 = .ok (.iconst 0, 1) := by decide +kernel
theorem dX6_voice_34 : decode cX6_voice 34 = .ok (.ireturn, 1) := by decide +kernel
theorem dX6_voice_35 : decode cX6_voice 35 = .ok (.aload_n 0, 1) := by decide +kernel
theorem dX6_voice_36 : decode cX6_voice 36 = .ok (.dup, 1) := by decide +kernel
theorem dX6_voice_37 : decode cX6_voice 37 = .ok (.getfield 99, 3) := by decide +kernel
theorem dX6_voice_40 : decode cX6_voice 40 = .ok (.iconst 1, 1) := by decide +kernel
theorem dX6_voice_41 : decode cX6_voice 41 = .ok (.iadd, 1) := by decide +kernel
theorem dX6_voice_42 : decode cX6_voice 42 = .ok (.putfield 99, 3) := by decide +kernel
theorem dX6_voice_45 : decode cX6_voice 45 = .ok (.aload_n 0, 1) := by decide +kernel
theorem dX6_voice_46 : decode cX6_voice 46 = .ok (.getfield 99, 3) := by decide +kernel
theorem dX6_voice_49 : decode cX6_voice 49 = .ok (.iconst 1, 1) := by decide +kernel
theorem dX6_voice_50 : decode cX6_voice 50 = .ok (.isub, 1) := by decide +kernel
theorem dX6_voice_51 : decode cX6_voice 51 = .ok (.ireturn, 1) := by decide +kernel
theorem dX6_shot_0 : decode cX6_shot 0 = .ok (.aload_n 0, 1) := by decide +kernel
theorem dX6_shot_1 : decode cX6_shot 1 = .ok (.iload_n 1, 1) := by decide +kernel
theorem dX6_shot_2 : decode cX6_shot 2 = .ok (.invokevirtual 95, 3) := by decide +kernel
theorem dX6_shot_5 : decode cX6_shot 5 = .ok (.ifCond .eq 16, 3) := by decide +kernel
theorem dX6_shot_8 : decode cX6_shot 8 = .ok (.aload_n 0, 1) := by decide +kernel
theorem dX6_shot_9 : decode cX6_shot 9 = .ok (.iload 4, 2) := by decide +kernel
theorem dX6_shot_11 : decode cX6_shot 11 = .ok (.invokevirtual 114, 3) := by decide +kernel
theorem dX6_shot_14 : decode cX6_shot 14 = .ok (.ifCond .eq 7, 3) := by decide +kernel
theorem dX6_shot_17 : decode cX6_shot 17 = .ok (.iconst 1, 1) := by decide +kernel
theorem dX6_shot_18 : decode cX6_shot 18 = .ok (.goto 4, 3) := by decide +kernel
theorem dX6_shot_21 : decode cX6_shot 21 = .ok (.iconst 0, 1) := by decide +kernel
theorem dX6_shot_22 : decode cX6_shot 22 = .ok (.istore 5, 2) := by decide +kernel
theorem dX6_shot_24 : decode cX6_shot 24 = .ok (.iload_n 2, 1) := by decide +kernel
theorem dX6_shot_25 : decode cX6_shot 25 = .ok (.iconst 1, 1) := by decide +kernel
theorem dX6_shot_26 : decode cX6_shot 26 = .ok (.bipush 48, 2) := by decide +kernel
theorem dX6_shot_28 : decode cX6_shot 28 = .ok (.invokestatic 91, 3) := by decide +kernel
theorem dX6_shot_31 : decode cX6_shot 31 = .ok (.ifCond .eq 16, 3) := by decide +kernel
theorem dX6_shot_34 : decode cX6_shot 34 = .ok (.iload_n 3, 1) := by decide +kernel
theorem dX6_shot_35 : decode cX6_shot 35 = .ok (.iconst 1, 1) := by decide +kernel
theorem dX6_shot_36 : decode cX6_shot 36 = .ok (.iconst 2, 1) := by decide +kernel
theorem dX6_shot_37 : decode cX6_shot 37 = .ok (.invokestatic 91, 3) := by decide +kernel
theorem dX6_shot_40 : decode cX6_shot 40 = .ok (.ifCond .eq 7, 3) := by decide +kernel
theorem dX6_shot_43 : decode cX6_shot 43 = .ok (.iconst 1, 1) := by decide +kernel
theorem dX6_shot_44 : decode cX6_shot 44 = .ok (.goto 4, 3) := by decide +kernel
theorem dX6_shot_47 : decode cX6_shot 47 = .ok (.iconst 0, 1) := by decide +kernel
theorem dX6_shot_48 : decode cX6_shot 48 = .ok (.istore 6, 2) := by decide +kernel
theorem dX6_shot_50 : decode cX6_shot 50 = .ok (.aload_n 0, 1) := by decide +kernel
theorem dX6_shot_51 : decode cX6_shot 51 = .ok (.iload 5, 2) := by decide +kernel
theorem dX6_shot_53 : decode cX6_shot 53 = .ok (.ifCond .ne 7, 3) := by decide +kernel
theorem dX6_shot_56 : decode cX6_shot 56 = .ok (.iconst 1, 1) := by decide +kernel
theorem dX6_shot_57 : decode cX6_shot 57 = .ok (.goto 26, 3) := by decide +kernel
theorem dX6_shot_60 : decode cX6_shot 60 = .ok (.iload 6, 2) := by decide +kernel
theorem dX6_shot_62 : decode cX6_shot 62 = .ok (.ifCond .ne 7, 3) := by decide +kernel
theorem dX6_shot_65 : decode cX6_shot 65 = .ok (.iconst 2, 1) := by decide +kernel
theorem dX6_shot_66 : decode cX6_shot 66 = .ok (.goto 17, 3) := by decide +kernel
theorem dX6_shot_69 : decode cX6_shot 69 = .ok (.aload_n 0, 1) := by decide +kernel
theorem dX6_shot_70 : decode cX6_shot 70 = .ok (.getfield 102, 3) := by decide +kernel
theorem dX6_shot_73 : decode cX6_shot 73 = .ok (.bipush 8, 2) := by decide +kernel
theorem dX6_shot_75 : decode cX6_shot 75 = .ok (.if_icmp .ne 7, 3) := by decide +kernel
theorem dX6_shot_78 : decode cX6_shot 78 = .ok (.iconst 3, 1) := by decide +kernel
theorem dX6_shot_79 : decode cX6_shot 79 = .ok (.goto 4, 3) := by decide +kernel
theorem dX6_shot_82 : decode cX6_shot 82 = .ok (.iconst 0, 1) := by decide +kernel
theorem dX6_shot_83 : decode cX6_shot 83 = .ok (.invokevirtual 108, 3) := by decide +kernel
theorem dX6_shot_86 : decode cX6_shot 86 = .ok (.ifCond .eq 5, 3) := by decide +kernel
theorem dX6_shot_89 : decode cX6_shot 89 = .ok (.iconst 0, 1) := by decide +kernel
theorem dX6_shot_90 : decode cX6_shot 90 = .ok (.ireturn, 1) := by decide +kernel
theorem dX6_shot_91 : decode cX6_shot 91 = .ok (.aload_n 0, 1) := by decide +kernel
theorem dX6_shot_92 : decode cX6_shot 92 = .ok (.getfield 31, 3) := by decide +kernel
theorem dX6_shot_95 : decode cX6_shot 95 = .ok (.aload_n 0, 1) := by decide +kernel
theorem dX6_shot_96 : decode cX6_shot 96 = .ok (.getfield 102, 3) := by decide +kernel
theorem dX6_shot_99 : decode cX6_shot 99 = .ok (.iload_n 1, 1) := by decide +kernel
theorem dX6_shot_100 : decode cX6_shot 100 = .ok (.iastore, 1) := by decide +kernel
theorem dX6_shot_101 : decode cX6_shot 101 = .ok (.aload_n 0, 1) := by decide +kernel
theorem dX6_shot_102 : decode cX6_shot 102 = .ok (.getfield 34, 3) := by decide +kernel
theorem dX6_shot_105 : decode cX6_shot 105 = .ok (.aload_n 0, 1) := by decide +kernel
theorem dX6_shot_106 : decode cX6_shot 106 = .ok (.getfield 102, 3) := by decide +kernel
theorem dX6_shot_109 : decode cX6_shot 109 = .ok (.iload_n 2, 1) := by decide +kernel
theorem dX6_shot_110 : decode cX6_shot 110 = .ok (.iastore, 1) := by decide +kernel
theorem dX6_shot_111 : decode cX6_shot 111 = .ok (.aload_n 0, 1) := by decide +kernel
theorem dX6_shot_112 : decode cX6_shot 112 = .ok (.getfield 37, 3) := by decide +kernel
theorem dX6_shot_115 : decode cX6_shot 115 = .ok (.aload_n 0, 1) := by decide +kernel
theorem dX6_shot_116 : decode cX6_shot 116 = .ok (.getfield 102, 3) := by decide +kernel
theorem dX6_shot_119 : decode cX6_shot 119 = .ok (.iload_n 3, 1) := by decide +kernel
theorem dX6_shot_120 : decode cX6_shot 120 = .ok (.iastore, 1) := by decide +kernel
theorem dX6_shot_121 : decode cX6_shot 121 = .ok (.aload_n 0, 1) := by decide +kernel
theorem dX6_shot_122 : decode cX6_shot 122 = .ok (.getfield 40, 3) := by decide +kernel
theorem dX6_shot_125 : decode cX6_shot 125 = .ok (.aload_n 0, 1) := by decide +kernel
theorem dX6_shot_126 : decode cX6_shot 126 = .ok (.getfield 102, 3) := by decide +kernel
theorem dX6_shot_129 : decode cX6_shot 129 = .ok (.iload 4, 2) := by decide +kernel
theorem dX6_shot_131 : decode cX6_shot 131 = .ok (.iastore, 1) := by decide +kernel
theorem dX6_shot_132 : decode cX6_shot 132 = .ok (.aload_n 0, 1) := by decide +kernel
theorem dX6_shot_133 : decode cX6_shot 133 = .ok (.getfield 43, 3) := by decide +kernel
theorem dX6_shot_136 : decode cX6_shot 136 = .ok (.aload_n 0, 1) := by decide +kernel
theorem dX6_shot_137 : decode cX6_shot 137 = .ok (.getfield 102, 3) := by decide +kernel
theorem dX6_shot_140 : decode cX6_shot 140 = .ok (.iconst (-1), 1) := by decide +kernel
theorem dX6_shot_141 : decode cX6_shot 141 = .ok (.iastore, 1) := by decide +kernel
theorem dX6_shot_142 : decode cX6_shot 142 = .ok (.aload_n 0, 1) := by decide +kernel
theorem dX6_shot_143 : decode cX6_shot 143 = .ok (.dup, 1) := by decide +kernel
theorem dX6_shot_144 : decode cX6_shot 144 = .ok (.getfield 102, 3) := by decide +kernel
theorem dX6_shot_147 : decode cX6_shot 147 = .ok (.iconst 1, 1) := by decide +kernel
theorem dX6_shot_148 : decode cX6_shot 148 = .ok (.iadd, 1) := by decide +kernel
theorem dX6_shot_149 : decode cX6_shot 149 = .ok (.putfield 102, 3) := by decide +kernel
theorem dX6_shot_152 : decode cX6_shot 152 = .ok (.aload_n 0, 1) := by decide +kernel
theorem dX6_shot_153 : decode cX6_shot 153 = .ok (.getfield 102, 3) := by decide +kernel
theorem dX6_shot_156 : decode cX6_shot 156 = .ok (.iconst 1, 1) := by decide +kernel
theorem dX6_shot_157 : decode cX6_shot 157 = .ok (.isub, 1) := by decide +kernel
theorem dX6_shot_158 : decode cX6_shot 158 = .ok (.ireturn, 1) := by decide +kernel
theorem dX6_isDone_0 : decode cX6_isDone 0 = .ok (.aload_n 0, 1) := by decide +kernel
theorem dX6_isDone_1 : decode cX6_isDone 1 = .ok (.getfield 46, 3) := by decide +kernel
theorem dX6_isDone_4 : decode cX6_isDone 4 = .ok (.iload_n 1, 1) := by decide +kernel
theorem dX6_isDone_5 : decode cX6_isDone 5 = .ok (.iaload, 1) := by decide +kernel
theorem dX6_isDone_6 : decode cX6_isDone 6 = .ok (.aload_n 0, 1) := by decide +kernel
theorem dX6_isDone_7 : decode cX6_isDone 7 = .ok (.getfield 34, 3) := by decide +kernel
theorem dX6_isDone_10 : decode cX6_isDone 10 = .ok (.iload_n 1, 1) := by decide +kernel
theorem dX6_isDone_11 : decode cX6_isDone 11 = .ok (.iaload, 1) := by decide +kernel
theorem dX6_isDone_12 : decode cX6_isDone 12 = .ok (.if_icmp .ne 7, 3) := by decide +kernel
theorem dX6_isDone_15 : decode cX6_isDone 15 = .ok (.iconst 1, 1) := by decide +kernel
theorem dX6_isDone_16 : decode cX6_isDone 16 = .ok (.goto 4, 3) := by decide +kernel
theorem dX6_isDone_19 : decode cX6_isDone 19 = .ok (.iconst 0, 1) := by decide +kernel
theorem dX6_isDone_20 : decode cX6_isDone 20 = .ok (.ireturn, 1) := by decide +kernel
theorem dX6_isOn_0 : decode cX6_isOn 0 = .ok (.aload_n 0, 1) := by decide +kernel
theorem dX6_isOn_1 : decode cX6_isOn 1 = .ok (.getfield 46, 3) := by decide +kernel
theorem dX6_isOn_4 : decode cX6_isOn 4 = .ok (.iload_n 1, 1) := by decide +kernel
theorem dX6_isOn_5 : decode cX6_isOn 5 = .ok (.iaload, 1) := by decide +kernel
theorem dX6_isOn_6 : decode cX6_isOn 6 = .ok (.ifCond .le 15, 3) := by decide +kernel
theorem dX6_isOn_9 : decode cX6_isOn 9 = .ok (.aload_n 0, 1) := by decide +kernel
theorem dX6_isOn_10 : decode cX6_isOn 10 = .ok (.iload_n 1, 1) := by decide +kernel
theorem dX6_isOn_11 : decode cX6_isOn 11 = .ok (.invokevirtual 117, 3) := by decide +kernel
theorem dX6_isOn_14 : decode cX6_isOn 14 = .ok (.ifCond .ne 7, 3) := by decide +kernel
theorem dX6_isOn_17 : decode cX6_isOn 17 = .ok (.iconst 1, 1) := by decide +kernel
theorem dX6_isOn_18 : decode cX6_isOn 18 = .ok (.goto 4, 3) := by decide +kernel
theorem dX6_isOn_21 : decode cX6_isOn 21 = .ok (.iconst 0, 1) := by decide +kernel
theorem dX6_isOn_22 : decode cX6_isOn 22 = .ok (.ireturn, 1) := by decide +kernel
theorem dX6_assign_0 : decode cX6_assign 0 = .ok (.aload_n 0, 1) := by decide +kernel
theorem dX6_assign_1 : decode cX6_assign 1 = .ok (.iload_n 1, 1) := by decide +kernel
theorem dX6_assign_2 : decode cX6_assign 2 = .ok (.invokevirtual 105, 3) := by decide +kernel
theorem dX6_assign_5 : decode cX6_assign 5 = .ok (.ifCond .eq 14, 3) := by decide +kernel
theorem dX6_assign_8 : decode cX6_assign 8 = .ok (.iload_n 2, 1) := by decide +kernel
theorem dX6_assign_9 : decode cX6_assign 9 = .ok (.invokestatic 120, 3) := by decide +kernel
theorem dX6_assign_12 : decode cX6_assign 12 = .ok (.ifCond .eq 7, 3) := by decide +kernel
theorem dX6_assign_15 : decode cX6_assign 15 = .ok (.iconst 1, 1) := by decide +kernel
theorem dX6_assign_16 : decode cX6_assign 16 = .ok (.goto 4, 3) := by decide +kernel
theorem dX6_assign_19 : decode cX6_assign 19 = .ok (.iconst 0, 1) := by decide +kernel
theorem dX6_assign_20 : decode cX6_assign 20 = .ok (.istore_n 3, 1) := by decide +kernel
theorem dX6_assign_21 : decode cX6_assign 21 = .ok (.iload_n 3, 1) := by decide +kernel
theorem dX6_assign_22 : decode cX6_assign 22 = .ok (.ifCond .eq 38, 3) := by decide +kernel
theorem dX6_assign_25 : decode cX6_assign 25 = .ok (.aload_n 0, 1) := by decide +kernel
theorem dX6_assign_26 : decode cX6_assign 26 = .ok (.iload_n 1, 1) := by decide +kernel
theorem dX6_assign_27 : decode cX6_assign 27 = .ok (.invokevirtual 117, 3) := by decide +kernel
theorem dX6_assign_30 : decode cX6_assign 30 = .ok (.ifCond .ne 30, 3) := by decide +kernel
theorem dX6_assign_33 : decode cX6_assign 33 = .ok (.aload_n 0, 1) := by decide +kernel
theorem dX6_assign_34 : decode cX6_assign 34 = .ok (.getfield 46, 3) := by decide +kernel
theorem dX6_assign_37 : decode cX6_assign 37 = .ok (.iload_n 1, 1) := by decide +kernel
theorem dX6_assign_38 : decode cX6_assign 38 = .ok (.iaload, 1) := by decide +kernel
theorem dX6_assign_39 : decode cX6_assign 39 = .ok (.ifCond .eq 17, 3) := by decide +kernel
theorem dX6_assign_42 : decode cX6_assign 42 = .ok (.aload_n 0, 1) := by decide +kernel
theorem dX6_assign_43 : decode cX6_assign 43 = .ok (.getfield 52, 3) := by decide +kernel
theorem dX6_assign_46 : decode cX6_assign 46 = .ok (.aload_n 0, 1) := by decide +kernel
theorem dX6_assign_47 : decode cX6_assign 47 = .ok (.getfield 43, 3) := by decide +kernel
theorem dX6_assign_50 : decode cX6_assign 50 = .ok (.iload_n 1, 1) := by decide +kernel
theorem dX6_assign_51 : decode cX6_assign 51 = .ok (.iaload, 1) := by decide +kernel
theorem dX6_assign_52 : decode cX6_assign 52 = .ok (.baload, 1) := by decide +kernel
theorem dX6_assign_53 : decode cX6_assign 53 = .ok (.ifCond .eq 7, 3) := by decide +kernel
theorem dX6_assign_56 : decode cX6_assign 56 = .ok (.iconst 1, 1) := by decide +kernel
theorem dX6_assign_57 : decode cX6_assign 57 = .ok (.goto 4, 3) := by decide +kernel
theorem dX6_assign_60 : decode cX6_assign 60 = .ok (.iconst 0, 1) := by decide +kernel
theorem dX6_assign_61 : decode cX6_assign 61 = .ok (.istore 4, 2) := by decide +kernel
theorem dX6_assign_63 : decode cX6_assign 63 = .ok (.aload_n 0, 1) := by decide +kernel
theorem dX6_assign_64 : decode cX6_assign 64 = .ok (.iload_n 3, 1) := by decide +kernel
theorem dX6_assign_65 : decode cX6_assign 65 = .ok (.ifCond .ne 7, 3) := by decide +kernel
theorem dX6_assign_68 : decode cX6_assign 68 = .ok (.iconst 1, 1) := by decide +kernel
theorem dX6_assign_69 : decode cX6_assign 69 = .ok (.goto 13, 3) := by decide +kernel
theorem dX6_assign_72 : decode cX6_assign 72 = .ok (.iload 4, 2) := by decide +kernel
theorem dX6_assign_74 : decode cX6_assign 74 = .ok (.ifCond .eq 7, 3) := by decide +kernel
theorem dX6_assign_77 : decode cX6_assign 77 = .ok (.iconst 0, 1) := by decide +kernel
theorem dX6_assign_78 : decode cX6_assign 78 = .ok (.goto 4, 3) := by decide +kernel
theorem dX6_assign_81 : decode cX6_assign 81 = .ok (.iconst 2, 1) := by decide +kernel
theorem dX6_assign_82 : decode cX6_assign 82 = .ok (.invokevirtual 108, 3) := by decide +kernel
theorem dX6_assign_85 : decode cX6_assign 85 = .ok (.ifCond .eq 5, 3) := by decide +kernel
theorem dX6_assign_88 : decode cX6_assign 88 = .ok (.iconst 0, 1) := by decide +kernel
theorem dX6_assign_89 : decode cX6_assign 89 = .ok (.ireturn, 1) := by decide +kernel
theorem dX6_assign_90 : decode cX6_assign 90 = .ok (.aload_n 0, 1) := by decide +kernel
theorem dX6_assign_91 : decode cX6_assign 91 = .ok (.getfield 43, 3) := by decide +kernel
theorem dX6_assign_94 : decode cX6_assign 94 = .ok (.iload_n 1, 1) := by decide +kernel
theorem dX6_assign_95 : decode cX6_assign 95 = .ok (.iaload, 1) := by decide +kernel
theorem dX6_assign_96 : decode cX6_assign 96 = .ok (.istore 5, 2) := by decide +kernel
theorem dX6_assign_98 : decode cX6_assign 98 = .ok (.aload_n 0, 1) := by decide +kernel
theorem dX6_assign_99 : decode cX6_assign 99 = .ok (.getfield 43, 3) := by decide +kernel
theorem dX6_assign_102 : decode cX6_assign 102 = .ok (.iload_n 1, 1) := by decide +kernel
theorem dX6_assign_103 : decode cX6_assign 103 = .ok (.iload_n 2, 1) := by decide +kernel
theorem dX6_assign_104 : decode cX6_assign 104 = .ok (.iastore, 1) := by decide +kernel
theorem dX6_assign_105 : decode cX6_assign 105 = .ok (.iload 5, 2) := by decide +kernel
theorem dX6_assign_107 : decode cX6_assign 107 = .ok (.ireturn, 1) := by decide +kernel
theorem dX6_ill_0 : decode cX6_ill 0 = .ok (.aload_n 0, 1) := by decide +kernel
theorem dX6_ill_1 : decode cX6_ill 1 = .ok (.iload_n 1, 1) := by decide +kernel
theorem dX6_ill_2 : decode cX6_ill 2 = .ok (.invokestatic 120, 3) := by decide +kernel
theorem dX6_ill_5 : decode cX6_ill 5 = .ok (.ifCond .eq 7, 3) := by decide +kernel
theorem dX6_ill_8 : decode cX6_ill 8 = .ok (.iconst 0, 1) := by decide +kernel
theorem dX6_ill_9 : decode cX6_ill 9 = .ok (.goto 4, 3) := by decide +kernel
theorem dX6_ill_12 : decode cX6_ill 12 = .ok (.iconst 1, 1) := by decide +kernel
theorem dX6_ill_13 : decode cX6_ill 13 = .ok (.invokevirtual 108, 3) := by decide +kernel
theorem dX6_ill_16 : decode cX6_ill 16 = .ok (.ifCond .eq 5, 3) := by decide +kernel
theorem dX6_ill_19 : decode cX6_ill 19 = .ok (.iconst 0, 1) := by decide +kernel
theorem dX6_ill_20 : decode cX6_ill 20 = .ok (.ireturn, 1) := by decide +kernel
theorem dX6_ill_21 : decode cX6_ill 21 = .ok (.aload_n 0, 1) := by decide +kernel
theorem dX6_ill_22 : decode cX6_ill 22 = .ok (.getfield 52, 3) := by decide +kernel
theorem dX6_ill_25 : decode cX6_ill 25 = .ok (.iload_n 1, 1) := by decide +kernel
theorem dX6_ill_26 : decode cX6_ill 26 = .ok (.baload, 1) := by decide +kernel
theorem dX6_ill_27 : decode cX6_ill 27 = .ok (.istore_n 3, 1) := by decide +kernel
theorem dX6_ill_28 : decode cX6_ill 28 = .ok (.aload_n 0, 1) := by decide +kernel
theorem dX6_ill_29 : decode cX6_ill 29 = .ok (.getfield 52, 3) := by decide +kernel
theorem dX6_ill_32 : decode cX6_ill 32 = .ok (.iload_n 1, 1) := by decide +kernel
theorem dX6_ill_33 : decode cX6_ill 33 = .ok (.iload_n 2, 1) := by decide +kernel
theorem dX6_ill_34 : decode cX6_ill 34 = .ok (.bastore, 1) := by decide +kernel
theorem dX6_ill_35 : decode cX6_ill 35 = .ok (.iload_n 3, 1) := by decide +kernel
theorem dX6_ill_36 : decode cX6_ill 36 = .ok (.ireturn, 1) := by decide +kernel
theorem dX6_dub_0 : decode cX6_dub 0 = .ok (.aload_n 0, 1) := by decide +kernel
theorem dX6_dub_1 : decode cX6_dub 1 = .ok (.aload_n 0, 1) := by decide +kernel
theorem dX6_dub_2 : decode cX6_dub 2 = .ok (.iload_n 1, 1) := by decide +kernel
theorem dX6_dub_3 : decode cX6_dub 3 = .ok (.invokevirtual 105, 3) := by decide +kernel
theorem dX6_dub_6 : decode cX6_dub 6 = .ok (.ifCond .eq 15, 3) := by decide +kernel
theorem dX6_dub_9 : decode cX6_dub 9 = .ok (.aload_n 0, 1) := by decide +kernel
theorem dX6_dub_10 : decode cX6_dub 10 = .ok (.iload_n 2, 1) := by decide +kernel
theorem dX6_dub_11 : decode cX6_dub 11 = .ok (.invokevirtual 114, 3) := by decide +kernel
theorem dX6_dub_14 : decode cX6_dub 14 = .ok (.ifCond .eq 7, 3) := by decide +kernel
theorem dX6_dub_17 : decode cX6_dub 17 = .ok (.iconst 0, 1) := by decide +kernel
theorem dX6_dub_18 : decode cX6_dub 18 = .ok (.goto 4, 3) := by decide +kernel
theorem dX6_dub_21 : decode cX6_dub 21 = .ok (.iconst 1, 1) := by decide +kernel
theorem dX6_dub_22 : decode cX6_dub 22 = .ok (.invokevirtual 108, 3) := by decide +kernel
theorem dX6_dub_25 : decode cX6_dub 25 = .ok (.ifCond .eq 5, 3) := by decide +kernel
theorem dX6_dub_28 : decode cX6_dub 28 = .ok (.iconst 0, 1) := by decide +kernel
theorem dX6_dub_29 : decode cX6_dub 29 = .ok (.ireturn, 1) := by decide +kernel
theorem dX6_dub_30 : decode cX6_dub 30 = .ok (.aload_n 0, 1) := by decide +kernel
theorem dX6_dub_31 : decode cX6_dub 31 = .ok (.getfield 40, 3) := by decide +kernel
theorem dX6_dub_34 : decode cX6_dub 34 = .ok (.iload_n 1, 1) := by decide +kernel
theorem dX6_dub_35 : decode cX6_dub 35 = .ok (.iaload, 1) := by decide +kernel
theorem dX6_dub_36 : decode cX6_dub 36 = .ok (.istore_n 3, 1) := by decide +kernel
theorem dX6_dub_37 : decode cX6_dub 37 = .ok (.aload_n 0, 1) := by decide +kernel
theorem dX6_dub_38 : decode cX6_dub 38 = .ok (.getfield 40, 3) := by decide +kernel
theorem dX6_dub_41 : decode cX6_dub 41 = .ok (.iload_n 1, 1) := by decide +kernel
theorem dX6_dub_42 : decode cX6_dub 42 = .ok (.iload_n 2, 1) := by decide +kernel
theorem dX6_dub_43 : decode cX6_dub 43 = .ok (.iastore, 1) := by decide +kernel
theorem dX6_dub_44 : decode cX6_dub 44 = .ok (.iload_n 3, 1) := by decide +kernel
theorem dX6_dub_45 : decode cX6_dub 45 = .ok (.ireturn, 1) := by decide +kernel
theorem dX6_isHeld_0 : decode cX6_isHeld 0 = .ok (.aload_n 0, 1) := by decide +kernel
theorem dX6_isHeld_1 : decode cX6_isHeld 1 = .ok (.getfield 37, 3) := by decide +kernel
theorem dX6_isHeld_4 : decode cX6_isHeld 4 = .ok (.iload_n 1, 1) := by decide +kernel
theorem dX6_isHeld_5 : decode cX6_isHeld 5 = .ok (.iaload, 1) := by decide +kernel
theorem dX6_isHeld_6 : decode cX6_isHeld 6 = .ok (.iconst 2, 1) := by decide +kernel
theorem dX6_isHeld_7 : decode cX6_isHeld 7 = .ok (.if_icmp .ne 14, 3) := by decide +kernel
theorem dX6_isHeld_10 : decode cX6_isHeld 10 = .ok (.iload_n 2, 1) := by decide +kernel
theorem dX6_isHeld_11 : decode cX6_isHeld 11 = .ok (.iconst 2, 1) := by decide +kernel
theorem dX6_isHeld_12 : decode cX6_isHeld 12 = .ok (.irem, 1) := by decide +kernel
theorem dX6_isHeld_13 : decode cX6_isHeld 13 = .ok (.iconst 1, 1) := by decide +kernel
theorem dX6_isHeld_14 : decode cX6_isHeld 14 = .ok (.if_icmp .ne 7, 3) := by decide +kernel
theorem dX6_isHeld_17 : decode cX6_isHeld 17 = .ok (.iconst 1, 1) := by decide +kernel
theorem dX6_isHeld_18 : decode cX6_isHeld 18 = .ok (.goto 4, 3) := by decide +kernel
theorem dX6_isHeld_21 : decode cX6_isHeld 21 = .ok (.iconst 0, 1) := by decide +kernel
theorem dX6_isHeld_22 : decode cX6_isHeld 22 = .ok (.ireturn, 1) := by decide +kernel
theorem dX6_row_0 : decode cX6_row 0 = .ok (.bipush 48, 2) := by decide +kernel
theorem dX6_row_2 : decode cX6_row 2 = .ok (.bipush 6, 2) := by decide +kernel
theorem dX6_row_4 : decode cX6_row 4 = .ok (.iload_n 1, 1) := by decide +kernel
theorem dX6_row_5 : decode cX6_row 5 = .ok (.imul, 1) := by decide +kernel
theorem dX6_row_6 : decode cX6_row 6 = .ok (.iload_n 2, 1) := by decide +kernel
theorem dX6_row_7 : decode cX6_row 7 = .ok (.iadd, 1) := by decide +kernel
theorem dX6_row_8 : decode cX6_row 8 = .ok (.imul, 1) := by decide +kernel
theorem dX6_row_9 : decode cX6_row 9 = .ok (.ireturn, 1) := by decide +kernel
theorem dX6_nearest_0 : decode cX6_nearest 0 = .ok (.iload_n 2, 1) := by decide +kernel
theorem dX6_nearest_1 : decode cX6_nearest 1 = .ok (.istore 5, 2) := by decide +kernel
theorem dX6_nearest_3 : decode cX6_nearest 3 = .ok (.iload 5, 2) := by decide +kernel
theorem dX6_nearest_5 : decode cX6_nearest 5 = .ok (.ifCond .lt 30, 3) := by decide +kernel
theorem dX6_nearest_8 : decode cX6_nearest 8 = .ok (.iload 5, 2) := by decide +kernel
theorem dX6_nearest_10 : decode cX6_nearest 10 = .ok (.bipush 48, 2) := by decide +kernel
theorem dX6_nearest_12 : decode cX6_nearest 12 = .ok (.if_icmp .ge 23, 3) := by decide +kernel
theorem dX6_nearest_15 : decode cX6_nearest 15 = .ok (.aload_n 0, 1) := by decide +kernel
theorem dX6_nearest_16 : decode cX6_nearest 16 = .ok (.iload_n 1, 1) := by decide +kernel
theorem dX6_nearest_17 : decode cX6_nearest 17 = .ok (.iload 5, 2) := by decide +kernel
theorem dX6_nearest_19 : decode cX6_nearest 19 = .ok (.iadd, 1) := by decide +kernel
theorem dX6_nearest_20 : decode cX6_nearest 20 = .ok (.iaload, 1) := by decide +kernel
theorem dX6_nearest_21 : decode cX6_nearest 21 = .ok (.iload 4, 2) := by decide +kernel
theorem dX6_nearest_23 : decode cX6_nearest 23 = .ok (.if_icmp .ne 12, 3) := by decide +kernel
theorem dX6_nearest_26 : decode cX6_nearest 26 = .ok (.iload 5, 2) := by decide +kernel
theorem dX6_nearest_28 : decode cX6_nearest 28 = .ok (.iload_n 3, 1) := by decide +kernel
theorem dX6_nearest_29 : decode cX6_nearest 29 = .ok (.iadd, 1) := by decide +kernel
theorem dX6_nearest_30 : decode cX6_nearest 30 = .ok (.istore 5, 2) := by decide +kernel
theorem dX6_nearest_32 : decode cX6_nearest 32 = .ok (.goto (-29), 3) := by decide +kernel
theorem dX6_nearest_35 : decode cX6_nearest 35 = .ok (.iload 5, 2) := by decide +kernel
theorem dX6_nearest_37 : decode cX6_nearest 37 = .ok (.bipush 48, 2) := by decide +kernel
theorem dX6_nearest_39 : decode cX6_nearest 39 = .ok (.if_icmp .ge 13, 3) := by decide +kernel
theorem dX6_nearest_42 : decode cX6_nearest 42 = .ok (.iload 5, 2) := by decide +kernel
theorem dX6_nearest_44 : decode cX6_nearest 44 = .ok (.ifCond .lt 8, 3) := by decide +kernel
theorem dX6_nearest_47 : decode cX6_nearest 47 = .ok (.iload 5, 2) := by decide +kernel
theorem dX6_nearest_49 : decode cX6_nearest 49 = .ok (.goto 4, 3) := by decide +kernel
theorem dX6_nearest_52 : decode cX6_nearest 52 = .ok (.iconst (-1), 1) := by decide +kernel
theorem dX6_nearest_53 : decode cX6_nearest 53 = .ok (.ireturn, 1) := by decide +kernel
theorem dX6_degreeAt_0 : decode cX6_degreeAt 0 = .ok (.aload_n 0, 1) := by decide +kernel
theorem dX6_degreeAt_1 : decode cX6_degreeAt 1 = .ok (.iload_n 1, 1) := by decide +kernel
theorem dX6_degreeAt_2 : decode cX6_degreeAt 2 = .ok (.iload_n 3, 1) := by decide +kernel
theorem dX6_degreeAt_3 : decode cX6_degreeAt 3 = .ok (.invokevirtual 123, 3) := by decide +kernel
theorem dX6_degreeAt_6 : decode cX6_degreeAt 6 = .ok (.ifCond .eq 9, 3) := by decide +kernel
theorem dX6_degreeAt_9 : decode cX6_degreeAt 9 = .ok (.iload_n 3, 1) := by decide +kernel
theorem dX6_degreeAt_10 : decode cX6_degreeAt 10 = .ok (.iconst 1, 1) := by decide +kernel
theorem dX6_degreeAt_11 : decode cX6_degreeAt 11 = .ok (.isub, 1) := by decide +kernel
theorem dX6_degreeAt_12 : decode cX6_degreeAt 12 = .ok (.goto 4, 3) := by decide +kernel
theorem dX6_degreeAt_15 : decode cX6_degreeAt 15 = .ok (.iload_n 3, 1) := by decide +kernel
theorem dX6_degreeAt_16 : decode cX6_degreeAt 16 = .ok (.istore 4, 2) := by decide +kernel
theorem dX6_degreeAt_18 : decode cX6_degreeAt 18 = .ok (.aload_n 0, 1) := by decide +kernel
theorem dX6_degreeAt_19 : decode cX6_degreeAt 19 = .ok (.iload_n 1, 1) := by decide +kernel
theorem dX6_degreeAt_20 : decode cX6_degreeAt 20 = .ok (.iload_n 2, 1) := by decide +kernel
theorem dX6_degreeAt_21 : decode cX6_degreeAt 21 = .ok (.invokevirtual 127, 3) := by decide +kernel
theorem dX6_degreeAt_24 : decode cX6_degreeAt 24 = .ok (.istore 5, 2) := by decide +kernel
theorem dX6_degreeAt_26 : decode cX6_degreeAt 26 = .ok (.aload_n 0, 1) := by decide +kernel
theorem dX6_degreeAt_27 : decode cX6_degreeAt 27 = .ok (.getfield 56, 3) := by decide +kernel
theorem dX6_degreeAt_30 : decode cX6_degreeAt 30 = .ok (.iload 5, 2) := by decide +kernel
theorem dX6_degreeAt_32 : decode cX6_degreeAt 32 = .ok (.iload 4, 2) := by decide +kernel
theorem dX6_degreeAt_34 : decode cX6_degreeAt 34 = .ok (.iconst (-1), 1) := by decide +kernel
theorem dX6_degreeAt_35 : decode cX6_degreeAt 35 = .ok (.iconst (-1), 1) := by decide +kernel
theorem dX6_degreeAt_36 : decode cX6_degreeAt 36 = .ok (.invokestatic 131, 3) := by decide +kernel
theorem dX6_degreeAt_39 : decode cX6_degreeAt 39 = .ok (.istore 6, 2) := by decide +kernel
theorem dX6_degreeAt_41 : decode cX6_degreeAt 41 = .ok (.aload_n 0, 1) := by decide +kernel
theorem dX6_degreeAt_42 : decode cX6_degreeAt 42 = .ok (.getfield 56, 3) := by decide +kernel
theorem dX6_degreeAt_45 : decode cX6_degreeAt 45 = .ok (.iload 5, 2) := by decide +kernel
theorem dX6_degreeAt_47 : decode cX6_degreeAt 47 = .ok (.iload 4, 2) := by decide +kernel
theorem dX6_degreeAt_49 : decode cX6_degreeAt 49 = .ok (.iconst 1, 1) := by decide +kernel
theorem dX6_degreeAt_50 : decode cX6_degreeAt 50 = .ok (.iconst (-1), 1) := by decide +kernel
theorem dX6_degreeAt_51 : decode cX6_degreeAt 51 = .ok (.invokestatic 131, 3) := by decide +kernel
theorem dX6_degreeAt_54 : decode cX6_degreeAt 54 = .ok (.istore 7, 2) := by decide +kernel
theorem dX6_degreeAt_56 : decode cX6_degreeAt 56 = .ok (.iload 6, 2) := by decide +kernel
theorem dX6_degreeAt_58 : decode cX6_degreeAt 58 = .ok (.iconst (-1), 1) := by decide +kernel
theorem dX6_degreeAt_59 : decode cX6_degreeAt 59 = .ok (.if_icmp .eq 9, 3) := by decide +kernel
theorem dX6_degreeAt_62 : decode cX6_degreeAt 62 = .ok (.iload 7, 2) := by decide +kernel
theorem dX6_degreeAt_64 : decode cX6_degreeAt 64 = .ok (.iconst (-1), 1) := by decide +kernel
theorem dX6_degreeAt_65 : decode cX6_degreeAt 65 = .ok (.if_icmp .ne 36, 3) := by decide +kernel
theorem dX6_degreeAt_68 : decode cX6_degreeAt 68 = .ok (.iload 6, 2) := by decide +kernel
theorem dX6_degreeAt_70 : decode cX6_degreeAt 70 = .ok (.iload 7, 2) := by decide +kernel
theorem dX6_degreeAt_72 : decode cX6_degreeAt 72 = .ok (.if_icmp .ne 7, 3) := by decide +kernel
theorem dX6_degreeAt_75 : decode cX6_degreeAt 75 = .ok (.iconst 0, 1) := by decide +kernel
theorem dX6_degreeAt_76 : decode cX6_degreeAt 76 = .ok (.goto 24, 3) := by decide +kernel
theorem dX6_degreeAt_79 : decode cX6_degreeAt 79 = .ok (.aload_n 0, 1) := by decide +kernel
theorem dX6_degreeAt_80 : decode cX6_degreeAt 80 = .ok (.getfield 56, 3) := by decide +kernel
theorem dX6_degreeAt_83 : decode cX6_degreeAt 83 = .ok (.iload 5, 2) := by decide +kernel
theorem dX6_degreeAt_85 : decode cX6_degreeAt 85 = .ok (.iload 6, 2) := by decide +kernel
theorem dX6_degreeAt_87 : decode cX6_degreeAt 87 = .ok (.iconst (-1), 1) := by decide +kernel
theorem dX6_degreeAt_88 : decode cX6_degreeAt 88 = .ok (.if_icmp .ne 8, 3) := by decide +kernel
theorem dX6_degreeAt_91 : decode cX6_degreeAt 91 = .ok (.iload 7, 2) := by decide +kernel
theorem dX6_degreeAt_93 : decode cX6_degreeAt 93 = .ok (.goto 5, 3) := by decide +kernel
theorem dX6_degreeAt_96 : decode cX6_degreeAt 96 = .ok (.iload 6, 2) := by decide +kernel
theorem dX6_degreeAt_98 : decode cX6_degreeAt 98 = .ok (.iadd, 1) := by decide +kernel
theorem dX6_degreeAt_99 : decode cX6_degreeAt 99 = .ok (.iaload, 1) := by decide +kernel
theorem dX6_degreeAt_100 : decode cX6_degreeAt 100 = .ok (.ireturn, 1) := by decide +kernel
theorem dX6_degreeAt_101 : decode cX6_degreeAt 101 = .ok (.iload 6, 2) := by decide +kernel
theorem dX6_degreeAt_103 : decode cX6_degreeAt 103 = .ok (.iload 7, 2) := by decide +kernel
theorem dX6_degreeAt_105 : decode cX6_degreeAt 105 = .ok (.if_icmp .ne 14, 3) := by decide +kernel
theorem dX6_degreeAt_108 : decode cX6_degreeAt 108 = .ok (.aload_n 0, 1) := by decide +kernel
theorem dX6_degreeAt_109 : decode cX6_degreeAt 109 = .ok (.getfield 56, 3) := by decide +kernel
theorem dX6_degreeAt_112 : decode cX6_degreeAt 112 = .ok (.iload 5, 2) := by decide +kernel
theorem dX6_degreeAt_114 : decode cX6_degreeAt 114 = .ok (.iload 6, 2) := by decide +kernel
theorem dX6_degreeAt_116 : decode cX6_degreeAt 116 = .ok (.iadd, 1) := by decide +kernel
theorem dX6_degreeAt_117 : decode cX6_degreeAt 117 = .ok (.iaload, 1) := by decide +kernel
theorem dX6_degreeAt_118 : decode cX6_degreeAt 118 = .ok (.ireturn, 1) := by decide +kernel
theorem dX6_degreeAt_119 : decode cX6_degreeAt 119 = .ok (.aload_n 0, 1) := by decide +kernel
theorem dX6_degreeAt_120 : decode cX6_degreeAt 120 = .ok (.getfield 56, 3) := by decide +kernel
theorem dX6_degreeAt_123 : decode cX6_degreeAt 123 = .ok (.iload 5, 2) := by decide +kernel
theorem dX6_degreeAt_125 : decode cX6_degreeAt 125 = .ok (.iload 7, 2) := by decide +kernel
theorem dX6_degreeAt_127 : decode cX6_degreeAt 127 = .ok (.iadd, 1) := by decide +kernel
theorem dX6_degreeAt_128 : decode cX6_degreeAt 128 = .ok (.iaload, 1) := by decide +kernel
theorem dX6_degreeAt_129 : decode cX6_degreeAt 129 = .ok (.aload_n 0, 1) := by decide +kernel
theorem dX6_degreeAt_130 : decode cX6_degreeAt 130 = .ok (.getfield 56, 3) := by decide +kernel
theorem dX6_degreeAt_133 : decode cX6_degreeAt 133 = .ok (.iload 5, 2) := by decide +kernel
theorem dX6_degreeAt_135 : decode cX6_degreeAt 135 = .ok (.iload 6, 2) := by decide +kernel
theorem dX6_degreeAt_137 : decode cX6_degreeAt 137 = .ok (.iadd, 1) := by decide +kernel
theorem dX6_degreeAt_138 : decode cX6_degreeAt 138 = .ok (.iaload, 1) := by decide +kernel
theorem dX6_degreeAt_139 : decode cX6_degreeAt 139 = .ok (.isub, 1) := by decide +kernel
theorem dX6_degreeAt_140 : decode cX6_degreeAt 140 = .ok (.sipush 360, 3) := by decide +kernel
theorem dX6_degreeAt_143 : decode cX6_degreeAt 143 = .ok (.iadd, 1) := by decide +kernel
theorem dX6_degreeAt_144 : decode cX6_degreeAt 144 = .ok (.sipush 360, 3) := by decide +kernel
theorem dX6_degreeAt_147 : decode cX6_degreeAt 147 = .ok (.irem, 1) := by decide +kernel
theorem dX6_degreeAt_148 : decode cX6_degreeAt 148 = .ok (.istore 8, 2) := by decide +kernel
theorem dX6_degreeAt_150 : decode cX6_degreeAt 150 = .ok (.iload 8, 2) := by decide +kernel
theorem dX6_degreeAt_152 : decode cX6_degreeAt 152 = .ok (.sipush 180, 3) := by decide +kernel
theorem dX6_degreeAt_155 : decode cX6_degreeAt 155 = .ok (.if_icmp .le 12, 3) := by decide +kernel
theorem dX6_degreeAt_158 : decode cX6_degreeAt 158 = .ok (.iload 8, 2) := by decide +kernel
theorem dX6_degreeAt_160 : decode cX6_degreeAt 160 = .ok (.sipush 360, 3) := by decide +kernel
theorem dX6_degreeAt_163 : decode cX6_degreeAt 163 = .ok (.isub, 1) := by decide +kernel
theorem dX6_degreeAt_164 : decode cX6_degreeAt 164 = .ok (.goto 5, 3) := by decide +kernel
theorem dX6_degreeAt_167 : decode cX6_degreeAt 167 = .ok (.iload 8, 2) := by decide +kernel
theorem dX6_degreeAt_169 : decode cX6_degreeAt 169 = .ok (.istore 8, 2) := by decide +kernel
theorem dX6_degreeAt_171 : decode cX6_degreeAt 171 = .ok (.aload_n 0, 1) := by decide +kernel
theorem dX6_degreeAt_172 : decode cX6_degreeAt 172 = .ok (.getfield 56, 3) := by decide +kernel
theorem dX6_degreeAt_175 : decode cX6_degreeAt 175 = .ok (.iload 5, 2) := by decide +kernel
theorem dX6_degreeAt_177 : decode cX6_degreeAt 177 = .ok (.iload 6, 2) := by decide +kernel
theorem dX6_degreeAt_179 : decode cX6_degreeAt 179 = .ok (.iadd, 1) := by decide +kernel
theorem dX6_degreeAt_180 : decode cX6_degreeAt 180 = .ok (.iaload, 1) := by decide +kernel
theorem dX6_degreeAt_181 : decode cX6_degreeAt 181 = .ok (.iload 8, 2) := by decide +kernel
theorem dX6_degreeAt_183 : decode cX6_degreeAt 183 = .ok (.iload 4, 2) := by decide +kernel
theorem dX6_degreeAt_185 : decode cX6_degreeAt 185 = .ok (.iload 6, 2) := by decide +kernel
theorem dX6_degreeAt_187 : decode cX6_degreeAt 187 = .ok (.isub, 1) := by decide +kernel
theorem dX6_degreeAt_188 : decode cX6_degreeAt 188 = .ok (.imul, 1) := by decide +kernel
theorem dX6_degreeAt_189 : decode cX6_degreeAt 189 = .ok (.iload 7, 2) := by decide +kernel
theorem dX6_degreeAt_191 : decode cX6_degreeAt 191 = .ok (.iload 6, 2) := by decide +kernel
theorem dX6_degreeAt_193 : decode cX6_degreeAt 193 = .ok (.isub, 1) := by decide +kernel
theorem dX6_degreeAt_194 : decode cX6_degreeAt 194 = .ok (.idiv, 1) := by decide +kernel
theorem dX6_degreeAt_195 : decode cX6_degreeAt 195 = .ok (.iadd, 1) := by decide +kernel
theorem dX6_degreeAt_196 : decode cX6_degreeAt 196 = .ok (.sipush 360, 3) := by decide +kernel
theorem dX6_degreeAt_199 : decode cX6_degreeAt 199 = .ok (.iadd, 1) := by decide +kernel
theorem dX6_degreeAt_200 : decode cX6_degreeAt 200 = .ok (.sipush 360, 3) := by decide +kernel
theorem dX6_degreeAt_203 : decode cX6_degreeAt 203 = .ok (.irem, 1) := by decide +kernel
theorem dX6_degreeAt_204 : decode cX6_degreeAt 204 = .ok (.ireturn, 1) := by decide +kernel
theorem dX6_placeAt_0 : decode cX6_placeAt 0 = .ok (.bipush 48, 2) := by decide +kernel
theorem dX6_placeAt_2 : decode cX6_placeAt 2 = .ok (.iload_n 1, 1) := by decide +kernel
theorem dX6_placeAt_3 : decode cX6_placeAt 3 = .ok (.imul, 1) := by decide +kernel
theorem dX6_placeAt_4 : decode cX6_placeAt 4 = .ok (.istore_n 3, 1) := by decide +kernel
theorem dX6_placeAt_5 : decode cX6_placeAt 5 = .ok (.aload_n 0, 1) := by decide +kernel
theorem dX6_placeAt_6 : decode cX6_placeAt 6 = .ok (.getfield 59, 3) := by decide +kernel
theorem dX6_placeAt_9 : decode cX6_placeAt 9 = .ok (.iload_n 3, 1) := by decide +kernel
theorem dX6_placeAt_10 : decode cX6_placeAt 10 = .ok (.iload_n 2, 1) := by decide +kernel
theorem dX6_placeAt_11 : decode cX6_placeAt 11 = .ok (.iconst (-1), 1) := by decide +kernel
theorem dX6_placeAt_12 : decode cX6_placeAt 12 = .ok (.ldc 83, 2) := by decide +kernel
theorem dX6_placeAt_14 : decode cX6_placeAt 14 = .ok (.invokestatic 131, 3) := by decide +kernel
theorem dX6_placeAt_17 : decode cX6_placeAt 17 = .ok (.istore 4, 2) := by decide +kernel
theorem dX6_placeAt_19 : decode cX6_placeAt 19 = .ok (.aload_n 0, 1) := by decide +kernel
theorem dX6_placeAt_20 : decode cX6_placeAt 20 = .ok (.getfield 59, 3) := by decide +kernel
theorem dX6_placeAt_23 : decode cX6_placeAt 23 = .ok (.iload_n 3, 1) := by decide +kernel
theorem dX6_placeAt_24 : decode cX6_placeAt 24 = .ok (.iload_n 2, 1) := by decide +kernel
theorem dX6_placeAt_25 : decode cX6_placeAt 25 = .ok (.iconst 1, 1) := by decide +kernel
theorem dX6_placeAt_26 : decode cX6_placeAt 26 = .ok (.ldc 83, 2) := by decide +kernel
theorem dX6_placeAt_28 : decode cX6_placeAt 28 = .ok (.invokestatic 131, 3) := by decide +kernel
theorem dX6_placeAt_31 : decode cX6_placeAt 31 = .ok (.istore 5, 2) := by decide +kernel
theorem dX6_placeAt_33 : decode cX6_placeAt 33 = .ok (.iload 4, 2) := by decide +kernel
theorem dX6_placeAt_35 : decode cX6_placeAt 35 = .ok (.iconst (-1), 1) := by decide +kernel
theorem dX6_placeAt_36 : decode cX6_placeAt 36 = .ok (.if_icmp .eq 9, 3) := by decide +kernel
theorem dX6_placeAt_39 : decode cX6_placeAt 39 = .ok (.iload 5, 2) := by decide +kernel
theorem dX6_placeAt_41 : decode cX6_placeAt 41 = .ok (.iconst (-1), 1) := by decide +kernel
theorem dX6_placeAt_42 : decode cX6_placeAt 42 = .ok (.if_icmp .ne 35, 3) := by decide +kernel
theorem dX6_placeAt_45 : decode cX6_placeAt 45 = .ok (.iload 4, 2) := by decide +kernel
theorem dX6_placeAt_47 : decode cX6_placeAt 47 = .ok (.iload 5, 2) := by decide +kernel
theorem dX6_placeAt_49 : decode cX6_placeAt 49 = .ok (.if_icmp .ne 7, 3) := by decide +kernel
theorem dX6_placeAt_52 : decode cX6_placeAt 52 = .ok (.iconst 0, 1) := by decide +kernel
theorem dX6_placeAt_53 : decode cX6_placeAt 53 = .ok (.goto 23, 3) := by decide +kernel
theorem dX6_placeAt_56 : decode cX6_placeAt 56 = .ok (.aload_n 0, 1) := by decide +kernel
theorem dX6_placeAt_57 : decode cX6_placeAt 57 = .ok (.getfield 59, 3) := by decide +kernel
theorem dX6_placeAt_60 : decode cX6_placeAt 60 = .ok (.iload_n 3, 1) := by decide +kernel
theorem dX6_placeAt_61 : decode cX6_placeAt 61 = .ok (.iload 4, 2) := by decide +kernel
theorem dX6_placeAt_63 : decode cX6_placeAt 63 = .ok (.iconst (-1), 1) := by decide +kernel
theorem dX6_placeAt_64 : decode cX6_placeAt 64 = .ok (.if_icmp .ne 8, 3) := by decide +kernel
theorem dX6_placeAt_67 : decode cX6_placeAt 67 = .ok (.iload 5, 2) := by decide +kernel
theorem dX6_placeAt_69 : decode cX6_placeAt 69 = .ok (.goto 5, 3) := by decide +kernel
theorem dX6_placeAt_72 : decode cX6_placeAt 72 = .ok (.iload 4, 2) := by decide +kernel
theorem dX6_placeAt_74 : decode cX6_placeAt 74 = .ok (.iadd, 1) := by decide +kernel
theorem dX6_placeAt_75 : decode cX6_placeAt 75 = .ok (.iaload, 1) := by decide +kernel
theorem dX6_placeAt_76 : decode cX6_placeAt 76 = .ok (.ireturn, 1) := by decide +kernel
theorem dX6_placeAt_77 : decode cX6_placeAt 77 = .ok (.aload_n 0, 1) := by decide +kernel
theorem dX6_placeAt_78 : decode cX6_placeAt 78 = .ok (.getfield 59, 3) := by decide +kernel
theorem dX6_placeAt_81 : decode cX6_placeAt 81 = .ok (.iload_n 3, 1) := by decide +kernel
theorem dX6_placeAt_82 : decode cX6_placeAt 82 = .ok (.iload 5, 2) := by decide +kernel
theorem dX6_placeAt_84 : decode cX6_placeAt 84 = .ok (.iadd, 1) := by decide +kernel
theorem dX6_placeAt_85 : decode cX6_placeAt 85 = .ok (.iaload, 1) := by decide +kernel
theorem dX6_placeAt_86 : decode cX6_placeAt 86 = .ok (.aload_n 0, 1) := by decide +kernel
theorem dX6_placeAt_87 : decode cX6_placeAt 87 = .ok (.getfield 59, 3) := by decide +kernel
theorem dX6_placeAt_90 : decode cX6_placeAt 90 = .ok (.iload_n 3, 1) := by decide +kernel
theorem dX6_placeAt_91 : decode cX6_placeAt 91 = .ok (.iload 4, 2) := by decide +kernel
theorem dX6_placeAt_93 : decode cX6_placeAt 93 = .ok (.iadd, 1) := by decide +kernel
theorem dX6_placeAt_94 : decode cX6_placeAt 94 = .ok (.iaload, 1) := by decide +kernel
theorem dX6_placeAt_95 : decode cX6_placeAt 95 = .ok (.isub, 1) := by decide +kernel
theorem dX6_placeAt_96 : decode cX6_placeAt 96 = .ok (.istore 6, 2) := by decide +kernel
theorem dX6_placeAt_98 : decode cX6_placeAt 98 = .ok (.iload 4, 2) := by decide +kernel
theorem dX6_placeAt_100 : decode cX6_placeAt 100 = .ok (.iload 5, 2) := by decide +kernel
theorem dX6_placeAt_102 : decode cX6_placeAt 102 = .ok (.if_icmp .ne 15, 3) := by decide +kernel
theorem dX6_placeAt_105 : decode cX6_placeAt 105 = .ok (.aload_n 0, 1) := by decide +kernel
theorem dX6_placeAt_106 : decode cX6_placeAt 106 = .ok (.getfield 59, 3) := by decide +kernel
theorem dX6_placeAt_109 : decode cX6_placeAt 109 = .ok (.iload_n 3, 1) := by decide +kernel
theorem dX6_placeAt_110 : decode cX6_placeAt 110 = .ok (.iload 4, 2) := by decide +kernel
theorem dX6_placeAt_112 : decode cX6_placeAt 112 = .ok (.iadd, 1) := by decide +kernel
theorem dX6_placeAt_113 : decode cX6_placeAt 113 = .ok (.iaload, 1) := by decide +kernel
theorem dX6_placeAt_114 : decode cX6_placeAt 114 = .ok (.goto 26, 3) := by decide +kernel
theorem dX6_placeAt_117 : decode cX6_placeAt 117 = .ok (.aload_n 0, 1) := by decide +kernel
theorem dX6_placeAt_118 : decode cX6_placeAt 118 = .ok (.getfield 59, 3) := by decide +kernel
theorem dX6_placeAt_121 : decode cX6_placeAt 121 = .ok (.iload_n 3, 1) := by decide +kernel
theorem dX6_placeAt_122 : decode cX6_placeAt 122 = .ok (.iload 4, 2) := by decide +kernel
theorem dX6_placeAt_124 : decode cX6_placeAt 124 = .ok (.iadd, 1) := by decide +kernel
theorem dX6_placeAt_125 : decode cX6_placeAt 125 = .ok (.iaload, 1) := by decide +kernel
theorem dX6_placeAt_126 : decode cX6_placeAt 126 = .ok (.iload 6, 2) := by decide +kernel
theorem dX6_placeAt_128 : decode cX6_placeAt 128 = .ok (.iload_n 2, 1) := by decide +kernel
theorem dX6_placeAt_129 : decode cX6_placeAt 129 = .ok (.iload 4, 2) := by decide +kernel
theorem dX6_placeAt_131 : decode cX6_placeAt 131 = .ok (.isub, 1) := by decide +kernel
theorem dX6_placeAt_132 : decode cX6_placeAt 132 = .ok (.imul, 1) := by decide +kernel
theorem dX6_placeAt_133 : decode cX6_placeAt 133 = .ok (.iload 5, 2) := by decide +kernel
theorem dX6_placeAt_135 : decode cX6_placeAt 135 = .ok (.iload 4, 2) := by decide +kernel
theorem dX6_placeAt_137 : decode cX6_placeAt 137 = .ok (.isub, 1) := by decide +kernel
theorem dX6_placeAt_138 : decode cX6_placeAt 138 = .ok (.idiv, 1) := by decide +kernel
theorem dX6_placeAt_139 : decode cX6_placeAt 139 = .ok (.iadd, 1) := by decide +kernel
theorem dX6_placeAt_140 : decode cX6_placeAt 140 = .ok (.ireturn, 1) := by decide +kernel
theorem dX6_mouthAt_0 : decode cX6_mouthAt 0 = .ok (.aload_n 0, 1) := by decide +kernel
theorem dX6_mouthAt_1 : decode cX6_mouthAt 1 = .ok (.iload_n 1, 1) := by decide +kernel
theorem dX6_mouthAt_2 : decode cX6_mouthAt 2 = .ok (.iload_n 2, 1) := by decide +kernel
theorem dX6_mouthAt_3 : decode cX6_mouthAt 3 = .ok (.invokevirtual 123, 3) := by decide +kernel
theorem dX6_mouthAt_6 : decode cX6_mouthAt 6 = .ok (.ifCond .eq 9, 3) := by decide +kernel
theorem dX6_mouthAt_9 : decode cX6_mouthAt 9 = .ok (.iload_n 2, 1) := by decide +kernel
theorem dX6_mouthAt_10 : decode cX6_mouthAt 10 = .ok (.iconst 1, 1) := by decide +kernel
theorem dX6_mouthAt_11 : decode cX6_mouthAt 11 = .ok (.isub, 1) := by decide +kernel
theorem dX6_mouthAt_12 : decode cX6_mouthAt 12 = .ok (.goto 4, 3) := by decide +kernel
theorem dX6_mouthAt_15 : decode cX6_mouthAt 15 = .ok (.iload_n 2, 1) := by decide +kernel
theorem dX6_mouthAt_16 : decode cX6_mouthAt 16 = .ok (.istore_n 3, 1) := by decide +kernel
theorem dX6_mouthAt_17 : decode cX6_mouthAt 17 = .ok (.aload_n 0, 1) := by decide +kernel
theorem dX6_mouthAt_18 : decode cX6_mouthAt 18 = .ok (.getfield 40, 3) := by decide +kernel
theorem dX6_mouthAt_21 : decode cX6_mouthAt 21 = .ok (.iload_n 1, 1) := by decide +kernel
theorem dX6_mouthAt_22 : decode cX6_mouthAt 22 = .ok (.iaload, 1) := by decide +kernel
theorem dX6_mouthAt_23 : decode cX6_mouthAt 23 = .ok (.istore 4, 2) := by decide +kernel
theorem dX6_mouthAt_25 : decode cX6_mouthAt 25 = .ok (.iconst 0, 1) := by decide +kernel
theorem dX6_mouthAt_26 : decode cX6_mouthAt 26 = .ok (.istore 5, 2) := by decide +kernel
theorem dX6_mouthAt_28 : decode cX6_mouthAt 28 = .ok (.iload 4, 2) := by decide +kernel
theorem dX6_mouthAt_30 : decode cX6_mouthAt 30 = .ok (.iconst (-1), 1) := by decide +kernel
theorem dX6_mouthAt_31 : decode cX6_mouthAt 31 = .ok (.if_icmp .eq 68, 3) := by decide +kernel
theorem dX6_mouthAt_34 : decode cX6_mouthAt 34 = .ok (.iload 5, 2) := by decide +kernel
theorem dX6_mouthAt_36 : decode cX6_mouthAt 36 = .ok (.aload_n 0, 1) := by decide +kernel
theorem dX6_mouthAt_37 : decode cX6_mouthAt 37 = .ok (.getfield 22, 3) := by decide +kernel
theorem dX6_mouthAt_40 : decode cX6_mouthAt 40 = .ok (.iload 4, 2) := by decide +kernel
theorem dX6_mouthAt_42 : decode cX6_mouthAt 42 = .ok (.iaload, 1) := by decide +kernel
theorem dX6_mouthAt_43 : decode cX6_mouthAt 43 = .ok (.if_icmp .ge 56, 3) := by decide +kernel
theorem dX6_mouthAt_46 : decode cX6_mouthAt 46 = .ok (.iload_n 3, 1) := by decide +kernel
theorem dX6_mouthAt_47 : decode cX6_mouthAt 47 = .ok (.aload_n 0, 1) := by decide +kernel
theorem dX6_mouthAt_48 : decode cX6_mouthAt 48 = .ok (.getfield 28, 3) := by decide +kernel
theorem dX6_mouthAt_51 : decode cX6_mouthAt 51 = .ok (.bipush 12, 2) := by decide +kernel
theorem dX6_mouthAt_53 : decode cX6_mouthAt 53 = .ok (.iload 4, 2) := by decide +kernel
theorem dX6_mouthAt_55 : decode cX6_mouthAt 55 = .ok (.imul, 1) := by decide +kernel
theorem dX6_mouthAt_56 : decode cX6_mouthAt 56 = .ok (.iload 5, 2) := by decide +kernel
theorem dX6_mouthAt_58 : decode cX6_mouthAt 58 = .ok (.iadd, 1) := by decide +kernel
theorem dX6_mouthAt_59 : decode cX6_mouthAt 59 = .ok (.iaload, 1) := by decide +kernel
theorem dX6_mouthAt_60 : decode cX6_mouthAt 60 = .ok (.if_icmp .ge 17, 3) := by decide +kernel
theorem dX6_mouthAt_63 : decode cX6_mouthAt 63 = .ok (.aload_n 0, 1) := by decide +kernel
theorem dX6_mouthAt_64 : decode cX6_mouthAt 64 = .ok (.getfield 25, 3) := by decide +kernel
theorem dX6_mouthAt_67 : decode cX6_mouthAt 67 = .ok (.bipush 12, 2) := by decide +kernel
theorem dX6_mouthAt_69 : decode cX6_mouthAt 69 = .ok (.iload 4, 2) := by decide +kernel
theorem dX6_mouthAt_71 : decode cX6_mouthAt 71 = .ok (.imul, 1) := by decide +kernel
theorem dX6_mouthAt_72 : decode cX6_mouthAt 72 = .ok (.iload 5, 2) := by decide +kernel
theorem dX6_mouthAt_74 : decode cX6_mouthAt 74 = .ok (.iadd, 1) := by decide +kernel
theorem dX6_mouthAt_75 : decode cX6_mouthAt 75 = .ok (.iaload, 1) := by decide +kernel
theorem dX6_mouthAt_76 : decode cX6_mouthAt 76 = .ok (.ireturn, 1) := by decide +kernel
theorem dX6_mouthAt_77 : decode cX6_mouthAt 77 = .ok (.iload_n 3, 1) := by decide +kernel
theorem dX6_mouthAt_78 : decode cX6_mouthAt 78 = .ok (.aload_n 0, 1) := by decide +kernel
theorem dX6_mouthAt_79 : decode cX6_mouthAt 79 = .ok (.getfield 28, 3) := by decide +kernel
theorem dX6_mouthAt_82 : decode cX6_mouthAt 82 = .ok (.bipush 12, 2) := by decide +kernel
theorem dX6_mouthAt_84 : decode cX6_mouthAt 84 = .ok (.iload 4, 2) := by decide +kernel
theorem dX6_mouthAt_86 : decode cX6_mouthAt 86 = .ok (.imul, 1) := by decide +kernel
theorem dX6_mouthAt_87 : decode cX6_mouthAt 87 = .ok (.iload 5, 2) := by decide +kernel
theorem dX6_mouthAt_89 : decode cX6_mouthAt 89 = .ok (.iadd, 1) := by decide +kernel
theorem dX6_mouthAt_90 : decode cX6_mouthAt 90 = .ok (.iaload, 1) := by decide +kernel
theorem dX6_mouthAt_91 : decode cX6_mouthAt 91 = .ok (.isub, 1) := by decide +kernel
theorem dX6_mouthAt_92 : decode cX6_mouthAt 92 = .ok (.istore_n 3, 1) := by decide +kernel
theorem dX6_mouthAt_93 : decode cX6_mouthAt 93 = .ok (.iinc 5 1, 3) := by decide +kernel
theorem dX6_mouthAt_96 : decode cX6_mouthAt 96 = .ok (.goto (-68), 3) := by decide +kernel
theorem dX6_mouthAt_99 : decode cX6_mouthAt 99 = .ok (.iconst (-1), 1) := by decide +kernel
theorem dX6_mouthAt_100 : decode cX6_mouthAt 100 = .ok (.ireturn, 1) := by decide +kernel
theorem dX6_isJointOf_0 : decode cX6_isJointOf 0 = .ok (.aload_n 0, 1) := by decide +kernel
theorem dX6_isJointOf_1 : decode cX6_isJointOf 1 = .ok (.iload_n 1, 1) := by decide +kernel
theorem dX6_isJointOf_2 : decode cX6_isJointOf 2 = .ok (.invokevirtual 105, 3) := by decide +kernel
theorem dX6_isJointOf_5 : decode cX6_isJointOf 5 = .ok (.ifCond .eq 21, 3) := by decide +kernel
theorem dX6_isJointOf_8 : decode cX6_isJointOf 8 = .ok (.aload_n 0, 1) := by decide +kernel
theorem dX6_isJointOf_9 : decode cX6_isJointOf 9 = .ok (.aload_n 0, 1) := by decide +kernel
theorem dX6_isJointOf_10 : decode cX6_isJointOf 10 = .ok (.getfield 31, 3) := by decide +kernel
theorem dX6_isJointOf_13 : decode cX6_isJointOf 13 = .ok (.iload_n 1, 1) := by decide +kernel
theorem dX6_isJointOf_14 : decode cX6_isJointOf 14 = .ok (.iaload, 1) := by decide +kernel
theorem dX6_isJointOf_15 : decode cX6_isJointOf 15 = .ok (.iload_n 2, 1) := by decide +kernel
theorem dX6_isJointOf_16 : decode cX6_isJointOf 16 = .ok (.invokevirtual 135, 3) := by decide +kernel
theorem dX6_isJointOf_19 : decode cX6_isJointOf 19 = .ok (.ifCond .eq 7, 3) := by decide +kernel
theorem dX6_isJointOf_22 : decode cX6_isJointOf 22 = .ok (.iconst 1, 1) := by decide +kernel
theorem dX6_isJointOf_23 : decode cX6_isJointOf 23 = .ok (.goto 4, 3) := by decide +kernel
theorem dX6_isJointOf_26 : decode cX6_isJointOf 26 = .ok (.iconst 0, 1) := by decide +kernel
theorem dX6_isJointOf_27 : decode cX6_isJointOf 27 = .ok (.ireturn, 1) := by decide +kernel
theorem dX6_key_0 : decode cX6_key 0 = .ok (.aload_n 0, 1) := by decide +kernel
theorem dX6_key_1 : decode cX6_key 1 = .ok (.iload_n 1, 1) := by decide +kernel
theorem dX6_key_2 : decode cX6_key 2 = .ok (.iload_n 2, 1) := by decide +kernel
theorem dX6_key_3 : decode cX6_key 3 = .ok (.invokevirtual 138, 3) := by decide +kernel
theorem dX6_key_6 : decode cX6_key 6 = .ok (.ifCond .eq 16, 3) := by decide +kernel
theorem dX6_key_9 : decode cX6_key 9 = .ok (.aload_n 0, 1) := by decide +kernel
theorem dX6_key_10 : decode cX6_key 10 = .ok (.iload_n 1, 1) := by decide +kernel
theorem dX6_key_11 : decode cX6_key 11 = .ok (.iload_n 3, 1) := by decide +kernel
theorem dX6_key_12 : decode cX6_key 12 = .ok (.invokevirtual 141, 3) := by decide +kernel
theorem dX6_key_15 : decode cX6_key 15 = .ok (.ifCond .eq 7, 3) := by decide +kernel
theorem dX6_key_18 : decode cX6_key 18 = .ok (.iconst 1, 1) := by decide +kernel
theorem dX6_key_19 : decode cX6_key 19 = .ok (.goto 4, 3) := by decide +kernel
theorem dX6_key_22 : decode cX6_key 22 = .ok (.iconst 0, 1) := by decide +kernel
theorem dX6_key_23 : decode cX6_key 23 = .ok (.istore 5, 2) := by decide +kernel
theorem dX6_key_25 : decode cX6_key 25 = .ok (.iload 4, 2) := by decide +kernel
theorem dX6_key_27 : decode cX6_key 27 = .ok (.iconst 0, 1) := by decide +kernel
theorem dX6_key_28 : decode cX6_key 28 = .ok (.sipush 359, 3) := by decide +kernel
theorem dX6_key_31 : decode cX6_key 31 = .ok (.invokestatic 91, 3) := by decide +kernel
theorem dX6_key_34 : decode cX6_key 34 = .ok (.istore 6, 2) := by decide +kernel
theorem dX6_key_36 : decode cX6_key 36 = .ok (.aload_n 0, 1) := by decide +kernel
theorem dX6_key_37 : decode cX6_key 37 = .ok (.iload 5, 2) := by decide +kernel
theorem dX6_key_39 : decode cX6_key 39 = .ok (.ifCond .ne 7, 3) := by decide +kernel
theorem dX6_key_42 : decode cX6_key 42 = .ok (.iconst 1, 1) := by decide +kernel
theorem dX6_key_43 : decode cX6_key 43 = .ok (.goto 36, 3) := by decide +kernel
theorem dX6_key_46 : decode cX6_key 46 = .ok (.iload 6, 2) := by decide +kernel
theorem dX6_key_48 : decode cX6_key 48 = .ok (.ifCond .ne 7, 3) := by decide +kernel
theorem dX6_key_51 : decode cX6_key 51 = .ok (.iconst 2, 1) := by decide +kernel
theorem dX6_key_52 : decode cX6_key 52 = .ok (.goto 27, 3) := by decide +kernel
theorem dX6_key_55 : decode cX6_key 55 = .ok (.iload_n 3, 1) := by decide +kernel
theorem dX6_key_56 : decode cX6_key 56 = .ok (.aload_n 0, 1) := by decide +kernel
theorem dX6_key_57 : decode cX6_key 57 = .ok (.getfield 46, 3) := by decide +kernel
theorem dX6_key_60 : decode cX6_key 60 = .ok (.iload_n 1, 1) := by decide +kernel
theorem dX6_key_61 : decode cX6_key 61 = .ok (.iaload, 1) := by decide +kernel
theorem dX6_key_62 : decode cX6_key 62 = .ok (.if_icmp .lt 12, 3) := by decide +kernel
theorem dX6_key_65 : decode cX6_key 65 = .ok (.aload_n 0, 1) := by decide +kernel
theorem dX6_key_66 : decode cX6_key 66 = .ok (.iload_n 1, 1) := by decide +kernel
theorem dX6_key_67 : decode cX6_key 67 = .ok (.iload_n 3, 1) := by decide +kernel
theorem dX6_key_68 : decode cX6_key 68 = .ok (.invokevirtual 123, 3) := by decide +kernel
theorem dX6_key_71 : decode cX6_key 71 = .ok (.ifCond .eq 7, 3) := by decide +kernel
theorem dX6_key_74 : decode cX6_key 74 = .ok (.iconst 3, 1) := by decide +kernel
theorem dX6_key_75 : decode cX6_key 75 = .ok (.goto 4, 3) := by decide +kernel
theorem dX6_key_78 : decode cX6_key 78 = .ok (.iconst 0, 1) := by decide +kernel
theorem dX6_key_79 : decode cX6_key 79 = .ok (.invokevirtual 108, 3) := by decide +kernel
theorem dX6_key_82 : decode cX6_key 82 = .ok (.ifCond .eq 5, 3) := by decide +kernel
theorem dX6_key_85 : decode cX6_key 85 = .ok (.iconst 0, 1) := by decide +kernel
theorem dX6_key_86 : decode cX6_key 86 = .ok (.ireturn, 1) := by decide +kernel
theorem dX6_key_87 : decode cX6_key 87 = .ok (.aload_n 0, 1) := by decide +kernel
theorem dX6_key_88 : decode cX6_key 88 = .ok (.iload_n 1, 1) := by decide +kernel
theorem dX6_key_89 : decode cX6_key 89 = .ok (.iload_n 2, 1) := by decide +kernel
theorem dX6_key_90 : decode cX6_key 90 = .ok (.iload_n 3, 1) := by decide +kernel
theorem dX6_key_91 : decode cX6_key 91 = .ok (.invokevirtual 144, 3) := by decide +kernel
theorem dX6_key_94 : decode cX6_key 94 = .ok (.istore 7, 2) := by decide +kernel
theorem dX6_key_96 : decode cX6_key 96 = .ok (.aload_n 0, 1) := by decide +kernel
theorem dX6_key_97 : decode cX6_key 97 = .ok (.getfield 56, 3) := by decide +kernel
theorem dX6_key_100 : decode cX6_key 100 = .ok (.aload_n 0, 1) := by decide +kernel
theorem dX6_key_101 : decode cX6_key 101 = .ok (.iload_n 1, 1) := by decide +kernel
theorem dX6_key_102 : decode cX6_key 102 = .ok (.iload_n 2, 1) := by decide +kernel
theorem dX6_key_103 : decode cX6_key 103 = .ok (.invokevirtual 127, 3) := by decide +kernel
theorem dX6_key_106 : decode cX6_key 106 = .ok (.iload_n 3, 1) := by decide +kernel
theorem dX6_key_107 : decode cX6_key 107 = .ok (.iadd, 1) := by decide +kernel
theorem dX6_key_108 : decode cX6_key 108 = .ok (.iload 4, 2) := by decide +kernel
theorem dX6_key_110 : decode cX6_key 110 = .ok (.iastore, 1) := by decide +kernel
theorem dX6_key_111 : decode cX6_key 111 = .ok (.iload 7, 2) := by decide +kernel
theorem dX6_key_113 : decode cX6_key 113 = .ok (.ireturn, 1) := by decide +kernel
theorem dX6_camera_0 : decode cX6_camera 0 = .ok (.aload_n 0, 1) := by decide +kernel
theorem dX6_camera_1 : decode cX6_camera 1 = .ok (.aload_n 0, 1) := by decide +kernel
theorem dX6_camera_2 : decode cX6_camera 2 = .ok (.iload_n 1, 1) := by decide +kernel
theorem dX6_camera_3 : decode cX6_camera 3 = .ok (.iload_n 2, 1) := by decide +kernel
theorem dX6_camera_4 : decode cX6_camera 4 = .ok (.invokevirtual 141, 3) := by decide +kernel
theorem dX6_camera_7 : decode cX6_camera 7 = .ok (.ifCond .ne 7, 3) := by decide +kernel
theorem dX6_camera_10 : decode cX6_camera 10 = .ok (.iconst 1, 1) := by decide +kernel
theorem dX6_camera_11 : decode cX6_camera 11 = .ok (.goto 35, 3) := by decide +kernel
theorem dX6_camera_14 : decode cX6_camera 14 = .ok (.iload_n 3, 1) := by decide +kernel
theorem dX6_camera_15 : decode cX6_camera 15 = .ok (.sipush (-999), 3) := by decide +kernel
theorem dX6_camera_18 : decode cX6_camera 18 = .ok (.sipush 999, 3) := by decide +kernel
theorem dX6_camera_21 : decode cX6_camera 21 = .ok (.invokestatic 91, 3) := by decide +kernel
theorem dX6_camera_24 : decode cX6_camera 24 = .ok (.ifCond .ne 7, 3) := by decide +kernel
theorem dX6_camera_27 : decode cX6_camera 27 = .ok (.iconst 2, 1) := by decide +kernel
theorem dX6_camera_28 : decode cX6_camera 28 = .ok (.goto 18, 3) := by decide +kernel
theorem dX6_camera_31 : decode cX6_camera 31 = .ok (.iload_n 2, 1) := by decide +kernel
theorem dX6_camera_32 : decode cX6_camera 32 = .ok (.aload_n 0, 1) := by decide +kernel
theorem dX6_camera_33 : decode cX6_camera 33 = .ok (.getfield 46, 3) := by decide +kernel
theorem dX6_camera_36 : decode cX6_camera 36 = .ok (.iload_n 1, 1) := by decide +kernel
theorem dX6_camera_37 : decode cX6_camera 37 = .ok (.iaload, 1) := by decide +kernel
theorem dX6_camera_38 : decode cX6_camera 38 = .ok (.if_icmp .ge 7, 3) := by decide +kernel
theorem dX6_camera_41 : decode cX6_camera 41 = .ok (.iconst 3, 1) := by decide +kernel
theorem dX6_camera_42 : decode cX6_camera 42 = .ok (.goto 4, 3) := by decide +kernel
theorem dX6_camera_45 : decode cX6_camera 45 = .ok (.iconst 0, 1) := by decide +kernel
theorem dX6_camera_46 : decode cX6_camera 46 = .ok (.invokevirtual 108, 3) := by decide +kernel
theorem dX6_camera_49 : decode cX6_camera 49 = .ok (.ifCond .eq 5, 3) := by decide +kernel
theorem dX6_camera_52 : decode cX6_camera 52 = .ok (.iconst 0, 1) := by decide +kernel
theorem dX6_camera_53 : decode cX6_camera 53 = .ok (.ireturn, 1) := by decide +kernel
theorem dX6_camera_54 : decode cX6_camera 54 = .ok (.aload_n 0, 1) := by decide +kernel
theorem dX6_camera_55 : decode cX6_camera 55 = .ok (.iload_n 1, 1) := by decide +kernel
theorem dX6_camera_56 : decode cX6_camera 56 = .ok (.iload_n 2, 1) := by decide +kernel
theorem dX6_camera_57 : decode cX6_camera 57 = .ok (.invokevirtual 148, 3) := by decide +kernel
theorem dX6_camera_60 : decode cX6_camera 60 = .ok (.istore 4, 2) := by decide +kernel
theorem dX6_camera_62 : decode cX6_camera 62 = .ok (.aload_n 0, 1) := by decide +kernel
theorem dX6_camera_63 : decode cX6_camera 63 = .ok (.getfield 59, 3) := by decide +kernel
theorem dX6_camera_66 : decode cX6_camera 66 = .ok (.bipush 48, 2) := by decide +kernel
theorem dX6_camera_68 : decode cX6_camera 68 = .ok (.iload_n 1, 1) := by decide +kernel
theorem dX6_camera_69 : decode cX6_camera 69 = .ok (.imul, 1) := by decide +kernel
theorem dX6_camera_70 : decode cX6_camera 70 = .ok (.iload_n 2, 1) := by decide +kernel
theorem dX6_camera_71 : decode cX6_camera 71 = .ok (.iadd, 1) := by decide +kernel
theorem dX6_camera_72 : decode cX6_camera 72 = .ok (.iload_n 3, 1) := by decide +kernel
theorem dX6_camera_73 : decode cX6_camera 73 = .ok (.iastore, 1) := by decide +kernel
theorem dX6_camera_74 : decode cX6_camera 74 = .ok (.iload 4, 2) := by decide +kernel
theorem dX6_camera_76 : decode cX6_camera 76 = .ok (.ireturn, 1) := by decide +kernel
theorem dX6_play_0 : decode cX6_play 0 = .ok (.aload_n 0, 1) := by decide +kernel
theorem dX6_play_1 : decode cX6_play 1 = .ok (.iload_n 1, 1) := by decide +kernel
theorem dX6_play_2 : decode cX6_play 2 = .ok (.iconst 0, 1) := by decide +kernel
theorem dX6_play_3 : decode cX6_play 3 = .ok (.bipush 20, 2) := by decide +kernel
theorem dX6_play_5 : decode cX6_play 5 = .ok (.invokestatic 91, 3) := by decide +kernel
theorem dX6_play_8 : decode cX6_play 8 = .ok (.ifCond .eq 7, 3) := by decide +kernel
theorem dX6_play_11 : decode cX6_play 11 = .ok (.iconst 0, 1) := by decide +kernel
theorem dX6_play_12 : decode cX6_play 12 = .ok (.goto 4, 3) := by decide +kernel
theorem dX6_play_15 : decode cX6_play 15 = .ok (.iconst 1, 1) := by decide +kernel
theorem dX6_play_16 : decode cX6_play 16 = .ok (.invokevirtual 108, 3) := by decide +kernel
theorem dX6_play_19 : decode cX6_play 19 = .ok (.ifCond .eq 5, 3) := by decide +kernel
theorem dX6_play_22 : decode cX6_play 22 = .ok (.iconst 0, 1) := by decide +kernel
theorem dX6_play_23 : decode cX6_play 23 = .ok (.ireturn, 1) := by decide +kernel
theorem dX6_play_24 : decode cX6_play 24 = .ok (.aload_n 0, 1) := by decide +kernel
theorem dX6_play_25 : decode cX6_play 25 = .ok (.getfield 151, 3) := by decide +kernel
theorem dX6_play_28 : decode cX6_play 28 = .ok (.istore_n 2, 1) := by decide +kernel
theorem dX6_play_29 : decode cX6_play 29 = .ok (.aload_n 0, 1) := by decide +kernel
theorem dX6_play_30 : decode cX6_play 30 = .ok (.iload_n 1, 1) := by decide +kernel
theorem dX6_play_31 : decode cX6_play 31 = .ok (.putfield 151, 3) := by decide +kernel
theorem dX6_play_34 : decode cX6_play 34 = .ok (.iload_n 2, 1) := by decide +kernel
theorem dX6_play_35 : decode cX6_play 35 = .ok (.ireturn, 1) := by decide +kernel
theorem dX6_lightNow_0 : decode cX6_lightNow 0 = .ok (.sipush 1000, 3) := by decide +kernel
theorem dX6_lightNow_3 : decode cX6_lightNow 3 = .ok (.aload_n 0, 1) := by decide +kernel
theorem dX6_lightNow_4 : decode cX6_lightNow 4 = .ok (.getfield 154, 3) := by decide +kernel
theorem dX6_lightNow_7 : decode cX6_lightNow 7 = .ok (.iconst 3, 1) := by decide +kernel
theorem dX6_lightNow_8 : decode cX6_lightNow 8 = .ok (.idiv, 1) := by decide +kernel
theorem dX6_lightNow_9 : decode cX6_lightNow 9 = .ok (.isub, 1) := by decide +kernel
theorem dX6_lightNow_10 : decode cX6_lightNow 10 = .ok (.istore_n 1, 1) := by decide +kernel
theorem dX6_lightNow_11 : decode cX6_lightNow 11 = .ok (.iload_n 1, 1) := by decide +kernel
theorem dX6_lightNow_12 : decode cX6_lightNow 12 = .ok (.sipush 500, 3) := by decide +kernel
theorem dX6_lightNow_15 : decode cX6_lightNow 15 = .ok (.if_icmp .ge 9, 3) := by decide +kernel
theorem dX6_lightNow_18 : decode cX6_lightNow 18 = .ok (.sipush 500, 3) := by decide +kernel
theorem dX6_lightNow_21 : decode cX6_lightNow 21 = .ok (.goto 4, 3) := by decide +kernel
theorem dX6_lightNow_24 : decode cX6_lightNow 24 = .ok (.iload_n 1, 1) := by decide +kernel
theorem dX6_lightNow_25 : decode cX6_lightNow 25 = .ok (.ireturn, 1) := by decide +kernel
theorem dX6_wanted_0 : decode cX6_wanted 0 = .ok (.aload_n 0, 1) := by decide +kernel
theorem dX6_wanted_1 : decode cX6_wanted 1 = .ok (.getfield 46, 3) := by decide +kernel
theorem dX6_wanted_4 : decode cX6_wanted 4 = .ok (.iload_n 1, 1) := by decide +kernel
theorem dX6_wanted_5 : decode cX6_wanted 5 = .ok (.iaload, 1) := by decide +kernel
theorem dX6_wanted_6 : decode cX6_wanted 6 = .ok (.istore_n 2, 1) := by decide +kernel
theorem dX6_wanted_7 : decode cX6_wanted 7 = .ok (.aload_n 0, 1) := by decide +kernel
theorem dX6_wanted_8 : decode cX6_wanted 8 = .ok (.iload_n 1, 1) := by decide +kernel
theorem dX6_wanted_9 : decode cX6_wanted 9 = .ok (.iload_n 2, 1) := by decide +kernel
theorem dX6_wanted_10 : decode cX6_wanted 10 = .ok (.invokevirtual 157, 3) := by decide +kernel
theorem dX6_wanted_13 : decode cX6_wanted 13 = .ok (.istore_n 3, 1) := by decide +kernel
theorem dX6_wanted_14 : decode cX6_wanted 14 = .ok (.aload_n 0, 1) := by decide +kernel
theorem dX6_wanted_15 : decode cX6_wanted 15 = .ok (.iload_n 1, 1) := by decide +kernel
theorem dX6_wanted_16 : decode cX6_wanted 16 = .ok (.iload_n 2, 1) := by decide +kernel
theorem dX6_wanted_17 : decode cX6_wanted 17 = .ok (.invokevirtual 123, 3) := by decide +kernel
theorem dX6_wanted_20 : decode cX6_wanted 20 = .ok (.ifCond .ne 24, 3) := by decide +kernel
theorem dX6_wanted_23 : decode cX6_wanted 23 = .ok (.iload_n 2, 1) := by decide +kernel
theorem dX6_wanted_24 : decode cX6_wanted 24 = .ok (.ifCond .le 24, 3) := by decide +kernel
theorem dX6_wanted_27 : decode cX6_wanted 27 = .ok (.iload_n 3, 1) := by decide +kernel
theorem dX6_wanted_28 : decode cX6_wanted 28 = .ok (.aload_n 0, 1) := by decide +kernel
theorem dX6_wanted_29 : decode cX6_wanted 29 = .ok (.getfield 65, 3) := by decide +kernel
theorem dX6_wanted_32 : decode cX6_wanted 32 = .ok (.bipush 48, 2) := by decide +kernel
theorem dX6_wanted_34 : decode cX6_wanted 34 = .ok (.iload_n 1, 1) := by decide +kernel
theorem dX6_wanted_35 : decode cX6_wanted 35 = .ok (.imul, 1) := by decide +kernel
theorem dX6_wanted_36 : decode cX6_wanted 36 = .ok (.iload_n 2, 1) := by decide +kernel
theorem dX6_wanted_37 : decode cX6_wanted 37 = .ok (.iadd, 1) := by decide +kernel
theorem dX6_wanted_38 : decode cX6_wanted 38 = .ok (.iconst 1, 1) := by decide +kernel
theorem dX6_wanted_39 : decode cX6_wanted 39 = .ok (.isub, 1) := by decide +kernel
theorem dX6_wanted_40 : decode cX6_wanted 40 = .ok (.iaload, 1) := by decide +kernel
theorem dX6_wanted_41 : decode cX6_wanted 41 = .ok (.if_icmp .ne 7, 3) := by decide +kernel
theorem dX6_wanted_44 : decode cX6_wanted 44 = .ok (.iconst (-1), 1) := by decide +kernel
theorem dX6_wanted_45 : decode cX6_wanted 45 = .ok (.goto 4, 3) := by decide +kernel
theorem dX6_wanted_48 : decode cX6_wanted 48 = .ok (.iload_n 3, 1) := by decide +kernel
theorem dX6_wanted_49 : decode cX6_wanted 49 = .ok (.ireturn, 1) := by decide +kernel
theorem dX6_isBroken_0 : decode cX6_isBroken 0 = .ok (.iconst 0, 1) := by decide +kernel
theorem dX6_isBroken_1 : decode cX6_isBroken 1 = .ok (.istore_n 2, 1) := by decide +kernel
theorem dX6_isBroken_2 : decode cX6_isBroken 2 = .ok (.iconst 0, 1) := by decide +kernel
theorem dX6_isBroken_3 : decode cX6_isBroken 3 = .ok (.istore_n 3, 1) := by decide +kernel
theorem dX6_isBroken_4 : decode cX6_isBroken 4 = .ok (.iload_n 3, 1) := by decide +kernel
theorem dX6_isBroken_5 : decode cX6_isBroken 5 = .ok (.aload_n 0, 1) := by decide +kernel
theorem dX6_isBroken_6 : decode cX6_isBroken 6 = .ok (.getfield 7, 3) := by decide +kernel
theorem dX6_isBroken_9 : decode cX6_isBroken 9 = .ok (.iload_n 1, 1) := by decide +kernel
theorem dX6_isBroken_10 : decode cX6_isBroken 10 = .ok (.iaload, 1) := by decide +kernel
theorem dX6_isBroken_11 : decode cX6_isBroken 11 = .ok (.if_icmp .ge 36, 3) := by decide +kernel
theorem dX6_isBroken_14 : decode cX6_isBroken 14 = .ok (.iload_n 2, 1) := by decide +kernel
theorem dX6_isBroken_15 : decode cX6_isBroken 15 = .ok (.ifCond .ne 20, 3) := by decide +kernel
theorem dX6_isBroken_18 : decode cX6_isBroken 18 = .ok (.aload_n 0, 1) := by decide +kernel
theorem dX6_isBroken_19 : decode cX6_isBroken 19 = .ok (.getfield 16, 3) := by decide +kernel
theorem dX6_isBroken_22 : decode cX6_isBroken 22 = .ok (.bipush 6, 2) := by decide +kernel
theorem dX6_isBroken_24 : decode cX6_isBroken 24 = .ok (.iload_n 1, 1) := by decide +kernel
theorem dX6_isBroken_25 : decode cX6_isBroken 25 = .ok (.imul, 1) := by decide +kernel
theorem dX6_isBroken_26 : decode cX6_isBroken 26 = .ok (.iload_n 3, 1) := by decide +kernel
theorem dX6_isBroken_27 : decode cX6_isBroken 27 = .ok (.iadd, 1) := by decide +kernel
theorem dX6_isBroken_28 : decode cX6_isBroken 28 = .ok (.iaload, 1) := by decide +kernel
theorem dX6_isBroken_29 : decode cX6_isBroken 29 = .ok (.sipush 1000, 3) := by decide +kernel
theorem dX6_isBroken_32 : decode cX6_isBroken 32 = .ok (.if_icmp .lt 7, 3) := by decide +kernel
theorem dX6_isBroken_35 : decode cX6_isBroken 35 = .ok (.iconst 1, 1) := by decide +kernel
theorem dX6_isBroken_36 : decode cX6_isBroken 36 = .ok (.goto 4, 3) := by decide +kernel
theorem dX6_isBroken_39 : decode cX6_isBroken 39 = .ok (.iconst 0, 1) := by decide +kernel
theorem dX6_isBroken_40 : decode cX6_isBroken 40 = .ok (.istore_n 2, 1) := by decide +kernel
theorem dX6_isBroken_41 : decode cX6_isBroken 41 = .ok (.iinc 3 1, 3) := by decide +kernel
theorem dX6_isBroken_44 : decode cX6_isBroken 44 = .ok (.goto (-40), 3) := by decide +kernel
theorem dX6_isBroken_47 : decode cX6_isBroken 47 = .ok (.iload_n 2, 1) := by decide +kernel
theorem dX6_isBroken_48 : decode cX6_isBroken 48 = .ok (.ireturn, 1) := by decide +kernel
theorem dX6_reason_0 : decode cX6_reason 0 = .ok (.aload_n 0, 1) := by decide +kernel
theorem dX6_reason_1 : decode cX6_reason 1 = .ok (.iload_n 1, 1) := by decide +kernel
theorem dX6_reason_2 : decode cX6_reason 2 = .ok (.invokevirtual 117, 3) := by decide +kernel
theorem dX6_reason_5 : decode cX6_reason 5 = .ok (.ifCond .eq 6, 3) := by decide +kernel
theorem dX6_reason_8 : decode cX6_reason 8 = .ok (.bipush 7, 2) := by decide +kernel
theorem dX6_reason_10 : decode cX6_reason 10 = .ok (.ireturn, 1) := by decide +kernel
theorem dX6_reason_11 : decode cX6_reason 11 = .ok (.aload_n 0, 1) := by decide +kernel
theorem dX6_reason_12 : decode cX6_reason 12 = .ok (.getfield 43, 3) := by decide +kernel
theorem dX6_reason_15 : decode cX6_reason 15 = .ok (.iload_n 1, 1) := by decide +kernel
theorem dX6_reason_16 : decode cX6_reason 16 = .ok (.iaload, 1) := by decide +kernel
theorem dX6_reason_17 : decode cX6_reason 17 = .ok (.iconst (-1), 1) := by decide +kernel
theorem dX6_reason_18 : decode cX6_reason 18 = .ok (.if_icmp .eq 17, 3) := by decide +kernel
theorem dX6_reason_21 : decode cX6_reason 21 = .ok (.aload_n 0, 1) := by decide +kernel
theorem dX6_reason_22 : decode cX6_reason 22 = .ok (.getfield 52, 3) := by decide +kernel
theorem dX6_reason_25 : decode cX6_reason 25 = .ok (.aload_n 0, 1) := by decide +kernel
theorem dX6_reason_26 : decode cX6_reason 26 = .ok (.getfield 43, 3) := by decide +kernel
theorem dX6_reason_29 : decode cX6_reason 29 = .ok (.iload_n 1, 1) := by decide +kernel
theorem dX6_reason_30 : decode cX6_reason 30 = .ok (.iaload, 1) := by decide +kernel
theorem dX6_reason_31 : decode cX6_reason 31 = .ok (.baload, 1) := by decide +kernel
theorem dX6_reason_32 : decode cX6_reason 32 = .ok (.ifCond .eq 19, 3) := by decide +kernel
theorem dX6_reason_35 : decode cX6_reason 35 = .ok (.aload_n 0, 1) := by decide +kernel
theorem dX6_reason_36 : decode cX6_reason 36 = .ok (.getfield 43, 3) := by decide +kernel
theorem dX6_reason_39 : decode cX6_reason 39 = .ok (.iload_n 1, 1) := by decide +kernel
theorem dX6_reason_40 : decode cX6_reason 40 = .ok (.iaload, 1) := by decide +kernel
theorem dX6_reason_41 : decode cX6_reason 41 = .ok (.iconst (-1), 1) := by decide +kernel
theorem dX6_reason_42 : decode cX6_reason 42 = .ok (.if_icmp .ne 7, 3) := by decide +kernel
theorem dX6_reason_45 : decode cX6_reason 45 = .ok (.iconst 1, 1) := by decide +kernel
theorem dX6_reason_46 : decode cX6_reason 46 = .ok (.goto 4, 3) := by decide +kernel
theorem dX6_reason_49 : decode cX6_reason 49 = .ok (.iconst 2, 1) := by decide +kernel
theorem dX6_reason_50 : decode cX6_reason 50 = .ok (.ireturn, 1) := by decide +kernel
theorem dX6_reason_51 : decode cX6_reason 51 = .ok (.iconst 0, 1) := by decide +kernel
theorem dX6_reason_52 : decode cX6_reason 52 = .ok (.istore_n 2, 1) := by decide +kernel
theorem dX6_reason_53 : decode cX6_reason 53 = .ok (.iconst 0, 1) := by decide +kernel
theorem dX6_reason_54 : decode cX6_reason 54 = .ok (.istore_n 3, 1) := by decide +kernel
theorem dX6_reason_55 : decode cX6_reason 55 = .ok (.iconst 0, 1) := by decide +kernel
theorem dX6_reason_56 : decode cX6_reason 56 = .ok (.istore 4, 2) := by decide +kernel
theorem dX6_reason_58 : decode cX6_reason 58 = .ok (.iload 4, 2) := by decide +kernel
theorem dX6_reason_60 : decode cX6_reason 60 = .ok (.aload_n 0, 1) := by decide +kernel
theorem dX6_reason_61 : decode cX6_reason 61 = .ok (.getfield 102, 3) := by decide +kernel
theorem dX6_reason_64 : decode cX6_reason 64 = .ok (.if_icmp .ge 91, 3) := by decide +kernel
theorem dX6_reason_67 : decode cX6_reason 67 = .ok (.iload_n 2, 1) := by decide +kernel
theorem dX6_reason_68 : decode cX6_reason 68 = .ok (.ifCond .ne 34, 3) := by decide +kernel
theorem dX6_reason_71 : decode cX6_reason 71 = .ok (.iload 4, 2) := by decide +kernel
theorem dX6_reason_73 : decode cX6_reason 73 = .ok (.iload_n 1, 1) := by decide +kernel
theorem dX6_reason_74 : decode cX6_reason 74 = .ok (.if_icmp .eq 32, 3) := by decide +kernel
theorem dX6_reason_77 : decode cX6_reason 77 = .ok (.aload_n 0, 1) := by decide +kernel
theorem dX6_reason_78 : decode cX6_reason 78 = .ok (.iload 4, 2) := by decide +kernel
theorem dX6_reason_80 : decode cX6_reason 80 = .ok (.invokevirtual 160, 3) := by decide +kernel
theorem dX6_reason_83 : decode cX6_reason 83 = .ok (.ifCond .eq 23, 3) := by decide +kernel
theorem dX6_reason_86 : decode cX6_reason 86 = .ok (.aload_n 0, 1) := by decide +kernel
theorem dX6_reason_87 : decode cX6_reason 87 = .ok (.getfield 43, 3) := by decide +kernel
theorem dX6_reason_90 : decode cX6_reason 90 = .ok (.iload 4, 2) := by decide +kernel
theorem dX6_reason_92 : decode cX6_reason 92 = .ok (.iaload, 1) := by decide +kernel
theorem dX6_reason_93 : decode cX6_reason 93 = .ok (.aload_n 0, 1) := by decide +kernel
theorem dX6_reason_94 : decode cX6_reason 94 = .ok (.getfield 43, 3) := by decide +kernel
theorem dX6_reason_97 : decode cX6_reason 97 = .ok (.iload_n 1, 1) := by decide +kernel
theorem dX6_reason_98 : decode cX6_reason 98 = .ok (.iaload, 1) := by decide +kernel
theorem dX6_reason_99 : decode cX6_reason 99 = .ok (.if_icmp .ne 7, 3) := by decide +kernel
theorem dX6_reason_102 : decode cX6_reason 102 = .ok (.iconst 1, 1) := by decide +kernel
theorem dX6_reason_103 : decode cX6_reason 103 = .ok (.goto 4, 3) := by decide +kernel
theorem dX6_reason_106 : decode cX6_reason 106 = .ok (.iconst 0, 1) := by decide +kernel
theorem dX6_reason_107 : decode cX6_reason 107 = .ok (.istore_n 2, 1) := by decide +kernel
theorem dX6_reason_108 : decode cX6_reason 108 = .ok (.iload_n 3, 1) := by decide +kernel
theorem dX6_reason_109 : decode cX6_reason 109 = .ok (.ifCond .ne 34, 3) := by decide +kernel
theorem dX6_reason_112 : decode cX6_reason 112 = .ok (.iload 4, 2) := by decide +kernel
theorem dX6_reason_114 : decode cX6_reason 114 = .ok (.iload_n 1, 1) := by decide +kernel
theorem dX6_reason_115 : decode cX6_reason 115 = .ok (.if_icmp .eq 32, 3) := by decide +kernel
theorem dX6_reason_118 : decode cX6_reason 118 = .ok (.aload_n 0, 1) := by decide +kernel
theorem dX6_reason_119 : decode cX6_reason 119 = .ok (.iload 4, 2) := by decide +kernel
theorem dX6_reason_121 : decode cX6_reason 121 = .ok (.invokevirtual 160, 3) := by decide +kernel
theorem dX6_reason_124 : decode cX6_reason 124 = .ok (.ifCond .eq 23, 3) := by decide +kernel
theorem dX6_reason_127 : decode cX6_reason 127 = .ok (.aload_n 0, 1) := by decide +kernel
theorem dX6_reason_128 : decode cX6_reason 128 = .ok (.getfield 31, 3) := by decide +kernel
theorem dX6_reason_131 : decode cX6_reason 131 = .ok (.iload 4, 2) := by decide +kernel
theorem dX6_reason_133 : decode cX6_reason 133 = .ok (.iaload, 1) := by decide +kernel
theorem dX6_reason_134 : decode cX6_reason 134 = .ok (.aload_n 0, 1) := by decide +kernel
theorem dX6_reason_135 : decode cX6_reason 135 = .ok (.getfield 31, 3) := by decide +kernel
theorem dX6_reason_138 : decode cX6_reason 138 = .ok (.iload_n 1, 1) := by decide +kernel
theorem dX6_reason_139 : decode cX6_reason 139 = .ok (.iaload, 1) := by decide +kernel
theorem dX6_reason_140 : decode cX6_reason 140 = .ok (.if_icmp .ne 7, 3) := by decide +kernel
theorem dX6_reason_143 : decode cX6_reason 143 = .ok (.iconst 1, 1) := by decide +kernel
theorem dX6_reason_144 : decode cX6_reason 144 = .ok (.goto 4, 3) := by decide +kernel
theorem dX6_reason_147 : decode cX6_reason 147 = .ok (.iconst 0, 1) := by decide +kernel
theorem dX6_reason_148 : decode cX6_reason 148 = .ok (.istore_n 3, 1) := by decide +kernel
theorem dX6_reason_149 : decode cX6_reason 149 = .ok (.iinc 4 1, 3) := by decide +kernel
theorem dX6_reason_152 : decode cX6_reason 152 = .ok (.goto (-94), 3) := by decide +kernel
theorem dX6_reason_155 : decode cX6_reason 155 = .ok (.iload_n 2, 1) := by decide +kernel
theorem dX6_reason_156 : decode cX6_reason 156 = .ok (.ifCond .ne 7, 3) := by decide +kernel
theorem dX6_reason_159 : decode cX6_reason 159 = .ok (.iload_n 3, 1) := by decide +kernel
theorem dX6_reason_160 : decode cX6_reason 160 = .ok (.ifCond .eq 13, 3) := by decide +kernel
theorem dX6_reason_163 : decode cX6_reason 163 = .ok (.iload_n 2, 1) := by decide +kernel
theorem dX6_reason_164 : decode cX6_reason 164 = .ok (.ifCond .eq 7, 3) := by decide +kernel
theorem dX6_reason_167 : decode cX6_reason 167 = .ok (.iconst 3, 1) := by decide +kernel
theorem dX6_reason_168 : decode cX6_reason 168 = .ok (.goto 4, 3) := by decide +kernel
theorem dX6_reason_171 : decode cX6_reason 171 = .ok (.iconst 4, 1) := by decide +kernel
theorem dX6_reason_172 : decode cX6_reason 172 = .ok (.ireturn, 1) := by decide +kernel
theorem dX6_reason_173 : decode cX6_reason 173 = .ok (.aload_n 0, 1) := by decide +kernel
theorem dX6_reason_174 : decode cX6_reason 174 = .ok (.iload_n 1, 1) := by decide +kernel
theorem dX6_reason_175 : decode cX6_reason 175 = .ok (.aload_n 0, 1) := by decide +kernel
theorem dX6_reason_176 : decode cX6_reason 176 = .ok (.getfield 46, 3) := by decide +kernel
theorem dX6_reason_179 : decode cX6_reason 179 = .ok (.iload_n 1, 1) := by decide +kernel
theorem dX6_reason_180 : decode cX6_reason 180 = .ok (.iaload, 1) := by decide +kernel
theorem dX6_reason_181 : decode cX6_reason 181 = .ok (.invokevirtual 123, 3) := by decide +kernel
theorem dX6_reason_184 : decode cX6_reason 184 = .ok (.ifCond .eq 5, 3) := by decide +kernel
theorem dX6_reason_187 : decode cX6_reason 187 = .ok (.iconst 0, 1) := by decide +kernel
theorem dX6_reason_188 : decode cX6_reason 188 = .ok (.ireturn, 1) := by decide +kernel
theorem dX6_reason_189 : decode cX6_reason 189 = .ok (.aload_n 0, 1) := by decide +kernel
theorem dX6_reason_190 : decode cX6_reason 190 = .ok (.iload_n 1, 1) := by decide +kernel
theorem dX6_reason_191 : decode cX6_reason 191 = .ok (.invokevirtual 163, 3) := by decide +kernel
theorem dX6_reason_194 : decode cX6_reason 194 = .ok (.istore 4, 2) := by decide +kernel
theorem dX6_reason_196 : decode cX6_reason 196 = .ok (.aload_n 0, 1) := by decide +kernel
theorem dX6_reason_197 : decode cX6_reason 197 = .ok (.aload_n 0, 1) := by decide +kernel
theorem dX6_reason_198 : decode cX6_reason 198 = .ok (.getfield 31, 3) := by decide +kernel
theorem dX6_reason_201 : decode cX6_reason 201 = .ok (.iload_n 1, 1) := by decide +kernel
theorem dX6_reason_202 : decode cX6_reason 202 = .ok (.iaload, 1) := by decide +kernel
theorem dX6_reason_203 : decode cX6_reason 203 = .ok (.invokevirtual 167, 3) := by decide +kernel
theorem dX6_reason_206 : decode cX6_reason 206 = .ok (.ifCond .eq 7, 3) := by decide +kernel
theorem dX6_reason_209 : decode cX6_reason 209 = .ok (.iconst 5, 1) := by decide +kernel
theorem dX6_reason_210 : decode cX6_reason 210 = .ok (.goto 35, 3) := by decide +kernel
theorem dX6_reason_213 : decode cX6_reason 213 = .ok (.iload 4, 2) := by decide +kernel
theorem dX6_reason_215 : decode cX6_reason 215 = .ok (.iconst (-1), 1) := by decide +kernel
theorem dX6_reason_216 : decode cX6_reason 216 = .ok (.if_icmp .eq 28, 3) := by decide +kernel
theorem dX6_reason_219 : decode cX6_reason 219 = .ok (.aload_n 0, 1) := by decide +kernel
theorem dX6_reason_220 : decode cX6_reason 220 = .ok (.getfield 19, 3) := by decide +kernel
theorem dX6_reason_223 : decode cX6_reason 223 = .ok (.bipush 10, 2) := by decide +kernel
theorem dX6_reason_225 : decode cX6_reason 225 = .ok (.aload_n 0, 1) := by decide +kernel
theorem dX6_reason_226 : decode cX6_reason 226 = .ok (.getfield 31, 3) := by decide +kernel
theorem dX6_reason_229 : decode cX6_reason 229 = .ok (.iload_n 1, 1) := by decide +kernel
theorem dX6_reason_230 : decode cX6_reason 230 = .ok (.iaload, 1) := by decide +kernel
theorem dX6_reason_231 : decode cX6_reason 231 = .ok (.imul, 1) := by decide +kernel
theorem dX6_reason_232 : decode cX6_reason 232 = .ok (.iload 4, 2) := by decide +kernel
theorem dX6_reason_234 : decode cX6_reason 234 = .ok (.iadd, 1) := by decide +kernel
theorem dX6_reason_235 : decode cX6_reason 235 = .ok (.iaload, 1) := by decide +kernel
theorem dX6_reason_236 : decode cX6_reason 236 = .ok (.ifCond .ne 8, 3) := by decide +kernel
theorem dX6_reason_239 : decode cX6_reason 239 = .ok (.bipush 6, 2) := by decide +kernel
theorem dX6_reason_241 : decode cX6_reason 241 = .ok (.goto 4, 3) := by decide +kernel
theorem dX6_reason_244 : decode cX6_reason 244 = .ok (.iconst 0, 1) := by decide +kernel
theorem dX6_reason_245 : decode cX6_reason 245 = .ok (.ireturn, 1) := by decide +kernel
theorem dX6_shorter_0 : decode cX6_shorter 0 = .ok (.iload_n 0, 1) := by decide +kernel
theorem dX6_shorter_1 : decode cX6_shorter 1 = .ok (.iload_n 1, 1) := by decide +kernel
theorem dX6_shorter_2 : decode cX6_shorter 2 = .ok (.if_icmp .le 9, 3) := by decide +kernel
theorem dX6_shorter_5 : decode cX6_shorter 5 = .ok (.iload_n 0, 1) := by decide +kernel
theorem dX6_shorter_6 : decode cX6_shorter 6 = .ok (.iload_n 1, 1) := by decide +kernel
theorem dX6_shorter_7 : decode cX6_shorter 7 = .ok (.isub, 1) := by decide +kernel
theorem dX6_shorter_8 : decode cX6_shorter 8 = .ok (.goto 6, 3) := by decide +kernel
theorem dX6_shorter_11 : decode cX6_shorter 11 = .ok (.iload_n 1, 1) := by decide +kernel
theorem dX6_shorter_12 : decode cX6_shorter 12 = .ok (.iload_n 0, 1) := by decide +kernel
theorem dX6_shorter_13 : decode cX6_shorter 13 = .ok (.isub, 1) := by decide +kernel
theorem dX6_shorter_14 : decode cX6_shorter 14 = .ok (.istore_n 2, 1) := by decide +kernel
theorem dX6_shorter_15 : decode cX6_shorter 15 = .ok (.iload_n 2, 1) := by decide +kernel
theorem dX6_shorter_16 : decode cX6_shorter 16 = .ok (.sipush 180, 3) := by decide +kernel
theorem dX6_shorter_19 : decode cX6_shorter 19 = .ok (.if_icmp .le 11, 3) := by decide +kernel
theorem dX6_shorter_22 : decode cX6_shorter 22 = .ok (.sipush 360, 3) := by decide +kernel
theorem dX6_shorter_25 : decode cX6_shorter 25 = .ok (.iload_n 2, 1) := by decide +kernel
theorem dX6_shorter_26 : decode cX6_shorter 26 = .ok (.isub, 1) := by decide +kernel
theorem dX6_shorter_27 : decode cX6_shorter 27 = .ok (.goto 4, 3) := by decide +kernel
theorem dX6_shorter_30 : decode cX6_shorter 30 = .ok (.iload_n 2, 1) := by decide +kernel
theorem dX6_shorter_31 : decode cX6_shorter 31 = .ok (.ireturn, 1) := by decide +kernel
theorem dX6_poses_0 : decode cX6_poses 0 = .ok (.aload_n 0, 1) := by decide +kernel
theorem dX6_poses_1 : decode cX6_poses 1 = .ok (.getfield 31, 3) := by decide +kernel
theorem dX6_poses_4 : decode cX6_poses 4 = .ok (.iload_n 1, 1) := by decide +kernel
theorem dX6_poses_5 : decode cX6_poses 5 = .ok (.iaload, 1) := by decide +kernel
theorem dX6_poses_6 : decode cX6_poses 6 = .ok (.istore_n 3, 1) := by decide +kernel
theorem dX6_poses_7 : decode cX6_poses 7 = .ok (.iconst 0, 1) := by decide +kernel
theorem dX6_poses_8 : decode cX6_poses 8 = .ok (.istore 4, 2) := by decide +kernel
theorem dX6_poses_10 : decode cX6_poses 10 = .ok (.iload 4, 2) := by decide +kernel
theorem dX6_poses_12 : decode cX6_poses 12 = .ok (.aload_n 0, 1) := by decide +kernel
theorem dX6_poses_13 : decode cX6_poses 13 = .ok (.getfield 7, 3) := by decide +kernel
theorem dX6_poses_16 : decode cX6_poses 16 = .ok (.iload_n 3, 1) := by decide +kernel
theorem dX6_poses_17 : decode cX6_poses 17 = .ok (.iaload, 1) := by decide +kernel
theorem dX6_poses_18 : decode cX6_poses 18 = .ok (.if_icmp .ge 81, 3) := by decide +kernel
theorem dX6_poses_21 : decode cX6_poses 21 = .ok (.aload_n 0, 1) := by decide +kernel
theorem dX6_poses_22 : decode cX6_poses 22 = .ok (.iload_n 1, 1) := by decide +kernel
theorem dX6_poses_23 : decode cX6_poses 23 = .ok (.iload 4, 2) := by decide +kernel
theorem dX6_poses_25 : decode cX6_poses 25 = .ok (.iload_n 2, 1) := by decide +kernel
theorem dX6_poses_26 : decode cX6_poses 26 = .ok (.invokevirtual 144, 3) := by decide +kernel
theorem dX6_poses_29 : decode cX6_poses 29 = .ok (.istore 5, 2) := by decide +kernel
theorem dX6_poses_31 : decode cX6_poses 31 = .ok (.aload_n 0, 1) := by decide +kernel
theorem dX6_poses_32 : decode cX6_poses 32 = .ok (.getfield 16, 3) := by decide +kernel
theorem dX6_poses_35 : decode cX6_poses 35 = .ok (.bipush 6, 2) := by decide +kernel
theorem dX6_poses_37 : decode cX6_poses 37 = .ok (.iload_n 3, 1) := by decide +kernel
theorem dX6_poses_38 : decode cX6_poses 38 = .ok (.imul, 1) := by decide +kernel
theorem dX6_poses_39 : decode cX6_poses 39 = .ok (.iload 4, 2) := by decide +kernel
theorem dX6_poses_41 : decode cX6_poses 41 = .ok (.iadd, 1) := by decide +kernel
theorem dX6_poses_42 : decode cX6_poses 42 = .ok (.dup2, 1) := by decide +kernel
theorem dX6_poses_43 : decode cX6_poses 43 = .ok (.iaload, 1) := by decide +kernel
theorem dX6_poses_44 : decode cX6_poses 44 = .ok (.aload_n 0, 1) := by decide +kernel
theorem dX6_poses_45 : decode cX6_poses 45 = .ok (.getfield 13, 3) := by decide +kernel
theorem dX6_poses_48 : decode cX6_poses 48 = .ok (.bipush 6, 2) := by decide +kernel
theorem dX6_poses_50 : decode cX6_poses 50 = .ok (.iload_n 3, 1) := by decide +kernel
theorem dX6_poses_51 : decode cX6_poses 51 = .ok (.imul, 1) := by decide +kernel
theorem dX6_poses_52 : decode cX6_poses 52 = .ok (.iload 4, 2) := by decide +kernel
theorem dX6_poses_54 : decode cX6_poses 54 = .ok (.iadd, 1) := by decide +kernel
theorem dX6_poses_55 : decode cX6_poses 55 = .ok (.iaload, 1) := by decide +kernel
theorem dX6_poses_56 : decode cX6_poses 56 = .ok (.iload 5, 2) := by decide +kernel
theorem dX6_poses_58 : decode cX6_poses 58 = .ok (.invokestatic 170, 3) := by decide +kernel
theorem dX6_poses_61 : decode cX6_poses 61 = .ok (.iadd, 1) := by decide +kernel
theorem dX6_poses_62 : decode cX6_poses 62 = .ok (.iastore, 1) := by decide +kernel
theorem dX6_poses_63 : decode cX6_poses 63 = .ok (.aload_n 0, 1) := by decide +kernel
theorem dX6_poses_64 : decode cX6_poses 64 = .ok (.getfield 13, 3) := by decide +kernel
theorem dX6_poses_67 : decode cX6_poses 67 = .ok (.bipush 6, 2) := by decide +kernel
theorem dX6_poses_69 : decode cX6_poses 69 = .ok (.iload_n 3, 1) := by decide +kernel
theorem dX6_poses_70 : decode cX6_poses 70 = .ok (.imul, 1) := by decide +kernel
theorem dX6_poses_71 : decode cX6_poses 71 = .ok (.iload 4, 2) := by decide +kernel
theorem dX6_poses_73 : decode cX6_poses 73 = .ok (.iadd, 1) := by decide +kernel
theorem dX6_poses_74 : decode cX6_poses 74 = .ok (.iload 5, 2) := by decide +kernel
theorem dX6_poses_76 : decode cX6_poses 76 = .ok (.iastore, 1) := by decide +kernel
theorem dX6_poses_77 : decode cX6_poses 77 = .ok (.aload_n 0, 1) := by decide +kernel
theorem dX6_poses_78 : decode cX6_poses 78 = .ok (.getfield 62, 3) := by decide +kernel
theorem dX6_poses_81 : decode cX6_poses 81 = .ok (.aload_n 0, 1) := by decide +kernel
theorem dX6_poses_82 : decode cX6_poses 82 = .ok (.iload_n 1, 1) := by decide +kernel
theorem dX6_poses_83 : decode cX6_poses 83 = .ok (.iload 4, 2) := by decide +kernel
theorem dX6_poses_85 : decode cX6_poses 85 = .ok (.invokevirtual 127, 3) := by decide +kernel
theorem dX6_poses_88 : decode cX6_poses 88 = .ok (.iload_n 2, 1) := by decide +kernel
theorem dX6_poses_89 : decode cX6_poses 89 = .ok (.iadd, 1) := by decide +kernel
theorem dX6_poses_90 : decode cX6_poses 90 = .ok (.iload 5, 2) := by decide +kernel
theorem dX6_poses_92 : decode cX6_poses 92 = .ok (.iastore, 1) := by decide +kernel
theorem dX6_poses_93 : decode cX6_poses 93 = .ok (.iinc 4 1, 3) := by decide +kernel
theorem dX6_poses_96 : decode cX6_poses 96 = .ok (.goto (-86), 3) := by decide +kernel
theorem dX6_poses_99 : decode cX6_poses 99 = .ok (.aload_n 0, 1) := by decide +kernel
theorem dX6_poses_100 : decode cX6_poses 100 = .ok (.iload_n 1, 1) := by decide +kernel
theorem dX6_poses_101 : decode cX6_poses 101 = .ok (.invokevirtual 163, 3) := by decide +kernel
theorem dX6_poses_104 : decode cX6_poses 104 = .ok (.istore 4, 2) := by decide +kernel
theorem dX6_poses_106 : decode cX6_poses 106 = .ok (.iload 4, 2) := by decide +kernel
theorem dX6_poses_108 : decode cX6_poses 108 = .ok (.iconst (-1), 1) := by decide +kernel
theorem dX6_poses_109 : decode cX6_poses 109 = .ok (.if_icmp .eq 19, 3) := by decide +kernel
theorem dX6_poses_112 : decode cX6_poses 112 = .ok (.aload_n 0, 1) := by decide +kernel
theorem dX6_poses_113 : decode cX6_poses 113 = .ok (.getfield 19, 3) := by decide +kernel
theorem dX6_poses_116 : decode cX6_poses 116 = .ok (.bipush 10, 2) := by decide +kernel
theorem dX6_poses_118 : decode cX6_poses 118 = .ok (.iload_n 3, 1) := by decide +kernel
theorem dX6_poses_119 : decode cX6_poses 119 = .ok (.imul, 1) := by decide +kernel
theorem dX6_poses_120 : decode cX6_poses 120 = .ok (.iload 4, 2) := by decide +kernel
theorem dX6_poses_122 : decode cX6_poses 122 = .ok (.iadd, 1) := by decide +kernel
theorem dX6_poses_123 : decode cX6_poses 123 = .ok (.dup2, 1) := by decide +kernel
theorem dX6_poses_124 : decode cX6_poses 124 = .ok (.iaload, 1) := by decide +kernel
theorem dX6_poses_125 : decode cX6_poses 125 = .ok (.iconst 1, 1) := by decide +kernel
theorem dX6_poses_126 : decode cX6_poses 126 = .ok (.isub, 1) := by decide +kernel
theorem dX6_poses_127 : decode cX6_poses 127 = .ok (.iastore, 1) := by decide +kernel
theorem dX6_poses_128 : decode cX6_poses 128 = .ok (.aload_n 0, 1) := by decide +kernel
theorem dX6_poses_129 : decode cX6_poses 129 = .ok (.getfield 65, 3) := by decide +kernel
theorem dX6_poses_132 : decode cX6_poses 132 = .ok (.bipush 48, 2) := by decide +kernel
theorem dX6_poses_134 : decode cX6_poses 134 = .ok (.iload_n 1, 1) := by decide +kernel
theorem dX6_poses_135 : decode cX6_poses 135 = .ok (.imul, 1) := by decide +kernel
theorem dX6_poses_136 : decode cX6_poses 136 = .ok (.iload_n 2, 1) := by decide +kernel
theorem dX6_poses_137 : decode cX6_poses 137 = .ok (.iadd, 1) := by decide +kernel
theorem dX6_poses_138 : decode cX6_poses 138 = .ok (.aload_n 0, 1) := by decide +kernel
theorem dX6_poses_139 : decode cX6_poses 139 = .ok (.iload_n 1, 1) := by decide +kernel
theorem dX6_poses_140 : decode cX6_poses 140 = .ok (.iload_n 2, 1) := by decide +kernel
theorem dX6_poses_141 : decode cX6_poses 141 = .ok (.invokevirtual 157, 3) := by decide +kernel
theorem dX6_poses_144 : decode cX6_poses 144 = .ok (.iastore, 1) := by decide +kernel
theorem dX6_poses_145 : decode cX6_poses 145 = .ok (.return_, 1) := by decide +kernel
theorem dX6_holds_0 : decode cX6_holds 0 = .ok (.iconst 0, 1) := by decide +kernel
theorem dX6_holds_1 : decode cX6_holds 1 = .ok (.istore_n 3, 1) := by decide +kernel
theorem dX6_holds_2 : decode cX6_holds 2 = .ok (.iload_n 3, 1) := by decide +kernel
theorem dX6_holds_3 : decode cX6_holds 3 = .ok (.aload_n 0, 1) := by decide +kernel
theorem dX6_holds_4 : decode cX6_holds 4 = .ok (.getfield 7, 3) := by decide +kernel
theorem dX6_holds_7 : decode cX6_holds 7 = .ok (.aload_n 0, 1) := by decide +kernel
theorem dX6_holds_8 : decode cX6_holds 8 = .ok (.getfield 31, 3) := by decide +kernel
theorem dX6_holds_11 : decode cX6_holds 11 = .ok (.iload_n 1, 1) := by decide +kernel
theorem dX6_holds_12 : decode cX6_holds 12 = .ok (.iaload, 1) := by decide +kernel
theorem dX6_holds_13 : decode cX6_holds 13 = .ok (.iaload, 1) := by decide +kernel
theorem dX6_holds_14 : decode cX6_holds 14 = .ok (.if_icmp .ge 37, 3) := by decide +kernel
theorem dX6_holds_17 : decode cX6_holds 17 = .ok (.aload_n 0, 1) := by decide +kernel
theorem dX6_holds_18 : decode cX6_holds 18 = .ok (.getfield 62, 3) := by decide +kernel
theorem dX6_holds_21 : decode cX6_holds 21 = .ok (.aload_n 0, 1) := by decide +kernel
theorem dX6_holds_22 : decode cX6_holds 22 = .ok (.iload_n 1, 1) := by decide +kernel
theorem dX6_holds_23 : decode cX6_holds 23 = .ok (.iload_n 3, 1) := by decide +kernel
theorem dX6_holds_24 : decode cX6_holds 24 = .ok (.invokevirtual 127, 3) := by decide +kernel
theorem dX6_holds_27 : decode cX6_holds 27 = .ok (.iload_n 2, 1) := by decide +kernel
theorem dX6_holds_28 : decode cX6_holds 28 = .ok (.iadd, 1) := by decide +kernel
theorem dX6_holds_29 : decode cX6_holds 29 = .ok (.aload_n 0, 1) := by decide +kernel
theorem dX6_holds_30 : decode cX6_holds 30 = .ok (.getfield 62, 3) := by decide +kernel
theorem dX6_holds_33 : decode cX6_holds 33 = .ok (.aload_n 0, 1) := by decide +kernel
theorem dX6_holds_34 : decode cX6_holds 34 = .ok (.iload_n 1, 1) := by decide +kernel
theorem dX6_holds_35 : decode cX6_holds 35 = .ok (.iload_n 3, 1) := by decide +kernel
theorem dX6_holds_36 : decode cX6_holds 36 = .ok (.invokevirtual 127, 3) := by decide +kernel
theorem dX6_holds_39 : decode cX6_holds 39 = .ok (.iload_n 2, 1) := by decide +kernel
theorem dX6_holds_40 : decode cX6_holds 40 = .ok (.iadd, 1) := by decide +kernel
theorem dX6_holds_41 : decode cX6_holds 41 = .ok (.iconst 1, 1) := by decide +kernel
theorem dX6_holds_42 : decode cX6_holds 42 = .ok (.isub, 1) := by decide +kernel
theorem dX6_holds_43 : decode cX6_holds 43 = .ok (.iaload, 1) := by decide +kernel
theorem dX6_holds_44 : decode cX6_holds 44 = .ok (.iastore, 1) := by decide +kernel
theorem dX6_holds_45 : decode cX6_holds 45 = .ok (.iinc 3 1, 3) := by decide +kernel
theorem dX6_holds_48 : decode cX6_holds 48 = .ok (.goto (-46), 3) := by decide +kernel
theorem dX6_holds_51 : decode cX6_holds 51 = .ok (.aload_n 0, 1) := by decide +kernel
theorem dX6_holds_52 : decode cX6_holds 52 = .ok (.getfield 65, 3) := by decide +kernel
theorem dX6_holds_55 : decode cX6_holds 55 = .ok (.bipush 48, 2) := by decide +kernel
theorem dX6_holds_57 : decode cX6_holds 57 = .ok (.iload_n 1, 1) := by decide +kernel
theorem dX6_holds_58 : decode cX6_holds 58 = .ok (.imul, 1) := by decide +kernel
theorem dX6_holds_59 : decode cX6_holds 59 = .ok (.iload_n 2, 1) := by decide +kernel
theorem dX6_holds_60 : decode cX6_holds 60 = .ok (.iadd, 1) := by decide +kernel
theorem dX6_holds_61 : decode cX6_holds 61 = .ok (.aload_n 0, 1) := by decide +kernel
theorem dX6_holds_62 : decode cX6_holds 62 = .ok (.getfield 65, 3) := by decide +kernel
theorem dX6_holds_65 : decode cX6_holds 65 = .ok (.bipush 48, 2) := by decide +kernel
theorem dX6_holds_67 : decode cX6_holds 67 = .ok (.iload_n 1, 1) := by decide +kernel
theorem dX6_holds_68 : decode cX6_holds 68 = .ok (.imul, 1) := by decide +kernel
theorem dX6_holds_69 : decode cX6_holds 69 = .ok (.iload_n 2, 1) := by decide +kernel
theorem dX6_holds_70 : decode cX6_holds 70 = .ok (.iadd, 1) := by decide +kernel
theorem dX6_holds_71 : decode cX6_holds 71 = .ok (.iconst 1, 1) := by decide +kernel
theorem dX6_holds_72 : decode cX6_holds 72 = .ok (.isub, 1) := by decide +kernel
theorem dX6_holds_73 : decode cX6_holds 73 = .ok (.iaload, 1) := by decide +kernel
theorem dX6_holds_74 : decode cX6_holds 74 = .ok (.iastore, 1) := by decide +kernel
theorem dX6_holds_75 : decode cX6_holds 75 = .ok (.return_, 1) := by decide +kernel
theorem dX6_stays_0 : decode cX6_stays 0 = .ok (.iconst 0, 1) := by decide +kernel
theorem dX6_stays_1 : decode cX6_stays 1 = .ok (.istore_n 3, 1) := by decide +kernel
theorem dX6_stays_2 : decode cX6_stays 2 = .ok (.iconst 0, 1) := by decide +kernel
theorem dX6_stays_3 : decode cX6_stays 3 = .ok (.istore 4, 2) := by decide +kernel
theorem dX6_stays_5 : decode cX6_stays 5 = .ok (.iconst 1, 1) := by decide +kernel
theorem dX6_stays_6 : decode cX6_stays 6 = .ok (.istore 5, 2) := by decide +kernel
theorem dX6_stays_8 : decode cX6_stays 8 = .ok (.iload 5, 2) := by decide +kernel
theorem dX6_stays_10 : decode cX6_stays 10 = .ok (.iload_n 2, 1) := by decide +kernel
theorem dX6_stays_11 : decode cX6_stays 11 = .ok (.if_icmp .gt 81, 3) := by decide +kernel
theorem dX6_stays_14 : decode cX6_stays 14 = .ok (.aload_n 0, 1) := by decide +kernel
theorem dX6_stays_15 : decode cX6_stays 15 = .ok (.getfield 68, 3) := by decide +kernel
theorem dX6_stays_18 : decode cX6_stays 18 = .ok (.bipush 48, 2) := by decide +kernel
theorem dX6_stays_20 : decode cX6_stays 20 = .ok (.iload_n 1, 1) := by decide +kernel
theorem dX6_stays_21 : decode cX6_stays 21 = .ok (.imul, 1) := by decide +kernel
theorem dX6_stays_22 : decode cX6_stays 22 = .ok (.iload 5, 2) := by decide +kernel
theorem dX6_stays_24 : decode cX6_stays 24 = .ok (.iadd, 1) := by decide +kernel
theorem dX6_stays_25 : decode cX6_stays 25 = .ok (.iaload, 1) := by decide +kernel
theorem dX6_stays_26 : decode cX6_stays 26 = .ok (.aload_n 0, 1) := by decide +kernel
theorem dX6_stays_27 : decode cX6_stays 27 = .ok (.getfield 68, 3) := by decide +kernel
theorem dX6_stays_30 : decode cX6_stays 30 = .ok (.bipush 48, 2) := by decide +kernel
theorem dX6_stays_32 : decode cX6_stays 32 = .ok (.iload_n 1, 1) := by decide +kernel
theorem dX6_stays_33 : decode cX6_stays 33 = .ok (.imul, 1) := by decide +kernel
theorem dX6_stays_34 : decode cX6_stays 34 = .ok (.iload 5, 2) := by decide +kernel
theorem dX6_stays_36 : decode cX6_stays 36 = .ok (.iadd, 1) := by decide +kernel
theorem dX6_stays_37 : decode cX6_stays 37 = .ok (.iconst 1, 1) := by decide +kernel
theorem dX6_stays_38 : decode cX6_stays 38 = .ok (.isub, 1) := by decide +kernel
theorem dX6_stays_39 : decode cX6_stays 39 = .ok (.iaload, 1) := by decide +kernel
theorem dX6_stays_40 : decode cX6_stays 40 = .ok (.isub, 1) := by decide +kernel
theorem dX6_stays_41 : decode cX6_stays 41 = .ok (.istore 6, 2) := by decide +kernel
theorem dX6_stays_43 : decode cX6_stays 43 = .ok (.iload 6, 2) := by decide +kernel
theorem dX6_stays_45 : decode cX6_stays 45 = .ok (.ifCond .le 7, 3) := by decide +kernel
theorem dX6_stays_48 : decode cX6_stays 48 = .ok (.iconst 1, 1) := by decide +kernel
theorem dX6_stays_49 : decode cX6_stays 49 = .ok (.goto 13, 3) := by decide +kernel
theorem dX6_stays_52 : decode cX6_stays 52 = .ok (.iload 6, 2) := by decide +kernel
theorem dX6_stays_54 : decode cX6_stays 54 = .ok (.ifCond .ge 7, 3) := by decide +kernel
theorem dX6_stays_57 : decode cX6_stays 57 = .ok (.iconst (-1), 1) := by decide +kernel
theorem dX6_stays_58 : decode cX6_stays 58 = .ok (.goto 4, 3) := by decide +kernel
theorem dX6_stays_61 : decode cX6_stays 61 = .ok (.iload_n 3, 1) := by decide +kernel
theorem dX6_stays_62 : decode cX6_stays 62 = .ok (.istore 7, 2) := by decide +kernel
theorem dX6_stays_64 : decode cX6_stays 64 = .ok (.iload 4, 2) := by decide +kernel
theorem dX6_stays_66 : decode cX6_stays 66 = .ok (.ifCond .ne 10, 3) := by decide +kernel
theorem dX6_stays_69 : decode cX6_stays 69 = .ok (.iload 7, 2) := by decide +kernel
theorem dX6_stays_71 : decode cX6_stays 71 = .ok (.iload_n 3, 1) := by decide +kernel
theorem dX6_stays_72 : decode cX6_stays 72 = .ok (.imul, 1) := by decide +kernel
theorem dX6_stays_73 : decode cX6_stays 73 = .ok (.ifCond .ge 7, 3) := by decide +kernel
theorem dX6_stays_76 : decode cX6_stays 76 = .ok (.iconst 1, 1) := by decide +kernel
theorem dX6_stays_77 : decode cX6_stays 77 = .ok (.goto 4, 3) := by decide +kernel
theorem dX6_stays_80 : decode cX6_stays 80 = .ok (.iconst 0, 1) := by decide +kernel
theorem dX6_stays_81 : decode cX6_stays 81 = .ok (.istore 4, 2) := by decide +kernel
theorem dX6_stays_83 : decode cX6_stays 83 = .ok (.iload 7, 2) := by decide +kernel
theorem dX6_stays_85 : decode cX6_stays 85 = .ok (.istore_n 3, 1) := by decide +kernel
theorem dX6_stays_86 : decode cX6_stays 86 = .ok (.iinc 5 1, 3) := by decide +kernel
theorem dX6_stays_89 : decode cX6_stays 89 = .ok (.goto (-81), 3) := by decide +kernel
theorem dX6_stays_92 : decode cX6_stays 92 = .ok (.aload_n 0, 1) := by decide +kernel
theorem dX6_stays_93 : decode cX6_stays 93 = .ok (.getfield 68, 3) := by decide +kernel
theorem dX6_stays_96 : decode cX6_stays 96 = .ok (.bipush 48, 2) := by decide +kernel
theorem dX6_stays_98 : decode cX6_stays 98 = .ok (.iload_n 1, 1) := by decide +kernel
theorem dX6_stays_99 : decode cX6_stays 99 = .ok (.imul, 1) := by decide +kernel
theorem dX6_stays_100 : decode cX6_stays 100 = .ok (.iload_n 2, 1) := by decide +kernel
theorem dX6_stays_101 : decode cX6_stays 101 = .ok (.iadd, 1) := by decide +kernel
theorem dX6_stays_102 : decode cX6_stays 102 = .ok (.iaload, 1) := by decide +kernel
theorem dX6_stays_103 : decode cX6_stays 103 = .ok (.iload 4, 2) := by decide +kernel
theorem dX6_stays_105 : decode cX6_stays 105 = .ok (.ifCond .eq 12, 3) := by decide +kernel
theorem dX6_stays_108 : decode cX6_stays 108 = .ok (.iload_n 3, 1) := by decide +kernel
theorem dX6_stays_109 : decode cX6_stays 109 = .ok (.aload_n 0, 1) := by decide +kernel
theorem dX6_stays_110 : decode cX6_stays 110 = .ok (.getfield 151, 3) := by decide +kernel
theorem dX6_stays_113 : decode cX6_stays 113 = .ok (.imul, 1) := by decide +kernel
theorem dX6_stays_114 : decode cX6_stays 114 = .ok (.goto 4, 3) := by decide +kernel
theorem dX6_stays_117 : decode cX6_stays 117 = .ok (.iconst 0, 1) := by decide +kernel
theorem dX6_stays_118 : decode cX6_stays 118 = .ok (.isub, 1) := by decide +kernel
theorem dX6_stays_119 : decode cX6_stays 119 = .ok (.ireturn, 1) := by decide +kernel
theorem dX6_strike_0 : decode cX6_strike 0 = .ok (.aload_n 0, 1) := by decide +kernel
theorem dX6_strike_1 : decode cX6_strike 1 = .ok (.aload_n 0, 1) := by decide +kernel
theorem dX6_strike_2 : decode cX6_strike 2 = .ok (.iload_n 1, 1) := by decide +kernel
theorem dX6_strike_3 : decode cX6_strike 3 = .ok (.invokevirtual 105, 3) := by decide +kernel
theorem dX6_strike_6 : decode cX6_strike 6 = .ok (.ifCond .ne 7, 3) := by decide +kernel
theorem dX6_strike_9 : decode cX6_strike 9 = .ok (.iconst 1, 1) := by decide +kernel
theorem dX6_strike_10 : decode cX6_strike 10 = .ok (.goto 16, 3) := by decide +kernel
theorem dX6_strike_13 : decode cX6_strike 13 = .ok (.aload_n 0, 1) := by decide +kernel
theorem dX6_strike_14 : decode cX6_strike 14 = .ok (.iload_n 1, 1) := by decide +kernel
theorem dX6_strike_15 : decode cX6_strike 15 = .ok (.invokevirtual 173, 3) := by decide +kernel
theorem dX6_strike_18 : decode cX6_strike 18 = .ok (.ifCond .le 7, 3) := by decide +kernel
theorem dX6_strike_21 : decode cX6_strike 21 = .ok (.iconst 2, 1) := by decide +kernel
theorem dX6_strike_22 : decode cX6_strike 22 = .ok (.goto 4, 3) := by decide +kernel
theorem dX6_strike_25 : decode cX6_strike 25 = .ok (.iconst 0, 1) := by decide +kernel
theorem dX6_strike_26 : decode cX6_strike 26 = .ok (.invokevirtual 108, 3) := by decide +kernel
theorem dX6_strike_29 : decode cX6_strike 29 = .ok (.ifCond .eq 5, 3) := by decide +kernel
theorem dX6_strike_32 : decode cX6_strike 32 = .ok (.iconst 0, 1) := by decide +kernel
theorem dX6_strike_33 : decode cX6_strike 33 = .ok (.ireturn, 1) := by decide +kernel
theorem dX6_strike_34 : decode cX6_strike 34 = .ok (.aload_n 0, 1) := by decide +kernel
theorem dX6_strike_35 : decode cX6_strike 35 = .ok (.getfield 46, 3) := by decide +kernel
theorem dX6_strike_38 : decode cX6_strike 38 = .ok (.iload_n 1, 1) := by decide +kernel
theorem dX6_strike_39 : decode cX6_strike 39 = .ok (.iaload, 1) := by decide +kernel
theorem dX6_strike_40 : decode cX6_strike 40 = .ok (.istore_n 2, 1) := by decide +kernel
theorem dX6_strike_41 : decode cX6_strike 41 = .ok (.bipush 48, 2) := by decide +kernel
theorem dX6_strike_43 : decode cX6_strike 43 = .ok (.iload_n 1, 1) := by decide +kernel
theorem dX6_strike_44 : decode cX6_strike 44 = .ok (.imul, 1) := by decide +kernel
theorem dX6_strike_45 : decode cX6_strike 45 = .ok (.iload_n 2, 1) := by decide +kernel
theorem dX6_strike_46 : decode cX6_strike 46 = .ok (.iadd, 1) := by decide +kernel
theorem dX6_strike_47 : decode cX6_strike 47 = .ok (.istore_n 3, 1) := by decide +kernel
theorem dX6_strike_48 : decode cX6_strike 48 = .ok (.aload_n 0, 1) := by decide +kernel
theorem dX6_strike_49 : decode cX6_strike 49 = .ok (.iload_n 1, 1) := by decide +kernel
theorem dX6_strike_50 : decode cX6_strike 50 = .ok (.iload_n 2, 1) := by decide +kernel
theorem dX6_strike_51 : decode cX6_strike 51 = .ok (.invokevirtual 123, 3) := by decide +kernel
theorem dX6_strike_54 : decode cX6_strike 54 = .ok (.ifCond .eq 12, 3) := by decide +kernel
theorem dX6_strike_57 : decode cX6_strike 57 = .ok (.aload_n 0, 1) := by decide +kernel
theorem dX6_strike_58 : decode cX6_strike 58 = .ok (.iload_n 1, 1) := by decide +kernel
theorem dX6_strike_59 : decode cX6_strike 59 = .ok (.iload_n 2, 1) := by decide +kernel
theorem dX6_strike_60 : decode cX6_strike 60 = .ok (.invokevirtual 176, 3) := by decide +kernel
theorem dX6_strike_63 : decode cX6_strike 63 = .ok (.goto 9, 3) := by decide +kernel
theorem dX6_strike_66 : decode cX6_strike 66 = .ok (.aload_n 0, 1) := by decide +kernel
theorem dX6_strike_67 : decode cX6_strike 67 = .ok (.iload_n 1, 1) := by decide +kernel
theorem dX6_strike_68 : decode cX6_strike 68 = .ok (.iload_n 2, 1) := by decide +kernel
theorem dX6_strike_69 : decode cX6_strike 69 = .ok (.invokevirtual 180, 3) := by decide +kernel
theorem dX6_strike_72 : decode cX6_strike 72 = .ok (.aload_n 0, 1) := by decide +kernel
theorem dX6_strike_73 : decode cX6_strike 73 = .ok (.getfield 68, 3) := by decide +kernel
theorem dX6_strike_76 : decode cX6_strike 76 = .ok (.iload_n 3, 1) := by decide +kernel
theorem dX6_strike_77 : decode cX6_strike 77 = .ok (.aload_n 0, 1) := by decide +kernel
theorem dX6_strike_78 : decode cX6_strike 78 = .ok (.iload_n 1, 1) := by decide +kernel
theorem dX6_strike_79 : decode cX6_strike 79 = .ok (.iload_n 2, 1) := by decide +kernel
theorem dX6_strike_80 : decode cX6_strike 80 = .ok (.invokevirtual 148, 3) := by decide +kernel
end
section
theorem dX6_strike_83 : decode cX6_strike 83 = .ok (.iastore, 1) := by decide +kernel
theorem dX6_strike_84 : decode cX6_strike 84 = .ok (.aload_n 0, 1) := by decide +kernel
theorem dX6_strike_85 : decode cX6_strike 85 = .ok (.getfield 71, 3) := by decide +kernel
theorem dX6_strike_88 : decode cX6_strike 88 = .ok (.iload_n 3, 1) := by decide +kernel
theorem dX6_strike_89 : decode cX6_strike 89 = .ok (.aload_n 0, 1) := by decide +kernel
theorem dX6_strike_90 : decode cX6_strike 90 = .ok (.iload_n 1, 1) := by decide +kernel
theorem dX6_strike_91 : decode cX6_strike 91 = .ok (.iload_n 2, 1) := by decide +kernel
theorem dX6_strike_92 : decode cX6_strike 92 = .ok (.invokevirtual 183, 3) := by decide +kernel
theorem dX6_strike_95 : decode cX6_strike 95 = .ok (.iastore, 1) := by decide +kernel
theorem dX6_strike_96 : decode cX6_strike 96 = .ok (.aload_n 0, 1) := by decide +kernel
theorem dX6_strike_97 : decode cX6_strike 97 = .ok (.getfield 74, 3) := by decide +kernel
theorem dX6_strike_100 : decode cX6_strike 100 = .ok (.iload_n 3, 1) := by decide +kernel
theorem dX6_strike_101 : decode cX6_strike 101 = .ok (.aload_n 0, 1) := by decide +kernel
theorem dX6_strike_102 : decode cX6_strike 102 = .ok (.invokevirtual 186, 3) := by decide +kernel
theorem dX6_strike_105 : decode cX6_strike 105 = .ok (.iastore, 1) := by decide +kernel
theorem dX6_strike_106 : decode cX6_strike 106 = .ok (.aload_n 0, 1) := by decide +kernel
theorem dX6_strike_107 : decode cX6_strike 107 = .ok (.getfield 77, 3) := by decide +kernel
theorem dX6_strike_110 : decode cX6_strike 110 = .ok (.iload_n 3, 1) := by decide +kernel
theorem dX6_strike_111 : decode cX6_strike 111 = .ok (.aload_n 0, 1) := by decide +kernel
theorem dX6_strike_112 : decode cX6_strike 112 = .ok (.getfield 49, 3) := by decide +kernel
theorem dX6_strike_115 : decode cX6_strike 115 = .ok (.iload_n 1, 1) := by decide +kernel
theorem dX6_strike_116 : decode cX6_strike 116 = .ok (.iaload, 1) := by decide +kernel
theorem dX6_strike_117 : decode cX6_strike 117 = .ok (.iastore, 1) := by decide +kernel
theorem dX6_strike_118 : decode cX6_strike 118 = .ok (.aload_n 0, 1) := by decide +kernel
theorem dX6_strike_119 : decode cX6_strike 119 = .ok (.dup, 1) := by decide +kernel
theorem dX6_strike_120 : decode cX6_strike 120 = .ok (.getfield 154, 3) := by decide +kernel
theorem dX6_strike_123 : decode cX6_strike 123 = .ok (.iconst 1, 1) := by decide +kernel
theorem dX6_strike_124 : decode cX6_strike 124 = .ok (.iadd, 1) := by decide +kernel
theorem dX6_strike_125 : decode cX6_strike 125 = .ok (.putfield 154, 3) := by decide +kernel
theorem dX6_strike_128 : decode cX6_strike 128 = .ok (.aload_n 0, 1) := by decide +kernel
theorem dX6_strike_129 : decode cX6_strike 129 = .ok (.getfield 46, 3) := by decide +kernel
theorem dX6_strike_132 : decode cX6_strike 132 = .ok (.iload_n 1, 1) := by decide +kernel
theorem dX6_strike_133 : decode cX6_strike 133 = .ok (.dup2, 1) := by decide +kernel
theorem dX6_strike_134 : decode cX6_strike 134 = .ok (.iaload, 1) := by decide +kernel
theorem dX6_strike_135 : decode cX6_strike 135 = .ok (.iconst 1, 1) := by decide +kernel
theorem dX6_strike_136 : decode cX6_strike 136 = .ok (.iadd, 1) := by decide +kernel
theorem dX6_strike_137 : decode cX6_strike 137 = .ok (.iastore, 1) := by decide +kernel
theorem dX6_strike_138 : decode cX6_strike 138 = .ok (.iload_n 2, 1) := by decide +kernel
theorem dX6_strike_139 : decode cX6_strike 139 = .ok (.ireturn, 1) := by decide +kernel
theorem dX6_bump_0 : decode cX6_bump 0 = .ok (.aload_n 0, 1) := by decide +kernel
theorem dX6_bump_1 : decode cX6_bump 1 = .ok (.aload_n 0, 1) := by decide +kernel
theorem dX6_bump_2 : decode cX6_bump 2 = .ok (.iload_n 1, 1) := by decide +kernel
theorem dX6_bump_3 : decode cX6_bump 3 = .ok (.invokevirtual 105, 3) := by decide +kernel
theorem dX6_bump_6 : decode cX6_bump 6 = .ok (.ifCond .ne 7, 3) := by decide +kernel
theorem dX6_bump_9 : decode cX6_bump 9 = .ok (.iconst 1, 1) := by decide +kernel
theorem dX6_bump_10 : decode cX6_bump 10 = .ok (.goto 32, 3) := by decide +kernel
theorem dX6_bump_13 : decode cX6_bump 13 = .ok (.iload_n 2, 1) := by decide +kernel
theorem dX6_bump_14 : decode cX6_bump 14 = .ok (.bipush (-99), 2) := by decide +kernel
theorem dX6_bump_16 : decode cX6_bump 16 = .ok (.bipush 99, 2) := by decide +kernel
theorem dX6_bump_18 : decode cX6_bump 18 = .ok (.invokestatic 91, 3) := by decide +kernel
theorem dX6_bump_21 : decode cX6_bump 21 = .ok (.ifCond .ne 7, 3) := by decide +kernel
theorem dX6_bump_24 : decode cX6_bump 24 = .ok (.iconst 2, 1) := by decide +kernel
theorem dX6_bump_25 : decode cX6_bump 25 = .ok (.goto 17, 3) := by decide +kernel
theorem dX6_bump_28 : decode cX6_bump 28 = .ok (.aload_n 0, 1) := by decide +kernel
theorem dX6_bump_29 : decode cX6_bump 29 = .ok (.getfield 46, 3) := by decide +kernel
theorem dX6_bump_32 : decode cX6_bump 32 = .ok (.iload_n 1, 1) := by decide +kernel
theorem dX6_bump_33 : decode cX6_bump 33 = .ok (.iaload, 1) := by decide +kernel
theorem dX6_bump_34 : decode cX6_bump 34 = .ok (.ifCond .ne 7, 3) := by decide +kernel
theorem dX6_bump_37 : decode cX6_bump 37 = .ok (.iconst 3, 1) := by decide +kernel
theorem dX6_bump_38 : decode cX6_bump 38 = .ok (.goto 4, 3) := by decide +kernel
theorem dX6_bump_41 : decode cX6_bump 41 = .ok (.iconst 0, 1) := by decide +kernel
theorem dX6_bump_42 : decode cX6_bump 42 = .ok (.invokevirtual 108, 3) := by decide +kernel
theorem dX6_bump_45 : decode cX6_bump 45 = .ok (.ifCond .eq 5, 3) := by decide +kernel
theorem dX6_bump_48 : decode cX6_bump 48 = .ok (.iconst 0, 1) := by decide +kernel
theorem dX6_bump_49 : decode cX6_bump 49 = .ok (.ireturn, 1) := by decide +kernel
theorem dX6_bump_50 : decode cX6_bump 50 = .ok (.aload_n 0, 1) := by decide +kernel
theorem dX6_bump_51 : decode cX6_bump 51 = .ok (.getfield 49, 3) := by decide +kernel
theorem dX6_bump_54 : decode cX6_bump 54 = .ok (.iload_n 1, 1) := by decide +kernel
theorem dX6_bump_55 : decode cX6_bump 55 = .ok (.dup2, 1) := by decide +kernel
theorem dX6_bump_56 : decode cX6_bump 56 = .ok (.iaload, 1) := by decide +kernel
theorem dX6_bump_57 : decode cX6_bump 57 = .ok (.iload_n 2, 1) := by decide +kernel
theorem dX6_bump_58 : decode cX6_bump 58 = .ok (.iadd, 1) := by decide +kernel
theorem dX6_bump_59 : decode cX6_bump 59 = .ok (.iastore, 1) := by decide +kernel
theorem dX6_bump_60 : decode cX6_bump 60 = .ok (.aload_n 0, 1) := by decide +kernel
theorem dX6_bump_61 : decode cX6_bump 61 = .ok (.getfield 49, 3) := by decide +kernel
theorem dX6_bump_64 : decode cX6_bump 64 = .ok (.iload_n 1, 1) := by decide +kernel
theorem dX6_bump_65 : decode cX6_bump 65 = .ok (.iaload, 1) := by decide +kernel
theorem dX6_bump_66 : decode cX6_bump 66 = .ok (.ireturn, 1) := by decide +kernel
theorem dX6_level_0 : decode cX6_level 0 = .ok (.aload_n 0, 1) := by decide +kernel
theorem dX6_level_1 : decode cX6_level 1 = .ok (.aload_n 0, 1) := by decide +kernel
theorem dX6_level_2 : decode cX6_level 2 = .ok (.iload_n 1, 1) := by decide +kernel
theorem dX6_level_3 : decode cX6_level 3 = .ok (.invokevirtual 105, 3) := by decide +kernel
theorem dX6_level_6 : decode cX6_level 6 = .ok (.ifCond .eq 7, 3) := by decide +kernel
theorem dX6_level_9 : decode cX6_level 9 = .ok (.iconst 0, 1) := by decide +kernel
theorem dX6_level_10 : decode cX6_level 10 = .ok (.goto 4, 3) := by decide +kernel
theorem dX6_level_13 : decode cX6_level 13 = .ok (.iconst 1, 1) := by decide +kernel
theorem dX6_level_14 : decode cX6_level 14 = .ok (.invokevirtual 108, 3) := by decide +kernel
theorem dX6_level_17 : decode cX6_level 17 = .ok (.ifCond .eq 5, 3) := by decide +kernel
theorem dX6_level_20 : decode cX6_level 20 = .ok (.iconst 0, 1) := by decide +kernel
theorem dX6_level_21 : decode cX6_level 21 = .ok (.ireturn, 1) := by decide +kernel
theorem dX6_level_22 : decode cX6_level 22 = .ok (.aload_n 0, 1) := by decide +kernel
theorem dX6_level_23 : decode cX6_level 23 = .ok (.getfield 49, 3) := by decide +kernel
theorem dX6_level_26 : decode cX6_level 26 = .ok (.iload_n 1, 1) := by decide +kernel
theorem dX6_level_27 : decode cX6_level 27 = .ok (.iaload, 1) := by decide +kernel
theorem dX6_level_28 : decode cX6_level 28 = .ok (.istore_n 2, 1) := by decide +kernel
theorem dX6_level_29 : decode cX6_level 29 = .ok (.aload_n 0, 1) := by decide +kernel
theorem dX6_level_30 : decode cX6_level 30 = .ok (.getfield 49, 3) := by decide +kernel
theorem dX6_level_33 : decode cX6_level 33 = .ok (.iload_n 1, 1) := by decide +kernel
theorem dX6_level_34 : decode cX6_level 34 = .ok (.iconst 0, 1) := by decide +kernel
theorem dX6_level_35 : decode cX6_level 35 = .ok (.iastore, 1) := by decide +kernel
theorem dX6_level_36 : decode cX6_level 36 = .ok (.iload_n 2, 1) := by decide +kernel
theorem dX6_level_37 : decode cX6_level 37 = .ok (.ireturn, 1) := by decide +kernel
theorem dX6_inFilm_0 : decode cX6_inFilm 0 = .ok (.iconst (-1), 1) := by decide +kernel
theorem dX6_inFilm_1 : decode cX6_inFilm 1 = .ok (.istore_n 2, 1) := by decide +kernel
theorem dX6_inFilm_2 : decode cX6_inFilm 2 = .ok (.iconst 0, 1) := by decide +kernel
theorem dX6_inFilm_3 : decode cX6_inFilm 3 = .ok (.istore_n 3, 1) := by decide +kernel
theorem dX6_inFilm_4 : decode cX6_inFilm 4 = .ok (.iload_n 3, 1) := by decide +kernel
theorem dX6_inFilm_5 : decode cX6_inFilm 5 = .ok (.aload_n 0, 1) := by decide +kernel
theorem dX6_inFilm_6 : decode cX6_inFilm 6 = .ok (.getfield 190, 3) := by decide +kernel
theorem dX6_inFilm_9 : decode cX6_inFilm 9 = .ok (.if_icmp .ge 25, 3) := by decide +kernel
theorem dX6_inFilm_12 : decode cX6_inFilm 12 = .ok (.aload_n 0, 1) := by decide +kernel
theorem dX6_inFilm_13 : decode cX6_inFilm 13 = .ok (.getfield 80, 3) := by decide +kernel
theorem dX6_inFilm_16 : decode cX6_inFilm 16 = .ok (.iload_n 3, 1) := by decide +kernel
theorem dX6_inFilm_17 : decode cX6_inFilm 17 = .ok (.iaload, 1) := by decide +kernel
theorem dX6_inFilm_18 : decode cX6_inFilm 18 = .ok (.iload_n 1, 1) := by decide +kernel
theorem dX6_inFilm_19 : decode cX6_inFilm 19 = .ok (.if_icmp .ne 7, 3) := by decide +kernel
theorem dX6_inFilm_22 : decode cX6_inFilm 22 = .ok (.iload_n 3, 1) := by decide +kernel
theorem dX6_inFilm_23 : decode cX6_inFilm 23 = .ok (.goto 4, 3) := by decide +kernel
theorem dX6_inFilm_26 : decode cX6_inFilm 26 = .ok (.iload_n 2, 1) := by decide +kernel
theorem dX6_inFilm_27 : decode cX6_inFilm 27 = .ok (.istore_n 2, 1) := by decide +kernel
theorem dX6_inFilm_28 : decode cX6_inFilm 28 = .ok (.iinc 3 1, 3) := by decide +kernel
theorem dX6_inFilm_31 : decode cX6_inFilm 31 = .ok (.goto (-27), 3) := by decide +kernel
theorem dX6_inFilm_34 : decode cX6_inFilm 34 = .ok (.iload_n 2, 1) := by decide +kernel
theorem dX6_inFilm_35 : decode cX6_inFilm 35 = .ok (.ireturn, 1) := by decide +kernel
theorem dX6_anew_0 : decode cX6_anew 0 = .ok (.aload_n 0, 1) := by decide +kernel
theorem dX6_anew_1 : decode cX6_anew 1 = .ok (.iload_n 1, 1) := by decide +kernel
theorem dX6_anew_2 : decode cX6_anew 2 = .ok (.iload_n 2, 1) := by decide +kernel
theorem dX6_anew_3 : decode cX6_anew 3 = .ok (.invokevirtual 141, 3) := by decide +kernel
theorem dX6_anew_6 : decode cX6_anew 6 = .ok (.ifCond .eq 25, 3) := by decide +kernel
theorem dX6_anew_9 : decode cX6_anew 9 = .ok (.aload_n 0, 1) := by decide +kernel
theorem dX6_anew_10 : decode cX6_anew 10 = .ok (.iload_n 1, 1) := by decide +kernel
theorem dX6_anew_11 : decode cX6_anew 11 = .ok (.iload_n 2, 1) := by decide +kernel
theorem dX6_anew_12 : decode cX6_anew 12 = .ok (.invokevirtual 193, 3) := by decide +kernel
theorem dX6_anew_15 : decode cX6_anew 15 = .ok (.ifCond .eq 16, 3) := by decide +kernel
theorem dX6_anew_18 : decode cX6_anew 18 = .ok (.aload_n 0, 1) := by decide +kernel
theorem dX6_anew_19 : decode cX6_anew 19 = .ok (.iload_n 1, 1) := by decide +kernel
theorem dX6_anew_20 : decode cX6_anew 20 = .ok (.invokevirtual 196, 3) := by decide +kernel
theorem dX6_anew_23 : decode cX6_anew 23 = .ok (.iconst (-1), 1) := by decide +kernel
theorem dX6_anew_24 : decode cX6_anew 24 = .ok (.if_icmp .ne 7, 3) := by decide +kernel
theorem dX6_anew_27 : decode cX6_anew 27 = .ok (.iconst 1, 1) := by decide +kernel
theorem dX6_anew_28 : decode cX6_anew 28 = .ok (.goto 4, 3) := by decide +kernel
theorem dX6_anew_31 : decode cX6_anew 31 = .ok (.iconst 0, 1) := by decide +kernel
theorem dX6_anew_32 : decode cX6_anew 32 = .ok (.istore_n 3, 1) := by decide +kernel
theorem dX6_anew_33 : decode cX6_anew 33 = .ok (.aload_n 0, 1) := by decide +kernel
theorem dX6_anew_34 : decode cX6_anew 34 = .ok (.aload_n 0, 1) := by decide +kernel
theorem dX6_anew_35 : decode cX6_anew 35 = .ok (.iload_n 1, 1) := by decide +kernel
theorem dX6_anew_36 : decode cX6_anew 36 = .ok (.iload_n 2, 1) := by decide +kernel
theorem dX6_anew_37 : decode cX6_anew 37 = .ok (.invokevirtual 141, 3) := by decide +kernel
theorem dX6_anew_40 : decode cX6_anew 40 = .ok (.ifCond .ne 7, 3) := by decide +kernel
theorem dX6_anew_43 : decode cX6_anew 43 = .ok (.iconst 1, 1) := by decide +kernel
theorem dX6_anew_44 : decode cX6_anew 44 = .ok (.goto 12, 3) := by decide +kernel
theorem dX6_anew_47 : decode cX6_anew 47 = .ok (.iload_n 3, 1) := by decide +kernel
theorem dX6_anew_48 : decode cX6_anew 48 = .ok (.ifCond .eq 7, 3) := by decide +kernel
theorem dX6_anew_51 : decode cX6_anew 51 = .ok (.iconst 0, 1) := by decide +kernel
theorem dX6_anew_52 : decode cX6_anew 52 = .ok (.goto 4, 3) := by decide +kernel
theorem dX6_anew_55 : decode cX6_anew 55 = .ok (.iconst 2, 1) := by decide +kernel
theorem dX6_anew_56 : decode cX6_anew 56 = .ok (.invokevirtual 108, 3) := by decide +kernel
theorem dX6_anew_59 : decode cX6_anew 59 = .ok (.ifCond .eq 5, 3) := by decide +kernel
theorem dX6_anew_62 : decode cX6_anew 62 = .ok (.iconst 0, 1) := by decide +kernel
theorem dX6_anew_63 : decode cX6_anew 63 = .ok (.ireturn, 1) := by decide +kernel
theorem dX6_anew_64 : decode cX6_anew 64 = .ok (.aload_n 0, 1) := by decide +kernel
theorem dX6_anew_65 : decode cX6_anew 65 = .ok (.getfield 46, 3) := by decide +kernel
theorem dX6_anew_68 : decode cX6_anew 68 = .ok (.iload_n 1, 1) := by decide +kernel
theorem dX6_anew_69 : decode cX6_anew 69 = .ok (.iaload, 1) := by decide +kernel
theorem dX6_anew_70 : decode cX6_anew 70 = .ok (.iload_n 2, 1) := by decide +kernel
theorem dX6_anew_71 : decode cX6_anew 71 = .ok (.isub, 1) := by decide +kernel
theorem dX6_anew_72 : decode cX6_anew 72 = .ok (.istore 4, 2) := by decide +kernel
theorem dX6_anew_74 : decode cX6_anew 74 = .ok (.aload_n 0, 1) := by decide +kernel
theorem dX6_anew_75 : decode cX6_anew 75 = .ok (.getfield 46, 3) := by decide +kernel
theorem dX6_anew_78 : decode cX6_anew 78 = .ok (.iload_n 1, 1) := by decide +kernel
theorem dX6_anew_79 : decode cX6_anew 79 = .ok (.iload_n 2, 1) := by decide +kernel
theorem dX6_anew_80 : decode cX6_anew 80 = .ok (.iastore, 1) := by decide +kernel
theorem dX6_anew_81 : decode cX6_anew 81 = .ok (.iload 4, 2) := by decide +kernel
theorem dX6_anew_83 : decode cX6_anew 83 = .ok (.ireturn, 1) := by decide +kernel
theorem dX6_mend_0 : decode cX6_mend 0 = .ok (.aload_n 0, 1) := by decide +kernel
theorem dX6_mend_1 : decode cX6_mend 1 = .ok (.aload_n 0, 1) := by decide +kernel
theorem dX6_mend_2 : decode cX6_mend 2 = .ok (.iload_n 1, 1) := by decide +kernel
theorem dX6_mend_3 : decode cX6_mend 3 = .ok (.iload_n 2, 1) := by decide +kernel
theorem dX6_mend_4 : decode cX6_mend 4 = .ok (.invokevirtual 135, 3) := by decide +kernel
theorem dX6_mend_7 : decode cX6_mend 7 = .ok (.ifCond .eq 7, 3) := by decide +kernel
theorem dX6_mend_10 : decode cX6_mend 10 = .ok (.iconst 0, 1) := by decide +kernel
theorem dX6_mend_11 : decode cX6_mend 11 = .ok (.goto 4, 3) := by decide +kernel
theorem dX6_mend_14 : decode cX6_mend 14 = .ok (.iconst 1, 1) := by decide +kernel
theorem dX6_mend_15 : decode cX6_mend 15 = .ok (.invokevirtual 108, 3) := by decide +kernel
theorem dX6_mend_18 : decode cX6_mend 18 = .ok (.ifCond .eq 5, 3) := by decide +kernel
theorem dX6_mend_21 : decode cX6_mend 21 = .ok (.iconst 0, 1) := by decide +kernel
theorem dX6_mend_22 : decode cX6_mend 22 = .ok (.ireturn, 1) := by decide +kernel
theorem dX6_mend_23 : decode cX6_mend 23 = .ok (.aload_n 0, 1) := by decide +kernel
theorem dX6_mend_24 : decode cX6_mend 24 = .ok (.getfield 16, 3) := by decide +kernel
theorem dX6_mend_27 : decode cX6_mend 27 = .ok (.bipush 6, 2) := by decide +kernel
theorem dX6_mend_29 : decode cX6_mend 29 = .ok (.iload_n 1, 1) := by decide +kernel
theorem dX6_mend_30 : decode cX6_mend 30 = .ok (.imul, 1) := by decide +kernel
theorem dX6_mend_31 : decode cX6_mend 31 = .ok (.iload_n 2, 1) := by decide +kernel
theorem dX6_mend_32 : decode cX6_mend 32 = .ok (.iadd, 1) := by decide +kernel
theorem dX6_mend_33 : decode cX6_mend 33 = .ok (.iaload, 1) := by decide +kernel
theorem dX6_mend_34 : decode cX6_mend 34 = .ok (.istore_n 3, 1) := by decide +kernel
theorem dX6_mend_35 : decode cX6_mend 35 = .ok (.aload_n 0, 1) := by decide +kernel
theorem dX6_mend_36 : decode cX6_mend 36 = .ok (.getfield 16, 3) := by decide +kernel
theorem dX6_mend_39 : decode cX6_mend 39 = .ok (.bipush 6, 2) := by decide +kernel
theorem dX6_mend_41 : decode cX6_mend 41 = .ok (.iload_n 1, 1) := by decide +kernel
theorem dX6_mend_42 : decode cX6_mend 42 = .ok (.imul, 1) := by decide +kernel
theorem dX6_mend_43 : decode cX6_mend 43 = .ok (.iload_n 2, 1) := by decide +kernel
theorem dX6_mend_44 : decode cX6_mend 44 = .ok (.iadd, 1) := by decide +kernel
theorem dX6_mend_45 : decode cX6_mend 45 = .ok (.iconst 0, 1) := by decide +kernel
theorem dX6_mend_46 : decode cX6_mend 46 = .ok (.iastore, 1) := by decide +kernel
theorem dX6_mend_47 : decode cX6_mend 47 = .ok (.iload_n 3, 1) := by decide +kernel
theorem dX6_mend_48 : decode cX6_mend 48 = .ok (.ireturn, 1) := by decide +kernel
theorem dX6_lamp_0 : decode cX6_lamp 0 = .ok (.aload_n 0, 1) := by decide +kernel
theorem dX6_lamp_1 : decode cX6_lamp 1 = .ok (.iconst 0, 1) := by decide +kernel
theorem dX6_lamp_2 : decode cX6_lamp 2 = .ok (.putfield 84, 3) := by decide +kernel
theorem dX6_lamp_5 : decode cX6_lamp 5 = .ok (.aload_n 0, 1) := by decide +kernel
theorem dX6_lamp_6 : decode cX6_lamp 6 = .ok (.invokevirtual 186, 3) := by decide +kernel
theorem dX6_lamp_9 : decode cX6_lamp 9 = .ok (.istore_n 1, 1) := by decide +kernel
theorem dX6_lamp_10 : decode cX6_lamp 10 = .ok (.aload_n 0, 1) := by decide +kernel
theorem dX6_lamp_11 : decode cX6_lamp 11 = .ok (.iconst 0, 1) := by decide +kernel
theorem dX6_lamp_12 : decode cX6_lamp 12 = .ok (.putfield 154, 3) := by decide +kernel
theorem dX6_lamp_15 : decode cX6_lamp 15 = .ok (.iload_n 1, 1) := by decide +kernel
theorem dX6_lamp_16 : decode cX6_lamp 16 = .ok (.ireturn, 1) := by decide +kernel
theorem dX6_framesInFilm_0 : decode cX6_framesInFilm 0 = .ok (.iconst 0, 1) := by decide +kernel
theorem dX6_framesInFilm_1 : decode cX6_framesInFilm 1 = .ok (.istore_n 1, 1) := by decide +kernel
theorem dX6_framesInFilm_2 : decode cX6_framesInFilm 2 = .ok (.iconst 0, 1) := by decide +kernel
theorem dX6_framesInFilm_3 : decode cX6_framesInFilm 3 = .ok (.istore_n 2, 1) := by decide +kernel
theorem dX6_framesInFilm_4 : decode cX6_framesInFilm 4 = .ok (.iload_n 2, 1) := by decide +kernel
theorem dX6_framesInFilm_5 : decode cX6_framesInFilm 5 = .ok (.aload_n 0, 1) := by decide +kernel
theorem dX6_framesInFilm_6 : decode cX6_framesInFilm 6 = .ok (.getfield 190, 3) := by decide +kernel
theorem dX6_framesInFilm_9 : decode cX6_framesInFilm 9 = .ok (.if_icmp .ge 23, 3) := by decide +kernel
theorem dX6_framesInFilm_12 : decode cX6_framesInFilm 12 = .ok (.iload_n 1, 1) := by decide +kernel
theorem dX6_framesInFilm_13 : decode cX6_framesInFilm 13 = .ok (.aload_n 0, 1) := by decide +kernel
theorem dX6_framesInFilm_14 : decode cX6_framesInFilm 14 = .ok (.getfield 34, 3) := by decide +kernel
theorem dX6_framesInFilm_17 : decode cX6_framesInFilm 17 = .ok (.aload_n 0, 1) := by decide +kernel
theorem dX6_framesInFilm_18 : decode cX6_framesInFilm 18 = .ok (.getfield 80, 3) := by decide +kernel
theorem dX6_framesInFilm_21 : decode cX6_framesInFilm 21 = .ok (.iload_n 2, 1) := by decide +kernel
theorem dX6_framesInFilm_22 : decode cX6_framesInFilm 22 = .ok (.iaload, 1) := by decide +kernel
theorem dX6_framesInFilm_23 : decode cX6_framesInFilm 23 = .ok (.iaload, 1) := by decide +kernel
theorem dX6_framesInFilm_24 : decode cX6_framesInFilm 24 = .ok (.iadd, 1) := by decide +kernel
theorem dX6_framesInFilm_25 : decode cX6_framesInFilm 25 = .ok (.istore_n 1, 1) := by decide +kernel
theorem dX6_framesInFilm_26 : decode cX6_framesInFilm 26 = .ok (.iinc 2 1, 3) := by decide +kernel
theorem dX6_framesInFilm_29 : decode cX6_framesInFilm 29 = .ok (.goto (-25), 3) := by decide +kernel
theorem dX6_framesInFilm_32 : decode cX6_framesInFilm 32 = .ok (.iload_n 1, 1) := by decide +kernel
theorem dX6_framesInFilm_33 : decode cX6_framesInFilm 33 = .ok (.ireturn, 1) := by decide +kernel
theorem dX6_cut_0 : decode cX6_cut 0 = .ok (.aload_n 0, 1) := by decide +kernel
theorem dX6_cut_1 : decode cX6_cut 1 = .ok (.aload_n 0, 1) := by decide +kernel
theorem dX6_cut_2 : decode cX6_cut 2 = .ok (.iload_n 1, 1) := by decide +kernel
theorem dX6_cut_3 : decode cX6_cut 3 = .ok (.invokevirtual 105, 3) := by decide +kernel
theorem dX6_cut_6 : decode cX6_cut 6 = .ok (.ifCond .ne 7, 3) := by decide +kernel
theorem dX6_cut_9 : decode cX6_cut 9 = .ok (.iconst 1, 1) := by decide +kernel
theorem dX6_cut_10 : decode cX6_cut 10 = .ok (.goto 25, 3) := by decide +kernel
theorem dX6_cut_13 : decode cX6_cut 13 = .ok (.aload_n 0, 1) := by decide +kernel
theorem dX6_cut_14 : decode cX6_cut 14 = .ok (.iload_n 1, 1) := by decide +kernel
theorem dX6_cut_15 : decode cX6_cut 15 = .ok (.invokevirtual 117, 3) := by decide +kernel
theorem dX6_cut_18 : decode cX6_cut 18 = .ok (.ifCond .eq 12, 3) := by decide +kernel
theorem dX6_cut_21 : decode cX6_cut 21 = .ok (.aload_n 0, 1) := by decide +kernel
theorem dX6_cut_22 : decode cX6_cut 22 = .ok (.iload_n 1, 1) := by decide +kernel
theorem dX6_cut_23 : decode cX6_cut 23 = .ok (.invokevirtual 196, 3) := by decide +kernel
theorem dX6_cut_26 : decode cX6_cut 26 = .ok (.iconst (-1), 1) := by decide +kernel
theorem dX6_cut_27 : decode cX6_cut 27 = .ok (.if_icmp .eq 7, 3) := by decide +kernel
theorem dX6_cut_30 : decode cX6_cut 30 = .ok (.iconst 2, 1) := by decide +kernel
theorem dX6_cut_31 : decode cX6_cut 31 = .ok (.goto 4, 3) := by decide +kernel
theorem dX6_cut_34 : decode cX6_cut 34 = .ok (.iconst 0, 1) := by decide +kernel
theorem dX6_cut_35 : decode cX6_cut 35 = .ok (.invokevirtual 108, 3) := by decide +kernel
theorem dX6_cut_38 : decode cX6_cut 38 = .ok (.ifCond .eq 5, 3) := by decide +kernel
theorem dX6_cut_41 : decode cX6_cut 41 = .ok (.iconst 0, 1) := by decide +kernel
theorem dX6_cut_42 : decode cX6_cut 42 = .ok (.ireturn, 1) := by decide +kernel
theorem dX6_cut_43 : decode cX6_cut 43 = .ok (.aload_n 0, 1) := by decide +kernel
theorem dX6_cut_44 : decode cX6_cut 44 = .ok (.getfield 80, 3) := by decide +kernel
theorem dX6_cut_47 : decode cX6_cut 47 = .ok (.aload_n 0, 1) := by decide +kernel
theorem dX6_cut_48 : decode cX6_cut 48 = .ok (.getfield 190, 3) := by decide +kernel
theorem dX6_cut_51 : decode cX6_cut 51 = .ok (.iload_n 1, 1) := by decide +kernel
theorem dX6_cut_52 : decode cX6_cut 52 = .ok (.iastore, 1) := by decide +kernel
theorem dX6_cut_53 : decode cX6_cut 53 = .ok (.aload_n 0, 1) := by decide +kernel
theorem dX6_cut_54 : decode cX6_cut 54 = .ok (.dup, 1) := by decide +kernel
theorem dX6_cut_55 : decode cX6_cut 55 = .ok (.getfield 190, 3) := by decide +kernel
theorem dX6_cut_58 : decode cX6_cut 58 = .ok (.iconst 1, 1) := by decide +kernel
theorem dX6_cut_59 : decode cX6_cut 59 = .ok (.iadd, 1) := by decide +kernel
theorem dX6_cut_60 : decode cX6_cut 60 = .ok (.putfield 190, 3) := by decide +kernel
theorem dX6_cut_63 : decode cX6_cut 63 = .ok (.aload_n 0, 1) := by decide +kernel
theorem dX6_cut_64 : decode cX6_cut 64 = .ok (.invokevirtual 198, 3) := by decide +kernel
theorem dX6_cut_67 : decode cX6_cut 67 = .ok (.ireturn, 1) := by decide +kernel
theorem dX6_cutOut_0 : decode cX6_cutOut 0 = .ok (.aload_n 0, 1) := by decide +kernel
theorem dX6_cutOut_1 : decode cX6_cutOut 1 = .ok (.iload_n 1, 1) := by decide +kernel
theorem dX6_cutOut_2 : decode cX6_cutOut 2 = .ok (.invokevirtual 105, 3) := by decide +kernel
theorem dX6_cutOut_5 : decode cX6_cutOut 5 = .ok (.ifCond .eq 11, 3) := by decide +kernel
theorem dX6_cutOut_8 : decode cX6_cutOut 8 = .ok (.aload_n 0, 1) := by decide +kernel
theorem dX6_cutOut_9 : decode cX6_cutOut 9 = .ok (.iload_n 1, 1) := by decide +kernel
theorem dX6_cutOut_10 : decode cX6_cutOut 10 = .ok (.invokevirtual 196, 3) := by decide +kernel
theorem dX6_cutOut_13 : decode cX6_cutOut 13 = .ok (.goto 4, 3) := by decide +kernel
theorem dX6_cutOut_16 : decode cX6_cutOut 16 = .ok (.iconst (-1), 1) := by decide +kernel
theorem dX6_cutOut_17 : decode cX6_cutOut 17 = .ok (.istore_n 2, 1) := by decide +kernel
theorem dX6_cutOut_18 : decode cX6_cutOut 18 = .ok (.aload_n 0, 1) := by decide +kernel
theorem dX6_cutOut_19 : decode cX6_cutOut 19 = .ok (.aload_n 0, 1) := by decide +kernel
theorem dX6_cutOut_20 : decode cX6_cutOut 20 = .ok (.iload_n 1, 1) := by decide +kernel
theorem dX6_cutOut_21 : decode cX6_cutOut 21 = .ok (.invokevirtual 105, 3) := by decide +kernel
theorem dX6_cutOut_24 : decode cX6_cutOut 24 = .ok (.ifCond .ne 7, 3) := by decide +kernel
theorem dX6_cutOut_27 : decode cX6_cutOut 27 = .ok (.iconst 1, 1) := by decide +kernel
theorem dX6_cutOut_28 : decode cX6_cutOut 28 = .ok (.goto 13, 3) := by decide +kernel
theorem dX6_cutOut_31 : decode cX6_cutOut 31 = .ok (.iload_n 2, 1) := by decide +kernel
theorem dX6_cutOut_32 : decode cX6_cutOut 32 = .ok (.iconst (-1), 1) := by decide +kernel
theorem dX6_cutOut_33 : decode cX6_cutOut 33 = .ok (.if_icmp .ne 7, 3) := by decide +kernel
theorem dX6_cutOut_36 : decode cX6_cutOut 36 = .ok (.iconst 2, 1) := by decide +kernel
theorem dX6_cutOut_37 : decode cX6_cutOut 37 = .ok (.goto 4, 3) := by decide +kernel
theorem dX6_cutOut_40 : decode cX6_cutOut 40 = .ok (.iconst 0, 1) := by decide +kernel
theorem dX6_cutOut_41 : decode cX6_cutOut 41 = .ok (.invokevirtual 108, 3) := by decide +kernel
theorem dX6_cutOut_44 : decode cX6_cutOut 44 = .ok (.ifCond .eq 5, 3) := by decide +kernel
theorem dX6_cutOut_47 : decode cX6_cutOut 47 = .ok (.iconst 0, 1) := by decide +kernel
theorem dX6_cutOut_48 : decode cX6_cutOut 48 = .ok (.ireturn, 1) := by decide +kernel
theorem dX6_cutOut_49 : decode cX6_cutOut 49 = .ok (.aload_n 0, 1) := by decide +kernel
theorem dX6_cutOut_50 : decode cX6_cutOut 50 = .ok (.dup, 1) := by decide +kernel
theorem dX6_cutOut_51 : decode cX6_cutOut 51 = .ok (.getfield 190, 3) := by decide +kernel
theorem dX6_cutOut_54 : decode cX6_cutOut 54 = .ok (.iconst 1, 1) := by decide +kernel
theorem dX6_cutOut_55 : decode cX6_cutOut 55 = .ok (.isub, 1) := by decide +kernel
theorem dX6_cutOut_56 : decode cX6_cutOut 56 = .ok (.putfield 190, 3) := by decide +kernel
theorem dX6_cutOut_59 : decode cX6_cutOut 59 = .ok (.iload_n 2, 1) := by decide +kernel
theorem dX6_cutOut_60 : decode cX6_cutOut 60 = .ok (.istore_n 3, 1) := by decide +kernel
theorem dX6_cutOut_61 : decode cX6_cutOut 61 = .ok (.iload_n 3, 1) := by decide +kernel
theorem dX6_cutOut_62 : decode cX6_cutOut 62 = .ok (.aload_n 0, 1) := by decide +kernel
theorem dX6_cutOut_63 : decode cX6_cutOut 63 = .ok (.getfield 190, 3) := by decide +kernel
theorem dX6_cutOut_66 : decode cX6_cutOut 66 = .ok (.if_icmp .ge 23, 3) := by decide +kernel
theorem dX6_cutOut_69 : decode cX6_cutOut 69 = .ok (.aload_n 0, 1) := by decide +kernel
theorem dX6_cutOut_70 : decode cX6_cutOut 70 = .ok (.getfield 80, 3) := by decide +kernel
theorem dX6_cutOut_73 : decode cX6_cutOut 73 = .ok (.iload_n 3, 1) := by decide +kernel
theorem dX6_cutOut_74 : decode cX6_cutOut 74 = .ok (.aload_n 0, 1) := by decide +kernel
theorem dX6_cutOut_75 : decode cX6_cutOut 75 = .ok (.getfield 80, 3) := by decide +kernel
theorem dX6_cutOut_78 : decode cX6_cutOut 78 = .ok (.iload_n 3, 1) := by decide +kernel
theorem dX6_cutOut_79 : decode cX6_cutOut 79 = .ok (.iconst 1, 1) := by decide +kernel
theorem dX6_cutOut_80 : decode cX6_cutOut 80 = .ok (.iadd, 1) := by decide +kernel
theorem dX6_cutOut_81 : decode cX6_cutOut 81 = .ok (.iaload, 1) := by decide +kernel
theorem dX6_cutOut_82 : decode cX6_cutOut 82 = .ok (.iastore, 1) := by decide +kernel
theorem dX6_cutOut_83 : decode cX6_cutOut 83 = .ok (.iinc 3 1, 3) := by decide +kernel
theorem dX6_cutOut_86 : decode cX6_cutOut 86 = .ok (.goto (-25), 3) := by decide +kernel
theorem dX6_cutOut_89 : decode cX6_cutOut 89 = .ok (.aload_n 0, 1) := by decide +kernel
theorem dX6_cutOut_90 : decode cX6_cutOut 90 = .ok (.invokevirtual 198, 3) := by decide +kernel
theorem dX6_cutOut_93 : decode cX6_cutOut 93 = .ok (.ireturn, 1) := by decide +kernel
theorem dX6_degree_0 : decode cX6_degree 0 = .ok (.aload_n 0, 1) := by decide +kernel
theorem dX6_degree_1 : decode cX6_degree 1 = .ok (.aload_n 0, 1) := by decide +kernel
theorem dX6_degree_2 : decode cX6_degree 2 = .ok (.iload_n 1, 1) := by decide +kernel
theorem dX6_degree_3 : decode cX6_degree 3 = .ok (.iload_n 2, 1) := by decide +kernel
theorem dX6_degree_4 : decode cX6_degree 4 = .ok (.invokevirtual 138, 3) := by decide +kernel
theorem dX6_degree_7 : decode cX6_degree 7 = .ok (.ifCond .eq 16, 3) := by decide +kernel
theorem dX6_degree_10 : decode cX6_degree 10 = .ok (.aload_n 0, 1) := by decide +kernel
theorem dX6_degree_11 : decode cX6_degree 11 = .ok (.iload_n 1, 1) := by decide +kernel
theorem dX6_degree_12 : decode cX6_degree 12 = .ok (.iload_n 3, 1) := by decide +kernel
theorem dX6_degree_13 : decode cX6_degree 13 = .ok (.invokevirtual 141, 3) := by decide +kernel
theorem dX6_degree_16 : decode cX6_degree 16 = .ok (.ifCond .eq 7, 3) := by decide +kernel
theorem dX6_degree_19 : decode cX6_degree 19 = .ok (.iconst 0, 1) := by decide +kernel
theorem dX6_degree_20 : decode cX6_degree 20 = .ok (.goto 4, 3) := by decide +kernel
theorem dX6_degree_23 : decode cX6_degree 23 = .ok (.iconst 1, 1) := by decide +kernel
theorem dX6_degree_24 : decode cX6_degree 24 = .ok (.invokevirtual 108, 3) := by decide +kernel
theorem dX6_degree_27 : decode cX6_degree 27 = .ok (.ifCond .eq 7, 3) := by decide +kernel
theorem dX6_degree_30 : decode cX6_degree 30 = .ok (.iconst 0, 1) := by decide +kernel
theorem dX6_degree_31 : decode cX6_degree 31 = .ok (.goto 10, 3) := by decide +kernel
theorem dX6_degree_34 : decode cX6_degree 34 = .ok (.aload_n 0, 1) := by decide +kernel
theorem dX6_degree_35 : decode cX6_degree 35 = .ok (.iload_n 1, 1) := by decide +kernel
theorem dX6_degree_36 : decode cX6_degree 36 = .ok (.iload_n 2, 1) := by decide +kernel
theorem dX6_degree_37 : decode cX6_degree 37 = .ok (.iload_n 3, 1) := by decide +kernel
theorem dX6_degree_38 : decode cX6_degree 38 = .ok (.invokevirtual 144, 3) := by decide +kernel
theorem dX6_degree_41 : decode cX6_degree 41 = .ok (.ireturn, 1) := by decide +kernel
theorem dX6_mouth_0 : decode cX6_mouth 0 = .ok (.aload_n 0, 1) := by decide +kernel
theorem dX6_mouth_1 : decode cX6_mouth 1 = .ok (.aload_n 0, 1) := by decide +kernel
theorem dX6_mouth_2 : decode cX6_mouth 2 = .ok (.iload_n 1, 1) := by decide +kernel
theorem dX6_mouth_3 : decode cX6_mouth 3 = .ok (.iload_n 2, 1) := by decide +kernel
theorem dX6_mouth_4 : decode cX6_mouth 4 = .ok (.invokevirtual 141, 3) := by decide +kernel
theorem dX6_mouth_7 : decode cX6_mouth 7 = .ok (.ifCond .eq 7, 3) := by decide +kernel
theorem dX6_mouth_10 : decode cX6_mouth 10 = .ok (.iconst 0, 1) := by decide +kernel
theorem dX6_mouth_11 : decode cX6_mouth 11 = .ok (.goto 4, 3) := by decide +kernel
theorem dX6_mouth_14 : decode cX6_mouth 14 = .ok (.iconst 1, 1) := by decide +kernel
theorem dX6_mouth_15 : decode cX6_mouth 15 = .ok (.invokevirtual 108, 3) := by decide +kernel
theorem dX6_mouth_18 : decode cX6_mouth 18 = .ok (.ifCond .eq 7, 3) := by decide +kernel
theorem dX6_mouth_21 : decode cX6_mouth 21 = .ok (.iconst 0, 1) := by decide +kernel
theorem dX6_mouth_22 : decode cX6_mouth 22 = .ok (.goto 9, 3) := by decide +kernel
theorem dX6_mouth_25 : decode cX6_mouth 25 = .ok (.aload_n 0, 1) := by decide +kernel
theorem dX6_mouth_26 : decode cX6_mouth 26 = .ok (.iload_n 1, 1) := by decide +kernel
theorem dX6_mouth_27 : decode cX6_mouth 27 = .ok (.iload_n 2, 1) := by decide +kernel
theorem dX6_mouth_28 : decode cX6_mouth 28 = .ok (.invokevirtual 157, 3) := by decide +kernel
theorem dX6_mouth_31 : decode cX6_mouth 31 = .ok (.ireturn, 1) := by decide +kernel
theorem dX6_place_0 : decode cX6_place 0 = .ok (.aload_n 0, 1) := by decide +kernel
theorem dX6_place_1 : decode cX6_place 1 = .ok (.aload_n 0, 1) := by decide +kernel
theorem dX6_place_2 : decode cX6_place 2 = .ok (.iload_n 1, 1) := by decide +kernel
theorem dX6_place_3 : decode cX6_place 3 = .ok (.iload_n 2, 1) := by decide +kernel
theorem dX6_place_4 : decode cX6_place 4 = .ok (.invokevirtual 141, 3) := by decide +kernel
theorem dX6_place_7 : decode cX6_place 7 = .ok (.ifCond .eq 7, 3) := by decide +kernel
theorem dX6_place_10 : decode cX6_place 10 = .ok (.iconst 0, 1) := by decide +kernel
theorem dX6_place_11 : decode cX6_place 11 = .ok (.goto 4, 3) := by decide +kernel
theorem dX6_place_14 : decode cX6_place 14 = .ok (.iconst 1, 1) := by decide +kernel
theorem dX6_place_15 : decode cX6_place 15 = .ok (.invokevirtual 108, 3) := by decide +kernel
theorem dX6_place_18 : decode cX6_place 18 = .ok (.ifCond .eq 7, 3) := by decide +kernel
theorem dX6_place_21 : decode cX6_place 21 = .ok (.iconst 0, 1) := by decide +kernel
theorem dX6_place_22 : decode cX6_place 22 = .ok (.goto 9, 3) := by decide +kernel
theorem dX6_place_25 : decode cX6_place 25 = .ok (.aload_n 0, 1) := by decide +kernel
theorem dX6_place_26 : decode cX6_place 26 = .ok (.iload_n 1, 1) := by decide +kernel
theorem dX6_place_27 : decode cX6_place 27 = .ok (.iload_n 2, 1) := by decide +kernel
theorem dX6_place_28 : decode cX6_place 28 = .ok (.invokevirtual 148, 3) := by decide +kernel
theorem dX6_place_31 : decode cX6_place 31 = .ok (.ireturn, 1) := by decide +kernel
theorem dX6_wants_0 : decode cX6_wants 0 = .ok (.aload_n 0, 1) := by decide +kernel
theorem dX6_wants_1 : decode cX6_wants 1 = .ok (.aload_n 0, 1) := by decide +kernel
theorem dX6_wants_2 : decode cX6_wants 2 = .ok (.iload_n 1, 1) := by decide +kernel
theorem dX6_wants_3 : decode cX6_wants 3 = .ok (.invokevirtual 105, 3) := by decide +kernel
theorem dX6_wants_6 : decode cX6_wants 6 = .ok (.ifCond .ne 7, 3) := by decide +kernel
theorem dX6_wants_9 : decode cX6_wants 9 = .ok (.iconst 1, 1) := by decide +kernel
theorem dX6_wants_10 : decode cX6_wants 10 = .ok (.goto 15, 3) := by decide +kernel
theorem dX6_wants_13 : decode cX6_wants 13 = .ok (.iload_n 2, 1) := by decide +kernel
theorem dX6_wants_14 : decode cX6_wants 14 = .ok (.invokestatic 111, 3) := by decide +kernel
theorem dX6_wants_17 : decode cX6_wants 17 = .ok (.ifCond .eq 7, 3) := by decide +kernel
theorem dX6_wants_20 : decode cX6_wants 20 = .ok (.iconst 0, 1) := by decide +kernel
theorem dX6_wants_21 : decode cX6_wants 21 = .ok (.goto 4, 3) := by decide +kernel
theorem dX6_wants_24 : decode cX6_wants 24 = .ok (.iconst 2, 1) := by decide +kernel
theorem dX6_wants_25 : decode cX6_wants 25 = .ok (.invokevirtual 108, 3) := by decide +kernel
theorem dX6_wants_28 : decode cX6_wants 28 = .ok (.ifCond .eq 5, 3) := by decide +kernel
theorem dX6_wants_31 : decode cX6_wants 31 = .ok (.iconst 0, 1) := by decide +kernel
theorem dX6_wants_32 : decode cX6_wants 32 = .ok (.ireturn, 1) := by decide +kernel
theorem dX6_wants_33 : decode cX6_wants 33 = .ok (.iconst 0, 1) := by decide +kernel
theorem dX6_wants_34 : decode cX6_wants 34 = .ok (.istore_n 3, 1) := by decide +kernel
theorem dX6_wants_35 : decode cX6_wants 35 = .ok (.iconst 0, 1) := by decide +kernel
theorem dX6_wants_36 : decode cX6_wants 36 = .ok (.istore 4, 2) := by decide +kernel
theorem dX6_wants_38 : decode cX6_wants 38 = .ok (.iload 4, 2) := by decide +kernel
theorem dX6_wants_40 : decode cX6_wants 40 = .ok (.aload_n 0, 1) := by decide +kernel
theorem dX6_wants_41 : decode cX6_wants 41 = .ok (.getfield 34, 3) := by decide +kernel
theorem dX6_wants_44 : decode cX6_wants 44 = .ok (.iload_n 1, 1) := by decide +kernel
theorem dX6_wants_45 : decode cX6_wants 45 = .ok (.iaload, 1) := by decide +kernel
theorem dX6_wants_46 : decode cX6_wants 46 = .ok (.if_icmp .ge 46, 3) := by decide +kernel
theorem dX6_wants_49 : decode cX6_wants 49 = .ok (.iload_n 3, 1) := by decide +kernel
theorem dX6_wants_50 : decode cX6_wants 50 = .ok (.aload_n 0, 1) := by decide +kernel
theorem dX6_wants_51 : decode cX6_wants 51 = .ok (.iload_n 1, 1) := by decide +kernel
theorem dX6_wants_52 : decode cX6_wants 52 = .ok (.iload 4, 2) := by decide +kernel
theorem dX6_wants_54 : decode cX6_wants 54 = .ok (.invokevirtual 157, 3) := by decide +kernel
theorem dX6_wants_57 : decode cX6_wants 57 = .ok (.iload_n 2, 1) := by decide +kernel
theorem dX6_wants_58 : decode cX6_wants 58 = .ok (.if_icmp .ne 25, 3) := by decide +kernel
theorem dX6_wants_61 : decode cX6_wants 61 = .ok (.iload 4, 2) := by decide +kernel
theorem dX6_wants_63 : decode cX6_wants 63 = .ok (.ifCond .eq 16, 3) := by decide +kernel
theorem dX6_wants_66 : decode cX6_wants 66 = .ok (.aload_n 0, 1) := by decide +kernel
theorem dX6_wants_67 : decode cX6_wants 67 = .ok (.iload_n 1, 1) := by decide +kernel
theorem dX6_wants_68 : decode cX6_wants 68 = .ok (.iload 4, 2) := by decide +kernel
theorem dX6_wants_70 : decode cX6_wants 70 = .ok (.iconst 1, 1) := by decide +kernel
theorem dX6_wants_71 : decode cX6_wants 71 = .ok (.isub, 1) := by decide +kernel
theorem dX6_wants_72 : decode cX6_wants 72 = .ok (.invokevirtual 157, 3) := by decide +kernel
theorem dX6_wants_75 : decode cX6_wants 75 = .ok (.iload_n 2, 1) := by decide +kernel
theorem dX6_wants_76 : decode cX6_wants 76 = .ok (.if_icmp .eq 7, 3) := by decide +kernel
theorem dX6_wants_79 : decode cX6_wants 79 = .ok (.iconst 1, 1) := by decide +kernel
theorem dX6_wants_80 : decode cX6_wants 80 = .ok (.goto 4, 3) := by decide +kernel
theorem dX6_wants_83 : decode cX6_wants 83 = .ok (.iconst 0, 1) := by decide +kernel
theorem dX6_wants_84 : decode cX6_wants 84 = .ok (.iadd, 1) := by decide +kernel
theorem dX6_wants_85 : decode cX6_wants 85 = .ok (.istore_n 3, 1) := by decide +kernel
theorem dX6_wants_86 : decode cX6_wants 86 = .ok (.iinc 4 1, 3) := by decide +kernel
theorem dX6_wants_89 : decode cX6_wants 89 = .ok (.goto (-51), 3) := by decide +kernel
theorem dX6_wants_92 : decode cX6_wants 92 = .ok (.iload_n 3, 1) := by decide +kernel
theorem dX6_wants_93 : decode cX6_wants 93 = .ok (.ireturn, 1) := by decide +kernel
theorem dX6_bars_0 : decode cX6_bars 0 = .ok (.aload_n 0, 1) := by decide +kernel
theorem dX6_bars_1 : decode cX6_bars 1 = .ok (.aload_n 0, 1) := by decide +kernel
theorem dX6_bars_2 : decode cX6_bars 2 = .ok (.iload_n 1, 1) := by decide +kernel
theorem dX6_bars_3 : decode cX6_bars 3 = .ok (.invokevirtual 105, 3) := by decide +kernel
theorem dX6_bars_6 : decode cX6_bars 6 = .ok (.ifCond .eq 7, 3) := by decide +kernel
theorem dX6_bars_9 : decode cX6_bars 9 = .ok (.iconst 0, 1) := by decide +kernel
theorem dX6_bars_10 : decode cX6_bars 10 = .ok (.goto 4, 3) := by decide +kernel
theorem dX6_bars_13 : decode cX6_bars 13 = .ok (.iconst 1, 1) := by decide +kernel
theorem dX6_bars_14 : decode cX6_bars 14 = .ok (.invokevirtual 108, 3) := by decide +kernel
theorem dX6_bars_17 : decode cX6_bars 17 = .ok (.ifCond .eq 7, 3) := by decide +kernel
theorem dX6_bars_20 : decode cX6_bars 20 = .ok (.iconst 0, 1) := by decide +kernel
theorem dX6_bars_21 : decode cX6_bars 21 = .ok (.goto 8, 3) := by decide +kernel
theorem dX6_bars_24 : decode cX6_bars 24 = .ok (.aload_n 0, 1) := by decide +kernel
theorem dX6_bars_25 : decode cX6_bars 25 = .ok (.iload_n 1, 1) := by decide +kernel
theorem dX6_bars_26 : decode cX6_bars 26 = .ok (.invokevirtual 173, 3) := by decide +kernel
theorem dX6_bars_29 : decode cX6_bars 29 = .ok (.ireturn, 1) := by decide +kernel
theorem dX6_wears_0 : decode cX6_wears 0 = .ok (.aload_n 0, 1) := by decide +kernel
theorem dX6_wears_1 : decode cX6_wears 1 = .ok (.aload_n 0, 1) := by decide +kernel
theorem dX6_wears_2 : decode cX6_wears 2 = .ok (.iload_n 1, 1) := by decide +kernel
theorem dX6_wears_3 : decode cX6_wears 3 = .ok (.iload_n 2, 1) := by decide +kernel
theorem dX6_wears_4 : decode cX6_wears 4 = .ok (.invokevirtual 138, 3) := by decide +kernel
theorem dX6_wears_7 : decode cX6_wears 7 = .ok (.ifCond .eq 7, 3) := by decide +kernel
theorem dX6_wears_10 : decode cX6_wears 10 = .ok (.iconst 0, 1) := by decide +kernel
theorem dX6_wears_11 : decode cX6_wears 11 = .ok (.goto 4, 3) := by decide +kernel
theorem dX6_wears_14 : decode cX6_wears 14 = .ok (.iconst 1, 1) := by decide +kernel
theorem dX6_wears_15 : decode cX6_wears 15 = .ok (.invokevirtual 108, 3) := by decide +kernel
theorem dX6_wears_18 : decode cX6_wears 18 = .ok (.ifCond .eq 5, 3) := by decide +kernel
theorem dX6_wears_21 : decode cX6_wears 21 = .ok (.iconst 0, 1) := by decide +kernel
theorem dX6_wears_22 : decode cX6_wears 22 = .ok (.ireturn, 1) := by decide +kernel
theorem dX6_wears_23 : decode cX6_wears 23 = .ok (.aload_n 0, 1) := by decide +kernel
theorem dX6_wears_24 : decode cX6_wears 24 = .ok (.getfield 13, 3) := by decide +kernel
theorem dX6_wears_27 : decode cX6_wears 27 = .ok (.bipush 6, 2) := by decide +kernel
theorem dX6_wears_29 : decode cX6_wears 29 = .ok (.aload_n 0, 1) := by decide +kernel
theorem dX6_wears_30 : decode cX6_wears 30 = .ok (.getfield 31, 3) := by decide +kernel
theorem dX6_wears_33 : decode cX6_wears 33 = .ok (.iload_n 1, 1) := by decide +kernel
theorem dX6_wears_34 : decode cX6_wears 34 = .ok (.iaload, 1) := by decide +kernel
theorem dX6_wears_35 : decode cX6_wears 35 = .ok (.imul, 1) := by decide +kernel
theorem dX6_wears_36 : decode cX6_wears 36 = .ok (.iload_n 2, 1) := by decide +kernel
theorem dX6_wears_37 : decode cX6_wears 37 = .ok (.iadd, 1) := by decide +kernel
theorem dX6_wears_38 : decode cX6_wears 38 = .ok (.iaload, 1) := by decide +kernel
theorem dX6_wears_39 : decode cX6_wears 39 = .ok (.istore_n 3, 1) := by decide +kernel
theorem dX6_wears_40 : decode cX6_wears 40 = .ok (.iconst 0, 1) := by decide +kernel
theorem dX6_wears_41 : decode cX6_wears 41 = .ok (.istore 4, 2) := by decide +kernel
theorem dX6_wears_43 : decode cX6_wears 43 = .ok (.aload_n 0, 1) := by decide +kernel
theorem dX6_wears_44 : decode cX6_wears 44 = .ok (.getfield 46, 3) := by decide +kernel
theorem dX6_wears_47 : decode cX6_wears 47 = .ok (.iload_n 1, 1) := by decide +kernel
theorem dX6_wears_48 : decode cX6_wears 48 = .ok (.iaload, 1) := by decide +kernel
theorem dX6_wears_49 : decode cX6_wears 49 = .ok (.istore 5, 2) := by decide +kernel
theorem dX6_wears_51 : decode cX6_wears 51 = .ok (.iload 5, 2) := by decide +kernel
theorem dX6_wears_53 : decode cX6_wears 53 = .ok (.aload_n 0, 1) := by decide +kernel
theorem dX6_wears_54 : decode cX6_wears 54 = .ok (.getfield 34, 3) := by decide +kernel
theorem dX6_wears_57 : decode cX6_wears 57 = .ok (.iload_n 1, 1) := by decide +kernel
theorem dX6_wears_58 : decode cX6_wears 58 = .ok (.iaload, 1) := by decide +kernel
theorem dX6_wears_59 : decode cX6_wears 59 = .ok (.if_icmp .ge 45, 3) := by decide +kernel
theorem dX6_wears_62 : decode cX6_wears 62 = .ok (.aload_n 0, 1) := by decide +kernel
theorem dX6_wears_63 : decode cX6_wears 63 = .ok (.iload_n 1, 1) := by decide +kernel
theorem dX6_wears_64 : decode cX6_wears 64 = .ok (.iload 5, 2) := by decide +kernel
theorem dX6_wears_66 : decode cX6_wears 66 = .ok (.invokevirtual 123, 3) := by decide +kernel
theorem dX6_wears_69 : decode cX6_wears 69 = .ok (.ifCond .ne 29, 3) := by decide +kernel
theorem dX6_wears_72 : decode cX6_wears 72 = .ok (.iload 4, 2) := by decide +kernel
theorem dX6_wears_74 : decode cX6_wears 74 = .ok (.iload_n 3, 1) := by decide +kernel
theorem dX6_wears_75 : decode cX6_wears 75 = .ok (.aload_n 0, 1) := by decide +kernel
theorem dX6_wears_76 : decode cX6_wears 76 = .ok (.iload_n 1, 1) := by decide +kernel
theorem dX6_wears_77 : decode cX6_wears 77 = .ok (.iload_n 2, 1) := by decide +kernel
theorem dX6_wears_78 : decode cX6_wears 78 = .ok (.iload 5, 2) := by decide +kernel
theorem dX6_wears_80 : decode cX6_wears 80 = .ok (.invokevirtual 144, 3) := by decide +kernel
theorem dX6_wears_83 : decode cX6_wears 83 = .ok (.invokestatic 170, 3) := by decide +kernel
theorem dX6_wears_86 : decode cX6_wears 86 = .ok (.iadd, 1) := by decide +kernel
theorem dX6_wears_87 : decode cX6_wears 87 = .ok (.istore 4, 2) := by decide +kernel
theorem dX6_wears_89 : decode cX6_wears 89 = .ok (.aload_n 0, 1) := by decide +kernel
theorem dX6_wears_90 : decode cX6_wears 90 = .ok (.iload_n 1, 1) := by decide +kernel
theorem dX6_wears_91 : decode cX6_wears 91 = .ok (.iload_n 2, 1) := by decide +kernel
theorem dX6_wears_92 : decode cX6_wears 92 = .ok (.iload 5, 2) := by decide +kernel
theorem dX6_wears_94 : decode cX6_wears 94 = .ok (.invokevirtual 144, 3) := by decide +kernel
theorem dX6_wears_97 : decode cX6_wears 97 = .ok (.istore_n 3, 1) := by decide +kernel
theorem dX6_wears_98 : decode cX6_wears 98 = .ok (.iinc 5 1, 3) := by decide +kernel
theorem dX6_wears_101 : decode cX6_wears 101 = .ok (.goto (-50), 3) := by decide +kernel
theorem dX6_wears_104 : decode cX6_wears 104 = .ok (.iload 4, 2) := by decide +kernel
theorem dX6_wears_106 : decode cX6_wears 106 = .ok (.ireturn, 1) := by decide +kernel
theorem dX6_struck_0 : decode cX6_struck 0 = .ok (.aload_n 0, 1) := by decide +kernel
theorem dX6_struck_1 : decode cX6_struck 1 = .ok (.aload_n 0, 1) := by decide +kernel
theorem dX6_struck_2 : decode cX6_struck 2 = .ok (.iload_n 1, 1) := by decide +kernel
theorem dX6_struck_3 : decode cX6_struck 3 = .ok (.invokevirtual 105, 3) := by decide +kernel
theorem dX6_struck_6 : decode cX6_struck 6 = .ok (.ifCond .eq 7, 3) := by decide +kernel
theorem dX6_struck_9 : decode cX6_struck 9 = .ok (.iconst 0, 1) := by decide +kernel
theorem dX6_struck_10 : decode cX6_struck 10 = .ok (.goto 4, 3) := by decide +kernel
theorem dX6_struck_13 : decode cX6_struck 13 = .ok (.iconst 1, 1) := by decide +kernel
theorem dX6_struck_14 : decode cX6_struck 14 = .ok (.invokevirtual 108, 3) := by decide +kernel
theorem dX6_struck_17 : decode cX6_struck 17 = .ok (.ifCond .eq 7, 3) := by decide +kernel
theorem dX6_struck_20 : decode cX6_struck 20 = .ok (.iconst 0, 1) := by decide +kernel
theorem dX6_struck_21 : decode cX6_struck 21 = .ok (.goto 9, 3) := by decide +kernel
theorem dX6_struck_24 : decode cX6_struck 24 = .ok (.aload_n 0, 1) := by decide +kernel
theorem dX6_struck_25 : decode cX6_struck 25 = .ok (.getfield 46, 3) := by decide +kernel
theorem dX6_struck_28 : decode cX6_struck 28 = .ok (.iload_n 1, 1) := by decide +kernel
theorem dX6_struck_29 : decode cX6_struck 29 = .ok (.iaload, 1) := by decide +kernel
theorem dX6_struck_30 : decode cX6_struck 30 = .ok (.ireturn, 1) := by decide +kernel
theorem dX6_pose_0 : decode cX6_pose 0 = .ok (.aload_n 0, 1) := by decide +kernel
theorem dX6_pose_1 : decode cX6_pose 1 = .ok (.aload_n 0, 1) := by decide +kernel
theorem dX6_pose_2 : decode cX6_pose 2 = .ok (.iload_n 1, 1) := by decide +kernel
theorem dX6_pose_3 : decode cX6_pose 3 = .ok (.iload_n 2, 1) := by decide +kernel
theorem dX6_pose_4 : decode cX6_pose 4 = .ok (.invokevirtual 138, 3) := by decide +kernel
theorem dX6_pose_7 : decode cX6_pose 7 = .ok (.ifCond .eq 16, 3) := by decide +kernel
theorem dX6_pose_10 : decode cX6_pose 10 = .ok (.aload_n 0, 1) := by decide +kernel
theorem dX6_pose_11 : decode cX6_pose 11 = .ok (.iload_n 1, 1) := by decide +kernel
theorem dX6_pose_12 : decode cX6_pose 12 = .ok (.iload_n 3, 1) := by decide +kernel
theorem dX6_pose_13 : decode cX6_pose 13 = .ok (.invokevirtual 193, 3) := by decide +kernel
theorem dX6_pose_16 : decode cX6_pose 16 = .ok (.ifCond .eq 7, 3) := by decide +kernel
theorem dX6_pose_19 : decode cX6_pose 19 = .ok (.iconst 0, 1) := by decide +kernel
theorem dX6_pose_20 : decode cX6_pose 20 = .ok (.goto 4, 3) := by decide +kernel
theorem dX6_pose_23 : decode cX6_pose 23 = .ok (.iconst 1, 1) := by decide +kernel
theorem dX6_pose_24 : decode cX6_pose 24 = .ok (.invokevirtual 108, 3) := by decide +kernel
theorem dX6_pose_27 : decode cX6_pose 27 = .ok (.ifCond .eq 7, 3) := by decide +kernel
theorem dX6_pose_30 : decode cX6_pose 30 = .ok (.iconst 0, 1) := by decide +kernel
theorem dX6_pose_31 : decode cX6_pose 31 = .ok (.goto 16, 3) := by decide +kernel
theorem dX6_pose_34 : decode cX6_pose 34 = .ok (.aload_n 0, 1) := by decide +kernel
theorem dX6_pose_35 : decode cX6_pose 35 = .ok (.getfield 62, 3) := by decide +kernel
theorem dX6_pose_38 : decode cX6_pose 38 = .ok (.aload_n 0, 1) := by decide +kernel
theorem dX6_pose_39 : decode cX6_pose 39 = .ok (.iload_n 1, 1) := by decide +kernel
theorem dX6_pose_40 : decode cX6_pose 40 = .ok (.iload_n 2, 1) := by decide +kernel
theorem dX6_pose_41 : decode cX6_pose 41 = .ok (.invokevirtual 127, 3) := by decide +kernel
theorem dX6_pose_44 : decode cX6_pose 44 = .ok (.iload_n 3, 1) := by decide +kernel
theorem dX6_pose_45 : decode cX6_pose 45 = .ok (.iadd, 1) := by decide +kernel
theorem dX6_pose_46 : decode cX6_pose 46 = .ok (.iaload, 1) := by decide +kernel
theorem dX6_pose_47 : decode cX6_pose 47 = .ok (.ireturn, 1) := by decide +kernel
theorem dX6_ofFrame_0 : decode cX6_ofFrame 0 = .ok (.aload_n 0, 1) := by decide +kernel
theorem dX6_ofFrame_1 : decode cX6_ofFrame 1 = .ok (.aload_n 0, 1) := by decide +kernel
theorem dX6_ofFrame_2 : decode cX6_ofFrame 2 = .ok (.iload_n 1, 1) := by decide +kernel
theorem dX6_ofFrame_3 : decode cX6_ofFrame 3 = .ok (.iload_n 2, 1) := by decide +kernel
theorem dX6_ofFrame_4 : decode cX6_ofFrame 4 = .ok (.invokevirtual 193, 3) := by decide +kernel
theorem dX6_ofFrame_7 : decode cX6_ofFrame 7 = .ok (.ifCond .ne 7, 3) := by decide +kernel
theorem dX6_ofFrame_10 : decode cX6_ofFrame 10 = .ok (.iconst 1, 1) := by decide +kernel
theorem dX6_ofFrame_11 : decode cX6_ofFrame 11 = .ok (.goto 17, 3) := by decide +kernel
theorem dX6_ofFrame_14 : decode cX6_ofFrame 14 = .ok (.iload_n 3, 1) := by decide +kernel
theorem dX6_ofFrame_15 : decode cX6_ofFrame 15 = .ok (.iconst 0, 1) := by decide +kernel
theorem dX6_ofFrame_16 : decode cX6_ofFrame 16 = .ok (.iconst 3, 1) := by decide +kernel
theorem dX6_ofFrame_17 : decode cX6_ofFrame 17 = .ok (.invokestatic 91, 3) := by decide +kernel
theorem dX6_ofFrame_20 : decode cX6_ofFrame 20 = .ok (.ifCond .eq 7, 3) := by decide +kernel
theorem dX6_ofFrame_23 : decode cX6_ofFrame 23 = .ok (.iconst 0, 1) := by decide +kernel
theorem dX6_ofFrame_24 : decode cX6_ofFrame 24 = .ok (.goto 4, 3) := by decide +kernel
theorem dX6_ofFrame_27 : decode cX6_ofFrame 27 = .ok (.iconst 2, 1) := by decide +kernel
theorem dX6_ofFrame_28 : decode cX6_ofFrame 28 = .ok (.invokevirtual 108, 3) := by decide +kernel
theorem dX6_ofFrame_31 : decode cX6_ofFrame 31 = .ok (.ifCond .eq 5, 3) := by decide +kernel
theorem dX6_ofFrame_34 : decode cX6_ofFrame 34 = .ok (.iconst 0, 1) := by decide +kernel
theorem dX6_ofFrame_35 : decode cX6_ofFrame 35 = .ok (.ireturn, 1) := by decide +kernel
theorem dX6_ofFrame_36 : decode cX6_ofFrame 36 = .ok (.bipush 48, 2) := by decide +kernel
theorem dX6_ofFrame_38 : decode cX6_ofFrame 38 = .ok (.iload_n 1, 1) := by decide +kernel
theorem dX6_ofFrame_39 : decode cX6_ofFrame 39 = .ok (.imul, 1) := by decide +kernel
theorem dX6_ofFrame_40 : decode cX6_ofFrame 40 = .ok (.iload_n 2, 1) := by decide +kernel
theorem dX6_ofFrame_41 : decode cX6_ofFrame 41 = .ok (.iadd, 1) := by decide +kernel
theorem dX6_ofFrame_42 : decode cX6_ofFrame 42 = .ok (.istore 4, 2) := by decide +kernel
theorem dX6_ofFrame_44 : decode cX6_ofFrame 44 = .ok (.iload_n 3, 1) := by decide +kernel
theorem dX6_ofFrame_45 : decode cX6_ofFrame 45 = .ok (.ifCond .ne 13, 3) := by decide +kernel
theorem dX6_ofFrame_48 : decode cX6_ofFrame 48 = .ok (.aload_n 0, 1) := by decide +kernel
theorem dX6_ofFrame_49 : decode cX6_ofFrame 49 = .ok (.getfield 65, 3) := by decide +kernel
theorem dX6_ofFrame_52 : decode cX6_ofFrame 52 = .ok (.iload 4, 2) := by decide +kernel
theorem dX6_ofFrame_54 : decode cX6_ofFrame 54 = .ok (.iaload, 1) := by decide +kernel
theorem dX6_ofFrame_55 : decode cX6_ofFrame 55 = .ok (.goto 40, 3) := by decide +kernel
theorem dX6_ofFrame_58 : decode cX6_ofFrame 58 = .ok (.iload_n 3, 1) := by decide +kernel
theorem dX6_ofFrame_59 : decode cX6_ofFrame 59 = .ok (.iconst 1, 1) := by decide +kernel
theorem dX6_ofFrame_60 : decode cX6_ofFrame 60 = .ok (.if_icmp .ne 13, 3) := by decide +kernel
theorem dX6_ofFrame_63 : decode cX6_ofFrame 63 = .ok (.aload_n 0, 1) := by decide +kernel
theorem dX6_ofFrame_64 : decode cX6_ofFrame 64 = .ok (.getfield 71, 3) := by decide +kernel
theorem dX6_ofFrame_67 : decode cX6_ofFrame 67 = .ok (.iload 4, 2) := by decide +kernel
theorem dX6_ofFrame_69 : decode cX6_ofFrame 69 = .ok (.iaload, 1) := by decide +kernel
theorem dX6_ofFrame_70 : decode cX6_ofFrame 70 = .ok (.goto 25, 3) := by decide +kernel
theorem dX6_ofFrame_73 : decode cX6_ofFrame 73 = .ok (.iload_n 3, 1) := by decide +kernel
theorem dX6_ofFrame_74 : decode cX6_ofFrame 74 = .ok (.iconst 2, 1) := by decide +kernel
theorem dX6_ofFrame_75 : decode cX6_ofFrame 75 = .ok (.if_icmp .ne 13, 3) := by decide +kernel
theorem dX6_ofFrame_78 : decode cX6_ofFrame 78 = .ok (.aload_n 0, 1) := by decide +kernel
theorem dX6_ofFrame_79 : decode cX6_ofFrame 79 = .ok (.getfield 74, 3) := by decide +kernel
theorem dX6_ofFrame_82 : decode cX6_ofFrame 82 = .ok (.iload 4, 2) := by decide +kernel
theorem dX6_ofFrame_84 : decode cX6_ofFrame 84 = .ok (.iaload, 1) := by decide +kernel
theorem dX6_ofFrame_85 : decode cX6_ofFrame 85 = .ok (.goto 10, 3) := by decide +kernel
theorem dX6_ofFrame_88 : decode cX6_ofFrame 88 = .ok (.aload_n 0, 1) := by decide +kernel
theorem dX6_ofFrame_89 : decode cX6_ofFrame 89 = .ok (.getfield 77, 3) := by decide +kernel
theorem dX6_ofFrame_92 : decode cX6_ofFrame 92 = .ok (.iload 4, 2) := by decide +kernel
theorem dX6_ofFrame_94 : decode cX6_ofFrame 94 = .ok (.iaload, 1) := by decide +kernel
theorem dX6_ofFrame_95 : decode cX6_ofFrame 95 = .ok (.ireturn, 1) := by decide +kernel
theorem dX6_faults_0 : decode cX6_faults 0 = .ok (.aload_n 0, 1) := by decide +kernel
theorem dX6_faults_1 : decode cX6_faults 1 = .ok (.aload_n 0, 1) := by decide +kernel
theorem dX6_faults_2 : decode cX6_faults 2 = .ok (.iload_n 1, 1) := by decide +kernel
theorem dX6_faults_3 : decode cX6_faults 3 = .ok (.iload_n 2, 1) := by decide +kernel
theorem dX6_faults_4 : decode cX6_faults 4 = .ok (.invokevirtual 193, 3) := by decide +kernel
theorem dX6_faults_7 : decode cX6_faults 7 = .ok (.ifCond .eq 7, 3) := by decide +kernel
theorem dX6_faults_10 : decode cX6_faults 10 = .ok (.iconst 0, 1) := by decide +kernel
theorem dX6_faults_11 : decode cX6_faults 11 = .ok (.goto 4, 3) := by decide +kernel
theorem dX6_faults_14 : decode cX6_faults 14 = .ok (.iconst 1, 1) := by decide +kernel
theorem dX6_faults_15 : decode cX6_faults 15 = .ok (.invokevirtual 108, 3) := by decide +kernel
theorem dX6_faults_18 : decode cX6_faults 18 = .ok (.ifCond .eq 5, 3) := by decide +kernel
theorem dX6_faults_21 : decode cX6_faults 21 = .ok (.iconst 0, 1) := by decide +kernel
theorem dX6_faults_22 : decode cX6_faults 22 = .ok (.ireturn, 1) := by decide +kernel
theorem dX6_faults_23 : decode cX6_faults 23 = .ok (.bipush 48, 2) := by decide +kernel
theorem dX6_faults_25 : decode cX6_faults 25 = .ok (.iload_n 1, 1) := by decide +kernel
theorem dX6_faults_26 : decode cX6_faults 26 = .ok (.imul, 1) := by decide +kernel
theorem dX6_faults_27 : decode cX6_faults 27 = .ok (.iload_n 2, 1) := by decide +kernel
theorem dX6_faults_28 : decode cX6_faults 28 = .ok (.iadd, 1) := by decide +kernel
theorem dX6_faults_29 : decode cX6_faults 29 = .ok (.istore_n 3, 1) := by decide +kernel
theorem dX6_faults_30 : decode cX6_faults 30 = .ok (.iconst 0, 1) := by decide +kernel
theorem dX6_faults_31 : decode cX6_faults 31 = .ok (.istore 4, 2) := by decide +kernel
theorem dX6_faults_33 : decode cX6_faults 33 = .ok (.iconst 0, 1) := by decide +kernel
theorem dX6_faults_34 : decode cX6_faults 34 = .ok (.istore 5, 2) := by decide +kernel
theorem dX6_faults_36 : decode cX6_faults 36 = .ok (.iload 5, 2) := by decide +kernel
theorem dX6_faults_38 : decode cX6_faults 38 = .ok (.aload_n 0, 1) := by decide +kernel
theorem dX6_faults_39 : decode cX6_faults 39 = .ok (.getfield 7, 3) := by decide +kernel
theorem dX6_faults_42 : decode cX6_faults 42 = .ok (.aload_n 0, 1) := by decide +kernel
theorem dX6_faults_43 : decode cX6_faults 43 = .ok (.getfield 31, 3) := by decide +kernel
theorem dX6_faults_46 : decode cX6_faults 46 = .ok (.iload_n 1, 1) := by decide +kernel
theorem dX6_faults_47 : decode cX6_faults 47 = .ok (.iaload, 1) := by decide +kernel
theorem dX6_faults_48 : decode cX6_faults 48 = .ok (.iaload, 1) := by decide +kernel
theorem dX6_faults_49 : decode cX6_faults 49 = .ok (.if_icmp .ge 46, 3) := by decide +kernel
theorem dX6_faults_52 : decode cX6_faults 52 = .ok (.iload 4, 2) := by decide +kernel
theorem dX6_faults_54 : decode cX6_faults 54 = .ok (.ifCond .ne 28, 3) := by decide +kernel
theorem dX6_faults_57 : decode cX6_faults 57 = .ok (.aload_n 0, 1) := by decide +kernel
theorem dX6_faults_58 : decode cX6_faults 58 = .ok (.getfield 62, 3) := by decide +kernel
theorem dX6_faults_61 : decode cX6_faults 61 = .ok (.aload_n 0, 1) := by decide +kernel
theorem dX6_faults_62 : decode cX6_faults 62 = .ok (.iload_n 1, 1) := by decide +kernel
theorem dX6_faults_63 : decode cX6_faults 63 = .ok (.iload 5, 2) := by decide +kernel
theorem dX6_faults_65 : decode cX6_faults 65 = .ok (.invokevirtual 127, 3) := by decide +kernel
theorem dX6_faults_68 : decode cX6_faults 68 = .ok (.iload_n 2, 1) := by decide +kernel
theorem dX6_faults_69 : decode cX6_faults 69 = .ok (.iadd, 1) := by decide +kernel
theorem dX6_faults_70 : decode cX6_faults 70 = .ok (.iaload, 1) := by decide +kernel
theorem dX6_faults_71 : decode cX6_faults 71 = .ok (.aload_n 0, 1) := by decide +kernel
theorem dX6_faults_72 : decode cX6_faults 72 = .ok (.iload_n 1, 1) := by decide +kernel
theorem dX6_faults_73 : decode cX6_faults 73 = .ok (.iload 5, 2) := by decide +kernel
theorem dX6_faults_75 : decode cX6_faults 75 = .ok (.iload_n 2, 1) := by decide +kernel
theorem dX6_faults_76 : decode cX6_faults 76 = .ok (.invokevirtual 144, 3) := by decide +kernel
theorem dX6_faults_79 : decode cX6_faults 79 = .ok (.if_icmp .eq 7, 3) := by decide +kernel
theorem dX6_faults_82 : decode cX6_faults 82 = .ok (.iconst 1, 1) := by decide +kernel
theorem dX6_faults_83 : decode cX6_faults 83 = .ok (.goto 4, 3) := by decide +kernel
theorem dX6_faults_86 : decode cX6_faults 86 = .ok (.iconst 0, 1) := by decide +kernel
theorem dX6_faults_87 : decode cX6_faults 87 = .ok (.istore 4, 2) := by decide +kernel
theorem dX6_faults_89 : decode cX6_faults 89 = .ok (.iinc 5 1, 3) := by decide +kernel
theorem dX6_faults_92 : decode cX6_faults 92 = .ok (.goto (-56), 3) := by decide +kernel
theorem dX6_faults_95 : decode cX6_faults 95 = .ok (.iload_n 2, 1) := by decide +kernel
theorem dX6_faults_96 : decode cX6_faults 96 = .ok (.ifCond .ne 7, 3) := by decide +kernel
theorem dX6_faults_99 : decode cX6_faults 99 = .ok (.iconst 0, 1) := by decide +kernel
theorem dX6_faults_100 : decode cX6_faults 100 = .ok (.goto 18, 3) := by decide +kernel
theorem dX6_faults_103 : decode cX6_faults 103 = .ok (.aload_n 0, 1) := by decide +kernel
theorem dX6_faults_104 : decode cX6_faults 104 = .ok (.getfield 74, 3) := by decide +kernel
theorem dX6_faults_107 : decode cX6_faults 107 = .ok (.iload_n 3, 1) := by decide +kernel
theorem dX6_faults_108 : decode cX6_faults 108 = .ok (.iaload, 1) := by decide +kernel
theorem dX6_faults_109 : decode cX6_faults 109 = .ok (.aload_n 0, 1) := by decide +kernel
theorem dX6_faults_110 : decode cX6_faults 110 = .ok (.getfield 74, 3) := by decide +kernel
theorem dX6_faults_113 : decode cX6_faults 113 = .ok (.iload_n 3, 1) := by decide +kernel
theorem dX6_faults_114 : decode cX6_faults 114 = .ok (.iconst 1, 1) := by decide +kernel
theorem dX6_faults_115 : decode cX6_faults 115 = .ok (.isub, 1) := by decide +kernel
theorem dX6_faults_116 : decode cX6_faults 116 = .ok (.iaload, 1) := by decide +kernel
theorem dX6_faults_117 : decode cX6_faults 117 = .ok (.isub, 1) := by decide +kernel
theorem dX6_faults_118 : decode cX6_faults 118 = .ok (.istore 5, 2) := by decide +kernel
theorem dX6_faults_120 : decode cX6_faults 120 = .ok (.iload 4, 2) := by decide +kernel
theorem dX6_faults_122 : decode cX6_faults 122 = .ok (.ifCond .eq 7, 3) := by decide +kernel
theorem dX6_faults_125 : decode cX6_faults 125 = .ok (.iconst 1, 1) := by decide +kernel
theorem dX6_faults_126 : decode cX6_faults 126 = .ok (.goto 4, 3) := by decide +kernel
theorem dX6_faults_129 : decode cX6_faults 129 = .ok (.iconst 0, 1) := by decide +kernel
theorem dX6_faults_130 : decode cX6_faults 130 = .ok (.aload_n 0, 1) := by decide +kernel
theorem dX6_faults_131 : decode cX6_faults 131 = .ok (.getfield 65, 3) := by decide +kernel
theorem dX6_faults_134 : decode cX6_faults 134 = .ok (.iload_n 3, 1) := by decide +kernel
theorem dX6_faults_135 : decode cX6_faults 135 = .ok (.iaload, 1) := by decide +kernel
theorem dX6_faults_136 : decode cX6_faults 136 = .ok (.aload_n 0, 1) := by decide +kernel
theorem dX6_faults_137 : decode cX6_faults 137 = .ok (.iload_n 1, 1) := by decide +kernel
theorem dX6_faults_138 : decode cX6_faults 138 = .ok (.iload_n 2, 1) := by decide +kernel
theorem dX6_faults_139 : decode cX6_faults 139 = .ok (.invokevirtual 157, 3) := by decide +kernel
theorem dX6_faults_142 : decode cX6_faults 142 = .ok (.if_icmp .eq 7, 3) := by decide +kernel
theorem dX6_faults_145 : decode cX6_faults 145 = .ok (.iconst 2, 1) := by decide +kernel
theorem dX6_faults_146 : decode cX6_faults 146 = .ok (.goto 4, 3) := by decide +kernel
theorem dX6_faults_149 : decode cX6_faults 149 = .ok (.iconst 0, 1) := by decide +kernel
theorem dX6_faults_150 : decode cX6_faults 150 = .ok (.iadd, 1) := by decide +kernel
theorem dX6_faults_151 : decode cX6_faults 151 = .ok (.aload_n 0, 1) := by decide +kernel
theorem dX6_faults_152 : decode cX6_faults 152 = .ok (.getfield 77, 3) := by decide +kernel
theorem dX6_faults_155 : decode cX6_faults 155 = .ok (.iload_n 3, 1) := by decide +kernel
theorem dX6_faults_156 : decode cX6_faults 156 = .ok (.iaload, 1) := by decide +kernel
theorem dX6_faults_157 : decode cX6_faults 157 = .ok (.ifCond .eq 7, 3) := by decide +kernel
theorem dX6_faults_160 : decode cX6_faults 160 = .ok (.iconst 4, 1) := by decide +kernel
theorem dX6_faults_161 : decode cX6_faults 161 = .ok (.goto 4, 3) := by decide +kernel
theorem dX6_faults_164 : decode cX6_faults 164 = .ok (.iconst 0, 1) := by decide +kernel
theorem dX6_faults_165 : decode cX6_faults 165 = .ok (.iadd, 1) := by decide +kernel
theorem dX6_faults_166 : decode cX6_faults 166 = .ok (.istore 6, 2) := by decide +kernel
theorem dX6_faults_168 : decode cX6_faults 168 = .ok (.iload 6, 2) := by decide +kernel
theorem dX6_faults_170 : decode cX6_faults 170 = .ok (.iload 5, 2) := by decide +kernel
theorem dX6_faults_172 : decode cX6_faults 172 = .ok (.bipush 20, 2) := by decide +kernel
theorem dX6_faults_174 : decode cX6_faults 174 = .ok (.if_icmp .gt 10, 3) := by decide +kernel
theorem dX6_faults_177 : decode cX6_faults 177 = .ok (.iload 5, 2) := by decide +kernel
theorem dX6_faults_179 : decode cX6_faults 179 = .ok (.bipush (-20), 2) := by decide +kernel
theorem dX6_faults_181 : decode cX6_faults 181 = .ok (.if_icmp .ge 8, 3) := by decide +kernel
theorem dX6_faults_184 : decode cX6_faults 184 = .ok (.bipush 8, 2) := by decide +kernel
theorem dX6_faults_186 : decode cX6_faults 186 = .ok (.goto 4, 3) := by decide +kernel
theorem dX6_faults_189 : decode cX6_faults 189 = .ok (.iconst 0, 1) := by decide +kernel
theorem dX6_faults_190 : decode cX6_faults 190 = .ok (.iadd, 1) := by decide +kernel
theorem dX6_faults_191 : decode cX6_faults 191 = .ok (.aload_n 0, 1) := by decide +kernel
theorem dX6_faults_192 : decode cX6_faults 192 = .ok (.getfield 71, 3) := by decide +kernel
theorem dX6_faults_195 : decode cX6_faults 195 = .ok (.iload_n 3, 1) := by decide +kernel
theorem dX6_faults_196 : decode cX6_faults 196 = .ok (.iaload, 1) := by decide +kernel
theorem dX6_faults_197 : decode cX6_faults 197 = .ok (.aload_n 0, 1) := by decide +kernel
theorem dX6_faults_198 : decode cX6_faults 198 = .ok (.iload_n 1, 1) := by decide +kernel
theorem dX6_faults_199 : decode cX6_faults 199 = .ok (.iload_n 2, 1) := by decide +kernel
theorem dX6_faults_200 : decode cX6_faults 200 = .ok (.invokevirtual 148, 3) := by decide +kernel
theorem dX6_faults_203 : decode cX6_faults 203 = .ok (.if_icmp .eq 8, 3) := by decide +kernel
theorem dX6_faults_206 : decode cX6_faults 206 = .ok (.bipush 16, 2) := by decide +kernel
theorem dX6_faults_208 : decode cX6_faults 208 = .ok (.goto 4, 3) := by decide +kernel
theorem dX6_faults_211 : decode cX6_faults 211 = .ok (.iconst 0, 1) := by decide +kernel
theorem dX6_faults_212 : decode cX6_faults 212 = .ok (.iadd, 1) := by decide +kernel
theorem dX6_faults_213 : decode cX6_faults 213 = .ok (.ireturn, 1) := by decide +kernel
theorem dX6_ofJoint_0 : decode cX6_ofJoint 0 = .ok (.aload_n 0, 1) := by decide +kernel
theorem dX6_ofJoint_1 : decode cX6_ofJoint 1 = .ok (.aload_n 0, 1) := by decide +kernel
theorem dX6_ofJoint_2 : decode cX6_ofJoint 2 = .ok (.iload_n 1, 1) := by decide +kernel
theorem dX6_ofJoint_3 : decode cX6_ofJoint 3 = .ok (.iload_n 2, 1) := by decide +kernel
theorem dX6_ofJoint_4 : decode cX6_ofJoint 4 = .ok (.invokevirtual 135, 3) := by decide +kernel
theorem dX6_ofJoint_7 : decode cX6_ofJoint 7 = .ok (.ifCond .ne 7, 3) := by decide +kernel
theorem dX6_ofJoint_10 : decode cX6_ofJoint 10 = .ok (.iconst 1, 1) := by decide +kernel
theorem dX6_ofJoint_11 : decode cX6_ofJoint 11 = .ok (.goto 17, 3) := by decide +kernel
theorem dX6_ofJoint_14 : decode cX6_ofJoint 14 = .ok (.iload_n 3, 1) := by decide +kernel
theorem dX6_ofJoint_15 : decode cX6_ofJoint 15 = .ok (.iconst 0, 1) := by decide +kernel
theorem dX6_ofJoint_16 : decode cX6_ofJoint 16 = .ok (.iconst 1, 1) := by decide +kernel
theorem dX6_ofJoint_17 : decode cX6_ofJoint 17 = .ok (.invokestatic 91, 3) := by decide +kernel
theorem dX6_ofJoint_20 : decode cX6_ofJoint 20 = .ok (.ifCond .eq 7, 3) := by decide +kernel
theorem dX6_ofJoint_23 : decode cX6_ofJoint 23 = .ok (.iconst 0, 1) := by decide +kernel
theorem dX6_ofJoint_24 : decode cX6_ofJoint 24 = .ok (.goto 4, 3) := by decide +kernel
theorem dX6_ofJoint_27 : decode cX6_ofJoint 27 = .ok (.iconst 2, 1) := by decide +kernel
theorem dX6_ofJoint_28 : decode cX6_ofJoint 28 = .ok (.invokevirtual 108, 3) := by decide +kernel
theorem dX6_ofJoint_31 : decode cX6_ofJoint 31 = .ok (.ifCond .eq 5, 3) := by decide +kernel
theorem dX6_ofJoint_34 : decode cX6_ofJoint 34 = .ok (.iconst 0, 1) := by decide +kernel
theorem dX6_ofJoint_35 : decode cX6_ofJoint 35 = .ok (.ireturn, 1) := by decide +kernel
theorem dX6_ofJoint_36 : decode cX6_ofJoint 36 = .ok (.iload_n 3, 1) := by decide +kernel
theorem dX6_ofJoint_37 : decode cX6_ofJoint 37 = .ok (.ifCond .ne 17, 3) := by decide +kernel
theorem dX6_ofJoint_40 : decode cX6_ofJoint 40 = .ok (.aload_n 0, 1) := by decide +kernel
theorem dX6_ofJoint_41 : decode cX6_ofJoint 41 = .ok (.getfield 13, 3) := by decide +kernel
theorem dX6_ofJoint_44 : decode cX6_ofJoint 44 = .ok (.bipush 6, 2) := by decide +kernel
theorem dX6_ofJoint_46 : decode cX6_ofJoint 46 = .ok (.iload_n 1, 1) := by decide +kernel
theorem dX6_ofJoint_47 : decode cX6_ofJoint 47 = .ok (.imul, 1) := by decide +kernel
theorem dX6_ofJoint_48 : decode cX6_ofJoint 48 = .ok (.iload_n 2, 1) := by decide +kernel
theorem dX6_ofJoint_49 : decode cX6_ofJoint 49 = .ok (.iadd, 1) := by decide +kernel
theorem dX6_ofJoint_50 : decode cX6_ofJoint 50 = .ok (.iaload, 1) := by decide +kernel
theorem dX6_ofJoint_51 : decode cX6_ofJoint 51 = .ok (.goto 14, 3) := by decide +kernel
theorem dX6_ofJoint_54 : decode cX6_ofJoint 54 = .ok (.aload_n 0, 1) := by decide +kernel
theorem dX6_ofJoint_55 : decode cX6_ofJoint 55 = .ok (.getfield 16, 3) := by decide +kernel
theorem dX6_ofJoint_58 : decode cX6_ofJoint 58 = .ok (.bipush 6, 2) := by decide +kernel
theorem dX6_ofJoint_60 : decode cX6_ofJoint 60 = .ok (.iload_n 1, 1) := by decide +kernel
theorem dX6_ofJoint_61 : decode cX6_ofJoint 61 = .ok (.imul, 1) := by decide +kernel
theorem dX6_ofJoint_62 : decode cX6_ofJoint 62 = .ok (.iload_n 2, 1) := by decide +kernel
theorem dX6_ofJoint_63 : decode cX6_ofJoint 63 = .ok (.iadd, 1) := by decide +kernel
theorem dX6_ofJoint_64 : decode cX6_ofJoint 64 = .ok (.iaload, 1) := by decide +kernel
theorem dX6_ofJoint_65 : decode cX6_ofJoint 65 = .ok (.ireturn, 1) := by decide +kernel
theorem dX6_left_0 : decode cX6_left 0 = .ok (.aload_n 0, 1) := by decide +kernel
theorem dX6_left_1 : decode cX6_left 1 = .ok (.aload_n 0, 1) := by decide +kernel
theorem dX6_left_2 : decode cX6_left 2 = .ok (.iload_n 1, 1) := by decide +kernel
theorem dX6_left_3 : decode cX6_left 3 = .ok (.invokevirtual 95, 3) := by decide +kernel
theorem dX6_left_6 : decode cX6_left 6 = .ok (.ifCond .ne 7, 3) := by decide +kernel
theorem dX6_left_9 : decode cX6_left 9 = .ok (.iconst 1, 1) := by decide +kernel
theorem dX6_left_10 : decode cX6_left 10 = .ok (.goto 15, 3) := by decide +kernel
theorem dX6_left_13 : decode cX6_left 13 = .ok (.iload_n 2, 1) := by decide +kernel
theorem dX6_left_14 : decode cX6_left 14 = .ok (.invokestatic 111, 3) := by decide +kernel
theorem dX6_left_17 : decode cX6_left 17 = .ok (.ifCond .eq 7, 3) := by decide +kernel
theorem dX6_left_20 : decode cX6_left 20 = .ok (.iconst 0, 1) := by decide +kernel
theorem dX6_left_21 : decode cX6_left 21 = .ok (.goto 4, 3) := by decide +kernel
theorem dX6_left_24 : decode cX6_left 24 = .ok (.iconst 2, 1) := by decide +kernel
theorem dX6_left_25 : decode cX6_left 25 = .ok (.invokevirtual 108, 3) := by decide +kernel
theorem dX6_left_28 : decode cX6_left 28 = .ok (.ifCond .eq 7, 3) := by decide +kernel
theorem dX6_left_31 : decode cX6_left 31 = .ok (.iconst 0, 1) := by decide +kernel
theorem dX6_left_32 : decode cX6_left 32 = .ok (.goto 14, 3) := by decide +kernel
theorem dX6_left_35 : decode cX6_left 35 = .ok (.aload_n 0, 1) := by decide +kernel
theorem dX6_left_36 : decode cX6_left 36 = .ok (.getfield 19, 3) := by decide +kernel
theorem dX6_left_39 : decode cX6_left 39 = .ok (.bipush 10, 2) := by decide +kernel
theorem dX6_left_41 : decode cX6_left 41 = .ok (.iload_n 1, 1) := by decide +kernel
theorem dX6_left_42 : decode cX6_left 42 = .ok (.imul, 1) := by decide +kernel
theorem dX6_left_43 : decode cX6_left 43 = .ok (.iload_n 2, 1) := by decide +kernel
theorem dX6_left_44 : decode cX6_left 44 = .ok (.iadd, 1) := by decide +kernel
theorem dX6_left_45 : decode cX6_left 45 = .ok (.iaload, 1) := by decide +kernel
theorem dX6_left_46 : decode cX6_left 46 = .ok (.ireturn, 1) := by decide +kernel
theorem dX6_light_0 : decode cX6_light 0 = .ok (.aload_n 0, 1) := by decide +kernel
theorem dX6_light_1 : decode cX6_light 1 = .ok (.iconst 0, 1) := by decide +kernel
theorem dX6_light_2 : decode cX6_light 2 = .ok (.putfield 84, 3) := by decide +kernel
theorem dX6_light_5 : decode cX6_light 5 = .ok (.aload_n 0, 1) := by decide +kernel
theorem dX6_light_6 : decode cX6_light 6 = .ok (.invokevirtual 186, 3) := by decide +kernel
theorem dX6_light_9 : decode cX6_light 9 = .ok (.ireturn, 1) := by decide +kernel
theorem dX6_film_0 : decode cX6_film 0 = .ok (.aload_n 0, 1) := by decide +kernel
theorem dX6_film_1 : decode cX6_film 1 = .ok (.iload_n 1, 1) := by decide +kernel
theorem dX6_film_2 : decode cX6_film 2 = .ok (.ifCond .lt 7, 3) := by decide +kernel
theorem dX6_film_5 : decode cX6_film 5 = .ok (.iconst 0, 1) := by decide +kernel
theorem dX6_film_6 : decode cX6_film 6 = .ok (.goto 4, 3) := by decide +kernel
theorem dX6_film_9 : decode cX6_film 9 = .ok (.iconst 1, 1) := by decide +kernel
theorem dX6_film_10 : decode cX6_film 10 = .ok (.invokevirtual 108, 3) := by decide +kernel
theorem dX6_film_13 : decode cX6_film 13 = .ok (.ifCond .eq 5, 3) := by decide +kernel
theorem dX6_film_16 : decode cX6_film 16 = .ok (.iconst 0, 1) := by decide +kernel
theorem dX6_film_17 : decode cX6_film 17 = .ok (.ireturn, 1) := by decide +kernel
theorem dX6_film_18 : decode cX6_film 18 = .ok (.iload_n 1, 1) := by decide +kernel
theorem dX6_film_19 : decode cX6_film 19 = .ok (.istore_n 2, 1) := by decide +kernel
theorem dX6_film_20 : decode cX6_film 20 = .ok (.iconst 0, 1) := by decide +kernel
theorem dX6_film_21 : decode cX6_film 21 = .ok (.istore_n 3, 1) := by decide +kernel
theorem dX6_film_22 : decode cX6_film 22 = .ok (.iload_n 3, 1) := by decide +kernel
theorem dX6_film_23 : decode cX6_film 23 = .ok (.aload_n 0, 1) := by decide +kernel
theorem dX6_film_24 : decode cX6_film 24 = .ok (.getfield 190, 3) := by decide +kernel
theorem dX6_film_27 : decode cX6_film 27 = .ok (.if_icmp .ge 50, 3) := by decide +kernel
theorem dX6_film_30 : decode cX6_film 30 = .ok (.iload_n 2, 1) := by decide +kernel
theorem dX6_film_31 : decode cX6_film 31 = .ok (.aload_n 0, 1) := by decide +kernel
theorem dX6_film_32 : decode cX6_film 32 = .ok (.getfield 34, 3) := by decide +kernel
theorem dX6_film_35 : decode cX6_film 35 = .ok (.aload_n 0, 1) := by decide +kernel
theorem dX6_film_36 : decode cX6_film 36 = .ok (.getfield 80, 3) := by decide +kernel
theorem dX6_film_39 : decode cX6_film 39 = .ok (.iload_n 3, 1) := by decide +kernel
theorem dX6_film_40 : decode cX6_film 40 = .ok (.iaload, 1) := by decide +kernel
theorem dX6_film_41 : decode cX6_film 41 = .ok (.iaload, 1) := by decide +kernel
theorem dX6_film_42 : decode cX6_film 42 = .ok (.if_icmp .ge 15, 3) := by decide +kernel
theorem dX6_film_45 : decode cX6_film 45 = .ok (.bipush 100, 2) := by decide +kernel
theorem dX6_film_47 : decode cX6_film 47 = .ok (.aload_n 0, 1) := by decide +kernel
theorem dX6_film_48 : decode cX6_film 48 = .ok (.getfield 80, 3) := by decide +kernel
theorem dX6_film_51 : decode cX6_film 51 = .ok (.iload_n 3, 1) := by decide +kernel
theorem dX6_film_52 : decode cX6_film 52 = .ok (.iaload, 1) := by decide +kernel
theorem dX6_film_53 : decode cX6_film 53 = .ok (.imul, 1) := by decide +kernel
theorem dX6_film_54 : decode cX6_film 54 = .ok (.iload_n 2, 1) := by decide +kernel
theorem dX6_film_55 : decode cX6_film 55 = .ok (.iadd, 1) := by decide +kernel
theorem dX6_film_56 : decode cX6_film 56 = .ok (.ireturn, 1) := by decide +kernel
theorem dX6_film_57 : decode cX6_film 57 = .ok (.iload_n 2, 1) := by decide +kernel
theorem dX6_film_58 : decode cX6_film 58 = .ok (.aload_n 0, 1) := by decide +kernel
theorem dX6_film_59 : decode cX6_film 59 = .ok (.getfield 34, 3) := by decide +kernel
theorem dX6_film_62 : decode cX6_film 62 = .ok (.aload_n 0, 1) := by decide +kernel
theorem dX6_film_63 : decode cX6_film 63 = .ok (.getfield 80, 3) := by decide +kernel
theorem dX6_film_66 : decode cX6_film 66 = .ok (.iload_n 3, 1) := by decide +kernel
theorem dX6_film_67 : decode cX6_film 67 = .ok (.iaload, 1) := by decide +kernel
theorem dX6_film_68 : decode cX6_film 68 = .ok (.iaload, 1) := by decide +kernel
theorem dX6_film_69 : decode cX6_film 69 = .ok (.isub, 1) := by decide +kernel
theorem dX6_film_70 : decode cX6_film 70 = .ok (.istore_n 2, 1) := by decide +kernel
theorem dX6_film_71 : decode cX6_film 71 = .ok (.iinc 3 1, 3) := by decide +kernel
theorem dX6_film_74 : decode cX6_film 74 = .ok (.goto (-52), 3) := by decide +kernel
theorem dX6_film_77 : decode cX6_film 77 = .ok (.iconst (-1), 1) := by decide +kernel
theorem dX6_film_78 : decode cX6_film 78 = .ok (.ireturn, 1) := by decide +kernel
theorem dJ6_compare_7cf53_0 : decode cJ6_compare_7cf53 0 = .ok (.iload_n 0, 1) := by decide +kernel
theorem dJ6_compare_7cf53_1 : decode cJ6_compare_7cf53 1 = .ok (.iload_n 1, 1) := by decide +kernel
theorem dJ6_compare_7cf53_2 : decode cJ6_compare_7cf53 2 = .ok (.if_icmp .ge 7, 3) := by decide +kernel
theorem dJ6_compare_7cf53_5 : decode cJ6_compare_7cf53 5 = .ok (.iconst (-1), 1) := by decide +kernel
theorem dJ6_compare_7cf53_6 : decode cJ6_compare_7cf53 6 = .ok (.goto 13, 3) := by decide +kernel
theorem dJ6_compare_7cf53_9 : decode cJ6_compare_7cf53 9 = .ok (.iload_n 0, 1) := by decide +kernel
theorem dJ6_compare_7cf53_10 : decode cJ6_compare_7cf53 10 = .ok (.iload_n 1, 1) := by decide +kernel
theorem dJ6_compare_7cf53_11 : decode cJ6_compare_7cf53 11 = .ok (.if_icmp .ne 7, 3) := by decide +kernel
theorem dJ6_compare_7cf53_14 : decode cJ6_compare_7cf53 14 = .ok (.iconst 0, 1) := by decide +kernel
theorem dJ6_compare_7cf53_15 : decode cJ6_compare_7cf53 15 = .ok (.goto 4, 3) := by decide +kernel
theorem dJ6_compare_7cf53_18 : decode cJ6_compare_7cf53 18 = .ok (.iconst 1, 1) := by decide +kernel
theorem dJ6_compare_7cf53_19 : decode cJ6_compare_7cf53 19 = .ok (.ireturn, 1) := by decide +kernel
theorem dJ9_floorMod_7cf53_0 : decode cJ9_floorMod_7cf53 0 = .ok (.iload_n 0, 1) := by decide +kernel
theorem dJ9_floorMod_7cf53_1 : decode cJ9_floorMod_7cf53 1 = .ok (.iload_n 1, 1) := by decide +kernel
theorem dJ9_floorMod_7cf53_2 : decode cJ9_floorMod_7cf53 2 = .ok (.irem, 1) := by decide +kernel
theorem dJ9_floorMod_7cf53_3 : decode cJ9_floorMod_7cf53 3 = .ok (.istore_n 2, 1) := by decide +kernel
theorem dJ9_floorMod_7cf53_4 : decode cJ9_floorMod_7cf53 4 = .ok (.iload_n 0, 1) := by decide +kernel
theorem dJ9_floorMod_7cf53_5 : decode cJ9_floorMod_7cf53 5 = .ok (.iload_n 1, 1) := by decide +kernel
theorem dJ9_floorMod_7cf53_6 : decode cJ9_floorMod_7cf53 6 = .ok (.ixor, 1) := by decide +kernel
theorem dJ9_floorMod_7cf53_7 : decode cJ9_floorMod_7cf53 7 = .ok (.ifCond .ge 11, 3) := by decide +kernel
theorem dJ9_floorMod_7cf53_10 : decode cJ9_floorMod_7cf53 10 = .ok (.iload_n 2, 1) := by decide +kernel
theorem dJ9_floorMod_7cf53_11 : decode cJ9_floorMod_7cf53 11 = .ok (.ifCond .eq 7, 3) := by decide +kernel
theorem dJ9_floorMod_7cf53_14 : decode cJ9_floorMod_7cf53 14 = .ok (.iload_n 2, 1) := by decide +kernel
theorem dJ9_floorMod_7cf53_15 : decode cJ9_floorMod_7cf53 15 = .ok (.iload_n 1, 1) := by decide +kernel
theorem dJ9_floorMod_7cf53_16 : decode cJ9_floorMod_7cf53 16 = .ok (.iadd, 1) := by decide +kernel
theorem dJ9_floorMod_7cf53_17 : decode cJ9_floorMod_7cf53 17 = .ok (.ireturn, 1) := by decide +kernel
theorem dJ9_floorMod_7cf53_18 : decode cJ9_floorMod_7cf53 18 = .ok (.iload_n 2, 1) := by decide +kernel
theorem dJ9_floorMod_7cf53_19 : decode cJ9_floorMod_7cf53 19 = .ok (.ireturn, 1) := by decide +kernel
theorem dJ9_abs_0f7a4_0 : decode cJ9_abs_0f7a4 0 = .ok (.iload_n 0, 1) := by decide +kernel
theorem dJ9_abs_0f7a4_1 : decode cJ9_abs_0f7a4 1 = .ok (.ifCond .ge 8, 3) := by decide +kernel
theorem dJ9_abs_0f7a4_4 : decode cJ9_abs_0f7a4 4 = .ok (.iload_n 0, 1) := by decide +kernel
theorem dJ9_abs_0f7a4_5 : decode cJ9_abs_0f7a4 5 = .ok (.ineg, 1) := by decide +kernel
theorem dJ9_abs_0f7a4_6 : decode cJ9_abs_0f7a4 6 = .ok (.goto 4, 3) := by decide +kernel
theorem dJ9_abs_0f7a4_9 : decode cJ9_abs_0f7a4 9 = .ok (.iload_n 0, 1) := by decide +kernel
theorem dJ9_abs_0f7a4_10 : decode cJ9_abs_0f7a4 10 = .ok (.ireturn, 1) := by decide +kernel
theorem dJ9_max_7cf53_0 : decode cJ9_max_7cf53 0 = .ok (.iload_n 0, 1) := by decide +kernel
theorem dJ9_max_7cf53_1 : decode cJ9_max_7cf53 1 = .ok (.iload_n 1, 1) := by decide +kernel
theorem dJ9_max_7cf53_2 : decode cJ9_max_7cf53 2 = .ok (.if_icmp .lt 7, 3) := by decide +kernel
theorem dJ9_max_7cf53_5 : decode cJ9_max_7cf53 5 = .ok (.iload_n 0, 1) := by decide +kernel
theorem dJ9_max_7cf53_6 : decode cJ9_max_7cf53 6 = .ok (.goto 4, 3) := by decide +kernel
theorem dJ9_max_7cf53_9 : decode cJ9_max_7cf53 9 = .ok (.iload_n 1, 1) := by decide +kernel
theorem dJ9_max_7cf53_10 : decode cJ9_max_7cf53 10 = .ok (.ireturn, 1) := by decide +kernel
theorem dL_puppet_0 : decode cL_puppet 0 = .ok (.aload_n 2, 1) := by decide +kernel
theorem dL_puppet_1 : decode cL_puppet 1 = .ok (.iconst 0, 1) := by decide +kernel
theorem dL_puppet_2 : decode cL_puppet 2 = .ok (.aload_n 0, 1) := by decide +kernel
theorem dL_puppet_3 : decode cL_puppet 3 = .ok (.iload_n 1, 1) := by decide +kernel
theorem dL_puppet_4 : decode cL_puppet 4 = .ok (.invokevirtual 7, 3) := by decide +kernel
theorem dL_puppet_7 : decode cL_puppet 7 = .ok (.i2l, 1) := by decide +kernel
theorem dL_puppet_8 : decode cL_puppet 8 = .ok (.lastore, 1) := by decide +kernel
theorem dL_puppet_9 : decode cL_puppet 9 = .ok (.goto 9, 3) := by decide +kernel
theorem dL_puppet_12 : decode cL_puppet 12 = .ok (.astore_n 3, 1) := by decide +kernel
theorem dL_puppet_13 : decode cL_puppet 13 = .ok (.iconst 1, 1) := by decide +kernel
theorem dL_puppet_14 : decode cL_puppet 14 = .ok (.ireturn, 1) := by decide +kernel
theorem dL_puppet_15 : decode cL_puppet 15 = .ok (.astore_n 3, 1) := by decide +kernel
theorem dL_puppet_16 : decode cL_puppet 16 = .ok (.iconst 2, 1) := by decide +kernel
theorem dL_puppet_17 : decode cL_puppet 17 = .ok (.ireturn, 1) := by decide +kernel
theorem dL_puppet_18 : decode cL_puppet 18 = .ok (.iconst 0, 1) := by decide +kernel
theorem dL_puppet_19 : decode cL_puppet 19 = .ok (.ireturn, 1) := by decide +kernel
theorem dL_mouths_0 : decode cL_mouths 0 = .ok (.aload 4, 2) := by decide +kernel
theorem dL_mouths_2 : decode cL_mouths 2 = .ok (.iconst 0, 1) := by decide +kernel
theorem dL_mouths_3 : decode cL_mouths 3 = .ok (.aload_n 0, 1) := by decide +kernel
theorem dL_mouths_4 : decode cL_mouths 4 = .ok (.iload_n 1, 1) := by decide +kernel
theorem dL_mouths_5 : decode cL_mouths 5 = .ok (.iload_n 2, 1) := by decide +kernel
theorem dL_mouths_6 : decode cL_mouths 6 = .ok (.iload_n 3, 1) := by decide +kernel
theorem dL_mouths_7 : decode cL_mouths 7 = .ok (.invokevirtual 17, 3) := by decide +kernel
theorem dL_mouths_10 : decode cL_mouths 10 = .ok (.i2l, 1) := by decide +kernel
theorem dL_mouths_11 : decode cL_mouths 11 = .ok (.lastore, 1) := by decide +kernel
theorem dL_mouths_12 : decode cL_mouths 12 = .ok (.goto 15, 3) := by decide +kernel
theorem dL_mouths_15 : decode cL_mouths 15 = .ok (.astore 5, 2) := by decide +kernel
theorem dL_mouths_17 : decode cL_mouths 17 = .ok (.iconst 1, 1) := by decide +kernel
theorem dL_mouths_18 : decode cL_mouths 18 = .ok (.ireturn, 1) := by decide +kernel
theorem dL_mouths_19 : decode cL_mouths 19 = .ok (.astore 5, 2) := by decide +kernel
theorem dL_mouths_21 : decode cL_mouths 21 = .ok (.iconst 2, 1) := by decide +kernel
theorem dL_mouths_22 : decode cL_mouths 22 = .ok (.ireturn, 1) := by decide +kernel
theorem dL_mouths_23 : decode cL_mouths 23 = .ok (.astore 5, 2) := by decide +kernel
theorem dL_mouths_25 : decode cL_mouths 25 = .ok (.iconst 3, 1) := by decide +kernel
theorem dL_mouths_26 : decode cL_mouths 26 = .ok (.ireturn, 1) := by decide +kernel
theorem dL_mouths_27 : decode cL_mouths 27 = .ok (.iconst 0, 1) := by decide +kernel
theorem dL_mouths_28 : decode cL_mouths 28 = .ok (.ireturn, 1) := by decide +kernel
theorem dL_sound_0 : decode cL_sound 0 = .ok (.aload_n 3, 1) := by decide +kernel
theorem dL_sound_1 : decode cL_sound 1 = .ok (.iconst 0, 1) := by decide +kernel
theorem dL_sound_2 : decode cL_sound 2 = .ok (.aload_n 0, 1) := by decide +kernel
theorem dL_sound_3 : decode cL_sound 3 = .ok (.iload_n 1, 1) := by decide +kernel
theorem dL_sound_4 : decode cL_sound 4 = .ok (.iload_n 2, 1) := by decide +kernel
theorem dL_sound_5 : decode cL_sound 5 = .ok (.invokevirtual 23, 3) := by decide +kernel
theorem dL_sound_8 : decode cL_sound 8 = .ok (.i2l, 1) := by decide +kernel
theorem dL_sound_9 : decode cL_sound 9 = .ok (.lastore, 1) := by decide +kernel
theorem dL_sound_10 : decode cL_sound 10 = .ok (.goto 11, 3) := by decide +kernel
theorem dL_sound_13 : decode cL_sound 13 = .ok (.astore 4, 2) := by decide +kernel
theorem dL_sound_15 : decode cL_sound 15 = .ok (.iconst 1, 1) := by decide +kernel
theorem dL_sound_16 : decode cL_sound 16 = .ok (.ireturn, 1) := by decide +kernel
theorem dL_sound_17 : decode cL_sound 17 = .ok (.astore 4, 2) := by decide +kernel
theorem dL_sound_19 : decode cL_sound 19 = .ok (.iconst 2, 1) := by decide +kernel
theorem dL_sound_20 : decode cL_sound 20 = .ok (.ireturn, 1) := by decide +kernel
theorem dL_sound_21 : decode cL_sound 21 = .ok (.iconst 0, 1) := by decide +kernel
theorem dL_sound_22 : decode cL_sound 22 = .ok (.ireturn, 1) := by decide +kernel
theorem dL_voice_0 : decode cL_voice 0 = .ok (.aload_n 1, 1) := by decide +kernel
theorem dL_voice_1 : decode cL_voice 1 = .ok (.iconst 0, 1) := by decide +kernel
theorem dL_voice_2 : decode cL_voice 2 = .ok (.aload_n 0, 1) := by decide +kernel
theorem dL_voice_3 : decode cL_voice 3 = .ok (.invokevirtual 27, 3) := by decide +kernel
theorem dL_voice_6 : decode cL_voice 6 = .ok (.i2l, 1) := by decide +kernel
theorem dL_voice_7 : decode cL_voice 7 = .ok (.lastore, 1) := by decide +kernel
theorem dL_voice_8 : decode cL_voice 8 = .ok (.goto 6, 3) := by decide +kernel
theorem dL_voice_11 : decode cL_voice 11 = .ok (.astore_n 2, 1) := by decide +kernel
theorem dL_voice_12 : decode cL_voice 12 = .ok (.iconst 1, 1) := by decide +kernel
theorem dL_voice_13 : decode cL_voice 13 = .ok (.ireturn, 1) := by decide +kernel
theorem dL_voice_14 : decode cL_voice 14 = .ok (.iconst 0, 1) := by decide +kernel
theorem dL_voice_15 : decode cL_voice 15 = .ok (.ireturn, 1) := by decide +kernel
theorem dL_shot_0 : decode cL_shot 0 = .ok (.aload 5, 2) := by decide +kernel
theorem dL_shot_2 : decode cL_shot 2 = .ok (.iconst 0, 1) := by decide +kernel
theorem dL_shot_3 : decode cL_shot 3 = .ok (.aload_n 0, 1) := by decide +kernel
theorem dL_shot_4 : decode cL_shot 4 = .ok (.iload_n 1, 1) := by decide +kernel
theorem dL_shot_5 : decode cL_shot 5 = .ok (.iload_n 2, 1) := by decide +kernel
theorem dL_shot_6 : decode cL_shot 6 = .ok (.iload_n 3, 1) := by decide +kernel
theorem dL_shot_7 : decode cL_shot 7 = .ok (.iload 4, 2) := by decide +kernel
theorem dL_shot_9 : decode cL_shot 9 = .ok (.invokevirtual 31, 3) := by decide +kernel
theorem dL_shot_12 : decode cL_shot 12 = .ok (.i2l, 1) := by decide +kernel
theorem dL_shot_13 : decode cL_shot 13 = .ok (.lastore, 1) := by decide +kernel
theorem dL_shot_14 : decode cL_shot 14 = .ok (.goto 15, 3) := by decide +kernel
theorem dL_shot_17 : decode cL_shot 17 = .ok (.astore 6, 2) := by decide +kernel
theorem dL_shot_19 : decode cL_shot 19 = .ok (.iconst 1, 1) := by decide +kernel
theorem dL_shot_20 : decode cL_shot 20 = .ok (.ireturn, 1) := by decide +kernel
theorem dL_shot_21 : decode cL_shot 21 = .ok (.astore 6, 2) := by decide +kernel
theorem dL_shot_23 : decode cL_shot 23 = .ok (.iconst 2, 1) := by decide +kernel
theorem dL_shot_24 : decode cL_shot 24 = .ok (.ireturn, 1) := by decide +kernel
theorem dL_shot_25 : decode cL_shot 25 = .ok (.astore 6, 2) := by decide +kernel
theorem dL_shot_27 : decode cL_shot 27 = .ok (.iconst 3, 1) := by decide +kernel
theorem dL_shot_28 : decode cL_shot 28 = .ok (.ireturn, 1) := by decide +kernel
theorem dL_shot_29 : decode cL_shot 29 = .ok (.iconst 0, 1) := by decide +kernel
theorem dL_shot_30 : decode cL_shot 30 = .ok (.ireturn, 1) := by decide +kernel
theorem dL_assign_0 : decode cL_assign 0 = .ok (.aload_n 3, 1) := by decide +kernel
theorem dL_assign_1 : decode cL_assign 1 = .ok (.iconst 0, 1) := by decide +kernel
theorem dL_assign_2 : decode cL_assign 2 = .ok (.aload_n 0, 1) := by decide +kernel
theorem dL_assign_3 : decode cL_assign 3 = .ok (.iload_n 1, 1) := by decide +kernel
theorem dL_assign_4 : decode cL_assign 4 = .ok (.iload_n 2, 1) := by decide +kernel
theorem dL_assign_5 : decode cL_assign 5 = .ok (.invokevirtual 35, 3) := by decide +kernel
theorem dL_assign_8 : decode cL_assign 8 = .ok (.i2l, 1) := by decide +kernel
theorem dL_assign_9 : decode cL_assign 9 = .ok (.lastore, 1) := by decide +kernel
theorem dL_assign_10 : decode cL_assign 10 = .ok (.goto 11, 3) := by decide +kernel
theorem dL_assign_13 : decode cL_assign 13 = .ok (.astore 4, 2) := by decide +kernel
theorem dL_assign_15 : decode cL_assign 15 = .ok (.iconst 1, 1) := by decide +kernel
theorem dL_assign_16 : decode cL_assign 16 = .ok (.ireturn, 1) := by decide +kernel
theorem dL_assign_17 : decode cL_assign 17 = .ok (.astore 4, 2) := by decide +kernel
theorem dL_assign_19 : decode cL_assign 19 = .ok (.iconst 2, 1) := by decide +kernel
theorem dL_assign_20 : decode cL_assign 20 = .ok (.ireturn, 1) := by decide +kernel
theorem dL_assign_21 : decode cL_assign 21 = .ok (.iconst 0, 1) := by decide +kernel
theorem dL_assign_22 : decode cL_assign 22 = .ok (.ireturn, 1) := by decide +kernel
theorem dL_ill_0 : decode cL_ill 0 = .ok (.aload_n 3, 1) := by decide +kernel
theorem dL_ill_1 : decode cL_ill 1 = .ok (.iconst 0, 1) := by decide +kernel
theorem dL_ill_2 : decode cL_ill 2 = .ok (.aload_n 0, 1) := by decide +kernel
theorem dL_ill_3 : decode cL_ill 3 = .ok (.iload_n 1, 1) := by decide +kernel
theorem dL_ill_4 : decode cL_ill 4 = .ok (.iload_n 2, 1) := by decide +kernel
theorem dL_ill_5 : decode cL_ill 5 = .ok (.invokevirtual 38, 3) := by decide +kernel
theorem dL_ill_8 : decode cL_ill 8 = .ok (.ifCond .eq 7, 3) := by decide +kernel
theorem dL_ill_11 : decode cL_ill 11 = .ok (.lconst 1, 1) := by decide +kernel
theorem dL_ill_12 : decode cL_ill 12 = .ok (.goto 4, 3) := by decide +kernel
theorem dL_ill_15 : decode cL_ill 15 = .ok (.lconst 0, 1) := by decide +kernel
theorem dL_ill_16 : decode cL_ill 16 = .ok (.lastore, 1) := by decide +kernel
theorem dL_ill_17 : decode cL_ill 17 = .ok (.goto 7, 3) := by decide +kernel
theorem dL_ill_20 : decode cL_ill 20 = .ok (.astore 4, 2) := by decide +kernel
theorem dL_ill_22 : decode cL_ill 22 = .ok (.iconst 1, 1) := by decide +kernel
theorem dL_ill_23 : decode cL_ill 23 = .ok (.ireturn, 1) := by decide +kernel
theorem dL_ill_24 : decode cL_ill 24 = .ok (.iconst 0, 1) := by decide +kernel
theorem dL_ill_25 : decode cL_ill 25 = .ok (.ireturn, 1) := by decide +kernel
theorem dL_dub_0 : decode cL_dub 0 = .ok (.aload_n 3, 1) := by decide +kernel
theorem dL_dub_1 : decode cL_dub 1 = .ok (.iconst 0, 1) := by decide +kernel
theorem dL_dub_2 : decode cL_dub 2 = .ok (.aload_n 0, 1) := by decide +kernel
theorem dL_dub_3 : decode cL_dub 3 = .ok (.iload_n 1, 1) := by decide +kernel
theorem dL_dub_4 : decode cL_dub 4 = .ok (.iload_n 2, 1) := by decide +kernel
theorem dL_dub_5 : decode cL_dub 5 = .ok (.invokevirtual 42, 3) := by decide +kernel
theorem dL_dub_8 : decode cL_dub 8 = .ok (.i2l, 1) := by decide +kernel
theorem dL_dub_9 : decode cL_dub 9 = .ok (.lastore, 1) := by decide +kernel
theorem dL_dub_10 : decode cL_dub 10 = .ok (.goto 7, 3) := by decide +kernel
theorem dL_dub_13 : decode cL_dub 13 = .ok (.astore 4, 2) := by decide +kernel
theorem dL_dub_15 : decode cL_dub 15 = .ok (.iconst 1, 1) := by decide +kernel
theorem dL_dub_16 : decode cL_dub 16 = .ok (.ireturn, 1) := by decide +kernel
theorem dL_dub_17 : decode cL_dub 17 = .ok (.iconst 0, 1) := by decide +kernel
theorem dL_dub_18 : decode cL_dub 18 = .ok (.ireturn, 1) := by decide +kernel
theorem dL_key_0 : decode cL_key 0 = .ok (.aload 5, 2) := by decide +kernel
theorem dL_key_2 : decode cL_key 2 = .ok (.iconst 0, 1) := by decide +kernel
theorem dL_key_3 : decode cL_key 3 = .ok (.aload_n 0, 1) := by decide +kernel
theorem dL_key_4 : decode cL_key 4 = .ok (.iload_n 1, 1) := by decide +kernel
theorem dL_key_5 : decode cL_key 5 = .ok (.iload_n 2, 1) := by decide +kernel
theorem dL_key_6 : decode cL_key 6 = .ok (.iload_n 3, 1) := by decide +kernel
theorem dL_key_7 : decode cL_key 7 = .ok (.iload 4, 2) := by decide +kernel
theorem dL_key_9 : decode cL_key 9 = .ok (.invokevirtual 45, 3) := by decide +kernel
theorem dL_key_12 : decode cL_key 12 = .ok (.i2l, 1) := by decide +kernel
theorem dL_key_13 : decode cL_key 13 = .ok (.lastore, 1) := by decide +kernel
theorem dL_key_14 : decode cL_key 14 = .ok (.goto 15, 3) := by decide +kernel
theorem dL_key_17 : decode cL_key 17 = .ok (.astore 6, 2) := by decide +kernel
theorem dL_key_19 : decode cL_key 19 = .ok (.iconst 1, 1) := by decide +kernel
theorem dL_key_20 : decode cL_key 20 = .ok (.ireturn, 1) := by decide +kernel
theorem dL_key_21 : decode cL_key 21 = .ok (.astore 6, 2) := by decide +kernel
theorem dL_key_23 : decode cL_key 23 = .ok (.iconst 2, 1) := by decide +kernel
theorem dL_key_24 : decode cL_key 24 = .ok (.ireturn, 1) := by decide +kernel
theorem dL_key_25 : decode cL_key 25 = .ok (.astore 6, 2) := by decide +kernel
theorem dL_key_27 : decode cL_key 27 = .ok (.iconst 3, 1) := by decide +kernel
theorem dL_key_28 : decode cL_key 28 = .ok (.ireturn, 1) := by decide +kernel
theorem dL_key_29 : decode cL_key 29 = .ok (.iconst 0, 1) := by decide +kernel
theorem dL_key_30 : decode cL_key 30 = .ok (.ireturn, 1) := by decide +kernel
theorem dL_camera_0 : decode cL_camera 0 = .ok (.aload 4, 2) := by decide +kernel
theorem dL_camera_2 : decode cL_camera 2 = .ok (.iconst 0, 1) := by decide +kernel
theorem dL_camera_3 : decode cL_camera 3 = .ok (.aload_n 0, 1) := by decide +kernel
theorem dL_camera_4 : decode cL_camera 4 = .ok (.iload_n 1, 1) := by decide +kernel
theorem dL_camera_5 : decode cL_camera 5 = .ok (.iload_n 2, 1) := by decide +kernel
theorem dL_camera_6 : decode cL_camera 6 = .ok (.iload_n 3, 1) := by decide +kernel
theorem dL_camera_7 : decode cL_camera 7 = .ok (.invokevirtual 48, 3) := by decide +kernel
theorem dL_camera_10 : decode cL_camera 10 = .ok (.i2l, 1) := by decide +kernel
theorem dL_camera_11 : decode cL_camera 11 = .ok (.lastore, 1) := by decide +kernel
theorem dL_camera_12 : decode cL_camera 12 = .ok (.goto 15, 3) := by decide +kernel
theorem dL_camera_15 : decode cL_camera 15 = .ok (.astore 5, 2) := by decide +kernel
theorem dL_camera_17 : decode cL_camera 17 = .ok (.iconst 1, 1) := by decide +kernel
theorem dL_camera_18 : decode cL_camera 18 = .ok (.ireturn, 1) := by decide +kernel
theorem dL_camera_19 : decode cL_camera 19 = .ok (.astore 5, 2) := by decide +kernel
theorem dL_camera_21 : decode cL_camera 21 = .ok (.iconst 2, 1) := by decide +kernel
theorem dL_camera_22 : decode cL_camera 22 = .ok (.ireturn, 1) := by decide +kernel
theorem dL_camera_23 : decode cL_camera 23 = .ok (.astore 5, 2) := by decide +kernel
theorem dL_camera_25 : decode cL_camera 25 = .ok (.iconst 3, 1) := by decide +kernel
theorem dL_camera_26 : decode cL_camera 26 = .ok (.ireturn, 1) := by decide +kernel
theorem dL_camera_27 : decode cL_camera 27 = .ok (.iconst 0, 1) := by decide +kernel
theorem dL_camera_28 : decode cL_camera 28 = .ok (.ireturn, 1) := by decide +kernel
theorem dL_play_0 : decode cL_play 0 = .ok (.aload_n 2, 1) := by decide +kernel
theorem dL_play_1 : decode cL_play 1 = .ok (.iconst 0, 1) := by decide +kernel
theorem dL_play_2 : decode cL_play 2 = .ok (.aload_n 0, 1) := by decide +kernel
theorem dL_play_3 : decode cL_play 3 = .ok (.iload_n 1, 1) := by decide +kernel
theorem dL_play_4 : decode cL_play 4 = .ok (.invokevirtual 51, 3) := by decide +kernel
theorem dL_play_7 : decode cL_play 7 = .ok (.i2l, 1) := by decide +kernel
theorem dL_play_8 : decode cL_play 8 = .ok (.lastore, 1) := by decide +kernel
theorem dL_play_9 : decode cL_play 9 = .ok (.goto 6, 3) := by decide +kernel
theorem dL_play_12 : decode cL_play 12 = .ok (.astore_n 3, 1) := by decide +kernel
theorem dL_play_13 : decode cL_play 13 = .ok (.iconst 1, 1) := by decide +kernel
theorem dL_play_14 : decode cL_play 14 = .ok (.ireturn, 1) := by decide +kernel
theorem dL_play_15 : decode cL_play 15 = .ok (.iconst 0, 1) := by decide +kernel
theorem dL_play_16 : decode cL_play 16 = .ok (.ireturn, 1) := by decide +kernel
theorem dL_strike_0 : decode cL_strike 0 = .ok (.aload_n 2, 1) := by decide +kernel
theorem dL_strike_1 : decode cL_strike 1 = .ok (.iconst 0, 1) := by decide +kernel
theorem dL_strike_2 : decode cL_strike 2 = .ok (.aload_n 0, 1) := by decide +kernel
theorem dL_strike_3 : decode cL_strike 3 = .ok (.iload_n 1, 1) := by decide +kernel
theorem dL_strike_4 : decode cL_strike 4 = .ok (.invokevirtual 54, 3) := by decide +kernel
theorem dL_strike_7 : decode cL_strike 7 = .ok (.i2l, 1) := by decide +kernel
theorem dL_strike_8 : decode cL_strike 8 = .ok (.lastore, 1) := by decide +kernel
theorem dL_strike_9 : decode cL_strike 9 = .ok (.goto 9, 3) := by decide +kernel
theorem dL_strike_12 : decode cL_strike 12 = .ok (.astore_n 3, 1) := by decide +kernel
theorem dL_strike_13 : decode cL_strike 13 = .ok (.iconst 1, 1) := by decide +kernel
theorem dL_strike_14 : decode cL_strike 14 = .ok (.ireturn, 1) := by decide +kernel
theorem dL_strike_15 : decode cL_strike 15 = .ok (.astore_n 3, 1) := by decide +kernel
theorem dL_strike_16 : decode cL_strike 16 = .ok (.iconst 2, 1) := by decide +kernel
theorem dL_strike_17 : decode cL_strike 17 = .ok (.ireturn, 1) := by decide +kernel
theorem dL_strike_18 : decode cL_strike 18 = .ok (.iconst 0, 1) := by decide +kernel
theorem dL_strike_19 : decode cL_strike 19 = .ok (.ireturn, 1) := by decide +kernel
theorem dL_bump_0 : decode cL_bump 0 = .ok (.aload_n 3, 1) := by decide +kernel
theorem dL_bump_1 : decode cL_bump 1 = .ok (.iconst 0, 1) := by decide +kernel
theorem dL_bump_2 : decode cL_bump 2 = .ok (.aload_n 0, 1) := by decide +kernel
theorem dL_bump_3 : decode cL_bump 3 = .ok (.iload_n 1, 1) := by decide +kernel
theorem dL_bump_4 : decode cL_bump 4 = .ok (.iload_n 2, 1) := by decide +kernel
theorem dL_bump_5 : decode cL_bump 5 = .ok (.invokevirtual 57, 3) := by decide +kernel
theorem dL_bump_8 : decode cL_bump 8 = .ok (.i2l, 1) := by decide +kernel
theorem dL_bump_9 : decode cL_bump 9 = .ok (.lastore, 1) := by decide +kernel
theorem dL_bump_10 : decode cL_bump 10 = .ok (.goto 15, 3) := by decide +kernel
theorem dL_bump_13 : decode cL_bump 13 = .ok (.astore 4, 2) := by decide +kernel
theorem dL_bump_15 : decode cL_bump 15 = .ok (.iconst 1, 1) := by decide +kernel
theorem dL_bump_16 : decode cL_bump 16 = .ok (.ireturn, 1) := by decide +kernel
theorem dL_bump_17 : decode cL_bump 17 = .ok (.astore 4, 2) := by decide +kernel
theorem dL_bump_19 : decode cL_bump 19 = .ok (.iconst 2, 1) := by decide +kernel
theorem dL_bump_20 : decode cL_bump 20 = .ok (.ireturn, 1) := by decide +kernel
theorem dL_bump_21 : decode cL_bump 21 = .ok (.astore 4, 2) := by decide +kernel
theorem dL_bump_23 : decode cL_bump 23 = .ok (.iconst 3, 1) := by decide +kernel
theorem dL_bump_24 : decode cL_bump 24 = .ok (.ireturn, 1) := by decide +kernel
theorem dL_bump_25 : decode cL_bump 25 = .ok (.iconst 0, 1) := by decide +kernel
theorem dL_bump_26 : decode cL_bump 26 = .ok (.ireturn, 1) := by decide +kernel
theorem dL_level_0 : decode cL_level 0 = .ok (.aload_n 2, 1) := by decide +kernel
theorem dL_level_1 : decode cL_level 1 = .ok (.iconst 0, 1) := by decide +kernel
theorem dL_level_2 : decode cL_level 2 = .ok (.aload_n 0, 1) := by decide +kernel
theorem dL_level_3 : decode cL_level 3 = .ok (.iload_n 1, 1) := by decide +kernel
theorem dL_level_4 : decode cL_level 4 = .ok (.invokevirtual 60, 3) := by decide +kernel
theorem dL_level_7 : decode cL_level 7 = .ok (.i2l, 1) := by decide +kernel
theorem dL_level_8 : decode cL_level 8 = .ok (.lastore, 1) := by decide +kernel
theorem dL_level_9 : decode cL_level 9 = .ok (.goto 6, 3) := by decide +kernel
theorem dL_level_12 : decode cL_level 12 = .ok (.astore_n 3, 1) := by decide +kernel
theorem dL_level_13 : decode cL_level 13 = .ok (.iconst 1, 1) := by decide +kernel
theorem dL_level_14 : decode cL_level 14 = .ok (.ireturn, 1) := by decide +kernel
theorem dL_level_15 : decode cL_level 15 = .ok (.iconst 0, 1) := by decide +kernel
theorem dL_level_16 : decode cL_level 16 = .ok (.ireturn, 1) := by decide +kernel
theorem dL_anew_0 : decode cL_anew 0 = .ok (.aload_n 3, 1) := by decide +kernel
theorem dL_anew_1 : decode cL_anew 1 = .ok (.iconst 0, 1) := by decide +kernel
theorem dL_anew_2 : decode cL_anew 2 = .ok (.aload_n 0, 1) := by decide +kernel
theorem dL_anew_3 : decode cL_anew 3 = .ok (.iload_n 1, 1) := by decide +kernel
theorem dL_anew_4 : decode cL_anew 4 = .ok (.iload_n 2, 1) := by decide +kernel
theorem dL_anew_5 : decode cL_anew 5 = .ok (.invokevirtual 63, 3) := by decide +kernel
theorem dL_anew_8 : decode cL_anew 8 = .ok (.i2l, 1) := by decide +kernel
theorem dL_anew_9 : decode cL_anew 9 = .ok (.lastore, 1) := by decide +kernel
theorem dL_anew_10 : decode cL_anew 10 = .ok (.goto 11, 3) := by decide +kernel
theorem dL_anew_13 : decode cL_anew 13 = .ok (.astore 4, 2) := by decide +kernel
theorem dL_anew_15 : decode cL_anew 15 = .ok (.iconst 1, 1) := by decide +kernel
theorem dL_anew_16 : decode cL_anew 16 = .ok (.ireturn, 1) := by decide +kernel
theorem dL_anew_17 : decode cL_anew 17 = .ok (.astore 4, 2) := by decide +kernel
theorem dL_anew_19 : decode cL_anew 19 = .ok (.iconst 2, 1) := by decide +kernel
theorem dL_anew_20 : decode cL_anew 20 = .ok (.ireturn, 1) := by decide +kernel
theorem dL_anew_21 : decode cL_anew 21 = .ok (.iconst 0, 1) := by decide +kernel
theorem dL_anew_22 : decode cL_anew 22 = .ok (.ireturn, 1) := by decide +kernel
theorem dL_mend_0 : decode cL_mend 0 = .ok (.aload_n 3, 1) := by decide +kernel
theorem dL_mend_1 : decode cL_mend 1 = .ok (.iconst 0, 1) := by decide +kernel
theorem dL_mend_2 : decode cL_mend 2 = .ok (.aload_n 0, 1) := by decide +kernel
theorem dL_mend_3 : decode cL_mend 3 = .ok (.iload_n 1, 1) := by decide +kernel
theorem dL_mend_4 : decode cL_mend 4 = .ok (.iload_n 2, 1) := by decide +kernel
theorem dL_mend_5 : decode cL_mend 5 = .ok (.invokevirtual 66, 3) := by decide +kernel
theorem dL_mend_8 : decode cL_mend 8 = .ok (.i2l, 1) := by decide +kernel
theorem dL_mend_9 : decode cL_mend 9 = .ok (.lastore, 1) := by decide +kernel
theorem dL_mend_10 : decode cL_mend 10 = .ok (.goto 7, 3) := by decide +kernel
theorem dL_mend_13 : decode cL_mend 13 = .ok (.astore 4, 2) := by decide +kernel
theorem dL_mend_15 : decode cL_mend 15 = .ok (.iconst 1, 1) := by decide +kernel
theorem dL_mend_16 : decode cL_mend 16 = .ok (.ireturn, 1) := by decide +kernel
theorem dL_mend_17 : decode cL_mend 17 = .ok (.iconst 0, 1) := by decide +kernel
theorem dL_mend_18 : decode cL_mend 18 = .ok (.ireturn, 1) := by decide +kernel
theorem dL_cut_0 : decode cL_cut 0 = .ok (.aload_n 2, 1) := by decide +kernel
theorem dL_cut_1 : decode cL_cut 1 = .ok (.iconst 0, 1) := by decide +kernel
theorem dL_cut_2 : decode cL_cut 2 = .ok (.aload_n 0, 1) := by decide +kernel
theorem dL_cut_3 : decode cL_cut 3 = .ok (.iload_n 1, 1) := by decide +kernel
theorem dL_cut_4 : decode cL_cut 4 = .ok (.invokevirtual 69, 3) := by decide +kernel
theorem dL_cut_7 : decode cL_cut 7 = .ok (.i2l, 1) := by decide +kernel
theorem dL_cut_8 : decode cL_cut 8 = .ok (.lastore, 1) := by decide +kernel
theorem dL_cut_9 : decode cL_cut 9 = .ok (.goto 9, 3) := by decide +kernel
theorem dL_cut_12 : decode cL_cut 12 = .ok (.astore_n 3, 1) := by decide +kernel
theorem dL_cut_13 : decode cL_cut 13 = .ok (.iconst 1, 1) := by decide +kernel
theorem dL_cut_14 : decode cL_cut 14 = .ok (.ireturn, 1) := by decide +kernel
theorem dL_cut_15 : decode cL_cut 15 = .ok (.astore_n 3, 1) := by decide +kernel
theorem dL_cut_16 : decode cL_cut 16 = .ok (.iconst 2, 1) := by decide +kernel
theorem dL_cut_17 : decode cL_cut 17 = .ok (.ireturn, 1) := by decide +kernel
theorem dL_cut_18 : decode cL_cut 18 = .ok (.iconst 0, 1) := by decide +kernel
theorem dL_cut_19 : decode cL_cut 19 = .ok (.ireturn, 1) := by decide +kernel
theorem dL_cutOut_0 : decode cL_cutOut 0 = .ok (.aload_n 2, 1) := by decide +kernel
end
section
theorem dL_cutOut_1 : decode cL_cutOut 1 = .ok (.iconst 0, 1) := by decide +kernel
theorem dL_cutOut_2 : decode cL_cutOut 2 = .ok (.aload_n 0, 1) := by decide +kernel
theorem dL_cutOut_3 : decode cL_cutOut 3 = .ok (.iload_n 1, 1) := by decide +kernel
theorem dL_cutOut_4 : decode cL_cutOut 4 = .ok (.invokevirtual 72, 3) := by decide +kernel
theorem dL_cutOut_7 : decode cL_cutOut 7 = .ok (.i2l, 1) := by decide +kernel
theorem dL_cutOut_8 : decode cL_cutOut 8 = .ok (.lastore, 1) := by decide +kernel
theorem dL_cutOut_9 : decode cL_cutOut 9 = .ok (.goto 9, 3) := by decide +kernel
theorem dL_cutOut_12 : decode cL_cutOut 12 = .ok (.astore_n 3, 1) := by decide +kernel
theorem dL_cutOut_13 : decode cL_cutOut 13 = .ok (.iconst 1, 1) := by decide +kernel
theorem dL_cutOut_14 : decode cL_cutOut 14 = .ok (.ireturn, 1) := by decide +kernel
theorem dL_cutOut_15 : decode cL_cutOut 15 = .ok (.astore_n 3, 1) := by decide +kernel
theorem dL_cutOut_16 : decode cL_cutOut 16 = .ok (.iconst 2, 1) := by decide +kernel
theorem dL_cutOut_17 : decode cL_cutOut 17 = .ok (.ireturn, 1) := by decide +kernel
theorem dL_cutOut_18 : decode cL_cutOut 18 = .ok (.iconst 0, 1) := by decide +kernel
theorem dL_cutOut_19 : decode cL_cutOut 19 = .ok (.ireturn, 1) := by decide +kernel
theorem dL_degree_0 : decode cL_degree 0 = .ok (.aload 4, 2) := by decide +kernel
theorem dL_degree_2 : decode cL_degree 2 = .ok (.iconst 0, 1) := by decide +kernel
theorem dL_degree_3 : decode cL_degree 3 = .ok (.aload_n 0, 1) := by decide +kernel
theorem dL_degree_4 : decode cL_degree 4 = .ok (.iload_n 1, 1) := by decide +kernel
theorem dL_degree_5 : decode cL_degree 5 = .ok (.iload_n 2, 1) := by decide +kernel
theorem dL_degree_6 : decode cL_degree 6 = .ok (.iload_n 3, 1) := by decide +kernel
theorem dL_degree_7 : decode cL_degree 7 = .ok (.invokevirtual 75, 3) := by decide +kernel
theorem dL_degree_10 : decode cL_degree 10 = .ok (.i2l, 1) := by decide +kernel
theorem dL_degree_11 : decode cL_degree 11 = .ok (.lastore, 1) := by decide +kernel
theorem dL_degree_12 : decode cL_degree 12 = .ok (.goto 7, 3) := by decide +kernel
theorem dL_degree_15 : decode cL_degree 15 = .ok (.astore 5, 2) := by decide +kernel
theorem dL_degree_17 : decode cL_degree 17 = .ok (.iconst 1, 1) := by decide +kernel
theorem dL_degree_18 : decode cL_degree 18 = .ok (.ireturn, 1) := by decide +kernel
theorem dL_degree_19 : decode cL_degree 19 = .ok (.iconst 0, 1) := by decide +kernel
theorem dL_degree_20 : decode cL_degree 20 = .ok (.ireturn, 1) := by decide +kernel
theorem dL_mouth_0 : decode cL_mouth 0 = .ok (.aload_n 3, 1) := by decide +kernel
theorem dL_mouth_1 : decode cL_mouth 1 = .ok (.iconst 0, 1) := by decide +kernel
theorem dL_mouth_2 : decode cL_mouth 2 = .ok (.aload_n 0, 1) := by decide +kernel
theorem dL_mouth_3 : decode cL_mouth 3 = .ok (.iload_n 1, 1) := by decide +kernel
theorem dL_mouth_4 : decode cL_mouth 4 = .ok (.iload_n 2, 1) := by decide +kernel
theorem dL_mouth_5 : decode cL_mouth 5 = .ok (.invokevirtual 78, 3) := by decide +kernel
theorem dL_mouth_8 : decode cL_mouth 8 = .ok (.i2l, 1) := by decide +kernel
theorem dL_mouth_9 : decode cL_mouth 9 = .ok (.lastore, 1) := by decide +kernel
theorem dL_mouth_10 : decode cL_mouth 10 = .ok (.goto 7, 3) := by decide +kernel
theorem dL_mouth_13 : decode cL_mouth 13 = .ok (.astore 4, 2) := by decide +kernel
theorem dL_mouth_15 : decode cL_mouth 15 = .ok (.iconst 1, 1) := by decide +kernel
theorem dL_mouth_16 : decode cL_mouth 16 = .ok (.ireturn, 1) := by decide +kernel
theorem dL_mouth_17 : decode cL_mouth 17 = .ok (.iconst 0, 1) := by decide +kernel
theorem dL_mouth_18 : decode cL_mouth 18 = .ok (.ireturn, 1) := by decide +kernel
theorem dL_place_0 : decode cL_place 0 = .ok (.aload_n 3, 1) := by decide +kernel
theorem dL_place_1 : decode cL_place 1 = .ok (.iconst 0, 1) := by decide +kernel
theorem dL_place_2 : decode cL_place 2 = .ok (.aload_n 0, 1) := by decide +kernel
theorem dL_place_3 : decode cL_place 3 = .ok (.iload_n 1, 1) := by decide +kernel
theorem dL_place_4 : decode cL_place 4 = .ok (.iload_n 2, 1) := by decide +kernel
theorem dL_place_5 : decode cL_place 5 = .ok (.invokevirtual 81, 3) := by decide +kernel
theorem dL_place_8 : decode cL_place 8 = .ok (.i2l, 1) := by decide +kernel
theorem dL_place_9 : decode cL_place 9 = .ok (.lastore, 1) := by decide +kernel
theorem dL_place_10 : decode cL_place 10 = .ok (.goto 7, 3) := by decide +kernel
theorem dL_place_13 : decode cL_place 13 = .ok (.astore 4, 2) := by decide +kernel
theorem dL_place_15 : decode cL_place 15 = .ok (.iconst 1, 1) := by decide +kernel
theorem dL_place_16 : decode cL_place 16 = .ok (.ireturn, 1) := by decide +kernel
theorem dL_place_17 : decode cL_place 17 = .ok (.iconst 0, 1) := by decide +kernel
theorem dL_place_18 : decode cL_place 18 = .ok (.ireturn, 1) := by decide +kernel
theorem dL_wants_0 : decode cL_wants 0 = .ok (.aload_n 3, 1) := by decide +kernel
theorem dL_wants_1 : decode cL_wants 1 = .ok (.iconst 0, 1) := by decide +kernel
theorem dL_wants_2 : decode cL_wants 2 = .ok (.aload_n 0, 1) := by decide +kernel
theorem dL_wants_3 : decode cL_wants 3 = .ok (.iload_n 1, 1) := by decide +kernel
theorem dL_wants_4 : decode cL_wants 4 = .ok (.iload_n 2, 1) := by decide +kernel
theorem dL_wants_5 : decode cL_wants 5 = .ok (.invokevirtual 84, 3) := by decide +kernel
theorem dL_wants_8 : decode cL_wants 8 = .ok (.i2l, 1) := by decide +kernel
theorem dL_wants_9 : decode cL_wants 9 = .ok (.lastore, 1) := by decide +kernel
theorem dL_wants_10 : decode cL_wants 10 = .ok (.goto 11, 3) := by decide +kernel
theorem dL_wants_13 : decode cL_wants 13 = .ok (.astore 4, 2) := by decide +kernel
theorem dL_wants_15 : decode cL_wants 15 = .ok (.iconst 1, 1) := by decide +kernel
theorem dL_wants_16 : decode cL_wants 16 = .ok (.ireturn, 1) := by decide +kernel
theorem dL_wants_17 : decode cL_wants 17 = .ok (.astore 4, 2) := by decide +kernel
theorem dL_wants_19 : decode cL_wants 19 = .ok (.iconst 2, 1) := by decide +kernel
theorem dL_wants_20 : decode cL_wants 20 = .ok (.ireturn, 1) := by decide +kernel
theorem dL_wants_21 : decode cL_wants 21 = .ok (.iconst 0, 1) := by decide +kernel
theorem dL_wants_22 : decode cL_wants 22 = .ok (.ireturn, 1) := by decide +kernel
theorem dL_bars_0 : decode cL_bars 0 = .ok (.aload_n 2, 1) := by decide +kernel
theorem dL_bars_1 : decode cL_bars 1 = .ok (.iconst 0, 1) := by decide +kernel
theorem dL_bars_2 : decode cL_bars 2 = .ok (.aload_n 0, 1) := by decide +kernel
theorem dL_bars_3 : decode cL_bars 3 = .ok (.iload_n 1, 1) := by decide +kernel
theorem dL_bars_4 : decode cL_bars 4 = .ok (.invokevirtual 87, 3) := by decide +kernel
theorem dL_bars_7 : decode cL_bars 7 = .ok (.i2l, 1) := by decide +kernel
theorem dL_bars_8 : decode cL_bars 8 = .ok (.lastore, 1) := by decide +kernel
theorem dL_bars_9 : decode cL_bars 9 = .ok (.goto 6, 3) := by decide +kernel
theorem dL_bars_12 : decode cL_bars 12 = .ok (.astore_n 3, 1) := by decide +kernel
theorem dL_bars_13 : decode cL_bars 13 = .ok (.iconst 1, 1) := by decide +kernel
theorem dL_bars_14 : decode cL_bars 14 = .ok (.ireturn, 1) := by decide +kernel
theorem dL_bars_15 : decode cL_bars 15 = .ok (.iconst 0, 1) := by decide +kernel
theorem dL_bars_16 : decode cL_bars 16 = .ok (.ireturn, 1) := by decide +kernel
theorem dL_wears_0 : decode cL_wears 0 = .ok (.aload_n 3, 1) := by decide +kernel
theorem dL_wears_1 : decode cL_wears 1 = .ok (.iconst 0, 1) := by decide +kernel
theorem dL_wears_2 : decode cL_wears 2 = .ok (.aload_n 0, 1) := by decide +kernel
theorem dL_wears_3 : decode cL_wears 3 = .ok (.iload_n 1, 1) := by decide +kernel
theorem dL_wears_4 : decode cL_wears 4 = .ok (.iload_n 2, 1) := by decide +kernel
theorem dL_wears_5 : decode cL_wears 5 = .ok (.invokevirtual 90, 3) := by decide +kernel
theorem dL_wears_8 : decode cL_wears 8 = .ok (.i2l, 1) := by decide +kernel
theorem dL_wears_9 : decode cL_wears 9 = .ok (.lastore, 1) := by decide +kernel
theorem dL_wears_10 : decode cL_wears 10 = .ok (.goto 7, 3) := by decide +kernel
theorem dL_wears_13 : decode cL_wears 13 = .ok (.astore 4, 2) := by decide +kernel
theorem dL_wears_15 : decode cL_wears 15 = .ok (.iconst 1, 1) := by decide +kernel
theorem dL_wears_16 : decode cL_wears 16 = .ok (.ireturn, 1) := by decide +kernel
theorem dL_wears_17 : decode cL_wears 17 = .ok (.iconst 0, 1) := by decide +kernel
theorem dL_wears_18 : decode cL_wears 18 = .ok (.ireturn, 1) := by decide +kernel
theorem dL_struck_0 : decode cL_struck 0 = .ok (.aload_n 2, 1) := by decide +kernel
theorem dL_struck_1 : decode cL_struck 1 = .ok (.iconst 0, 1) := by decide +kernel
theorem dL_struck_2 : decode cL_struck 2 = .ok (.aload_n 0, 1) := by decide +kernel
theorem dL_struck_3 : decode cL_struck 3 = .ok (.iload_n 1, 1) := by decide +kernel
theorem dL_struck_4 : decode cL_struck 4 = .ok (.invokevirtual 93, 3) := by decide +kernel
theorem dL_struck_7 : decode cL_struck 7 = .ok (.i2l, 1) := by decide +kernel
theorem dL_struck_8 : decode cL_struck 8 = .ok (.lastore, 1) := by decide +kernel
theorem dL_struck_9 : decode cL_struck 9 = .ok (.goto 6, 3) := by decide +kernel
theorem dL_struck_12 : decode cL_struck 12 = .ok (.astore_n 3, 1) := by decide +kernel
theorem dL_struck_13 : decode cL_struck 13 = .ok (.iconst 1, 1) := by decide +kernel
theorem dL_struck_14 : decode cL_struck 14 = .ok (.ireturn, 1) := by decide +kernel
theorem dL_struck_15 : decode cL_struck 15 = .ok (.iconst 0, 1) := by decide +kernel
theorem dL_struck_16 : decode cL_struck 16 = .ok (.ireturn, 1) := by decide +kernel
theorem dL_pose_0 : decode cL_pose 0 = .ok (.aload 4, 2) := by decide +kernel
theorem dL_pose_2 : decode cL_pose 2 = .ok (.iconst 0, 1) := by decide +kernel
theorem dL_pose_3 : decode cL_pose 3 = .ok (.aload_n 0, 1) := by decide +kernel
theorem dL_pose_4 : decode cL_pose 4 = .ok (.iload_n 1, 1) := by decide +kernel
theorem dL_pose_5 : decode cL_pose 5 = .ok (.iload_n 2, 1) := by decide +kernel
theorem dL_pose_6 : decode cL_pose 6 = .ok (.iload_n 3, 1) := by decide +kernel
theorem dL_pose_7 : decode cL_pose 7 = .ok (.invokevirtual 96, 3) := by decide +kernel
theorem dL_pose_10 : decode cL_pose 10 = .ok (.i2l, 1) := by decide +kernel
theorem dL_pose_11 : decode cL_pose 11 = .ok (.lastore, 1) := by decide +kernel
theorem dL_pose_12 : decode cL_pose 12 = .ok (.goto 7, 3) := by decide +kernel
theorem dL_pose_15 : decode cL_pose 15 = .ok (.astore 5, 2) := by decide +kernel
theorem dL_pose_17 : decode cL_pose 17 = .ok (.iconst 1, 1) := by decide +kernel
theorem dL_pose_18 : decode cL_pose 18 = .ok (.ireturn, 1) := by decide +kernel
theorem dL_pose_19 : decode cL_pose 19 = .ok (.iconst 0, 1) := by decide +kernel
theorem dL_pose_20 : decode cL_pose 20 = .ok (.ireturn, 1) := by decide +kernel
theorem dL_ofFrame_0 : decode cL_ofFrame 0 = .ok (.aload 4, 2) := by decide +kernel
theorem dL_ofFrame_2 : decode cL_ofFrame 2 = .ok (.iconst 0, 1) := by decide +kernel
theorem dL_ofFrame_3 : decode cL_ofFrame 3 = .ok (.aload_n 0, 1) := by decide +kernel
theorem dL_ofFrame_4 : decode cL_ofFrame 4 = .ok (.iload_n 1, 1) := by decide +kernel
theorem dL_ofFrame_5 : decode cL_ofFrame 5 = .ok (.iload_n 2, 1) := by decide +kernel
theorem dL_ofFrame_6 : decode cL_ofFrame 6 = .ok (.iload_n 3, 1) := by decide +kernel
theorem dL_ofFrame_7 : decode cL_ofFrame 7 = .ok (.invokevirtual 99, 3) := by decide +kernel
theorem dL_ofFrame_10 : decode cL_ofFrame 10 = .ok (.i2l, 1) := by decide +kernel
theorem dL_ofFrame_11 : decode cL_ofFrame 11 = .ok (.lastore, 1) := by decide +kernel
theorem dL_ofFrame_12 : decode cL_ofFrame 12 = .ok (.goto 11, 3) := by decide +kernel
theorem dL_ofFrame_15 : decode cL_ofFrame 15 = .ok (.astore 5, 2) := by decide +kernel
theorem dL_ofFrame_17 : decode cL_ofFrame 17 = .ok (.iconst 1, 1) := by decide +kernel
theorem dL_ofFrame_18 : decode cL_ofFrame 18 = .ok (.ireturn, 1) := by decide +kernel
theorem dL_ofFrame_19 : decode cL_ofFrame 19 = .ok (.astore 5, 2) := by decide +kernel
theorem dL_ofFrame_21 : decode cL_ofFrame 21 = .ok (.iconst 2, 1) := by decide +kernel
theorem dL_ofFrame_22 : decode cL_ofFrame 22 = .ok (.ireturn, 1) := by decide +kernel
theorem dL_ofFrame_23 : decode cL_ofFrame 23 = .ok (.iconst 0, 1) := by decide +kernel
theorem dL_ofFrame_24 : decode cL_ofFrame 24 = .ok (.ireturn, 1) := by decide +kernel
theorem dL_faults_0 : decode cL_faults 0 = .ok (.aload_n 3, 1) := by decide +kernel
theorem dL_faults_1 : decode cL_faults 1 = .ok (.iconst 0, 1) := by decide +kernel
theorem dL_faults_2 : decode cL_faults 2 = .ok (.aload_n 0, 1) := by decide +kernel
theorem dL_faults_3 : decode cL_faults 3 = .ok (.iload_n 1, 1) := by decide +kernel
theorem dL_faults_4 : decode cL_faults 4 = .ok (.iload_n 2, 1) := by decide +kernel
theorem dL_faults_5 : decode cL_faults 5 = .ok (.invokevirtual 102, 3) := by decide +kernel
theorem dL_faults_8 : decode cL_faults 8 = .ok (.i2l, 1) := by decide +kernel
theorem dL_faults_9 : decode cL_faults 9 = .ok (.lastore, 1) := by decide +kernel
theorem dL_faults_10 : decode cL_faults 10 = .ok (.goto 7, 3) := by decide +kernel
theorem dL_faults_13 : decode cL_faults 13 = .ok (.astore 4, 2) := by decide +kernel
theorem dL_faults_15 : decode cL_faults 15 = .ok (.iconst 1, 1) := by decide +kernel
theorem dL_faults_16 : decode cL_faults 16 = .ok (.ireturn, 1) := by decide +kernel
theorem dL_faults_17 : decode cL_faults 17 = .ok (.iconst 0, 1) := by decide +kernel
theorem dL_faults_18 : decode cL_faults 18 = .ok (.ireturn, 1) := by decide +kernel
theorem dL_ofJoint_0 : decode cL_ofJoint 0 = .ok (.aload 4, 2) := by decide +kernel
theorem dL_ofJoint_2 : decode cL_ofJoint 2 = .ok (.iconst 0, 1) := by decide +kernel
theorem dL_ofJoint_3 : decode cL_ofJoint 3 = .ok (.aload_n 0, 1) := by decide +kernel
theorem dL_ofJoint_4 : decode cL_ofJoint 4 = .ok (.iload_n 1, 1) := by decide +kernel
theorem dL_ofJoint_5 : decode cL_ofJoint 5 = .ok (.iload_n 2, 1) := by decide +kernel
theorem dL_ofJoint_6 : decode cL_ofJoint 6 = .ok (.iload_n 3, 1) := by decide +kernel
theorem dL_ofJoint_7 : decode cL_ofJoint 7 = .ok (.invokevirtual 105, 3) := by decide +kernel
theorem dL_ofJoint_10 : decode cL_ofJoint 10 = .ok (.i2l, 1) := by decide +kernel
theorem dL_ofJoint_11 : decode cL_ofJoint 11 = .ok (.lastore, 1) := by decide +kernel
theorem dL_ofJoint_12 : decode cL_ofJoint 12 = .ok (.goto 11, 3) := by decide +kernel
theorem dL_ofJoint_15 : decode cL_ofJoint 15 = .ok (.astore 5, 2) := by decide +kernel
theorem dL_ofJoint_17 : decode cL_ofJoint 17 = .ok (.iconst 1, 1) := by decide +kernel
theorem dL_ofJoint_18 : decode cL_ofJoint 18 = .ok (.ireturn, 1) := by decide +kernel
theorem dL_ofJoint_19 : decode cL_ofJoint 19 = .ok (.astore 5, 2) := by decide +kernel
theorem dL_ofJoint_21 : decode cL_ofJoint 21 = .ok (.iconst 2, 1) := by decide +kernel
theorem dL_ofJoint_22 : decode cL_ofJoint 22 = .ok (.ireturn, 1) := by decide +kernel
theorem dL_ofJoint_23 : decode cL_ofJoint 23 = .ok (.iconst 0, 1) := by decide +kernel
theorem dL_ofJoint_24 : decode cL_ofJoint 24 = .ok (.ireturn, 1) := by decide +kernel
theorem dL_left_0 : decode cL_left 0 = .ok (.aload_n 3, 1) := by decide +kernel
theorem dL_left_1 : decode cL_left 1 = .ok (.iconst 0, 1) := by decide +kernel
theorem dL_left_2 : decode cL_left 2 = .ok (.aload_n 0, 1) := by decide +kernel
theorem dL_left_3 : decode cL_left 3 = .ok (.iload_n 1, 1) := by decide +kernel
theorem dL_left_4 : decode cL_left 4 = .ok (.iload_n 2, 1) := by decide +kernel
theorem dL_left_5 : decode cL_left 5 = .ok (.invokevirtual 108, 3) := by decide +kernel
theorem dL_left_8 : decode cL_left 8 = .ok (.i2l, 1) := by decide +kernel
theorem dL_left_9 : decode cL_left 9 = .ok (.lastore, 1) := by decide +kernel
theorem dL_left_10 : decode cL_left 10 = .ok (.goto 11, 3) := by decide +kernel
theorem dL_left_13 : decode cL_left 13 = .ok (.astore 4, 2) := by decide +kernel
theorem dL_left_15 : decode cL_left 15 = .ok (.iconst 1, 1) := by decide +kernel
theorem dL_left_16 : decode cL_left 16 = .ok (.ireturn, 1) := by decide +kernel
theorem dL_left_17 : decode cL_left 17 = .ok (.astore 4, 2) := by decide +kernel
theorem dL_left_19 : decode cL_left 19 = .ok (.iconst 2, 1) := by decide +kernel
theorem dL_left_20 : decode cL_left 20 = .ok (.ireturn, 1) := by decide +kernel
theorem dL_left_21 : decode cL_left 21 = .ok (.iconst 0, 1) := by decide +kernel
theorem dL_left_22 : decode cL_left 22 = .ok (.ireturn, 1) := by decide +kernel
theorem dL_film_0 : decode cL_film 0 = .ok (.aload_n 2, 1) := by decide +kernel
theorem dL_film_1 : decode cL_film 1 = .ok (.iconst 0, 1) := by decide +kernel
theorem dL_film_2 : decode cL_film 2 = .ok (.aload_n 0, 1) := by decide +kernel
theorem dL_film_3 : decode cL_film 3 = .ok (.iload_n 1, 1) := by decide +kernel
theorem dL_film_4 : decode cL_film 4 = .ok (.invokevirtual 111, 3) := by decide +kernel
theorem dL_film_7 : decode cL_film 7 = .ok (.i2l, 1) := by decide +kernel
theorem dL_film_8 : decode cL_film 8 = .ok (.lastore, 1) := by decide +kernel
theorem dL_film_9 : decode cL_film 9 = .ok (.goto 6, 3) := by decide +kernel
theorem dL_film_12 : decode cL_film 12 = .ok (.astore_n 3, 1) := by decide +kernel
theorem dL_film_13 : decode cL_film 13 = .ok (.iconst 1, 1) := by decide +kernel
theorem dL_film_14 : decode cL_film 14 = .ok (.ireturn, 1) := by decide +kernel
theorem dL_film_15 : decode cL_film 15 = .ok (.iconst 0, 1) := by decide +kernel
theorem dL_film_16 : decode cL_film 16 = .ok (.ireturn, 1) := by decide +kernel
end
section
theorem dL_law_0 : decode cL_law 0 = .ok (.new 8, 3) := by decide +kernel
theorem dL_law_3 : decode cL_law 3 = .ok (.dup, 1) := by decide +kernel
theorem dL_law_4 : decode cL_law 4 = .ok (.invokespecial 114, 3) := by decide +kernel
theorem dL_law_7 : decode cL_law 7 = .ok (.astore_n 1, 1) := by decide +kernel
theorem dL_law_8 : decode cL_law 8 = .ok (.new 115, 3) := by decide +kernel
theorem dL_law_11 : decode cL_law 11 = .ok (.dup, 1) := by decide +kernel
theorem dL_law_12 : decode cL_law 12 = .ok (.invokespecial 117, 3) := by decide +kernel
theorem dL_law_15 : decode cL_law 15 = .ok (.astore_n 2, 1) := by decide +kernel
theorem dL_law_16 : decode cL_law 16 = .ok (.iconst 1, 1) := by decide +kernel
theorem dL_law_17 : decode cL_law 17 = .ok (.newarray .long, 2) := by decide +kernel
theorem dL_law_19 : decode cL_law 19 = .ok (.astore_n 3, 1) := by decide +kernel
theorem dL_law_20 : decode cL_law 20 = .ok (.iconst 0, 1) := by decide +kernel
theorem dL_law_21 : decode cL_law 21 = .ok (.istore 4, 2) := by decide +kernel
theorem dL_law_23 : decode cL_law 23 = .ok (.iload 4, 2) := by decide +kernel
theorem dL_law_25 : decode cL_law 25 = .ok (.aload_n 0, 1) := by decide +kernel
theorem dL_law_26 : decode cL_law 26 = .ok (.arraylength, 1) := by decide +kernel
theorem dL_law_27 : decode cL_law 27 = .ok (.iconst 5, 1) := by decide +kernel
theorem dL_law_28 : decode cL_law 28 = .ok (.isub, 1) := by decide +kernel
theorem dL_law_29 : decode cL_law 29 = .ok (.if_icmp .gt 2306, 3) := by decide +kernel
theorem dL_law_32 : decode cL_law 32 = .ok (.aload_n 0, 1) := by decide +kernel
theorem dL_law_33 : decode cL_law 33 = .ok (.iload 4, 2) := by decide +kernel
theorem dL_law_35 : decode cL_law 35 = .ok (.iaload, 1) := by decide +kernel
theorem dL_law_36 : decode cL_law 36 = .ok (.bipush 63, 2) := by decide +kernel
theorem dL_law_38 : decode cL_law 38 = .ok (.iand, 1) := by decide +kernel
theorem dL_law_39 : decode cL_law 39 = .ok (.tableswitch 2290 0 32 #[145, 201, 281, 349, 393, 485, 553, 644, 712, 804, 884, 940, 996, 1064, 1120, 1188, 1256, 1269, 1325, 1381, 1461, 1529, 1597, 1665, 1721, 1789, 1845, 1925, 2005, 2073, 2153, 2221, 2234], 145) := by decide +kernel
theorem dL_law_184 : decode cL_law 184 = .ok (.aload_n 1, 1) := by decide +kernel
theorem dL_law_185 : decode cL_law 185 = .ok (.aload_n 0, 1) := by decide +kernel
theorem dL_law_186 : decode cL_law 186 = .ok (.iload 4, 2) := by decide +kernel
theorem dL_law_188 : decode cL_law 188 = .ok (.iconst 1, 1) := by decide +kernel
theorem dL_law_189 : decode cL_law 189 = .ok (.iadd, 1) := by decide +kernel
theorem dL_law_190 : decode cL_law 190 = .ok (.iaload, 1) := by decide +kernel
theorem dL_law_191 : decode cL_law 191 = .ok (.aload_n 3, 1) := by decide +kernel
theorem dL_law_192 : decode cL_law 192 = .ok (.invokestatic 118, 3) := by decide +kernel
theorem dL_law_195 : decode cL_law 195 = .ok (.istore 5, 2) := by decide +kernel
theorem dL_law_197 : decode cL_law 197 = .ok (.aload_n 2, 1) := by decide +kernel
theorem dL_law_198 : decode cL_law 198 = .ok (.aload_n 0, 1) := by decide +kernel
theorem dL_law_199 : decode cL_law 199 = .ok (.iload 4, 2) := by decide +kernel
theorem dL_law_201 : decode cL_law 201 = .ok (.iconst 1, 1) := by decide +kernel
theorem dL_law_202 : decode cL_law 202 = .ok (.iadd, 1) := by decide +kernel
theorem dL_law_203 : decode cL_law 203 = .ok (.iaload, 1) := by decide +kernel
theorem dL_law_204 : decode cL_law 204 = .ok (.invokevirtual 123, 3) := by decide +kernel
theorem dL_law_207 : decode cL_law 207 = .ok (.istore 6, 2) := by decide +kernel
theorem dL_law_209 : decode cL_law 209 = .ok (.aload_n 2, 1) := by decide +kernel
theorem dL_law_210 : decode cL_law 210 = .ok (.invokevirtual 124, 3) := by decide +kernel
theorem dL_law_213 : decode cL_law 213 = .ok (.iload 5, 2) := by decide +kernel
theorem dL_law_215 : decode cL_law 215 = .ok (.if_icmp .eq 5, 3) := by decide +kernel
theorem dL_law_218 : decode cL_law 218 = .ok (.iconst 0, 1) := by decide +kernel
theorem dL_law_219 : decode cL_law 219 = .ok (.ireturn, 1) := by decide +kernel
theorem dL_law_220 : decode cL_law 220 = .ok (.iload 5, 2) := by decide +kernel
theorem dL_law_222 : decode cL_law 222 = .ok (.ifCond .ne 15, 3) := by decide +kernel
theorem dL_law_225 : decode cL_law 225 = .ok (.aload_n 3, 1) := by decide +kernel
theorem dL_law_226 : decode cL_law 226 = .ok (.iconst 0, 1) := by decide +kernel
theorem dL_law_227 : decode cL_law 227 = .ok (.laload, 1) := by decide +kernel
theorem dL_law_228 : decode cL_law 228 = .ok (.iload 6, 2) := by decide +kernel
theorem dL_law_230 : decode cL_law 230 = .ok (.i2l, 1) := by decide +kernel
theorem dL_law_231 : decode cL_law 231 = .ok (.lcmp, 1) := by decide +kernel
theorem dL_law_232 : decode cL_law 232 = .ok (.ifCond .eq 5, 3) := by decide +kernel
theorem dL_law_235 : decode cL_law 235 = .ok (.iconst 0, 1) := by decide +kernel
theorem dL_law_236 : decode cL_law 236 = .ok (.ireturn, 1) := by decide +kernel
theorem dL_law_237 : decode cL_law 237 = .ok (.goto 2092, 3) := by decide +kernel
theorem dL_law_240 : decode cL_law 240 = .ok (.aload_n 1, 1) := by decide +kernel
theorem dL_law_241 : decode cL_law 241 = .ok (.aload_n 0, 1) := by decide +kernel
theorem dL_law_242 : decode cL_law 242 = .ok (.iload 4, 2) := by decide +kernel
theorem dL_law_244 : decode cL_law 244 = .ok (.iconst 1, 1) := by decide +kernel
theorem dL_law_245 : decode cL_law 245 = .ok (.iadd, 1) := by decide +kernel
theorem dL_law_246 : decode cL_law 246 = .ok (.iaload, 1) := by decide +kernel
theorem dL_law_247 : decode cL_law 247 = .ok (.aload_n 0, 1) := by decide +kernel
theorem dL_law_248 : decode cL_law 248 = .ok (.iload 4, 2) := by decide +kernel
theorem dL_law_250 : decode cL_law 250 = .ok (.iconst 2, 1) := by decide +kernel
theorem dL_law_251 : decode cL_law 251 = .ok (.iadd, 1) := by decide +kernel
theorem dL_law_252 : decode cL_law 252 = .ok (.iaload, 1) := by decide +kernel
theorem dL_law_253 : decode cL_law 253 = .ok (.aload_n 0, 1) := by decide +kernel
theorem dL_law_254 : decode cL_law 254 = .ok (.iload 4, 2) := by decide +kernel
theorem dL_law_256 : decode cL_law 256 = .ok (.iconst 3, 1) := by decide +kernel
theorem dL_law_257 : decode cL_law 257 = .ok (.iadd, 1) := by decide +kernel
theorem dL_law_258 : decode cL_law 258 = .ok (.iaload, 1) := by decide +kernel
theorem dL_law_259 : decode cL_law 259 = .ok (.aload_n 3, 1) := by decide +kernel
theorem dL_law_260 : decode cL_law 260 = .ok (.invokestatic 127, 3) := by decide +kernel
theorem dL_law_263 : decode cL_law 263 = .ok (.istore 5, 2) := by decide +kernel
theorem dL_law_265 : decode cL_law 265 = .ok (.aload_n 2, 1) := by decide +kernel
theorem dL_law_266 : decode cL_law 266 = .ok (.aload_n 0, 1) := by decide +kernel
theorem dL_law_267 : decode cL_law 267 = .ok (.iload 4, 2) := by decide +kernel
theorem dL_law_269 : decode cL_law 269 = .ok (.iconst 1, 1) := by decide +kernel
theorem dL_law_270 : decode cL_law 270 = .ok (.iadd, 1) := by decide +kernel
theorem dL_law_271 : decode cL_law 271 = .ok (.iaload, 1) := by decide +kernel
theorem dL_law_272 : decode cL_law 272 = .ok (.aload_n 0, 1) := by decide +kernel
theorem dL_law_273 : decode cL_law 273 = .ok (.iload 4, 2) := by decide +kernel
theorem dL_law_275 : decode cL_law 275 = .ok (.iconst 2, 1) := by decide +kernel
theorem dL_law_276 : decode cL_law 276 = .ok (.iadd, 1) := by decide +kernel
theorem dL_law_277 : decode cL_law 277 = .ok (.iaload, 1) := by decide +kernel
theorem dL_law_278 : decode cL_law 278 = .ok (.aload_n 0, 1) := by decide +kernel
theorem dL_law_279 : decode cL_law 279 = .ok (.iload 4, 2) := by decide +kernel
theorem dL_law_281 : decode cL_law 281 = .ok (.iconst 3, 1) := by decide +kernel
theorem dL_law_282 : decode cL_law 282 = .ok (.iadd, 1) := by decide +kernel
theorem dL_law_283 : decode cL_law 283 = .ok (.iaload, 1) := by decide +kernel
theorem dL_law_284 : decode cL_law 284 = .ok (.invokevirtual 130, 3) := by decide +kernel
theorem dL_law_287 : decode cL_law 287 = .ok (.istore 6, 2) := by decide +kernel
theorem dL_law_289 : decode cL_law 289 = .ok (.aload_n 2, 1) := by decide +kernel
theorem dL_law_290 : decode cL_law 290 = .ok (.invokevirtual 124, 3) := by decide +kernel
theorem dL_law_293 : decode cL_law 293 = .ok (.iload 5, 2) := by decide +kernel
theorem dL_law_295 : decode cL_law 295 = .ok (.if_icmp .eq 5, 3) := by decide +kernel
theorem dL_law_298 : decode cL_law 298 = .ok (.iconst 0, 1) := by decide +kernel
theorem dL_law_299 : decode cL_law 299 = .ok (.ireturn, 1) := by decide +kernel
theorem dL_law_300 : decode cL_law 300 = .ok (.iload 5, 2) := by decide +kernel
theorem dL_law_302 : decode cL_law 302 = .ok (.ifCond .ne 15, 3) := by decide +kernel
theorem dL_law_305 : decode cL_law 305 = .ok (.aload_n 3, 1) := by decide +kernel
theorem dL_law_306 : decode cL_law 306 = .ok (.iconst 0, 1) := by decide +kernel
theorem dL_law_307 : decode cL_law 307 = .ok (.laload, 1) := by decide +kernel
theorem dL_law_308 : decode cL_law 308 = .ok (.iload 6, 2) := by decide +kernel
theorem dL_law_310 : decode cL_law 310 = .ok (.i2l, 1) := by decide +kernel
theorem dL_law_311 : decode cL_law 311 = .ok (.lcmp, 1) := by decide +kernel
theorem dL_law_312 : decode cL_law 312 = .ok (.ifCond .eq 5, 3) := by decide +kernel
theorem dL_law_315 : decode cL_law 315 = .ok (.iconst 0, 1) := by decide +kernel
theorem dL_law_316 : decode cL_law 316 = .ok (.ireturn, 1) := by decide +kernel
theorem dL_law_317 : decode cL_law 317 = .ok (.goto 2012, 3) := by decide +kernel
theorem dL_law_320 : decode cL_law 320 = .ok (.aload_n 1, 1) := by decide +kernel
theorem dL_law_321 : decode cL_law 321 = .ok (.aload_n 0, 1) := by decide +kernel
theorem dL_law_322 : decode cL_law 322 = .ok (.iload 4, 2) := by decide +kernel
theorem dL_law_324 : decode cL_law 324 = .ok (.iconst 1, 1) := by decide +kernel
theorem dL_law_325 : decode cL_law 325 = .ok (.iadd, 1) := by decide +kernel
theorem dL_law_326 : decode cL_law 326 = .ok (.iaload, 1) := by decide +kernel
theorem dL_law_327 : decode cL_law 327 = .ok (.aload_n 0, 1) := by decide +kernel
theorem dL_law_328 : decode cL_law 328 = .ok (.iload 4, 2) := by decide +kernel
theorem dL_law_330 : decode cL_law 330 = .ok (.iconst 2, 1) := by decide +kernel
theorem dL_law_331 : decode cL_law 331 = .ok (.iadd, 1) := by decide +kernel
theorem dL_law_332 : decode cL_law 332 = .ok (.iaload, 1) := by decide +kernel
theorem dL_law_333 : decode cL_law 333 = .ok (.aload_n 3, 1) := by decide +kernel
theorem dL_law_334 : decode cL_law 334 = .ok (.invokestatic 131, 3) := by decide +kernel
theorem dL_law_337 : decode cL_law 337 = .ok (.istore 5, 2) := by decide +kernel
theorem dL_law_339 : decode cL_law 339 = .ok (.aload_n 2, 1) := by decide +kernel
theorem dL_law_340 : decode cL_law 340 = .ok (.aload_n 0, 1) := by decide +kernel
theorem dL_law_341 : decode cL_law 341 = .ok (.iload 4, 2) := by decide +kernel
theorem dL_law_343 : decode cL_law 343 = .ok (.iconst 1, 1) := by decide +kernel
theorem dL_law_344 : decode cL_law 344 = .ok (.iadd, 1) := by decide +kernel
theorem dL_law_345 : decode cL_law 345 = .ok (.iaload, 1) := by decide +kernel
theorem dL_law_346 : decode cL_law 346 = .ok (.aload_n 0, 1) := by decide +kernel
theorem dL_law_347 : decode cL_law 347 = .ok (.iload 4, 2) := by decide +kernel
theorem dL_law_349 : decode cL_law 349 = .ok (.iconst 2, 1) := by decide +kernel
theorem dL_law_350 : decode cL_law 350 = .ok (.iadd, 1) := by decide +kernel
theorem dL_law_351 : decode cL_law 351 = .ok (.iaload, 1) := by decide +kernel
theorem dL_law_352 : decode cL_law 352 = .ok (.invokevirtual 134, 3) := by decide +kernel
theorem dL_law_355 : decode cL_law 355 = .ok (.istore 6, 2) := by decide +kernel
theorem dL_law_357 : decode cL_law 357 = .ok (.aload_n 2, 1) := by decide +kernel
theorem dL_law_358 : decode cL_law 358 = .ok (.invokevirtual 124, 3) := by decide +kernel
theorem dL_law_361 : decode cL_law 361 = .ok (.iload 5, 2) := by decide +kernel
theorem dL_law_363 : decode cL_law 363 = .ok (.if_icmp .eq 5, 3) := by decide +kernel
theorem dL_law_366 : decode cL_law 366 = .ok (.iconst 0, 1) := by decide +kernel
theorem dL_law_367 : decode cL_law 367 = .ok (.ireturn, 1) := by decide +kernel
theorem dL_law_368 : decode cL_law 368 = .ok (.iload 5, 2) := by decide +kernel
theorem dL_law_370 : decode cL_law 370 = .ok (.ifCond .ne 15, 3) := by decide +kernel
theorem dL_law_373 : decode cL_law 373 = .ok (.aload_n 3, 1) := by decide +kernel
theorem dL_law_374 : decode cL_law 374 = .ok (.iconst 0, 1) := by decide +kernel
theorem dL_law_375 : decode cL_law 375 = .ok (.laload, 1) := by decide +kernel
theorem dL_law_376 : decode cL_law 376 = .ok (.iload 6, 2) := by decide +kernel
theorem dL_law_378 : decode cL_law 378 = .ok (.i2l, 1) := by decide +kernel
theorem dL_law_379 : decode cL_law 379 = .ok (.lcmp, 1) := by decide +kernel
theorem dL_law_380 : decode cL_law 380 = .ok (.ifCond .eq 5, 3) := by decide +kernel
theorem dL_law_383 : decode cL_law 383 = .ok (.iconst 0, 1) := by decide +kernel
theorem dL_law_384 : decode cL_law 384 = .ok (.ireturn, 1) := by decide +kernel
theorem dL_law_385 : decode cL_law 385 = .ok (.goto 1944, 3) := by decide +kernel
theorem dL_law_388 : decode cL_law 388 = .ok (.aload_n 1, 1) := by decide +kernel
theorem dL_law_389 : decode cL_law 389 = .ok (.aload_n 3, 1) := by decide +kernel
theorem dL_law_390 : decode cL_law 390 = .ok (.invokestatic 135, 3) := by decide +kernel
theorem dL_law_393 : decode cL_law 393 = .ok (.istore 5, 2) := by decide +kernel
theorem dL_law_395 : decode cL_law 395 = .ok (.aload_n 2, 1) := by decide +kernel
theorem dL_law_396 : decode cL_law 396 = .ok (.invokevirtual 138, 3) := by decide +kernel
theorem dL_law_399 : decode cL_law 399 = .ok (.istore 6, 2) := by decide +kernel
theorem dL_law_401 : decode cL_law 401 = .ok (.aload_n 2, 1) := by decide +kernel
theorem dL_law_402 : decode cL_law 402 = .ok (.invokevirtual 124, 3) := by decide +kernel
theorem dL_law_405 : decode cL_law 405 = .ok (.iload 5, 2) := by decide +kernel
theorem dL_law_407 : decode cL_law 407 = .ok (.if_icmp .eq 5, 3) := by decide +kernel
theorem dL_law_410 : decode cL_law 410 = .ok (.iconst 0, 1) := by decide +kernel
theorem dL_law_411 : decode cL_law 411 = .ok (.ireturn, 1) := by decide +kernel
theorem dL_law_412 : decode cL_law 412 = .ok (.iload 5, 2) := by decide +kernel
theorem dL_law_414 : decode cL_law 414 = .ok (.ifCond .ne 15, 3) := by decide +kernel
theorem dL_law_417 : decode cL_law 417 = .ok (.aload_n 3, 1) := by decide +kernel
theorem dL_law_418 : decode cL_law 418 = .ok (.iconst 0, 1) := by decide +kernel
theorem dL_law_419 : decode cL_law 419 = .ok (.laload, 1) := by decide +kernel
theorem dL_law_420 : decode cL_law 420 = .ok (.iload 6, 2) := by decide +kernel
theorem dL_law_422 : decode cL_law 422 = .ok (.i2l, 1) := by decide +kernel
theorem dL_law_423 : decode cL_law 423 = .ok (.lcmp, 1) := by decide +kernel
theorem dL_law_424 : decode cL_law 424 = .ok (.ifCond .eq 5, 3) := by decide +kernel
theorem dL_law_427 : decode cL_law 427 = .ok (.iconst 0, 1) := by decide +kernel
theorem dL_law_428 : decode cL_law 428 = .ok (.ireturn, 1) := by decide +kernel
theorem dL_law_429 : decode cL_law 429 = .ok (.goto 1900, 3) := by decide +kernel
theorem dL_law_432 : decode cL_law 432 = .ok (.aload_n 1, 1) := by decide +kernel
theorem dL_law_433 : decode cL_law 433 = .ok (.aload_n 0, 1) := by decide +kernel
theorem dL_law_434 : decode cL_law 434 = .ok (.iload 4, 2) := by decide +kernel
theorem dL_law_436 : decode cL_law 436 = .ok (.iconst 1, 1) := by decide +kernel
theorem dL_law_437 : decode cL_law 437 = .ok (.iadd, 1) := by decide +kernel
theorem dL_law_438 : decode cL_law 438 = .ok (.iaload, 1) := by decide +kernel
theorem dL_law_439 : decode cL_law 439 = .ok (.aload_n 0, 1) := by decide +kernel
theorem dL_law_440 : decode cL_law 440 = .ok (.iload 4, 2) := by decide +kernel
theorem dL_law_442 : decode cL_law 442 = .ok (.iconst 2, 1) := by decide +kernel
theorem dL_law_443 : decode cL_law 443 = .ok (.iadd, 1) := by decide +kernel
theorem dL_law_444 : decode cL_law 444 = .ok (.iaload, 1) := by decide +kernel
theorem dL_law_445 : decode cL_law 445 = .ok (.aload_n 0, 1) := by decide +kernel
theorem dL_law_446 : decode cL_law 446 = .ok (.iload 4, 2) := by decide +kernel
theorem dL_law_448 : decode cL_law 448 = .ok (.iconst 3, 1) := by decide +kernel
theorem dL_law_449 : decode cL_law 449 = .ok (.iadd, 1) := by decide +kernel
theorem dL_law_450 : decode cL_law 450 = .ok (.iaload, 1) := by decide +kernel
theorem dL_law_451 : decode cL_law 451 = .ok (.aload_n 0, 1) := by decide +kernel
theorem dL_law_452 : decode cL_law 452 = .ok (.iload 4, 2) := by decide +kernel
theorem dL_law_454 : decode cL_law 454 = .ok (.iconst 4, 1) := by decide +kernel
theorem dL_law_455 : decode cL_law 455 = .ok (.iadd, 1) := by decide +kernel
theorem dL_law_456 : decode cL_law 456 = .ok (.iaload, 1) := by decide +kernel
theorem dL_law_457 : decode cL_law 457 = .ok (.aload_n 3, 1) := by decide +kernel
theorem dL_law_458 : decode cL_law 458 = .ok (.invokestatic 139, 3) := by decide +kernel
theorem dL_law_461 : decode cL_law 461 = .ok (.istore 5, 2) := by decide +kernel
theorem dL_law_463 : decode cL_law 463 = .ok (.aload_n 2, 1) := by decide +kernel
theorem dL_law_464 : decode cL_law 464 = .ok (.aload_n 0, 1) := by decide +kernel
theorem dL_law_465 : decode cL_law 465 = .ok (.iload 4, 2) := by decide +kernel
theorem dL_law_467 : decode cL_law 467 = .ok (.iconst 1, 1) := by decide +kernel
theorem dL_law_468 : decode cL_law 468 = .ok (.iadd, 1) := by decide +kernel
theorem dL_law_469 : decode cL_law 469 = .ok (.iaload, 1) := by decide +kernel
theorem dL_law_470 : decode cL_law 470 = .ok (.aload_n 0, 1) := by decide +kernel
theorem dL_law_471 : decode cL_law 471 = .ok (.iload 4, 2) := by decide +kernel
theorem dL_law_473 : decode cL_law 473 = .ok (.iconst 2, 1) := by decide +kernel
theorem dL_law_474 : decode cL_law 474 = .ok (.iadd, 1) := by decide +kernel
theorem dL_law_475 : decode cL_law 475 = .ok (.iaload, 1) := by decide +kernel
theorem dL_law_476 : decode cL_law 476 = .ok (.aload_n 0, 1) := by decide +kernel
theorem dL_law_477 : decode cL_law 477 = .ok (.iload 4, 2) := by decide +kernel
theorem dL_law_479 : decode cL_law 479 = .ok (.iconst 3, 1) := by decide +kernel
theorem dL_law_480 : decode cL_law 480 = .ok (.iadd, 1) := by decide +kernel
theorem dL_law_481 : decode cL_law 481 = .ok (.iaload, 1) := by decide +kernel
theorem dL_law_482 : decode cL_law 482 = .ok (.aload_n 0, 1) := by decide +kernel
theorem dL_law_483 : decode cL_law 483 = .ok (.iload 4, 2) := by decide +kernel
theorem dL_law_485 : decode cL_law 485 = .ok (.iconst 4, 1) := by decide +kernel
theorem dL_law_486 : decode cL_law 486 = .ok (.iadd, 1) := by decide +kernel
theorem dL_law_487 : decode cL_law 487 = .ok (.iaload, 1) := by decide +kernel
theorem dL_law_488 : decode cL_law 488 = .ok (.invokevirtual 142, 3) := by decide +kernel
theorem dL_law_491 : decode cL_law 491 = .ok (.istore 6, 2) := by decide +kernel
theorem dL_law_493 : decode cL_law 493 = .ok (.aload_n 2, 1) := by decide +kernel
theorem dL_law_494 : decode cL_law 494 = .ok (.invokevirtual 124, 3) := by decide +kernel
theorem dL_law_497 : decode cL_law 497 = .ok (.iload 5, 2) := by decide +kernel
theorem dL_law_499 : decode cL_law 499 = .ok (.if_icmp .eq 5, 3) := by decide +kernel
theorem dL_law_502 : decode cL_law 502 = .ok (.iconst 0, 1) := by decide +kernel
theorem dL_law_503 : decode cL_law 503 = .ok (.ireturn, 1) := by decide +kernel
theorem dL_law_504 : decode cL_law 504 = .ok (.iload 5, 2) := by decide +kernel
theorem dL_law_506 : decode cL_law 506 = .ok (.ifCond .ne 15, 3) := by decide +kernel
theorem dL_law_509 : decode cL_law 509 = .ok (.aload_n 3, 1) := by decide +kernel
theorem dL_law_510 : decode cL_law 510 = .ok (.iconst 0, 1) := by decide +kernel
theorem dL_law_511 : decode cL_law 511 = .ok (.laload, 1) := by decide +kernel
theorem dL_law_512 : decode cL_law 512 = .ok (.iload 6, 2) := by decide +kernel
theorem dL_law_514 : decode cL_law 514 = .ok (.i2l, 1) := by decide +kernel
theorem dL_law_515 : decode cL_law 515 = .ok (.lcmp, 1) := by decide +kernel
theorem dL_law_516 : decode cL_law 516 = .ok (.ifCond .eq 5, 3) := by decide +kernel
theorem dL_law_519 : decode cL_law 519 = .ok (.iconst 0, 1) := by decide +kernel
theorem dL_law_520 : decode cL_law 520 = .ok (.ireturn, 1) := by decide +kernel
theorem dL_law_521 : decode cL_law 521 = .ok (.goto 1808, 3) := by decide +kernel
theorem dL_law_524 : decode cL_law 524 = .ok (.aload_n 1, 1) := by decide +kernel
theorem dL_law_525 : decode cL_law 525 = .ok (.aload_n 0, 1) := by decide +kernel
theorem dL_law_526 : decode cL_law 526 = .ok (.iload 4, 2) := by decide +kernel
theorem dL_law_528 : decode cL_law 528 = .ok (.iconst 1, 1) := by decide +kernel
theorem dL_law_529 : decode cL_law 529 = .ok (.iadd, 1) := by decide +kernel
theorem dL_law_530 : decode cL_law 530 = .ok (.iaload, 1) := by decide +kernel
theorem dL_law_531 : decode cL_law 531 = .ok (.aload_n 0, 1) := by decide +kernel
theorem dL_law_532 : decode cL_law 532 = .ok (.iload 4, 2) := by decide +kernel
theorem dL_law_534 : decode cL_law 534 = .ok (.iconst 2, 1) := by decide +kernel
theorem dL_law_535 : decode cL_law 535 = .ok (.iadd, 1) := by decide +kernel
theorem dL_law_536 : decode cL_law 536 = .ok (.iaload, 1) := by decide +kernel
theorem dL_law_537 : decode cL_law 537 = .ok (.aload_n 3, 1) := by decide +kernel
theorem dL_law_538 : decode cL_law 538 = .ok (.invokestatic 143, 3) := by decide +kernel
theorem dL_law_541 : decode cL_law 541 = .ok (.istore 5, 2) := by decide +kernel
theorem dL_law_543 : decode cL_law 543 = .ok (.aload_n 2, 1) := by decide +kernel
theorem dL_law_544 : decode cL_law 544 = .ok (.aload_n 0, 1) := by decide +kernel
theorem dL_law_545 : decode cL_law 545 = .ok (.iload 4, 2) := by decide +kernel
theorem dL_law_547 : decode cL_law 547 = .ok (.iconst 1, 1) := by decide +kernel
theorem dL_law_548 : decode cL_law 548 = .ok (.iadd, 1) := by decide +kernel
theorem dL_law_549 : decode cL_law 549 = .ok (.iaload, 1) := by decide +kernel
theorem dL_law_550 : decode cL_law 550 = .ok (.aload_n 0, 1) := by decide +kernel
theorem dL_law_551 : decode cL_law 551 = .ok (.iload 4, 2) := by decide +kernel
theorem dL_law_553 : decode cL_law 553 = .ok (.iconst 2, 1) := by decide +kernel
theorem dL_law_554 : decode cL_law 554 = .ok (.iadd, 1) := by decide +kernel
theorem dL_law_555 : decode cL_law 555 = .ok (.iaload, 1) := by decide +kernel
theorem dL_law_556 : decode cL_law 556 = .ok (.invokevirtual 145, 3) := by decide +kernel
theorem dL_law_559 : decode cL_law 559 = .ok (.istore 6, 2) := by decide +kernel
theorem dL_law_561 : decode cL_law 561 = .ok (.aload_n 2, 1) := by decide +kernel
theorem dL_law_562 : decode cL_law 562 = .ok (.invokevirtual 124, 3) := by decide +kernel
theorem dL_law_565 : decode cL_law 565 = .ok (.iload 5, 2) := by decide +kernel
theorem dL_law_567 : decode cL_law 567 = .ok (.if_icmp .eq 5, 3) := by decide +kernel
theorem dL_law_570 : decode cL_law 570 = .ok (.iconst 0, 1) := by decide +kernel
theorem dL_law_571 : decode cL_law 571 = .ok (.ireturn, 1) := by decide +kernel
theorem dL_law_572 : decode cL_law 572 = .ok (.iload 5, 2) := by decide +kernel
theorem dL_law_574 : decode cL_law 574 = .ok (.ifCond .ne 15, 3) := by decide +kernel
theorem dL_law_577 : decode cL_law 577 = .ok (.aload_n 3, 1) := by decide +kernel
theorem dL_law_578 : decode cL_law 578 = .ok (.iconst 0, 1) := by decide +kernel
theorem dL_law_579 : decode cL_law 579 = .ok (.laload, 1) := by decide +kernel
theorem dL_law_580 : decode cL_law 580 = .ok (.iload 6, 2) := by decide +kernel
theorem dL_law_582 : decode cL_law 582 = .ok (.i2l, 1) := by decide +kernel
theorem dL_law_583 : decode cL_law 583 = .ok (.lcmp, 1) := by decide +kernel
theorem dL_law_584 : decode cL_law 584 = .ok (.ifCond .eq 5, 3) := by decide +kernel
theorem dL_law_587 : decode cL_law 587 = .ok (.iconst 0, 1) := by decide +kernel
theorem dL_law_588 : decode cL_law 588 = .ok (.ireturn, 1) := by decide +kernel
theorem dL_law_589 : decode cL_law 589 = .ok (.goto 1740, 3) := by decide +kernel
theorem dL_law_592 : decode cL_law 592 = .ok (.aload_n 1, 1) := by decide +kernel
theorem dL_law_593 : decode cL_law 593 = .ok (.aload_n 0, 1) := by decide +kernel
theorem dL_law_594 : decode cL_law 594 = .ok (.iload 4, 2) := by decide +kernel
theorem dL_law_596 : decode cL_law 596 = .ok (.iconst 1, 1) := by decide +kernel
theorem dL_law_597 : decode cL_law 597 = .ok (.iadd, 1) := by decide +kernel
theorem dL_law_598 : decode cL_law 598 = .ok (.iaload, 1) := by decide +kernel
theorem dL_law_599 : decode cL_law 599 = .ok (.aload_n 0, 1) := by decide +kernel
theorem dL_law_600 : decode cL_law 600 = .ok (.iload 4, 2) := by decide +kernel
theorem dL_law_602 : decode cL_law 602 = .ok (.iconst 2, 1) := by decide +kernel
theorem dL_law_603 : decode cL_law 603 = .ok (.iadd, 1) := by decide +kernel
theorem dL_law_604 : decode cL_law 604 = .ok (.iaload, 1) := by decide +kernel
theorem dL_law_605 : decode cL_law 605 = .ok (.ifCond .eq 7, 3) := by decide +kernel
theorem dL_law_608 : decode cL_law 608 = .ok (.iconst 1, 1) := by decide +kernel
theorem dL_law_609 : decode cL_law 609 = .ok (.goto 4, 3) := by decide +kernel
theorem dL_law_612 : decode cL_law 612 = .ok (.iconst 0, 1) := by decide +kernel
theorem dL_law_613 : decode cL_law 613 = .ok (.aload_n 3, 1) := by decide +kernel
theorem dL_law_614 : decode cL_law 614 = .ok (.invokestatic 146, 3) := by decide +kernel
theorem dL_law_617 : decode cL_law 617 = .ok (.istore 5, 2) := by decide +kernel
theorem dL_law_619 : decode cL_law 619 = .ok (.aload_n 2, 1) := by decide +kernel
theorem dL_law_620 : decode cL_law 620 = .ok (.aload_n 0, 1) := by decide +kernel
theorem dL_law_621 : decode cL_law 621 = .ok (.iload 4, 2) := by decide +kernel
theorem dL_law_623 : decode cL_law 623 = .ok (.iconst 1, 1) := by decide +kernel
theorem dL_law_624 : decode cL_law 624 = .ok (.iadd, 1) := by decide +kernel
theorem dL_law_625 : decode cL_law 625 = .ok (.iaload, 1) := by decide +kernel
theorem dL_law_626 : decode cL_law 626 = .ok (.aload_n 0, 1) := by decide +kernel
theorem dL_law_627 : decode cL_law 627 = .ok (.iload 4, 2) := by decide +kernel
theorem dL_law_629 : decode cL_law 629 = .ok (.iconst 2, 1) := by decide +kernel
theorem dL_law_630 : decode cL_law 630 = .ok (.iadd, 1) := by decide +kernel
theorem dL_law_631 : decode cL_law 631 = .ok (.iaload, 1) := by decide +kernel
theorem dL_law_632 : decode cL_law 632 = .ok (.ifCond .eq 7, 3) := by decide +kernel
theorem dL_law_635 : decode cL_law 635 = .ok (.iconst 1, 1) := by decide +kernel
theorem dL_law_636 : decode cL_law 636 = .ok (.goto 4, 3) := by decide +kernel
theorem dL_law_639 : decode cL_law 639 = .ok (.iconst 0, 1) := by decide +kernel
theorem dL_law_640 : decode cL_law 640 = .ok (.invokevirtual 149, 3) := by decide +kernel
theorem dL_law_643 : decode cL_law 643 = .ok (.istore 6, 2) := by decide +kernel
theorem dL_law_645 : decode cL_law 645 = .ok (.aload_n 2, 1) := by decide +kernel
theorem dL_law_646 : decode cL_law 646 = .ok (.invokevirtual 124, 3) := by decide +kernel
theorem dL_law_649 : decode cL_law 649 = .ok (.iload 5, 2) := by decide +kernel
theorem dL_law_651 : decode cL_law 651 = .ok (.if_icmp .eq 5, 3) := by decide +kernel
theorem dL_law_654 : decode cL_law 654 = .ok (.iconst 0, 1) := by decide +kernel
theorem dL_law_655 : decode cL_law 655 = .ok (.ireturn, 1) := by decide +kernel
theorem dL_law_656 : decode cL_law 656 = .ok (.iload 5, 2) := by decide +kernel
theorem dL_law_658 : decode cL_law 658 = .ok (.ifCond .ne 22, 3) := by decide +kernel
theorem dL_law_661 : decode cL_law 661 = .ok (.aload_n 3, 1) := by decide +kernel
theorem dL_law_662 : decode cL_law 662 = .ok (.iconst 0, 1) := by decide +kernel
theorem dL_law_663 : decode cL_law 663 = .ok (.laload, 1) := by decide +kernel
theorem dL_law_664 : decode cL_law 664 = .ok (.iload 6, 2) := by decide +kernel
theorem dL_law_666 : decode cL_law 666 = .ok (.ifCond .eq 7, 3) := by decide +kernel
theorem dL_law_669 : decode cL_law 669 = .ok (.lconst 1, 1) := by decide +kernel
theorem dL_law_670 : decode cL_law 670 = .ok (.goto 4, 3) := by decide +kernel
theorem dL_law_673 : decode cL_law 673 = .ok (.lconst 0, 1) := by decide +kernel
theorem dL_law_674 : decode cL_law 674 = .ok (.lcmp, 1) := by decide +kernel
theorem dL_law_675 : decode cL_law 675 = .ok (.ifCond .eq 5, 3) := by decide +kernel
theorem dL_law_678 : decode cL_law 678 = .ok (.iconst 0, 1) := by decide +kernel
theorem dL_law_679 : decode cL_law 679 = .ok (.ireturn, 1) := by decide +kernel
theorem dL_law_680 : decode cL_law 680 = .ok (.goto 1649, 3) := by decide +kernel
theorem dL_law_683 : decode cL_law 683 = .ok (.aload_n 1, 1) := by decide +kernel
theorem dL_law_684 : decode cL_law 684 = .ok (.aload_n 0, 1) := by decide +kernel
theorem dL_law_685 : decode cL_law 685 = .ok (.iload 4, 2) := by decide +kernel
theorem dL_law_687 : decode cL_law 687 = .ok (.iconst 1, 1) := by decide +kernel
theorem dL_law_688 : decode cL_law 688 = .ok (.iadd, 1) := by decide +kernel
theorem dL_law_689 : decode cL_law 689 = .ok (.iaload, 1) := by decide +kernel
theorem dL_law_690 : decode cL_law 690 = .ok (.aload_n 0, 1) := by decide +kernel
theorem dL_law_691 : decode cL_law 691 = .ok (.iload 4, 2) := by decide +kernel
theorem dL_law_693 : decode cL_law 693 = .ok (.iconst 2, 1) := by decide +kernel
theorem dL_law_694 : decode cL_law 694 = .ok (.iadd, 1) := by decide +kernel
theorem dL_law_695 : decode cL_law 695 = .ok (.iaload, 1) := by decide +kernel
theorem dL_law_696 : decode cL_law 696 = .ok (.aload_n 3, 1) := by decide +kernel
theorem dL_law_697 : decode cL_law 697 = .ok (.invokestatic 150, 3) := by decide +kernel
theorem dL_law_700 : decode cL_law 700 = .ok (.istore 5, 2) := by decide +kernel
theorem dL_law_702 : decode cL_law 702 = .ok (.aload_n 2, 1) := by decide +kernel
theorem dL_law_703 : decode cL_law 703 = .ok (.aload_n 0, 1) := by decide +kernel
theorem dL_law_704 : decode cL_law 704 = .ok (.iload 4, 2) := by decide +kernel
theorem dL_law_706 : decode cL_law 706 = .ok (.iconst 1, 1) := by decide +kernel
theorem dL_law_707 : decode cL_law 707 = .ok (.iadd, 1) := by decide +kernel
theorem dL_law_708 : decode cL_law 708 = .ok (.iaload, 1) := by decide +kernel
theorem dL_law_709 : decode cL_law 709 = .ok (.aload_n 0, 1) := by decide +kernel
theorem dL_law_710 : decode cL_law 710 = .ok (.iload 4, 2) := by decide +kernel
theorem dL_law_712 : decode cL_law 712 = .ok (.iconst 2, 1) := by decide +kernel
theorem dL_law_713 : decode cL_law 713 = .ok (.iadd, 1) := by decide +kernel
theorem dL_law_714 : decode cL_law 714 = .ok (.iaload, 1) := by decide +kernel
theorem dL_law_715 : decode cL_law 715 = .ok (.invokevirtual 152, 3) := by decide +kernel
theorem dL_law_718 : decode cL_law 718 = .ok (.istore 6, 2) := by decide +kernel
theorem dL_law_720 : decode cL_law 720 = .ok (.aload_n 2, 1) := by decide +kernel
theorem dL_law_721 : decode cL_law 721 = .ok (.invokevirtual 124, 3) := by decide +kernel
theorem dL_law_724 : decode cL_law 724 = .ok (.iload 5, 2) := by decide +kernel
theorem dL_law_726 : decode cL_law 726 = .ok (.if_icmp .eq 5, 3) := by decide +kernel
theorem dL_law_729 : decode cL_law 729 = .ok (.iconst 0, 1) := by decide +kernel
theorem dL_law_730 : decode cL_law 730 = .ok (.ireturn, 1) := by decide +kernel
theorem dL_law_731 : decode cL_law 731 = .ok (.iload 5, 2) := by decide +kernel
theorem dL_law_733 : decode cL_law 733 = .ok (.ifCond .ne 15, 3) := by decide +kernel
theorem dL_law_736 : decode cL_law 736 = .ok (.aload_n 3, 1) := by decide +kernel
theorem dL_law_737 : decode cL_law 737 = .ok (.iconst 0, 1) := by decide +kernel
theorem dL_law_738 : decode cL_law 738 = .ok (.laload, 1) := by decide +kernel
theorem dL_law_739 : decode cL_law 739 = .ok (.iload 6, 2) := by decide +kernel
theorem dL_law_741 : decode cL_law 741 = .ok (.i2l, 1) := by decide +kernel
theorem dL_law_742 : decode cL_law 742 = .ok (.lcmp, 1) := by decide +kernel
theorem dL_law_743 : decode cL_law 743 = .ok (.ifCond .eq 5, 3) := by decide +kernel
theorem dL_law_746 : decode cL_law 746 = .ok (.iconst 0, 1) := by decide +kernel
theorem dL_law_747 : decode cL_law 747 = .ok (.ireturn, 1) := by decide +kernel
theorem dL_law_748 : decode cL_law 748 = .ok (.goto 1581, 3) := by decide +kernel
theorem dL_law_751 : decode cL_law 751 = .ok (.aload_n 1, 1) := by decide +kernel
theorem dL_law_752 : decode cL_law 752 = .ok (.aload_n 0, 1) := by decide +kernel
theorem dL_law_753 : decode cL_law 753 = .ok (.iload 4, 2) := by decide +kernel
theorem dL_law_755 : decode cL_law 755 = .ok (.iconst 1, 1) := by decide +kernel
end
section
theorem dL_law_756 : decode cL_law 756 = .ok (.iadd, 1) := by decide +kernel
theorem dL_law_757 : decode cL_law 757 = .ok (.iaload, 1) := by decide +kernel
theorem dL_law_758 : decode cL_law 758 = .ok (.aload_n 0, 1) := by decide +kernel
theorem dL_law_759 : decode cL_law 759 = .ok (.iload 4, 2) := by decide +kernel
theorem dL_law_761 : decode cL_law 761 = .ok (.iconst 2, 1) := by decide +kernel
theorem dL_law_762 : decode cL_law 762 = .ok (.iadd, 1) := by decide +kernel
theorem dL_law_763 : decode cL_law 763 = .ok (.iaload, 1) := by decide +kernel
theorem dL_law_764 : decode cL_law 764 = .ok (.aload_n 0, 1) := by decide +kernel
theorem dL_law_765 : decode cL_law 765 = .ok (.iload 4, 2) := by decide +kernel
theorem dL_law_767 : decode cL_law 767 = .ok (.iconst 3, 1) := by decide +kernel
theorem dL_law_768 : decode cL_law 768 = .ok (.iadd, 1) := by decide +kernel
theorem dL_law_769 : decode cL_law 769 = .ok (.iaload, 1) := by decide +kernel
theorem dL_law_770 : decode cL_law 770 = .ok (.aload_n 0, 1) := by decide +kernel
theorem dL_law_771 : decode cL_law 771 = .ok (.iload 4, 2) := by decide +kernel
theorem dL_law_773 : decode cL_law 773 = .ok (.iconst 4, 1) := by decide +kernel
theorem dL_law_774 : decode cL_law 774 = .ok (.iadd, 1) := by decide +kernel
theorem dL_law_775 : decode cL_law 775 = .ok (.iaload, 1) := by decide +kernel
theorem dL_law_776 : decode cL_law 776 = .ok (.aload_n 3, 1) := by decide +kernel
theorem dL_law_777 : decode cL_law 777 = .ok (.invokestatic 153, 3) := by decide +kernel
theorem dL_law_780 : decode cL_law 780 = .ok (.istore 5, 2) := by decide +kernel
theorem dL_law_782 : decode cL_law 782 = .ok (.aload_n 2, 1) := by decide +kernel
theorem dL_law_783 : decode cL_law 783 = .ok (.aload_n 0, 1) := by decide +kernel
theorem dL_law_784 : decode cL_law 784 = .ok (.iload 4, 2) := by decide +kernel
theorem dL_law_786 : decode cL_law 786 = .ok (.iconst 1, 1) := by decide +kernel
theorem dL_law_787 : decode cL_law 787 = .ok (.iadd, 1) := by decide +kernel
theorem dL_law_788 : decode cL_law 788 = .ok (.iaload, 1) := by decide +kernel
theorem dL_law_789 : decode cL_law 789 = .ok (.aload_n 0, 1) := by decide +kernel
theorem dL_law_790 : decode cL_law 790 = .ok (.iload 4, 2) := by decide +kernel
theorem dL_law_792 : decode cL_law 792 = .ok (.iconst 2, 1) := by decide +kernel
theorem dL_law_793 : decode cL_law 793 = .ok (.iadd, 1) := by decide +kernel
theorem dL_law_794 : decode cL_law 794 = .ok (.iaload, 1) := by decide +kernel
theorem dL_law_795 : decode cL_law 795 = .ok (.aload_n 0, 1) := by decide +kernel
theorem dL_law_796 : decode cL_law 796 = .ok (.iload 4, 2) := by decide +kernel
theorem dL_law_798 : decode cL_law 798 = .ok (.iconst 3, 1) := by decide +kernel
theorem dL_law_799 : decode cL_law 799 = .ok (.iadd, 1) := by decide +kernel
theorem dL_law_800 : decode cL_law 800 = .ok (.iaload, 1) := by decide +kernel
theorem dL_law_801 : decode cL_law 801 = .ok (.aload_n 0, 1) := by decide +kernel
theorem dL_law_802 : decode cL_law 802 = .ok (.iload 4, 2) := by decide +kernel
theorem dL_law_804 : decode cL_law 804 = .ok (.iconst 4, 1) := by decide +kernel
theorem dL_law_805 : decode cL_law 805 = .ok (.iadd, 1) := by decide +kernel
theorem dL_law_806 : decode cL_law 806 = .ok (.iaload, 1) := by decide +kernel
theorem dL_law_807 : decode cL_law 807 = .ok (.invokevirtual 155, 3) := by decide +kernel
theorem dL_law_810 : decode cL_law 810 = .ok (.istore 6, 2) := by decide +kernel
theorem dL_law_812 : decode cL_law 812 = .ok (.aload_n 2, 1) := by decide +kernel
theorem dL_law_813 : decode cL_law 813 = .ok (.invokevirtual 124, 3) := by decide +kernel
theorem dL_law_816 : decode cL_law 816 = .ok (.iload 5, 2) := by decide +kernel
theorem dL_law_818 : decode cL_law 818 = .ok (.if_icmp .eq 5, 3) := by decide +kernel
theorem dL_law_821 : decode cL_law 821 = .ok (.iconst 0, 1) := by decide +kernel
theorem dL_law_822 : decode cL_law 822 = .ok (.ireturn, 1) := by decide +kernel
theorem dL_law_823 : decode cL_law 823 = .ok (.iload 5, 2) := by decide +kernel
theorem dL_law_825 : decode cL_law 825 = .ok (.ifCond .ne 15, 3) := by decide +kernel
theorem dL_law_828 : decode cL_law 828 = .ok (.aload_n 3, 1) := by decide +kernel
theorem dL_law_829 : decode cL_law 829 = .ok (.iconst 0, 1) := by decide +kernel
theorem dL_law_830 : decode cL_law 830 = .ok (.laload, 1) := by decide +kernel
theorem dL_law_831 : decode cL_law 831 = .ok (.iload 6, 2) := by decide +kernel
theorem dL_law_833 : decode cL_law 833 = .ok (.i2l, 1) := by decide +kernel
theorem dL_law_834 : decode cL_law 834 = .ok (.lcmp, 1) := by decide +kernel
theorem dL_law_835 : decode cL_law 835 = .ok (.ifCond .eq 5, 3) := by decide +kernel
theorem dL_law_838 : decode cL_law 838 = .ok (.iconst 0, 1) := by decide +kernel
theorem dL_law_839 : decode cL_law 839 = .ok (.ireturn, 1) := by decide +kernel
theorem dL_law_840 : decode cL_law 840 = .ok (.goto 1489, 3) := by decide +kernel
theorem dL_law_843 : decode cL_law 843 = .ok (.aload_n 1, 1) := by decide +kernel
theorem dL_law_844 : decode cL_law 844 = .ok (.aload_n 0, 1) := by decide +kernel
theorem dL_law_845 : decode cL_law 845 = .ok (.iload 4, 2) := by decide +kernel
theorem dL_law_847 : decode cL_law 847 = .ok (.iconst 1, 1) := by decide +kernel
theorem dL_law_848 : decode cL_law 848 = .ok (.iadd, 1) := by decide +kernel
theorem dL_law_849 : decode cL_law 849 = .ok (.iaload, 1) := by decide +kernel
theorem dL_law_850 : decode cL_law 850 = .ok (.aload_n 0, 1) := by decide +kernel
theorem dL_law_851 : decode cL_law 851 = .ok (.iload 4, 2) := by decide +kernel
theorem dL_law_853 : decode cL_law 853 = .ok (.iconst 2, 1) := by decide +kernel
theorem dL_law_854 : decode cL_law 854 = .ok (.iadd, 1) := by decide +kernel
theorem dL_law_855 : decode cL_law 855 = .ok (.iaload, 1) := by decide +kernel
theorem dL_law_856 : decode cL_law 856 = .ok (.aload_n 0, 1) := by decide +kernel
theorem dL_law_857 : decode cL_law 857 = .ok (.iload 4, 2) := by decide +kernel
theorem dL_law_859 : decode cL_law 859 = .ok (.iconst 3, 1) := by decide +kernel
theorem dL_law_860 : decode cL_law 860 = .ok (.iadd, 1) := by decide +kernel
theorem dL_law_861 : decode cL_law 861 = .ok (.iaload, 1) := by decide +kernel
theorem dL_law_862 : decode cL_law 862 = .ok (.aload_n 3, 1) := by decide +kernel
theorem dL_law_863 : decode cL_law 863 = .ok (.invokestatic 156, 3) := by decide +kernel
theorem dL_law_866 : decode cL_law 866 = .ok (.istore 5, 2) := by decide +kernel
theorem dL_law_868 : decode cL_law 868 = .ok (.aload_n 2, 1) := by decide +kernel
theorem dL_law_869 : decode cL_law 869 = .ok (.aload_n 0, 1) := by decide +kernel
theorem dL_law_870 : decode cL_law 870 = .ok (.iload 4, 2) := by decide +kernel
theorem dL_law_872 : decode cL_law 872 = .ok (.iconst 1, 1) := by decide +kernel
theorem dL_law_873 : decode cL_law 873 = .ok (.iadd, 1) := by decide +kernel
theorem dL_law_874 : decode cL_law 874 = .ok (.iaload, 1) := by decide +kernel
theorem dL_law_875 : decode cL_law 875 = .ok (.aload_n 0, 1) := by decide +kernel
theorem dL_law_876 : decode cL_law 876 = .ok (.iload 4, 2) := by decide +kernel
theorem dL_law_878 : decode cL_law 878 = .ok (.iconst 2, 1) := by decide +kernel
theorem dL_law_879 : decode cL_law 879 = .ok (.iadd, 1) := by decide +kernel
theorem dL_law_880 : decode cL_law 880 = .ok (.iaload, 1) := by decide +kernel
theorem dL_law_881 : decode cL_law 881 = .ok (.aload_n 0, 1) := by decide +kernel
theorem dL_law_882 : decode cL_law 882 = .ok (.iload 4, 2) := by decide +kernel
theorem dL_law_884 : decode cL_law 884 = .ok (.iconst 3, 1) := by decide +kernel
theorem dL_law_885 : decode cL_law 885 = .ok (.iadd, 1) := by decide +kernel
theorem dL_law_886 : decode cL_law 886 = .ok (.iaload, 1) := by decide +kernel
theorem dL_law_887 : decode cL_law 887 = .ok (.invokevirtual 158, 3) := by decide +kernel
theorem dL_law_890 : decode cL_law 890 = .ok (.istore 6, 2) := by decide +kernel
theorem dL_law_892 : decode cL_law 892 = .ok (.aload_n 2, 1) := by decide +kernel
theorem dL_law_893 : decode cL_law 893 = .ok (.invokevirtual 124, 3) := by decide +kernel
theorem dL_law_896 : decode cL_law 896 = .ok (.iload 5, 2) := by decide +kernel
theorem dL_law_898 : decode cL_law 898 = .ok (.if_icmp .eq 5, 3) := by decide +kernel
theorem dL_law_901 : decode cL_law 901 = .ok (.iconst 0, 1) := by decide +kernel
theorem dL_law_902 : decode cL_law 902 = .ok (.ireturn, 1) := by decide +kernel
theorem dL_law_903 : decode cL_law 903 = .ok (.iload 5, 2) := by decide +kernel
theorem dL_law_905 : decode cL_law 905 = .ok (.ifCond .ne 15, 3) := by decide +kernel
theorem dL_law_908 : decode cL_law 908 = .ok (.aload_n 3, 1) := by decide +kernel
theorem dL_law_909 : decode cL_law 909 = .ok (.iconst 0, 1) := by decide +kernel
theorem dL_law_910 : decode cL_law 910 = .ok (.laload, 1) := by decide +kernel
theorem dL_law_911 : decode cL_law 911 = .ok (.iload 6, 2) := by decide +kernel
theorem dL_law_913 : decode cL_law 913 = .ok (.i2l, 1) := by decide +kernel
theorem dL_law_914 : decode cL_law 914 = .ok (.lcmp, 1) := by decide +kernel
theorem dL_law_915 : decode cL_law 915 = .ok (.ifCond .eq 5, 3) := by decide +kernel
theorem dL_law_918 : decode cL_law 918 = .ok (.iconst 0, 1) := by decide +kernel
theorem dL_law_919 : decode cL_law 919 = .ok (.ireturn, 1) := by decide +kernel
theorem dL_law_920 : decode cL_law 920 = .ok (.goto 1409, 3) := by decide +kernel
theorem dL_law_923 : decode cL_law 923 = .ok (.aload_n 1, 1) := by decide +kernel
theorem dL_law_924 : decode cL_law 924 = .ok (.aload_n 0, 1) := by decide +kernel
theorem dL_law_925 : decode cL_law 925 = .ok (.iload 4, 2) := by decide +kernel
theorem dL_law_927 : decode cL_law 927 = .ok (.iconst 1, 1) := by decide +kernel
theorem dL_law_928 : decode cL_law 928 = .ok (.iadd, 1) := by decide +kernel
theorem dL_law_929 : decode cL_law 929 = .ok (.iaload, 1) := by decide +kernel
theorem dL_law_930 : decode cL_law 930 = .ok (.aload_n 3, 1) := by decide +kernel
theorem dL_law_931 : decode cL_law 931 = .ok (.invokestatic 159, 3) := by decide +kernel
theorem dL_law_934 : decode cL_law 934 = .ok (.istore 5, 2) := by decide +kernel
theorem dL_law_936 : decode cL_law 936 = .ok (.aload_n 2, 1) := by decide +kernel
theorem dL_law_937 : decode cL_law 937 = .ok (.aload_n 0, 1) := by decide +kernel
theorem dL_law_938 : decode cL_law 938 = .ok (.iload 4, 2) := by decide +kernel
theorem dL_law_940 : decode cL_law 940 = .ok (.iconst 1, 1) := by decide +kernel
theorem dL_law_941 : decode cL_law 941 = .ok (.iadd, 1) := by decide +kernel
theorem dL_law_942 : decode cL_law 942 = .ok (.iaload, 1) := by decide +kernel
theorem dL_law_943 : decode cL_law 943 = .ok (.invokevirtual 161, 3) := by decide +kernel
theorem dL_law_946 : decode cL_law 946 = .ok (.istore 6, 2) := by decide +kernel
theorem dL_law_948 : decode cL_law 948 = .ok (.aload_n 2, 1) := by decide +kernel
theorem dL_law_949 : decode cL_law 949 = .ok (.invokevirtual 124, 3) := by decide +kernel
theorem dL_law_952 : decode cL_law 952 = .ok (.iload 5, 2) := by decide +kernel
theorem dL_law_954 : decode cL_law 954 = .ok (.if_icmp .eq 5, 3) := by decide +kernel
theorem dL_law_957 : decode cL_law 957 = .ok (.iconst 0, 1) := by decide +kernel
theorem dL_law_958 : decode cL_law 958 = .ok (.ireturn, 1) := by decide +kernel
theorem dL_law_959 : decode cL_law 959 = .ok (.iload 5, 2) := by decide +kernel
theorem dL_law_961 : decode cL_law 961 = .ok (.ifCond .ne 15, 3) := by decide +kernel
theorem dL_law_964 : decode cL_law 964 = .ok (.aload_n 3, 1) := by decide +kernel
theorem dL_law_965 : decode cL_law 965 = .ok (.iconst 0, 1) := by decide +kernel
theorem dL_law_966 : decode cL_law 966 = .ok (.laload, 1) := by decide +kernel
theorem dL_law_967 : decode cL_law 967 = .ok (.iload 6, 2) := by decide +kernel
theorem dL_law_969 : decode cL_law 969 = .ok (.i2l, 1) := by decide +kernel
theorem dL_law_970 : decode cL_law 970 = .ok (.lcmp, 1) := by decide +kernel
theorem dL_law_971 : decode cL_law 971 = .ok (.ifCond .eq 5, 3) := by decide +kernel
theorem dL_law_974 : decode cL_law 974 = .ok (.iconst 0, 1) := by decide +kernel
theorem dL_law_975 : decode cL_law 975 = .ok (.ireturn, 1) := by decide +kernel
theorem dL_law_976 : decode cL_law 976 = .ok (.goto 1353, 3) := by decide +kernel
theorem dL_law_979 : decode cL_law 979 = .ok (.aload_n 1, 1) := by decide +kernel
theorem dL_law_980 : decode cL_law 980 = .ok (.aload_n 0, 1) := by decide +kernel
theorem dL_law_981 : decode cL_law 981 = .ok (.iload 4, 2) := by decide +kernel
theorem dL_law_983 : decode cL_law 983 = .ok (.iconst 1, 1) := by decide +kernel
theorem dL_law_984 : decode cL_law 984 = .ok (.iadd, 1) := by decide +kernel
theorem dL_law_985 : decode cL_law 985 = .ok (.iaload, 1) := by decide +kernel
theorem dL_law_986 : decode cL_law 986 = .ok (.aload_n 3, 1) := by decide +kernel
theorem dL_law_987 : decode cL_law 987 = .ok (.invokestatic 162, 3) := by decide +kernel
theorem dL_law_990 : decode cL_law 990 = .ok (.istore 5, 2) := by decide +kernel
theorem dL_law_992 : decode cL_law 992 = .ok (.aload_n 2, 1) := by decide +kernel
theorem dL_law_993 : decode cL_law 993 = .ok (.aload_n 0, 1) := by decide +kernel
theorem dL_law_994 : decode cL_law 994 = .ok (.iload 4, 2) := by decide +kernel
theorem dL_law_996 : decode cL_law 996 = .ok (.iconst 1, 1) := by decide +kernel
theorem dL_law_997 : decode cL_law 997 = .ok (.iadd, 1) := by decide +kernel
theorem dL_law_998 : decode cL_law 998 = .ok (.iaload, 1) := by decide +kernel
theorem dL_law_999 : decode cL_law 999 = .ok (.invokevirtual 164, 3) := by decide +kernel
theorem dL_law_1002 : decode cL_law 1002 = .ok (.istore 6, 2) := by decide +kernel
theorem dL_law_1004 : decode cL_law 1004 = .ok (.aload_n 2, 1) := by decide +kernel
theorem dL_law_1005 : decode cL_law 1005 = .ok (.invokevirtual 124, 3) := by decide +kernel
theorem dL_law_1008 : decode cL_law 1008 = .ok (.iload 5, 2) := by decide +kernel
theorem dL_law_1010 : decode cL_law 1010 = .ok (.if_icmp .eq 5, 3) := by decide +kernel
theorem dL_law_1013 : decode cL_law 1013 = .ok (.iconst 0, 1) := by decide +kernel
theorem dL_law_1014 : decode cL_law 1014 = .ok (.ireturn, 1) := by decide +kernel
theorem dL_law_1015 : decode cL_law 1015 = .ok (.iload 5, 2) := by decide +kernel
theorem dL_law_1017 : decode cL_law 1017 = .ok (.ifCond .ne 15, 3) := by decide +kernel
theorem dL_law_1020 : decode cL_law 1020 = .ok (.aload_n 3, 1) := by decide +kernel
theorem dL_law_1021 : decode cL_law 1021 = .ok (.iconst 0, 1) := by decide +kernel
theorem dL_law_1022 : decode cL_law 1022 = .ok (.laload, 1) := by decide +kernel
theorem dL_law_1023 : decode cL_law 1023 = .ok (.iload 6, 2) := by decide +kernel
theorem dL_law_1025 : decode cL_law 1025 = .ok (.i2l, 1) := by decide +kernel
theorem dL_law_1026 : decode cL_law 1026 = .ok (.lcmp, 1) := by decide +kernel
theorem dL_law_1027 : decode cL_law 1027 = .ok (.ifCond .eq 5, 3) := by decide +kernel
theorem dL_law_1030 : decode cL_law 1030 = .ok (.iconst 0, 1) := by decide +kernel
theorem dL_law_1031 : decode cL_law 1031 = .ok (.ireturn, 1) := by decide +kernel
theorem dL_law_1032 : decode cL_law 1032 = .ok (.goto 1297, 3) := by decide +kernel
theorem dL_law_1035 : decode cL_law 1035 = .ok (.aload_n 1, 1) := by decide +kernel
theorem dL_law_1036 : decode cL_law 1036 = .ok (.aload_n 0, 1) := by decide +kernel
theorem dL_law_1037 : decode cL_law 1037 = .ok (.iload 4, 2) := by decide +kernel
theorem dL_law_1039 : decode cL_law 1039 = .ok (.iconst 1, 1) := by decide +kernel
theorem dL_law_1040 : decode cL_law 1040 = .ok (.iadd, 1) := by decide +kernel
theorem dL_law_1041 : decode cL_law 1041 = .ok (.iaload, 1) := by decide +kernel
theorem dL_law_1042 : decode cL_law 1042 = .ok (.aload_n 0, 1) := by decide +kernel
theorem dL_law_1043 : decode cL_law 1043 = .ok (.iload 4, 2) := by decide +kernel
theorem dL_law_1045 : decode cL_law 1045 = .ok (.iconst 2, 1) := by decide +kernel
theorem dL_law_1046 : decode cL_law 1046 = .ok (.iadd, 1) := by decide +kernel
theorem dL_law_1047 : decode cL_law 1047 = .ok (.iaload, 1) := by decide +kernel
theorem dL_law_1048 : decode cL_law 1048 = .ok (.aload_n 3, 1) := by decide +kernel
theorem dL_law_1049 : decode cL_law 1049 = .ok (.invokestatic 165, 3) := by decide +kernel
theorem dL_law_1052 : decode cL_law 1052 = .ok (.istore 5, 2) := by decide +kernel
theorem dL_law_1054 : decode cL_law 1054 = .ok (.aload_n 2, 1) := by decide +kernel
theorem dL_law_1055 : decode cL_law 1055 = .ok (.aload_n 0, 1) := by decide +kernel
theorem dL_law_1056 : decode cL_law 1056 = .ok (.iload 4, 2) := by decide +kernel
theorem dL_law_1058 : decode cL_law 1058 = .ok (.iconst 1, 1) := by decide +kernel
theorem dL_law_1059 : decode cL_law 1059 = .ok (.iadd, 1) := by decide +kernel
theorem dL_law_1060 : decode cL_law 1060 = .ok (.iaload, 1) := by decide +kernel
theorem dL_law_1061 : decode cL_law 1061 = .ok (.aload_n 0, 1) := by decide +kernel
theorem dL_law_1062 : decode cL_law 1062 = .ok (.iload 4, 2) := by decide +kernel
theorem dL_law_1064 : decode cL_law 1064 = .ok (.iconst 2, 1) := by decide +kernel
theorem dL_law_1065 : decode cL_law 1065 = .ok (.iadd, 1) := by decide +kernel
theorem dL_law_1066 : decode cL_law 1066 = .ok (.iaload, 1) := by decide +kernel
theorem dL_law_1067 : decode cL_law 1067 = .ok (.invokevirtual 167, 3) := by decide +kernel
theorem dL_law_1070 : decode cL_law 1070 = .ok (.istore 6, 2) := by decide +kernel
theorem dL_law_1072 : decode cL_law 1072 = .ok (.aload_n 2, 1) := by decide +kernel
theorem dL_law_1073 : decode cL_law 1073 = .ok (.invokevirtual 124, 3) := by decide +kernel
theorem dL_law_1076 : decode cL_law 1076 = .ok (.iload 5, 2) := by decide +kernel
theorem dL_law_1078 : decode cL_law 1078 = .ok (.if_icmp .eq 5, 3) := by decide +kernel
theorem dL_law_1081 : decode cL_law 1081 = .ok (.iconst 0, 1) := by decide +kernel
theorem dL_law_1082 : decode cL_law 1082 = .ok (.ireturn, 1) := by decide +kernel
theorem dL_law_1083 : decode cL_law 1083 = .ok (.iload 5, 2) := by decide +kernel
theorem dL_law_1085 : decode cL_law 1085 = .ok (.ifCond .ne 15, 3) := by decide +kernel
theorem dL_law_1088 : decode cL_law 1088 = .ok (.aload_n 3, 1) := by decide +kernel
theorem dL_law_1089 : decode cL_law 1089 = .ok (.iconst 0, 1) := by decide +kernel
theorem dL_law_1090 : decode cL_law 1090 = .ok (.laload, 1) := by decide +kernel
theorem dL_law_1091 : decode cL_law 1091 = .ok (.iload 6, 2) := by decide +kernel
theorem dL_law_1093 : decode cL_law 1093 = .ok (.i2l, 1) := by decide +kernel
theorem dL_law_1094 : decode cL_law 1094 = .ok (.lcmp, 1) := by decide +kernel
theorem dL_law_1095 : decode cL_law 1095 = .ok (.ifCond .eq 5, 3) := by decide +kernel
theorem dL_law_1098 : decode cL_law 1098 = .ok (.iconst 0, 1) := by decide +kernel
theorem dL_law_1099 : decode cL_law 1099 = .ok (.ireturn, 1) := by decide +kernel
theorem dL_law_1100 : decode cL_law 1100 = .ok (.goto 1229, 3) := by decide +kernel
theorem dL_law_1103 : decode cL_law 1103 = .ok (.aload_n 1, 1) := by decide +kernel
theorem dL_law_1104 : decode cL_law 1104 = .ok (.aload_n 0, 1) := by decide +kernel
theorem dL_law_1105 : decode cL_law 1105 = .ok (.iload 4, 2) := by decide +kernel
theorem dL_law_1107 : decode cL_law 1107 = .ok (.iconst 1, 1) := by decide +kernel
theorem dL_law_1108 : decode cL_law 1108 = .ok (.iadd, 1) := by decide +kernel
theorem dL_law_1109 : decode cL_law 1109 = .ok (.iaload, 1) := by decide +kernel
theorem dL_law_1110 : decode cL_law 1110 = .ok (.aload_n 3, 1) := by decide +kernel
theorem dL_law_1111 : decode cL_law 1111 = .ok (.invokestatic 168, 3) := by decide +kernel
theorem dL_law_1114 : decode cL_law 1114 = .ok (.istore 5, 2) := by decide +kernel
theorem dL_law_1116 : decode cL_law 1116 = .ok (.aload_n 2, 1) := by decide +kernel
theorem dL_law_1117 : decode cL_law 1117 = .ok (.aload_n 0, 1) := by decide +kernel
theorem dL_law_1118 : decode cL_law 1118 = .ok (.iload 4, 2) := by decide +kernel
theorem dL_law_1120 : decode cL_law 1120 = .ok (.iconst 1, 1) := by decide +kernel
theorem dL_law_1121 : decode cL_law 1121 = .ok (.iadd, 1) := by decide +kernel
theorem dL_law_1122 : decode cL_law 1122 = .ok (.iaload, 1) := by decide +kernel
theorem dL_law_1123 : decode cL_law 1123 = .ok (.invokevirtual 170, 3) := by decide +kernel
theorem dL_law_1126 : decode cL_law 1126 = .ok (.istore 6, 2) := by decide +kernel
theorem dL_law_1128 : decode cL_law 1128 = .ok (.aload_n 2, 1) := by decide +kernel
theorem dL_law_1129 : decode cL_law 1129 = .ok (.invokevirtual 124, 3) := by decide +kernel
theorem dL_law_1132 : decode cL_law 1132 = .ok (.iload 5, 2) := by decide +kernel
theorem dL_law_1134 : decode cL_law 1134 = .ok (.if_icmp .eq 5, 3) := by decide +kernel
theorem dL_law_1137 : decode cL_law 1137 = .ok (.iconst 0, 1) := by decide +kernel
theorem dL_law_1138 : decode cL_law 1138 = .ok (.ireturn, 1) := by decide +kernel
theorem dL_law_1139 : decode cL_law 1139 = .ok (.iload 5, 2) := by decide +kernel
theorem dL_law_1141 : decode cL_law 1141 = .ok (.ifCond .ne 15, 3) := by decide +kernel
theorem dL_law_1144 : decode cL_law 1144 = .ok (.aload_n 3, 1) := by decide +kernel
theorem dL_law_1145 : decode cL_law 1145 = .ok (.iconst 0, 1) := by decide +kernel
theorem dL_law_1146 : decode cL_law 1146 = .ok (.laload, 1) := by decide +kernel
theorem dL_law_1147 : decode cL_law 1147 = .ok (.iload 6, 2) := by decide +kernel
theorem dL_law_1149 : decode cL_law 1149 = .ok (.i2l, 1) := by decide +kernel
theorem dL_law_1150 : decode cL_law 1150 = .ok (.lcmp, 1) := by decide +kernel
theorem dL_law_1151 : decode cL_law 1151 = .ok (.ifCond .eq 5, 3) := by decide +kernel
theorem dL_law_1154 : decode cL_law 1154 = .ok (.iconst 0, 1) := by decide +kernel
theorem dL_law_1155 : decode cL_law 1155 = .ok (.ireturn, 1) := by decide +kernel
theorem dL_law_1156 : decode cL_law 1156 = .ok (.goto 1173, 3) := by decide +kernel
theorem dL_law_1159 : decode cL_law 1159 = .ok (.aload_n 1, 1) := by decide +kernel
theorem dL_law_1160 : decode cL_law 1160 = .ok (.aload_n 0, 1) := by decide +kernel
theorem dL_law_1161 : decode cL_law 1161 = .ok (.iload 4, 2) := by decide +kernel
theorem dL_law_1163 : decode cL_law 1163 = .ok (.iconst 1, 1) := by decide +kernel
theorem dL_law_1164 : decode cL_law 1164 = .ok (.iadd, 1) := by decide +kernel
theorem dL_law_1165 : decode cL_law 1165 = .ok (.iaload, 1) := by decide +kernel
theorem dL_law_1166 : decode cL_law 1166 = .ok (.aload_n 0, 1) := by decide +kernel
theorem dL_law_1167 : decode cL_law 1167 = .ok (.iload 4, 2) := by decide +kernel
theorem dL_law_1169 : decode cL_law 1169 = .ok (.iconst 2, 1) := by decide +kernel
theorem dL_law_1170 : decode cL_law 1170 = .ok (.iadd, 1) := by decide +kernel
theorem dL_law_1171 : decode cL_law 1171 = .ok (.iaload, 1) := by decide +kernel
theorem dL_law_1172 : decode cL_law 1172 = .ok (.aload_n 3, 1) := by decide +kernel
theorem dL_law_1173 : decode cL_law 1173 = .ok (.invokestatic 171, 3) := by decide +kernel
theorem dL_law_1176 : decode cL_law 1176 = .ok (.istore 5, 2) := by decide +kernel
theorem dL_law_1178 : decode cL_law 1178 = .ok (.aload_n 2, 1) := by decide +kernel
theorem dL_law_1179 : decode cL_law 1179 = .ok (.aload_n 0, 1) := by decide +kernel
theorem dL_law_1180 : decode cL_law 1180 = .ok (.iload 4, 2) := by decide +kernel
theorem dL_law_1182 : decode cL_law 1182 = .ok (.iconst 1, 1) := by decide +kernel
theorem dL_law_1183 : decode cL_law 1183 = .ok (.iadd, 1) := by decide +kernel
theorem dL_law_1184 : decode cL_law 1184 = .ok (.iaload, 1) := by decide +kernel
theorem dL_law_1185 : decode cL_law 1185 = .ok (.aload_n 0, 1) := by decide +kernel
theorem dL_law_1186 : decode cL_law 1186 = .ok (.iload 4, 2) := by decide +kernel
theorem dL_law_1188 : decode cL_law 1188 = .ok (.iconst 2, 1) := by decide +kernel
theorem dL_law_1189 : decode cL_law 1189 = .ok (.iadd, 1) := by decide +kernel
theorem dL_law_1190 : decode cL_law 1190 = .ok (.iaload, 1) := by decide +kernel
theorem dL_law_1191 : decode cL_law 1191 = .ok (.invokevirtual 173, 3) := by decide +kernel
theorem dL_law_1194 : decode cL_law 1194 = .ok (.istore 6, 2) := by decide +kernel
theorem dL_law_1196 : decode cL_law 1196 = .ok (.aload_n 2, 1) := by decide +kernel
theorem dL_law_1197 : decode cL_law 1197 = .ok (.invokevirtual 124, 3) := by decide +kernel
theorem dL_law_1200 : decode cL_law 1200 = .ok (.iload 5, 2) := by decide +kernel
theorem dL_law_1202 : decode cL_law 1202 = .ok (.if_icmp .eq 5, 3) := by decide +kernel
theorem dL_law_1205 : decode cL_law 1205 = .ok (.iconst 0, 1) := by decide +kernel
theorem dL_law_1206 : decode cL_law 1206 = .ok (.ireturn, 1) := by decide +kernel
theorem dL_law_1207 : decode cL_law 1207 = .ok (.iload 5, 2) := by decide +kernel
theorem dL_law_1209 : decode cL_law 1209 = .ok (.ifCond .ne 15, 3) := by decide +kernel
theorem dL_law_1212 : decode cL_law 1212 = .ok (.aload_n 3, 1) := by decide +kernel
theorem dL_law_1213 : decode cL_law 1213 = .ok (.iconst 0, 1) := by decide +kernel
theorem dL_law_1214 : decode cL_law 1214 = .ok (.laload, 1) := by decide +kernel
theorem dL_law_1215 : decode cL_law 1215 = .ok (.iload 6, 2) := by decide +kernel
theorem dL_law_1217 : decode cL_law 1217 = .ok (.i2l, 1) := by decide +kernel
theorem dL_law_1218 : decode cL_law 1218 = .ok (.lcmp, 1) := by decide +kernel
theorem dL_law_1219 : decode cL_law 1219 = .ok (.ifCond .eq 5, 3) := by decide +kernel
theorem dL_law_1222 : decode cL_law 1222 = .ok (.iconst 0, 1) := by decide +kernel
theorem dL_law_1223 : decode cL_law 1223 = .ok (.ireturn, 1) := by decide +kernel
theorem dL_law_1224 : decode cL_law 1224 = .ok (.goto 1105, 3) := by decide +kernel
theorem dL_law_1227 : decode cL_law 1227 = .ok (.aload_n 1, 1) := by decide +kernel
theorem dL_law_1228 : decode cL_law 1228 = .ok (.aload_n 0, 1) := by decide +kernel
theorem dL_law_1229 : decode cL_law 1229 = .ok (.iload 4, 2) := by decide +kernel
theorem dL_law_1231 : decode cL_law 1231 = .ok (.iconst 1, 1) := by decide +kernel
theorem dL_law_1232 : decode cL_law 1232 = .ok (.iadd, 1) := by decide +kernel
theorem dL_law_1233 : decode cL_law 1233 = .ok (.iaload, 1) := by decide +kernel
theorem dL_law_1234 : decode cL_law 1234 = .ok (.aload_n 0, 1) := by decide +kernel
theorem dL_law_1235 : decode cL_law 1235 = .ok (.iload 4, 2) := by decide +kernel
theorem dL_law_1237 : decode cL_law 1237 = .ok (.iconst 2, 1) := by decide +kernel
theorem dL_law_1238 : decode cL_law 1238 = .ok (.iadd, 1) := by decide +kernel
theorem dL_law_1239 : decode cL_law 1239 = .ok (.iaload, 1) := by decide +kernel
theorem dL_law_1240 : decode cL_law 1240 = .ok (.aload_n 3, 1) := by decide +kernel
theorem dL_law_1241 : decode cL_law 1241 = .ok (.invokestatic 174, 3) := by decide +kernel
theorem dL_law_1244 : decode cL_law 1244 = .ok (.istore 5, 2) := by decide +kernel
theorem dL_law_1246 : decode cL_law 1246 = .ok (.aload_n 2, 1) := by decide +kernel
theorem dL_law_1247 : decode cL_law 1247 = .ok (.aload_n 0, 1) := by decide +kernel
theorem dL_law_1248 : decode cL_law 1248 = .ok (.iload 4, 2) := by decide +kernel
theorem dL_law_1250 : decode cL_law 1250 = .ok (.iconst 1, 1) := by decide +kernel
theorem dL_law_1251 : decode cL_law 1251 = .ok (.iadd, 1) := by decide +kernel
theorem dL_law_1252 : decode cL_law 1252 = .ok (.iaload, 1) := by decide +kernel
theorem dL_law_1253 : decode cL_law 1253 = .ok (.aload_n 0, 1) := by decide +kernel
theorem dL_law_1254 : decode cL_law 1254 = .ok (.iload 4, 2) := by decide +kernel
theorem dL_law_1256 : decode cL_law 1256 = .ok (.iconst 2, 1) := by decide +kernel
theorem dL_law_1257 : decode cL_law 1257 = .ok (.iadd, 1) := by decide +kernel
theorem dL_law_1258 : decode cL_law 1258 = .ok (.iaload, 1) := by decide +kernel
theorem dL_law_1259 : decode cL_law 1259 = .ok (.invokevirtual 176, 3) := by decide +kernel
theorem dL_law_1262 : decode cL_law 1262 = .ok (.istore 6, 2) := by decide +kernel
theorem dL_law_1264 : decode cL_law 1264 = .ok (.aload_n 2, 1) := by decide +kernel
theorem dL_law_1265 : decode cL_law 1265 = .ok (.invokevirtual 124, 3) := by decide +kernel
theorem dL_law_1268 : decode cL_law 1268 = .ok (.iload 5, 2) := by decide +kernel
theorem dL_law_1270 : decode cL_law 1270 = .ok (.if_icmp .eq 5, 3) := by decide +kernel
theorem dL_law_1273 : decode cL_law 1273 = .ok (.iconst 0, 1) := by decide +kernel
theorem dL_law_1274 : decode cL_law 1274 = .ok (.ireturn, 1) := by decide +kernel
theorem dL_law_1275 : decode cL_law 1275 = .ok (.iload 5, 2) := by decide +kernel
theorem dL_law_1277 : decode cL_law 1277 = .ok (.ifCond .ne 15, 3) := by decide +kernel
theorem dL_law_1280 : decode cL_law 1280 = .ok (.aload_n 3, 1) := by decide +kernel
theorem dL_law_1281 : decode cL_law 1281 = .ok (.iconst 0, 1) := by decide +kernel
theorem dL_law_1282 : decode cL_law 1282 = .ok (.laload, 1) := by decide +kernel
theorem dL_law_1283 : decode cL_law 1283 = .ok (.iload 6, 2) := by decide +kernel
theorem dL_law_1285 : decode cL_law 1285 = .ok (.i2l, 1) := by decide +kernel
theorem dL_law_1286 : decode cL_law 1286 = .ok (.lcmp, 1) := by decide +kernel
theorem dL_law_1287 : decode cL_law 1287 = .ok (.ifCond .eq 5, 3) := by decide +kernel
theorem dL_law_1290 : decode cL_law 1290 = .ok (.iconst 0, 1) := by decide +kernel
theorem dL_law_1291 : decode cL_law 1291 = .ok (.ireturn, 1) := by decide +kernel
theorem dL_law_1292 : decode cL_law 1292 = .ok (.goto 1037, 3) := by decide +kernel
theorem dL_law_1295 : decode cL_law 1295 = .ok (.aload_n 1, 1) := by decide +kernel
theorem dL_law_1296 : decode cL_law 1296 = .ok (.invokevirtual 177, 3) := by decide +kernel
theorem dL_law_1299 : decode cL_law 1299 = .ok (.aload_n 2, 1) := by decide +kernel
theorem dL_law_1300 : decode cL_law 1300 = .ok (.invokevirtual 180, 3) := by decide +kernel
theorem dL_law_1303 : decode cL_law 1303 = .ok (.if_icmp .eq 1026, 3) := by decide +kernel
theorem dL_law_1306 : decode cL_law 1306 = .ok (.iconst 0, 1) := by decide +kernel
theorem dL_law_1307 : decode cL_law 1307 = .ok (.ireturn, 1) := by decide +kernel
theorem dL_law_1308 : decode cL_law 1308 = .ok (.aload_n 1, 1) := by decide +kernel
theorem dL_law_1309 : decode cL_law 1309 = .ok (.aload_n 0, 1) := by decide +kernel
theorem dL_law_1310 : decode cL_law 1310 = .ok (.iload 4, 2) := by decide +kernel
theorem dL_law_1312 : decode cL_law 1312 = .ok (.iconst 1, 1) := by decide +kernel
theorem dL_law_1313 : decode cL_law 1313 = .ok (.iadd, 1) := by decide +kernel
theorem dL_law_1314 : decode cL_law 1314 = .ok (.iaload, 1) := by decide +kernel
theorem dL_law_1315 : decode cL_law 1315 = .ok (.aload_n 3, 1) := by decide +kernel
theorem dL_law_1316 : decode cL_law 1316 = .ok (.invokestatic 181, 3) := by decide +kernel
theorem dL_law_1319 : decode cL_law 1319 = .ok (.istore 5, 2) := by decide +kernel
theorem dL_law_1321 : decode cL_law 1321 = .ok (.aload_n 2, 1) := by decide +kernel
theorem dL_law_1322 : decode cL_law 1322 = .ok (.aload_n 0, 1) := by decide +kernel
theorem dL_law_1323 : decode cL_law 1323 = .ok (.iload 4, 2) := by decide +kernel
theorem dL_law_1325 : decode cL_law 1325 = .ok (.iconst 1, 1) := by decide +kernel
theorem dL_law_1326 : decode cL_law 1326 = .ok (.iadd, 1) := by decide +kernel
theorem dL_law_1327 : decode cL_law 1327 = .ok (.iaload, 1) := by decide +kernel
theorem dL_law_1328 : decode cL_law 1328 = .ok (.invokevirtual 183, 3) := by decide +kernel
theorem dL_law_1331 : decode cL_law 1331 = .ok (.istore 6, 2) := by decide +kernel
theorem dL_law_1333 : decode cL_law 1333 = .ok (.aload_n 2, 1) := by decide +kernel
theorem dL_law_1334 : decode cL_law 1334 = .ok (.invokevirtual 124, 3) := by decide +kernel
theorem dL_law_1337 : decode cL_law 1337 = .ok (.iload 5, 2) := by decide +kernel
theorem dL_law_1339 : decode cL_law 1339 = .ok (.if_icmp .eq 5, 3) := by decide +kernel
theorem dL_law_1342 : decode cL_law 1342 = .ok (.iconst 0, 1) := by decide +kernel
theorem dL_law_1343 : decode cL_law 1343 = .ok (.ireturn, 1) := by decide +kernel
theorem dL_law_1344 : decode cL_law 1344 = .ok (.iload 5, 2) := by decide +kernel
theorem dL_law_1346 : decode cL_law 1346 = .ok (.ifCond .ne 15, 3) := by decide +kernel
theorem dL_law_1349 : decode cL_law 1349 = .ok (.aload_n 3, 1) := by decide +kernel
theorem dL_law_1350 : decode cL_law 1350 = .ok (.iconst 0, 1) := by decide +kernel
theorem dL_law_1351 : decode cL_law 1351 = .ok (.laload, 1) := by decide +kernel
theorem dL_law_1352 : decode cL_law 1352 = .ok (.iload 6, 2) := by decide +kernel
theorem dL_law_1354 : decode cL_law 1354 = .ok (.i2l, 1) := by decide +kernel
theorem dL_law_1355 : decode cL_law 1355 = .ok (.lcmp, 1) := by decide +kernel
theorem dL_law_1356 : decode cL_law 1356 = .ok (.ifCond .eq 5, 3) := by decide +kernel
theorem dL_law_1359 : decode cL_law 1359 = .ok (.iconst 0, 1) := by decide +kernel
theorem dL_law_1360 : decode cL_law 1360 = .ok (.ireturn, 1) := by decide +kernel
theorem dL_law_1361 : decode cL_law 1361 = .ok (.goto 968, 3) := by decide +kernel
theorem dL_law_1364 : decode cL_law 1364 = .ok (.aload_n 1, 1) := by decide +kernel
theorem dL_law_1365 : decode cL_law 1365 = .ok (.aload_n 0, 1) := by decide +kernel
end
section
theorem dL_law_1366 : decode cL_law 1366 = .ok (.iload 4, 2) := by decide +kernel
theorem dL_law_1368 : decode cL_law 1368 = .ok (.iconst 1, 1) := by decide +kernel
theorem dL_law_1369 : decode cL_law 1369 = .ok (.iadd, 1) := by decide +kernel
theorem dL_law_1370 : decode cL_law 1370 = .ok (.iaload, 1) := by decide +kernel
theorem dL_law_1371 : decode cL_law 1371 = .ok (.aload_n 3, 1) := by decide +kernel
theorem dL_law_1372 : decode cL_law 1372 = .ok (.invokestatic 184, 3) := by decide +kernel
theorem dL_law_1375 : decode cL_law 1375 = .ok (.istore 5, 2) := by decide +kernel
theorem dL_law_1377 : decode cL_law 1377 = .ok (.aload_n 2, 1) := by decide +kernel
theorem dL_law_1378 : decode cL_law 1378 = .ok (.aload_n 0, 1) := by decide +kernel
theorem dL_law_1379 : decode cL_law 1379 = .ok (.iload 4, 2) := by decide +kernel
theorem dL_law_1381 : decode cL_law 1381 = .ok (.iconst 1, 1) := by decide +kernel
theorem dL_law_1382 : decode cL_law 1382 = .ok (.iadd, 1) := by decide +kernel
theorem dL_law_1383 : decode cL_law 1383 = .ok (.iaload, 1) := by decide +kernel
theorem dL_law_1384 : decode cL_law 1384 = .ok (.invokevirtual 186, 3) := by decide +kernel
theorem dL_law_1387 : decode cL_law 1387 = .ok (.istore 6, 2) := by decide +kernel
theorem dL_law_1389 : decode cL_law 1389 = .ok (.aload_n 2, 1) := by decide +kernel
theorem dL_law_1390 : decode cL_law 1390 = .ok (.invokevirtual 124, 3) := by decide +kernel
theorem dL_law_1393 : decode cL_law 1393 = .ok (.iload 5, 2) := by decide +kernel
theorem dL_law_1395 : decode cL_law 1395 = .ok (.if_icmp .eq 5, 3) := by decide +kernel
theorem dL_law_1398 : decode cL_law 1398 = .ok (.iconst 0, 1) := by decide +kernel
theorem dL_law_1399 : decode cL_law 1399 = .ok (.ireturn, 1) := by decide +kernel
theorem dL_law_1400 : decode cL_law 1400 = .ok (.iload 5, 2) := by decide +kernel
theorem dL_law_1402 : decode cL_law 1402 = .ok (.ifCond .ne 15, 3) := by decide +kernel
theorem dL_law_1405 : decode cL_law 1405 = .ok (.aload_n 3, 1) := by decide +kernel
theorem dL_law_1406 : decode cL_law 1406 = .ok (.iconst 0, 1) := by decide +kernel
theorem dL_law_1407 : decode cL_law 1407 = .ok (.laload, 1) := by decide +kernel
theorem dL_law_1408 : decode cL_law 1408 = .ok (.iload 6, 2) := by decide +kernel
theorem dL_law_1410 : decode cL_law 1410 = .ok (.i2l, 1) := by decide +kernel
theorem dL_law_1411 : decode cL_law 1411 = .ok (.lcmp, 1) := by decide +kernel
theorem dL_law_1412 : decode cL_law 1412 = .ok (.ifCond .eq 5, 3) := by decide +kernel
theorem dL_law_1415 : decode cL_law 1415 = .ok (.iconst 0, 1) := by decide +kernel
theorem dL_law_1416 : decode cL_law 1416 = .ok (.ireturn, 1) := by decide +kernel
theorem dL_law_1417 : decode cL_law 1417 = .ok (.goto 912, 3) := by decide +kernel
theorem dL_law_1420 : decode cL_law 1420 = .ok (.aload_n 1, 1) := by decide +kernel
theorem dL_law_1421 : decode cL_law 1421 = .ok (.aload_n 0, 1) := by decide +kernel
theorem dL_law_1422 : decode cL_law 1422 = .ok (.iload 4, 2) := by decide +kernel
theorem dL_law_1424 : decode cL_law 1424 = .ok (.iconst 1, 1) := by decide +kernel
theorem dL_law_1425 : decode cL_law 1425 = .ok (.iadd, 1) := by decide +kernel
theorem dL_law_1426 : decode cL_law 1426 = .ok (.iaload, 1) := by decide +kernel
theorem dL_law_1427 : decode cL_law 1427 = .ok (.aload_n 0, 1) := by decide +kernel
theorem dL_law_1428 : decode cL_law 1428 = .ok (.iload 4, 2) := by decide +kernel
theorem dL_law_1430 : decode cL_law 1430 = .ok (.iconst 2, 1) := by decide +kernel
theorem dL_law_1431 : decode cL_law 1431 = .ok (.iadd, 1) := by decide +kernel
theorem dL_law_1432 : decode cL_law 1432 = .ok (.iaload, 1) := by decide +kernel
theorem dL_law_1433 : decode cL_law 1433 = .ok (.aload_n 0, 1) := by decide +kernel
theorem dL_law_1434 : decode cL_law 1434 = .ok (.iload 4, 2) := by decide +kernel
theorem dL_law_1436 : decode cL_law 1436 = .ok (.iconst 3, 1) := by decide +kernel
theorem dL_law_1437 : decode cL_law 1437 = .ok (.iadd, 1) := by decide +kernel
theorem dL_law_1438 : decode cL_law 1438 = .ok (.iaload, 1) := by decide +kernel
theorem dL_law_1439 : decode cL_law 1439 = .ok (.aload_n 3, 1) := by decide +kernel
theorem dL_law_1440 : decode cL_law 1440 = .ok (.invokestatic 187, 3) := by decide +kernel
theorem dL_law_1443 : decode cL_law 1443 = .ok (.istore 5, 2) := by decide +kernel
theorem dL_law_1445 : decode cL_law 1445 = .ok (.aload_n 2, 1) := by decide +kernel
theorem dL_law_1446 : decode cL_law 1446 = .ok (.aload_n 0, 1) := by decide +kernel
theorem dL_law_1447 : decode cL_law 1447 = .ok (.iload 4, 2) := by decide +kernel
theorem dL_law_1449 : decode cL_law 1449 = .ok (.iconst 1, 1) := by decide +kernel
theorem dL_law_1450 : decode cL_law 1450 = .ok (.iadd, 1) := by decide +kernel
theorem dL_law_1451 : decode cL_law 1451 = .ok (.iaload, 1) := by decide +kernel
theorem dL_law_1452 : decode cL_law 1452 = .ok (.aload_n 0, 1) := by decide +kernel
theorem dL_law_1453 : decode cL_law 1453 = .ok (.iload 4, 2) := by decide +kernel
theorem dL_law_1455 : decode cL_law 1455 = .ok (.iconst 2, 1) := by decide +kernel
theorem dL_law_1456 : decode cL_law 1456 = .ok (.iadd, 1) := by decide +kernel
theorem dL_law_1457 : decode cL_law 1457 = .ok (.iaload, 1) := by decide +kernel
theorem dL_law_1458 : decode cL_law 1458 = .ok (.aload_n 0, 1) := by decide +kernel
theorem dL_law_1459 : decode cL_law 1459 = .ok (.iload 4, 2) := by decide +kernel
theorem dL_law_1461 : decode cL_law 1461 = .ok (.iconst 3, 1) := by decide +kernel
theorem dL_law_1462 : decode cL_law 1462 = .ok (.iadd, 1) := by decide +kernel
theorem dL_law_1463 : decode cL_law 1463 = .ok (.iaload, 1) := by decide +kernel
theorem dL_law_1464 : decode cL_law 1464 = .ok (.invokevirtual 189, 3) := by decide +kernel
theorem dL_law_1467 : decode cL_law 1467 = .ok (.istore 6, 2) := by decide +kernel
theorem dL_law_1469 : decode cL_law 1469 = .ok (.aload_n 2, 1) := by decide +kernel
theorem dL_law_1470 : decode cL_law 1470 = .ok (.invokevirtual 124, 3) := by decide +kernel
theorem dL_law_1473 : decode cL_law 1473 = .ok (.iload 5, 2) := by decide +kernel
theorem dL_law_1475 : decode cL_law 1475 = .ok (.if_icmp .eq 5, 3) := by decide +kernel
theorem dL_law_1478 : decode cL_law 1478 = .ok (.iconst 0, 1) := by decide +kernel
theorem dL_law_1479 : decode cL_law 1479 = .ok (.ireturn, 1) := by decide +kernel
theorem dL_law_1480 : decode cL_law 1480 = .ok (.iload 5, 2) := by decide +kernel
theorem dL_law_1482 : decode cL_law 1482 = .ok (.ifCond .ne 15, 3) := by decide +kernel
theorem dL_law_1485 : decode cL_law 1485 = .ok (.aload_n 3, 1) := by decide +kernel
theorem dL_law_1486 : decode cL_law 1486 = .ok (.iconst 0, 1) := by decide +kernel
theorem dL_law_1487 : decode cL_law 1487 = .ok (.laload, 1) := by decide +kernel
theorem dL_law_1488 : decode cL_law 1488 = .ok (.iload 6, 2) := by decide +kernel
theorem dL_law_1490 : decode cL_law 1490 = .ok (.i2l, 1) := by decide +kernel
theorem dL_law_1491 : decode cL_law 1491 = .ok (.lcmp, 1) := by decide +kernel
theorem dL_law_1492 : decode cL_law 1492 = .ok (.ifCond .eq 5, 3) := by decide +kernel
theorem dL_law_1495 : decode cL_law 1495 = .ok (.iconst 0, 1) := by decide +kernel
theorem dL_law_1496 : decode cL_law 1496 = .ok (.ireturn, 1) := by decide +kernel
theorem dL_law_1497 : decode cL_law 1497 = .ok (.goto 832, 3) := by decide +kernel
theorem dL_law_1500 : decode cL_law 1500 = .ok (.aload_n 1, 1) := by decide +kernel
theorem dL_law_1501 : decode cL_law 1501 = .ok (.aload_n 0, 1) := by decide +kernel
theorem dL_law_1502 : decode cL_law 1502 = .ok (.iload 4, 2) := by decide +kernel
theorem dL_law_1504 : decode cL_law 1504 = .ok (.iconst 1, 1) := by decide +kernel
theorem dL_law_1505 : decode cL_law 1505 = .ok (.iadd, 1) := by decide +kernel
theorem dL_law_1506 : decode cL_law 1506 = .ok (.iaload, 1) := by decide +kernel
theorem dL_law_1507 : decode cL_law 1507 = .ok (.aload_n 0, 1) := by decide +kernel
theorem dL_law_1508 : decode cL_law 1508 = .ok (.iload 4, 2) := by decide +kernel
theorem dL_law_1510 : decode cL_law 1510 = .ok (.iconst 2, 1) := by decide +kernel
theorem dL_law_1511 : decode cL_law 1511 = .ok (.iadd, 1) := by decide +kernel
theorem dL_law_1512 : decode cL_law 1512 = .ok (.iaload, 1) := by decide +kernel
theorem dL_law_1513 : decode cL_law 1513 = .ok (.aload_n 3, 1) := by decide +kernel
theorem dL_law_1514 : decode cL_law 1514 = .ok (.invokestatic 190, 3) := by decide +kernel
theorem dL_law_1517 : decode cL_law 1517 = .ok (.istore 5, 2) := by decide +kernel
theorem dL_law_1519 : decode cL_law 1519 = .ok (.aload_n 2, 1) := by decide +kernel
theorem dL_law_1520 : decode cL_law 1520 = .ok (.aload_n 0, 1) := by decide +kernel
theorem dL_law_1521 : decode cL_law 1521 = .ok (.iload 4, 2) := by decide +kernel
theorem dL_law_1523 : decode cL_law 1523 = .ok (.iconst 1, 1) := by decide +kernel
theorem dL_law_1524 : decode cL_law 1524 = .ok (.iadd, 1) := by decide +kernel
theorem dL_law_1525 : decode cL_law 1525 = .ok (.iaload, 1) := by decide +kernel
theorem dL_law_1526 : decode cL_law 1526 = .ok (.aload_n 0, 1) := by decide +kernel
theorem dL_law_1527 : decode cL_law 1527 = .ok (.iload 4, 2) := by decide +kernel
theorem dL_law_1529 : decode cL_law 1529 = .ok (.iconst 2, 1) := by decide +kernel
theorem dL_law_1530 : decode cL_law 1530 = .ok (.iadd, 1) := by decide +kernel
theorem dL_law_1531 : decode cL_law 1531 = .ok (.iaload, 1) := by decide +kernel
theorem dL_law_1532 : decode cL_law 1532 = .ok (.invokevirtual 192, 3) := by decide +kernel
theorem dL_law_1535 : decode cL_law 1535 = .ok (.istore 6, 2) := by decide +kernel
theorem dL_law_1537 : decode cL_law 1537 = .ok (.aload_n 2, 1) := by decide +kernel
theorem dL_law_1538 : decode cL_law 1538 = .ok (.invokevirtual 124, 3) := by decide +kernel
theorem dL_law_1541 : decode cL_law 1541 = .ok (.iload 5, 2) := by decide +kernel
theorem dL_law_1543 : decode cL_law 1543 = .ok (.if_icmp .eq 5, 3) := by decide +kernel
theorem dL_law_1546 : decode cL_law 1546 = .ok (.iconst 0, 1) := by decide +kernel
theorem dL_law_1547 : decode cL_law 1547 = .ok (.ireturn, 1) := by decide +kernel
theorem dL_law_1548 : decode cL_law 1548 = .ok (.iload 5, 2) := by decide +kernel
theorem dL_law_1550 : decode cL_law 1550 = .ok (.ifCond .ne 15, 3) := by decide +kernel
theorem dL_law_1553 : decode cL_law 1553 = .ok (.aload_n 3, 1) := by decide +kernel
theorem dL_law_1554 : decode cL_law 1554 = .ok (.iconst 0, 1) := by decide +kernel
theorem dL_law_1555 : decode cL_law 1555 = .ok (.laload, 1) := by decide +kernel
theorem dL_law_1556 : decode cL_law 1556 = .ok (.iload 6, 2) := by decide +kernel
theorem dL_law_1558 : decode cL_law 1558 = .ok (.i2l, 1) := by decide +kernel
theorem dL_law_1559 : decode cL_law 1559 = .ok (.lcmp, 1) := by decide +kernel
theorem dL_law_1560 : decode cL_law 1560 = .ok (.ifCond .eq 5, 3) := by decide +kernel
theorem dL_law_1563 : decode cL_law 1563 = .ok (.iconst 0, 1) := by decide +kernel
theorem dL_law_1564 : decode cL_law 1564 = .ok (.ireturn, 1) := by decide +kernel
theorem dL_law_1565 : decode cL_law 1565 = .ok (.goto 764, 3) := by decide +kernel
theorem dL_law_1568 : decode cL_law 1568 = .ok (.aload_n 1, 1) := by decide +kernel
theorem dL_law_1569 : decode cL_law 1569 = .ok (.aload_n 0, 1) := by decide +kernel
theorem dL_law_1570 : decode cL_law 1570 = .ok (.iload 4, 2) := by decide +kernel
theorem dL_law_1572 : decode cL_law 1572 = .ok (.iconst 1, 1) := by decide +kernel
theorem dL_law_1573 : decode cL_law 1573 = .ok (.iadd, 1) := by decide +kernel
theorem dL_law_1574 : decode cL_law 1574 = .ok (.iaload, 1) := by decide +kernel
theorem dL_law_1575 : decode cL_law 1575 = .ok (.aload_n 0, 1) := by decide +kernel
theorem dL_law_1576 : decode cL_law 1576 = .ok (.iload 4, 2) := by decide +kernel
theorem dL_law_1578 : decode cL_law 1578 = .ok (.iconst 2, 1) := by decide +kernel
theorem dL_law_1579 : decode cL_law 1579 = .ok (.iadd, 1) := by decide +kernel
theorem dL_law_1580 : decode cL_law 1580 = .ok (.iaload, 1) := by decide +kernel
theorem dL_law_1581 : decode cL_law 1581 = .ok (.aload_n 3, 1) := by decide +kernel
theorem dL_law_1582 : decode cL_law 1582 = .ok (.invokestatic 193, 3) := by decide +kernel
theorem dL_law_1585 : decode cL_law 1585 = .ok (.istore 5, 2) := by decide +kernel
theorem dL_law_1587 : decode cL_law 1587 = .ok (.aload_n 2, 1) := by decide +kernel
theorem dL_law_1588 : decode cL_law 1588 = .ok (.aload_n 0, 1) := by decide +kernel
theorem dL_law_1589 : decode cL_law 1589 = .ok (.iload 4, 2) := by decide +kernel
theorem dL_law_1591 : decode cL_law 1591 = .ok (.iconst 1, 1) := by decide +kernel
theorem dL_law_1592 : decode cL_law 1592 = .ok (.iadd, 1) := by decide +kernel
theorem dL_law_1593 : decode cL_law 1593 = .ok (.iaload, 1) := by decide +kernel
theorem dL_law_1594 : decode cL_law 1594 = .ok (.aload_n 0, 1) := by decide +kernel
theorem dL_law_1595 : decode cL_law 1595 = .ok (.iload 4, 2) := by decide +kernel
theorem dL_law_1597 : decode cL_law 1597 = .ok (.iconst 2, 1) := by decide +kernel
theorem dL_law_1598 : decode cL_law 1598 = .ok (.iadd, 1) := by decide +kernel
theorem dL_law_1599 : decode cL_law 1599 = .ok (.iaload, 1) := by decide +kernel
theorem dL_law_1600 : decode cL_law 1600 = .ok (.invokevirtual 195, 3) := by decide +kernel
theorem dL_law_1603 : decode cL_law 1603 = .ok (.istore 6, 2) := by decide +kernel
theorem dL_law_1605 : decode cL_law 1605 = .ok (.aload_n 2, 1) := by decide +kernel
theorem dL_law_1606 : decode cL_law 1606 = .ok (.invokevirtual 124, 3) := by decide +kernel
theorem dL_law_1609 : decode cL_law 1609 = .ok (.iload 5, 2) := by decide +kernel
theorem dL_law_1611 : decode cL_law 1611 = .ok (.if_icmp .eq 5, 3) := by decide +kernel
theorem dL_law_1614 : decode cL_law 1614 = .ok (.iconst 0, 1) := by decide +kernel
theorem dL_law_1615 : decode cL_law 1615 = .ok (.ireturn, 1) := by decide +kernel
theorem dL_law_1616 : decode cL_law 1616 = .ok (.iload 5, 2) := by decide +kernel
theorem dL_law_1618 : decode cL_law 1618 = .ok (.ifCond .ne 15, 3) := by decide +kernel
theorem dL_law_1621 : decode cL_law 1621 = .ok (.aload_n 3, 1) := by decide +kernel
theorem dL_law_1622 : decode cL_law 1622 = .ok (.iconst 0, 1) := by decide +kernel
theorem dL_law_1623 : decode cL_law 1623 = .ok (.laload, 1) := by decide +kernel
theorem dL_law_1624 : decode cL_law 1624 = .ok (.iload 6, 2) := by decide +kernel
theorem dL_law_1626 : decode cL_law 1626 = .ok (.i2l, 1) := by decide +kernel
theorem dL_law_1627 : decode cL_law 1627 = .ok (.lcmp, 1) := by decide +kernel
theorem dL_law_1628 : decode cL_law 1628 = .ok (.ifCond .eq 5, 3) := by decide +kernel
theorem dL_law_1631 : decode cL_law 1631 = .ok (.iconst 0, 1) := by decide +kernel
theorem dL_law_1632 : decode cL_law 1632 = .ok (.ireturn, 1) := by decide +kernel
theorem dL_law_1633 : decode cL_law 1633 = .ok (.goto 696, 3) := by decide +kernel
theorem dL_law_1636 : decode cL_law 1636 = .ok (.aload_n 1, 1) := by decide +kernel
theorem dL_law_1637 : decode cL_law 1637 = .ok (.aload_n 0, 1) := by decide +kernel
theorem dL_law_1638 : decode cL_law 1638 = .ok (.iload 4, 2) := by decide +kernel
theorem dL_law_1640 : decode cL_law 1640 = .ok (.iconst 1, 1) := by decide +kernel
theorem dL_law_1641 : decode cL_law 1641 = .ok (.iadd, 1) := by decide +kernel
theorem dL_law_1642 : decode cL_law 1642 = .ok (.iaload, 1) := by decide +kernel
theorem dL_law_1643 : decode cL_law 1643 = .ok (.aload_n 0, 1) := by decide +kernel
theorem dL_law_1644 : decode cL_law 1644 = .ok (.iload 4, 2) := by decide +kernel
theorem dL_law_1646 : decode cL_law 1646 = .ok (.iconst 2, 1) := by decide +kernel
theorem dL_law_1647 : decode cL_law 1647 = .ok (.iadd, 1) := by decide +kernel
theorem dL_law_1648 : decode cL_law 1648 = .ok (.iaload, 1) := by decide +kernel
theorem dL_law_1649 : decode cL_law 1649 = .ok (.aload_n 3, 1) := by decide +kernel
theorem dL_law_1650 : decode cL_law 1650 = .ok (.invokestatic 196, 3) := by decide +kernel
theorem dL_law_1653 : decode cL_law 1653 = .ok (.istore 5, 2) := by decide +kernel
theorem dL_law_1655 : decode cL_law 1655 = .ok (.aload_n 2, 1) := by decide +kernel
theorem dL_law_1656 : decode cL_law 1656 = .ok (.aload_n 0, 1) := by decide +kernel
theorem dL_law_1657 : decode cL_law 1657 = .ok (.iload 4, 2) := by decide +kernel
theorem dL_law_1659 : decode cL_law 1659 = .ok (.iconst 1, 1) := by decide +kernel
theorem dL_law_1660 : decode cL_law 1660 = .ok (.iadd, 1) := by decide +kernel
theorem dL_law_1661 : decode cL_law 1661 = .ok (.iaload, 1) := by decide +kernel
theorem dL_law_1662 : decode cL_law 1662 = .ok (.aload_n 0, 1) := by decide +kernel
theorem dL_law_1663 : decode cL_law 1663 = .ok (.iload 4, 2) := by decide +kernel
theorem dL_law_1665 : decode cL_law 1665 = .ok (.iconst 2, 1) := by decide +kernel
theorem dL_law_1666 : decode cL_law 1666 = .ok (.iadd, 1) := by decide +kernel
theorem dL_law_1667 : decode cL_law 1667 = .ok (.iaload, 1) := by decide +kernel
theorem dL_law_1668 : decode cL_law 1668 = .ok (.invokevirtual 198, 3) := by decide +kernel
theorem dL_law_1671 : decode cL_law 1671 = .ok (.istore 6, 2) := by decide +kernel
theorem dL_law_1673 : decode cL_law 1673 = .ok (.aload_n 2, 1) := by decide +kernel
theorem dL_law_1674 : decode cL_law 1674 = .ok (.invokevirtual 124, 3) := by decide +kernel
theorem dL_law_1677 : decode cL_law 1677 = .ok (.iload 5, 2) := by decide +kernel
theorem dL_law_1679 : decode cL_law 1679 = .ok (.if_icmp .eq 5, 3) := by decide +kernel
theorem dL_law_1682 : decode cL_law 1682 = .ok (.iconst 0, 1) := by decide +kernel
theorem dL_law_1683 : decode cL_law 1683 = .ok (.ireturn, 1) := by decide +kernel
theorem dL_law_1684 : decode cL_law 1684 = .ok (.iload 5, 2) := by decide +kernel
theorem dL_law_1686 : decode cL_law 1686 = .ok (.ifCond .ne 15, 3) := by decide +kernel
theorem dL_law_1689 : decode cL_law 1689 = .ok (.aload_n 3, 1) := by decide +kernel
theorem dL_law_1690 : decode cL_law 1690 = .ok (.iconst 0, 1) := by decide +kernel
theorem dL_law_1691 : decode cL_law 1691 = .ok (.laload, 1) := by decide +kernel
theorem dL_law_1692 : decode cL_law 1692 = .ok (.iload 6, 2) := by decide +kernel
theorem dL_law_1694 : decode cL_law 1694 = .ok (.i2l, 1) := by decide +kernel
theorem dL_law_1695 : decode cL_law 1695 = .ok (.lcmp, 1) := by decide +kernel
theorem dL_law_1696 : decode cL_law 1696 = .ok (.ifCond .eq 5, 3) := by decide +kernel
theorem dL_law_1699 : decode cL_law 1699 = .ok (.iconst 0, 1) := by decide +kernel
theorem dL_law_1700 : decode cL_law 1700 = .ok (.ireturn, 1) := by decide +kernel
theorem dL_law_1701 : decode cL_law 1701 = .ok (.goto 628, 3) := by decide +kernel
theorem dL_law_1704 : decode cL_law 1704 = .ok (.aload_n 1, 1) := by decide +kernel
theorem dL_law_1705 : decode cL_law 1705 = .ok (.aload_n 0, 1) := by decide +kernel
theorem dL_law_1706 : decode cL_law 1706 = .ok (.iload 4, 2) := by decide +kernel
theorem dL_law_1708 : decode cL_law 1708 = .ok (.iconst 1, 1) := by decide +kernel
theorem dL_law_1709 : decode cL_law 1709 = .ok (.iadd, 1) := by decide +kernel
theorem dL_law_1710 : decode cL_law 1710 = .ok (.iaload, 1) := by decide +kernel
theorem dL_law_1711 : decode cL_law 1711 = .ok (.aload_n 3, 1) := by decide +kernel
theorem dL_law_1712 : decode cL_law 1712 = .ok (.invokestatic 199, 3) := by decide +kernel
theorem dL_law_1715 : decode cL_law 1715 = .ok (.istore 5, 2) := by decide +kernel
theorem dL_law_1717 : decode cL_law 1717 = .ok (.aload_n 2, 1) := by decide +kernel
theorem dL_law_1718 : decode cL_law 1718 = .ok (.aload_n 0, 1) := by decide +kernel
theorem dL_law_1719 : decode cL_law 1719 = .ok (.iload 4, 2) := by decide +kernel
theorem dL_law_1721 : decode cL_law 1721 = .ok (.iconst 1, 1) := by decide +kernel
theorem dL_law_1722 : decode cL_law 1722 = .ok (.iadd, 1) := by decide +kernel
theorem dL_law_1723 : decode cL_law 1723 = .ok (.iaload, 1) := by decide +kernel
theorem dL_law_1724 : decode cL_law 1724 = .ok (.invokevirtual 201, 3) := by decide +kernel
theorem dL_law_1727 : decode cL_law 1727 = .ok (.istore 6, 2) := by decide +kernel
theorem dL_law_1729 : decode cL_law 1729 = .ok (.aload_n 2, 1) := by decide +kernel
theorem dL_law_1730 : decode cL_law 1730 = .ok (.invokevirtual 124, 3) := by decide +kernel
theorem dL_law_1733 : decode cL_law 1733 = .ok (.iload 5, 2) := by decide +kernel
theorem dL_law_1735 : decode cL_law 1735 = .ok (.if_icmp .eq 5, 3) := by decide +kernel
theorem dL_law_1738 : decode cL_law 1738 = .ok (.iconst 0, 1) := by decide +kernel
theorem dL_law_1739 : decode cL_law 1739 = .ok (.ireturn, 1) := by decide +kernel
theorem dL_law_1740 : decode cL_law 1740 = .ok (.iload 5, 2) := by decide +kernel
theorem dL_law_1742 : decode cL_law 1742 = .ok (.ifCond .ne 15, 3) := by decide +kernel
theorem dL_law_1745 : decode cL_law 1745 = .ok (.aload_n 3, 1) := by decide +kernel
theorem dL_law_1746 : decode cL_law 1746 = .ok (.iconst 0, 1) := by decide +kernel
theorem dL_law_1747 : decode cL_law 1747 = .ok (.laload, 1) := by decide +kernel
theorem dL_law_1748 : decode cL_law 1748 = .ok (.iload 6, 2) := by decide +kernel
theorem dL_law_1750 : decode cL_law 1750 = .ok (.i2l, 1) := by decide +kernel
theorem dL_law_1751 : decode cL_law 1751 = .ok (.lcmp, 1) := by decide +kernel
theorem dL_law_1752 : decode cL_law 1752 = .ok (.ifCond .eq 5, 3) := by decide +kernel
theorem dL_law_1755 : decode cL_law 1755 = .ok (.iconst 0, 1) := by decide +kernel
theorem dL_law_1756 : decode cL_law 1756 = .ok (.ireturn, 1) := by decide +kernel
theorem dL_law_1757 : decode cL_law 1757 = .ok (.goto 572, 3) := by decide +kernel
theorem dL_law_1760 : decode cL_law 1760 = .ok (.aload_n 1, 1) := by decide +kernel
theorem dL_law_1761 : decode cL_law 1761 = .ok (.aload_n 0, 1) := by decide +kernel
theorem dL_law_1762 : decode cL_law 1762 = .ok (.iload 4, 2) := by decide +kernel
theorem dL_law_1764 : decode cL_law 1764 = .ok (.iconst 1, 1) := by decide +kernel
theorem dL_law_1765 : decode cL_law 1765 = .ok (.iadd, 1) := by decide +kernel
theorem dL_law_1766 : decode cL_law 1766 = .ok (.iaload, 1) := by decide +kernel
theorem dL_law_1767 : decode cL_law 1767 = .ok (.aload_n 0, 1) := by decide +kernel
theorem dL_law_1768 : decode cL_law 1768 = .ok (.iload 4, 2) := by decide +kernel
theorem dL_law_1770 : decode cL_law 1770 = .ok (.iconst 2, 1) := by decide +kernel
theorem dL_law_1771 : decode cL_law 1771 = .ok (.iadd, 1) := by decide +kernel
theorem dL_law_1772 : decode cL_law 1772 = .ok (.iaload, 1) := by decide +kernel
theorem dL_law_1773 : decode cL_law 1773 = .ok (.aload_n 3, 1) := by decide +kernel
theorem dL_law_1774 : decode cL_law 1774 = .ok (.invokestatic 202, 3) := by decide +kernel
theorem dL_law_1777 : decode cL_law 1777 = .ok (.istore 5, 2) := by decide +kernel
theorem dL_law_1779 : decode cL_law 1779 = .ok (.aload_n 2, 1) := by decide +kernel
theorem dL_law_1780 : decode cL_law 1780 = .ok (.aload_n 0, 1) := by decide +kernel
theorem dL_law_1781 : decode cL_law 1781 = .ok (.iload 4, 2) := by decide +kernel
theorem dL_law_1783 : decode cL_law 1783 = .ok (.iconst 1, 1) := by decide +kernel
theorem dL_law_1784 : decode cL_law 1784 = .ok (.iadd, 1) := by decide +kernel
theorem dL_law_1785 : decode cL_law 1785 = .ok (.iaload, 1) := by decide +kernel
theorem dL_law_1786 : decode cL_law 1786 = .ok (.aload_n 0, 1) := by decide +kernel
theorem dL_law_1787 : decode cL_law 1787 = .ok (.iload 4, 2) := by decide +kernel
theorem dL_law_1789 : decode cL_law 1789 = .ok (.iconst 2, 1) := by decide +kernel
theorem dL_law_1790 : decode cL_law 1790 = .ok (.iadd, 1) := by decide +kernel
theorem dL_law_1791 : decode cL_law 1791 = .ok (.iaload, 1) := by decide +kernel
theorem dL_law_1792 : decode cL_law 1792 = .ok (.invokevirtual 204, 3) := by decide +kernel
theorem dL_law_1795 : decode cL_law 1795 = .ok (.istore 6, 2) := by decide +kernel
theorem dL_law_1797 : decode cL_law 1797 = .ok (.aload_n 2, 1) := by decide +kernel
theorem dL_law_1798 : decode cL_law 1798 = .ok (.invokevirtual 124, 3) := by decide +kernel
theorem dL_law_1801 : decode cL_law 1801 = .ok (.iload 5, 2) := by decide +kernel
theorem dL_law_1803 : decode cL_law 1803 = .ok (.if_icmp .eq 5, 3) := by decide +kernel
theorem dL_law_1806 : decode cL_law 1806 = .ok (.iconst 0, 1) := by decide +kernel
theorem dL_law_1807 : decode cL_law 1807 = .ok (.ireturn, 1) := by decide +kernel
theorem dL_law_1808 : decode cL_law 1808 = .ok (.iload 5, 2) := by decide +kernel
theorem dL_law_1810 : decode cL_law 1810 = .ok (.ifCond .ne 15, 3) := by decide +kernel
theorem dL_law_1813 : decode cL_law 1813 = .ok (.aload_n 3, 1) := by decide +kernel
theorem dL_law_1814 : decode cL_law 1814 = .ok (.iconst 0, 1) := by decide +kernel
theorem dL_law_1815 : decode cL_law 1815 = .ok (.laload, 1) := by decide +kernel
theorem dL_law_1816 : decode cL_law 1816 = .ok (.iload 6, 2) := by decide +kernel
theorem dL_law_1818 : decode cL_law 1818 = .ok (.i2l, 1) := by decide +kernel
theorem dL_law_1819 : decode cL_law 1819 = .ok (.lcmp, 1) := by decide +kernel
theorem dL_law_1820 : decode cL_law 1820 = .ok (.ifCond .eq 5, 3) := by decide +kernel
theorem dL_law_1823 : decode cL_law 1823 = .ok (.iconst 0, 1) := by decide +kernel
theorem dL_law_1824 : decode cL_law 1824 = .ok (.ireturn, 1) := by decide +kernel
theorem dL_law_1825 : decode cL_law 1825 = .ok (.goto 504, 3) := by decide +kernel
theorem dL_law_1828 : decode cL_law 1828 = .ok (.aload_n 1, 1) := by decide +kernel
theorem dL_law_1829 : decode cL_law 1829 = .ok (.aload_n 0, 1) := by decide +kernel
theorem dL_law_1830 : decode cL_law 1830 = .ok (.iload 4, 2) := by decide +kernel
theorem dL_law_1832 : decode cL_law 1832 = .ok (.iconst 1, 1) := by decide +kernel
theorem dL_law_1833 : decode cL_law 1833 = .ok (.iadd, 1) := by decide +kernel
theorem dL_law_1834 : decode cL_law 1834 = .ok (.iaload, 1) := by decide +kernel
theorem dL_law_1835 : decode cL_law 1835 = .ok (.aload_n 3, 1) := by decide +kernel
theorem dL_law_1836 : decode cL_law 1836 = .ok (.invokestatic 205, 3) := by decide +kernel
theorem dL_law_1839 : decode cL_law 1839 = .ok (.istore 5, 2) := by decide +kernel
theorem dL_law_1841 : decode cL_law 1841 = .ok (.aload_n 2, 1) := by decide +kernel
theorem dL_law_1842 : decode cL_law 1842 = .ok (.aload_n 0, 1) := by decide +kernel
theorem dL_law_1843 : decode cL_law 1843 = .ok (.iload 4, 2) := by decide +kernel
theorem dL_law_1845 : decode cL_law 1845 = .ok (.iconst 1, 1) := by decide +kernel
theorem dL_law_1846 : decode cL_law 1846 = .ok (.iadd, 1) := by decide +kernel
theorem dL_law_1847 : decode cL_law 1847 = .ok (.iaload, 1) := by decide +kernel
theorem dL_law_1848 : decode cL_law 1848 = .ok (.invokevirtual 207, 3) := by decide +kernel
theorem dL_law_1851 : decode cL_law 1851 = .ok (.istore 6, 2) := by decide +kernel
theorem dL_law_1853 : decode cL_law 1853 = .ok (.aload_n 2, 1) := by decide +kernel
theorem dL_law_1854 : decode cL_law 1854 = .ok (.invokevirtual 124, 3) := by decide +kernel
theorem dL_law_1857 : decode cL_law 1857 = .ok (.iload 5, 2) := by decide +kernel
theorem dL_law_1859 : decode cL_law 1859 = .ok (.if_icmp .eq 5, 3) := by decide +kernel
theorem dL_law_1862 : decode cL_law 1862 = .ok (.iconst 0, 1) := by decide +kernel
theorem dL_law_1863 : decode cL_law 1863 = .ok (.ireturn, 1) := by decide +kernel
theorem dL_law_1864 : decode cL_law 1864 = .ok (.iload 5, 2) := by decide +kernel
theorem dL_law_1866 : decode cL_law 1866 = .ok (.ifCond .ne 15, 3) := by decide +kernel
theorem dL_law_1869 : decode cL_law 1869 = .ok (.aload_n 3, 1) := by decide +kernel
theorem dL_law_1870 : decode cL_law 1870 = .ok (.iconst 0, 1) := by decide +kernel
theorem dL_law_1871 : decode cL_law 1871 = .ok (.laload, 1) := by decide +kernel
theorem dL_law_1872 : decode cL_law 1872 = .ok (.iload 6, 2) := by decide +kernel
theorem dL_law_1874 : decode cL_law 1874 = .ok (.i2l, 1) := by decide +kernel
theorem dL_law_1875 : decode cL_law 1875 = .ok (.lcmp, 1) := by decide +kernel
theorem dL_law_1876 : decode cL_law 1876 = .ok (.ifCond .eq 5, 3) := by decide +kernel
theorem dL_law_1879 : decode cL_law 1879 = .ok (.iconst 0, 1) := by decide +kernel
theorem dL_law_1880 : decode cL_law 1880 = .ok (.ireturn, 1) := by decide +kernel
theorem dL_law_1881 : decode cL_law 1881 = .ok (.goto 448, 3) := by decide +kernel
theorem dL_law_1884 : decode cL_law 1884 = .ok (.aload_n 1, 1) := by decide +kernel
theorem dL_law_1885 : decode cL_law 1885 = .ok (.aload_n 0, 1) := by decide +kernel
theorem dL_law_1886 : decode cL_law 1886 = .ok (.iload 4, 2) := by decide +kernel
theorem dL_law_1888 : decode cL_law 1888 = .ok (.iconst 1, 1) := by decide +kernel
theorem dL_law_1889 : decode cL_law 1889 = .ok (.iadd, 1) := by decide +kernel
theorem dL_law_1890 : decode cL_law 1890 = .ok (.iaload, 1) := by decide +kernel
theorem dL_law_1891 : decode cL_law 1891 = .ok (.aload_n 0, 1) := by decide +kernel
theorem dL_law_1892 : decode cL_law 1892 = .ok (.iload 4, 2) := by decide +kernel
theorem dL_law_1894 : decode cL_law 1894 = .ok (.iconst 2, 1) := by decide +kernel
theorem dL_law_1895 : decode cL_law 1895 = .ok (.iadd, 1) := by decide +kernel
theorem dL_law_1896 : decode cL_law 1896 = .ok (.iaload, 1) := by decide +kernel
theorem dL_law_1897 : decode cL_law 1897 = .ok (.aload_n 0, 1) := by decide +kernel
theorem dL_law_1898 : decode cL_law 1898 = .ok (.iload 4, 2) := by decide +kernel
theorem dL_law_1900 : decode cL_law 1900 = .ok (.iconst 3, 1) := by decide +kernel
theorem dL_law_1901 : decode cL_law 1901 = .ok (.iadd, 1) := by decide +kernel
theorem dL_law_1902 : decode cL_law 1902 = .ok (.iaload, 1) := by decide +kernel
theorem dL_law_1903 : decode cL_law 1903 = .ok (.aload_n 3, 1) := by decide +kernel
theorem dL_law_1904 : decode cL_law 1904 = .ok (.invokestatic 208, 3) := by decide +kernel
theorem dL_law_1907 : decode cL_law 1907 = .ok (.istore 5, 2) := by decide +kernel
theorem dL_law_1909 : decode cL_law 1909 = .ok (.aload_n 2, 1) := by decide +kernel
theorem dL_law_1910 : decode cL_law 1910 = .ok (.aload_n 0, 1) := by decide +kernel
theorem dL_law_1911 : decode cL_law 1911 = .ok (.iload 4, 2) := by decide +kernel
theorem dL_law_1913 : decode cL_law 1913 = .ok (.iconst 1, 1) := by decide +kernel
theorem dL_law_1914 : decode cL_law 1914 = .ok (.iadd, 1) := by decide +kernel
theorem dL_law_1915 : decode cL_law 1915 = .ok (.iaload, 1) := by decide +kernel
theorem dL_law_1916 : decode cL_law 1916 = .ok (.aload_n 0, 1) := by decide +kernel
theorem dL_law_1917 : decode cL_law 1917 = .ok (.iload 4, 2) := by decide +kernel
theorem dL_law_1919 : decode cL_law 1919 = .ok (.iconst 2, 1) := by decide +kernel
theorem dL_law_1920 : decode cL_law 1920 = .ok (.iadd, 1) := by decide +kernel
theorem dL_law_1921 : decode cL_law 1921 = .ok (.iaload, 1) := by decide +kernel
theorem dL_law_1922 : decode cL_law 1922 = .ok (.aload_n 0, 1) := by decide +kernel
theorem dL_law_1923 : decode cL_law 1923 = .ok (.iload 4, 2) := by decide +kernel
theorem dL_law_1925 : decode cL_law 1925 = .ok (.iconst 3, 1) := by decide +kernel
theorem dL_law_1926 : decode cL_law 1926 = .ok (.iadd, 1) := by decide +kernel
theorem dL_law_1927 : decode cL_law 1927 = .ok (.iaload, 1) := by decide +kernel
theorem dL_law_1928 : decode cL_law 1928 = .ok (.invokevirtual 210, 3) := by decide +kernel
theorem dL_law_1931 : decode cL_law 1931 = .ok (.istore 6, 2) := by decide +kernel
theorem dL_law_1933 : decode cL_law 1933 = .ok (.aload_n 2, 1) := by decide +kernel
theorem dL_law_1934 : decode cL_law 1934 = .ok (.invokevirtual 124, 3) := by decide +kernel
theorem dL_law_1937 : decode cL_law 1937 = .ok (.iload 5, 2) := by decide +kernel
theorem dL_law_1939 : decode cL_law 1939 = .ok (.if_icmp .eq 5, 3) := by decide +kernel
theorem dL_law_1942 : decode cL_law 1942 = .ok (.iconst 0, 1) := by decide +kernel
theorem dL_law_1943 : decode cL_law 1943 = .ok (.ireturn, 1) := by decide +kernel
theorem dL_law_1944 : decode cL_law 1944 = .ok (.iload 5, 2) := by decide +kernel
theorem dL_law_1946 : decode cL_law 1946 = .ok (.ifCond .ne 15, 3) := by decide +kernel
theorem dL_law_1949 : decode cL_law 1949 = .ok (.aload_n 3, 1) := by decide +kernel
theorem dL_law_1950 : decode cL_law 1950 = .ok (.iconst 0, 1) := by decide +kernel
theorem dL_law_1951 : decode cL_law 1951 = .ok (.laload, 1) := by decide +kernel
theorem dL_law_1952 : decode cL_law 1952 = .ok (.iload 6, 2) := by decide +kernel
theorem dL_law_1954 : decode cL_law 1954 = .ok (.i2l, 1) := by decide +kernel
theorem dL_law_1955 : decode cL_law 1955 = .ok (.lcmp, 1) := by decide +kernel
theorem dL_law_1956 : decode cL_law 1956 = .ok (.ifCond .eq 5, 3) := by decide +kernel
theorem dL_law_1959 : decode cL_law 1959 = .ok (.iconst 0, 1) := by decide +kernel
theorem dL_law_1960 : decode cL_law 1960 = .ok (.ireturn, 1) := by decide +kernel
theorem dL_law_1961 : decode cL_law 1961 = .ok (.goto 368, 3) := by decide +kernel
theorem dL_law_1964 : decode cL_law 1964 = .ok (.aload_n 1, 1) := by decide +kernel
theorem dL_law_1965 : decode cL_law 1965 = .ok (.aload_n 0, 1) := by decide +kernel
theorem dL_law_1966 : decode cL_law 1966 = .ok (.iload 4, 2) := by decide +kernel
theorem dL_law_1968 : decode cL_law 1968 = .ok (.iconst 1, 1) := by decide +kernel
theorem dL_law_1969 : decode cL_law 1969 = .ok (.iadd, 1) := by decide +kernel
theorem dL_law_1970 : decode cL_law 1970 = .ok (.iaload, 1) := by decide +kernel
theorem dL_law_1971 : decode cL_law 1971 = .ok (.aload_n 0, 1) := by decide +kernel
end
section
theorem dL_law_1972 : decode cL_law 1972 = .ok (.iload 4, 2) := by decide +kernel
theorem dL_law_1974 : decode cL_law 1974 = .ok (.iconst 2, 1) := by decide +kernel
theorem dL_law_1975 : decode cL_law 1975 = .ok (.iadd, 1) := by decide +kernel
theorem dL_law_1976 : decode cL_law 1976 = .ok (.iaload, 1) := by decide +kernel
theorem dL_law_1977 : decode cL_law 1977 = .ok (.aload_n 0, 1) := by decide +kernel
theorem dL_law_1978 : decode cL_law 1978 = .ok (.iload 4, 2) := by decide +kernel
theorem dL_law_1980 : decode cL_law 1980 = .ok (.iconst 3, 1) := by decide +kernel
theorem dL_law_1981 : decode cL_law 1981 = .ok (.iadd, 1) := by decide +kernel
theorem dL_law_1982 : decode cL_law 1982 = .ok (.iaload, 1) := by decide +kernel
theorem dL_law_1983 : decode cL_law 1983 = .ok (.aload_n 3, 1) := by decide +kernel
theorem dL_law_1984 : decode cL_law 1984 = .ok (.invokestatic 211, 3) := by decide +kernel
theorem dL_law_1987 : decode cL_law 1987 = .ok (.istore 5, 2) := by decide +kernel
theorem dL_law_1989 : decode cL_law 1989 = .ok (.aload_n 2, 1) := by decide +kernel
theorem dL_law_1990 : decode cL_law 1990 = .ok (.aload_n 0, 1) := by decide +kernel
theorem dL_law_1991 : decode cL_law 1991 = .ok (.iload 4, 2) := by decide +kernel
theorem dL_law_1993 : decode cL_law 1993 = .ok (.iconst 1, 1) := by decide +kernel
theorem dL_law_1994 : decode cL_law 1994 = .ok (.iadd, 1) := by decide +kernel
theorem dL_law_1995 : decode cL_law 1995 = .ok (.iaload, 1) := by decide +kernel
theorem dL_law_1996 : decode cL_law 1996 = .ok (.aload_n 0, 1) := by decide +kernel
theorem dL_law_1997 : decode cL_law 1997 = .ok (.iload 4, 2) := by decide +kernel
theorem dL_law_1999 : decode cL_law 1999 = .ok (.iconst 2, 1) := by decide +kernel
theorem dL_law_2000 : decode cL_law 2000 = .ok (.iadd, 1) := by decide +kernel
theorem dL_law_2001 : decode cL_law 2001 = .ok (.iaload, 1) := by decide +kernel
theorem dL_law_2002 : decode cL_law 2002 = .ok (.aload_n 0, 1) := by decide +kernel
theorem dL_law_2003 : decode cL_law 2003 = .ok (.iload 4, 2) := by decide +kernel
theorem dL_law_2005 : decode cL_law 2005 = .ok (.iconst 3, 1) := by decide +kernel
theorem dL_law_2006 : decode cL_law 2006 = .ok (.iadd, 1) := by decide +kernel
theorem dL_law_2007 : decode cL_law 2007 = .ok (.iaload, 1) := by decide +kernel
theorem dL_law_2008 : decode cL_law 2008 = .ok (.invokevirtual 213, 3) := by decide +kernel
theorem dL_law_2011 : decode cL_law 2011 = .ok (.istore 6, 2) := by decide +kernel
theorem dL_law_2013 : decode cL_law 2013 = .ok (.aload_n 2, 1) := by decide +kernel
theorem dL_law_2014 : decode cL_law 2014 = .ok (.invokevirtual 124, 3) := by decide +kernel
theorem dL_law_2017 : decode cL_law 2017 = .ok (.iload 5, 2) := by decide +kernel
theorem dL_law_2019 : decode cL_law 2019 = .ok (.if_icmp .eq 5, 3) := by decide +kernel
theorem dL_law_2022 : decode cL_law 2022 = .ok (.iconst 0, 1) := by decide +kernel
theorem dL_law_2023 : decode cL_law 2023 = .ok (.ireturn, 1) := by decide +kernel
theorem dL_law_2024 : decode cL_law 2024 = .ok (.iload 5, 2) := by decide +kernel
theorem dL_law_2026 : decode cL_law 2026 = .ok (.ifCond .ne 15, 3) := by decide +kernel
theorem dL_law_2029 : decode cL_law 2029 = .ok (.aload_n 3, 1) := by decide +kernel
theorem dL_law_2030 : decode cL_law 2030 = .ok (.iconst 0, 1) := by decide +kernel
theorem dL_law_2031 : decode cL_law 2031 = .ok (.laload, 1) := by decide +kernel
theorem dL_law_2032 : decode cL_law 2032 = .ok (.iload 6, 2) := by decide +kernel
theorem dL_law_2034 : decode cL_law 2034 = .ok (.i2l, 1) := by decide +kernel
theorem dL_law_2035 : decode cL_law 2035 = .ok (.lcmp, 1) := by decide +kernel
theorem dL_law_2036 : decode cL_law 2036 = .ok (.ifCond .eq 5, 3) := by decide +kernel
theorem dL_law_2039 : decode cL_law 2039 = .ok (.iconst 0, 1) := by decide +kernel
theorem dL_law_2040 : decode cL_law 2040 = .ok (.ireturn, 1) := by decide +kernel
theorem dL_law_2041 : decode cL_law 2041 = .ok (.goto 288, 3) := by decide +kernel
theorem dL_law_2044 : decode cL_law 2044 = .ok (.aload_n 1, 1) := by decide +kernel
theorem dL_law_2045 : decode cL_law 2045 = .ok (.aload_n 0, 1) := by decide +kernel
theorem dL_law_2046 : decode cL_law 2046 = .ok (.iload 4, 2) := by decide +kernel
theorem dL_law_2048 : decode cL_law 2048 = .ok (.iconst 1, 1) := by decide +kernel
theorem dL_law_2049 : decode cL_law 2049 = .ok (.iadd, 1) := by decide +kernel
theorem dL_law_2050 : decode cL_law 2050 = .ok (.iaload, 1) := by decide +kernel
theorem dL_law_2051 : decode cL_law 2051 = .ok (.aload_n 0, 1) := by decide +kernel
theorem dL_law_2052 : decode cL_law 2052 = .ok (.iload 4, 2) := by decide +kernel
theorem dL_law_2054 : decode cL_law 2054 = .ok (.iconst 2, 1) := by decide +kernel
theorem dL_law_2055 : decode cL_law 2055 = .ok (.iadd, 1) := by decide +kernel
theorem dL_law_2056 : decode cL_law 2056 = .ok (.iaload, 1) := by decide +kernel
theorem dL_law_2057 : decode cL_law 2057 = .ok (.aload_n 3, 1) := by decide +kernel
theorem dL_law_2058 : decode cL_law 2058 = .ok (.invokestatic 214, 3) := by decide +kernel
theorem dL_law_2061 : decode cL_law 2061 = .ok (.istore 5, 2) := by decide +kernel
theorem dL_law_2063 : decode cL_law 2063 = .ok (.aload_n 2, 1) := by decide +kernel
theorem dL_law_2064 : decode cL_law 2064 = .ok (.aload_n 0, 1) := by decide +kernel
theorem dL_law_2065 : decode cL_law 2065 = .ok (.iload 4, 2) := by decide +kernel
theorem dL_law_2067 : decode cL_law 2067 = .ok (.iconst 1, 1) := by decide +kernel
theorem dL_law_2068 : decode cL_law 2068 = .ok (.iadd, 1) := by decide +kernel
theorem dL_law_2069 : decode cL_law 2069 = .ok (.iaload, 1) := by decide +kernel
theorem dL_law_2070 : decode cL_law 2070 = .ok (.aload_n 0, 1) := by decide +kernel
theorem dL_law_2071 : decode cL_law 2071 = .ok (.iload 4, 2) := by decide +kernel
theorem dL_law_2073 : decode cL_law 2073 = .ok (.iconst 2, 1) := by decide +kernel
theorem dL_law_2074 : decode cL_law 2074 = .ok (.iadd, 1) := by decide +kernel
theorem dL_law_2075 : decode cL_law 2075 = .ok (.iaload, 1) := by decide +kernel
theorem dL_law_2076 : decode cL_law 2076 = .ok (.invokevirtual 216, 3) := by decide +kernel
theorem dL_law_2079 : decode cL_law 2079 = .ok (.istore 6, 2) := by decide +kernel
theorem dL_law_2081 : decode cL_law 2081 = .ok (.aload_n 2, 1) := by decide +kernel
theorem dL_law_2082 : decode cL_law 2082 = .ok (.invokevirtual 124, 3) := by decide +kernel
theorem dL_law_2085 : decode cL_law 2085 = .ok (.iload 5, 2) := by decide +kernel
theorem dL_law_2087 : decode cL_law 2087 = .ok (.if_icmp .eq 5, 3) := by decide +kernel
theorem dL_law_2090 : decode cL_law 2090 = .ok (.iconst 0, 1) := by decide +kernel
theorem dL_law_2091 : decode cL_law 2091 = .ok (.ireturn, 1) := by decide +kernel
theorem dL_law_2092 : decode cL_law 2092 = .ok (.iload 5, 2) := by decide +kernel
theorem dL_law_2094 : decode cL_law 2094 = .ok (.ifCond .ne 15, 3) := by decide +kernel
theorem dL_law_2097 : decode cL_law 2097 = .ok (.aload_n 3, 1) := by decide +kernel
theorem dL_law_2098 : decode cL_law 2098 = .ok (.iconst 0, 1) := by decide +kernel
theorem dL_law_2099 : decode cL_law 2099 = .ok (.laload, 1) := by decide +kernel
theorem dL_law_2100 : decode cL_law 2100 = .ok (.iload 6, 2) := by decide +kernel
theorem dL_law_2102 : decode cL_law 2102 = .ok (.i2l, 1) := by decide +kernel
theorem dL_law_2103 : decode cL_law 2103 = .ok (.lcmp, 1) := by decide +kernel
theorem dL_law_2104 : decode cL_law 2104 = .ok (.ifCond .eq 5, 3) := by decide +kernel
theorem dL_law_2107 : decode cL_law 2107 = .ok (.iconst 0, 1) := by decide +kernel
theorem dL_law_2108 : decode cL_law 2108 = .ok (.ireturn, 1) := by decide +kernel
theorem dL_law_2109 : decode cL_law 2109 = .ok (.goto 220, 3) := by decide +kernel
theorem dL_law_2112 : decode cL_law 2112 = .ok (.aload_n 1, 1) := by decide +kernel
theorem dL_law_2113 : decode cL_law 2113 = .ok (.aload_n 0, 1) := by decide +kernel
theorem dL_law_2114 : decode cL_law 2114 = .ok (.iload 4, 2) := by decide +kernel
theorem dL_law_2116 : decode cL_law 2116 = .ok (.iconst 1, 1) := by decide +kernel
theorem dL_law_2117 : decode cL_law 2117 = .ok (.iadd, 1) := by decide +kernel
theorem dL_law_2118 : decode cL_law 2118 = .ok (.iaload, 1) := by decide +kernel
theorem dL_law_2119 : decode cL_law 2119 = .ok (.aload_n 0, 1) := by decide +kernel
theorem dL_law_2120 : decode cL_law 2120 = .ok (.iload 4, 2) := by decide +kernel
theorem dL_law_2122 : decode cL_law 2122 = .ok (.iconst 2, 1) := by decide +kernel
theorem dL_law_2123 : decode cL_law 2123 = .ok (.iadd, 1) := by decide +kernel
theorem dL_law_2124 : decode cL_law 2124 = .ok (.iaload, 1) := by decide +kernel
theorem dL_law_2125 : decode cL_law 2125 = .ok (.aload_n 0, 1) := by decide +kernel
theorem dL_law_2126 : decode cL_law 2126 = .ok (.iload 4, 2) := by decide +kernel
theorem dL_law_2128 : decode cL_law 2128 = .ok (.iconst 3, 1) := by decide +kernel
theorem dL_law_2129 : decode cL_law 2129 = .ok (.iadd, 1) := by decide +kernel
theorem dL_law_2130 : decode cL_law 2130 = .ok (.iaload, 1) := by decide +kernel
theorem dL_law_2131 : decode cL_law 2131 = .ok (.aload_n 3, 1) := by decide +kernel
theorem dL_law_2132 : decode cL_law 2132 = .ok (.invokestatic 217, 3) := by decide +kernel
theorem dL_law_2135 : decode cL_law 2135 = .ok (.istore 5, 2) := by decide +kernel
theorem dL_law_2137 : decode cL_law 2137 = .ok (.aload_n 2, 1) := by decide +kernel
theorem dL_law_2138 : decode cL_law 2138 = .ok (.aload_n 0, 1) := by decide +kernel
theorem dL_law_2139 : decode cL_law 2139 = .ok (.iload 4, 2) := by decide +kernel
theorem dL_law_2141 : decode cL_law 2141 = .ok (.iconst 1, 1) := by decide +kernel
theorem dL_law_2142 : decode cL_law 2142 = .ok (.iadd, 1) := by decide +kernel
theorem dL_law_2143 : decode cL_law 2143 = .ok (.iaload, 1) := by decide +kernel
theorem dL_law_2144 : decode cL_law 2144 = .ok (.aload_n 0, 1) := by decide +kernel
theorem dL_law_2145 : decode cL_law 2145 = .ok (.iload 4, 2) := by decide +kernel
theorem dL_law_2147 : decode cL_law 2147 = .ok (.iconst 2, 1) := by decide +kernel
theorem dL_law_2148 : decode cL_law 2148 = .ok (.iadd, 1) := by decide +kernel
theorem dL_law_2149 : decode cL_law 2149 = .ok (.iaload, 1) := by decide +kernel
theorem dL_law_2150 : decode cL_law 2150 = .ok (.aload_n 0, 1) := by decide +kernel
theorem dL_law_2151 : decode cL_law 2151 = .ok (.iload 4, 2) := by decide +kernel
theorem dL_law_2153 : decode cL_law 2153 = .ok (.iconst 3, 1) := by decide +kernel
theorem dL_law_2154 : decode cL_law 2154 = .ok (.iadd, 1) := by decide +kernel
theorem dL_law_2155 : decode cL_law 2155 = .ok (.iaload, 1) := by decide +kernel
theorem dL_law_2156 : decode cL_law 2156 = .ok (.invokevirtual 219, 3) := by decide +kernel
theorem dL_law_2159 : decode cL_law 2159 = .ok (.istore 6, 2) := by decide +kernel
theorem dL_law_2161 : decode cL_law 2161 = .ok (.aload_n 2, 1) := by decide +kernel
theorem dL_law_2162 : decode cL_law 2162 = .ok (.invokevirtual 124, 3) := by decide +kernel
theorem dL_law_2165 : decode cL_law 2165 = .ok (.iload 5, 2) := by decide +kernel
theorem dL_law_2167 : decode cL_law 2167 = .ok (.if_icmp .eq 5, 3) := by decide +kernel
theorem dL_law_2170 : decode cL_law 2170 = .ok (.iconst 0, 1) := by decide +kernel
theorem dL_law_2171 : decode cL_law 2171 = .ok (.ireturn, 1) := by decide +kernel
theorem dL_law_2172 : decode cL_law 2172 = .ok (.iload 5, 2) := by decide +kernel
theorem dL_law_2174 : decode cL_law 2174 = .ok (.ifCond .ne 15, 3) := by decide +kernel
theorem dL_law_2177 : decode cL_law 2177 = .ok (.aload_n 3, 1) := by decide +kernel
theorem dL_law_2178 : decode cL_law 2178 = .ok (.iconst 0, 1) := by decide +kernel
theorem dL_law_2179 : decode cL_law 2179 = .ok (.laload, 1) := by decide +kernel
theorem dL_law_2180 : decode cL_law 2180 = .ok (.iload 6, 2) := by decide +kernel
theorem dL_law_2182 : decode cL_law 2182 = .ok (.i2l, 1) := by decide +kernel
theorem dL_law_2183 : decode cL_law 2183 = .ok (.lcmp, 1) := by decide +kernel
theorem dL_law_2184 : decode cL_law 2184 = .ok (.ifCond .eq 5, 3) := by decide +kernel
theorem dL_law_2187 : decode cL_law 2187 = .ok (.iconst 0, 1) := by decide +kernel
theorem dL_law_2188 : decode cL_law 2188 = .ok (.ireturn, 1) := by decide +kernel
theorem dL_law_2189 : decode cL_law 2189 = .ok (.goto 140, 3) := by decide +kernel
theorem dL_law_2192 : decode cL_law 2192 = .ok (.aload_n 1, 1) := by decide +kernel
theorem dL_law_2193 : decode cL_law 2193 = .ok (.aload_n 0, 1) := by decide +kernel
theorem dL_law_2194 : decode cL_law 2194 = .ok (.iload 4, 2) := by decide +kernel
theorem dL_law_2196 : decode cL_law 2196 = .ok (.iconst 1, 1) := by decide +kernel
theorem dL_law_2197 : decode cL_law 2197 = .ok (.iadd, 1) := by decide +kernel
theorem dL_law_2198 : decode cL_law 2198 = .ok (.iaload, 1) := by decide +kernel
theorem dL_law_2199 : decode cL_law 2199 = .ok (.aload_n 0, 1) := by decide +kernel
theorem dL_law_2200 : decode cL_law 2200 = .ok (.iload 4, 2) := by decide +kernel
theorem dL_law_2202 : decode cL_law 2202 = .ok (.iconst 2, 1) := by decide +kernel
theorem dL_law_2203 : decode cL_law 2203 = .ok (.iadd, 1) := by decide +kernel
theorem dL_law_2204 : decode cL_law 2204 = .ok (.iaload, 1) := by decide +kernel
theorem dL_law_2205 : decode cL_law 2205 = .ok (.aload_n 3, 1) := by decide +kernel
theorem dL_law_2206 : decode cL_law 2206 = .ok (.invokestatic 220, 3) := by decide +kernel
theorem dL_law_2209 : decode cL_law 2209 = .ok (.istore 5, 2) := by decide +kernel
theorem dL_law_2211 : decode cL_law 2211 = .ok (.aload_n 2, 1) := by decide +kernel
theorem dL_law_2212 : decode cL_law 2212 = .ok (.aload_n 0, 1) := by decide +kernel
theorem dL_law_2213 : decode cL_law 2213 = .ok (.iload 4, 2) := by decide +kernel
theorem dL_law_2215 : decode cL_law 2215 = .ok (.iconst 1, 1) := by decide +kernel
theorem dL_law_2216 : decode cL_law 2216 = .ok (.iadd, 1) := by decide +kernel
theorem dL_law_2217 : decode cL_law 2217 = .ok (.iaload, 1) := by decide +kernel
theorem dL_law_2218 : decode cL_law 2218 = .ok (.aload_n 0, 1) := by decide +kernel
theorem dL_law_2219 : decode cL_law 2219 = .ok (.iload 4, 2) := by decide +kernel
theorem dL_law_2221 : decode cL_law 2221 = .ok (.iconst 2, 1) := by decide +kernel
theorem dL_law_2222 : decode cL_law 2222 = .ok (.iadd, 1) := by decide +kernel
theorem dL_law_2223 : decode cL_law 2223 = .ok (.iaload, 1) := by decide +kernel
theorem dL_law_2224 : decode cL_law 2224 = .ok (.invokevirtual 222, 3) := by decide +kernel
theorem dL_law_2227 : decode cL_law 2227 = .ok (.istore 6, 2) := by decide +kernel
theorem dL_law_2229 : decode cL_law 2229 = .ok (.aload_n 2, 1) := by decide +kernel
theorem dL_law_2230 : decode cL_law 2230 = .ok (.invokevirtual 124, 3) := by decide +kernel
theorem dL_law_2233 : decode cL_law 2233 = .ok (.iload 5, 2) := by decide +kernel
theorem dL_law_2235 : decode cL_law 2235 = .ok (.if_icmp .eq 5, 3) := by decide +kernel
theorem dL_law_2238 : decode cL_law 2238 = .ok (.iconst 0, 1) := by decide +kernel
theorem dL_law_2239 : decode cL_law 2239 = .ok (.ireturn, 1) := by decide +kernel
theorem dL_law_2240 : decode cL_law 2240 = .ok (.iload 5, 2) := by decide +kernel
theorem dL_law_2242 : decode cL_law 2242 = .ok (.ifCond .ne 15, 3) := by decide +kernel
theorem dL_law_2245 : decode cL_law 2245 = .ok (.aload_n 3, 1) := by decide +kernel
theorem dL_law_2246 : decode cL_law 2246 = .ok (.iconst 0, 1) := by decide +kernel
theorem dL_law_2247 : decode cL_law 2247 = .ok (.laload, 1) := by decide +kernel
theorem dL_law_2248 : decode cL_law 2248 = .ok (.iload 6, 2) := by decide +kernel
theorem dL_law_2250 : decode cL_law 2250 = .ok (.i2l, 1) := by decide +kernel
theorem dL_law_2251 : decode cL_law 2251 = .ok (.lcmp, 1) := by decide +kernel
theorem dL_law_2252 : decode cL_law 2252 = .ok (.ifCond .eq 5, 3) := by decide +kernel
theorem dL_law_2255 : decode cL_law 2255 = .ok (.iconst 0, 1) := by decide +kernel
theorem dL_law_2256 : decode cL_law 2256 = .ok (.ireturn, 1) := by decide +kernel
theorem dL_law_2257 : decode cL_law 2257 = .ok (.goto 72, 3) := by decide +kernel
theorem dL_law_2260 : decode cL_law 2260 = .ok (.aload_n 1, 1) := by decide +kernel
theorem dL_law_2261 : decode cL_law 2261 = .ok (.invokevirtual 223, 3) := by decide +kernel
theorem dL_law_2264 : decode cL_law 2264 = .ok (.aload_n 2, 1) := by decide +kernel
theorem dL_law_2265 : decode cL_law 2265 = .ok (.invokevirtual 226, 3) := by decide +kernel
theorem dL_law_2268 : decode cL_law 2268 = .ok (.if_icmp .eq 61, 3) := by decide +kernel
theorem dL_law_2271 : decode cL_law 2271 = .ok (.iconst 0, 1) := by decide +kernel
theorem dL_law_2272 : decode cL_law 2272 = .ok (.ireturn, 1) := by decide +kernel
theorem dL_law_2273 : decode cL_law 2273 = .ok (.aload_n 1, 1) := by decide +kernel
theorem dL_law_2274 : decode cL_law 2274 = .ok (.aload_n 0, 1) := by decide +kernel
theorem dL_law_2275 : decode cL_law 2275 = .ok (.iload 4, 2) := by decide +kernel
theorem dL_law_2277 : decode cL_law 2277 = .ok (.iconst 1, 1) := by decide +kernel
theorem dL_law_2278 : decode cL_law 2278 = .ok (.iadd, 1) := by decide +kernel
theorem dL_law_2279 : decode cL_law 2279 = .ok (.iaload, 1) := by decide +kernel
theorem dL_law_2280 : decode cL_law 2280 = .ok (.aload_n 3, 1) := by decide +kernel
theorem dL_law_2281 : decode cL_law 2281 = .ok (.invokestatic 227, 3) := by decide +kernel
theorem dL_law_2284 : decode cL_law 2284 = .ok (.istore 5, 2) := by decide +kernel
theorem dL_law_2286 : decode cL_law 2286 = .ok (.aload_n 2, 1) := by decide +kernel
theorem dL_law_2287 : decode cL_law 2287 = .ok (.aload_n 0, 1) := by decide +kernel
theorem dL_law_2288 : decode cL_law 2288 = .ok (.iload 4, 2) := by decide +kernel
theorem dL_law_2290 : decode cL_law 2290 = .ok (.iconst 1, 1) := by decide +kernel
theorem dL_law_2291 : decode cL_law 2291 = .ok (.iadd, 1) := by decide +kernel
theorem dL_law_2292 : decode cL_law 2292 = .ok (.iaload, 1) := by decide +kernel
theorem dL_law_2293 : decode cL_law 2293 = .ok (.invokevirtual 229, 3) := by decide +kernel
theorem dL_law_2296 : decode cL_law 2296 = .ok (.istore 6, 2) := by decide +kernel
theorem dL_law_2298 : decode cL_law 2298 = .ok (.aload_n 2, 1) := by decide +kernel
theorem dL_law_2299 : decode cL_law 2299 = .ok (.invokevirtual 124, 3) := by decide +kernel
theorem dL_law_2302 : decode cL_law 2302 = .ok (.iload 5, 2) := by decide +kernel
theorem dL_law_2304 : decode cL_law 2304 = .ok (.if_icmp .eq 5, 3) := by decide +kernel
theorem dL_law_2307 : decode cL_law 2307 = .ok (.iconst 0, 1) := by decide +kernel
theorem dL_law_2308 : decode cL_law 2308 = .ok (.ireturn, 1) := by decide +kernel
theorem dL_law_2309 : decode cL_law 2309 = .ok (.iload 5, 2) := by decide +kernel
theorem dL_law_2311 : decode cL_law 2311 = .ok (.ifCond .ne 15, 3) := by decide +kernel
theorem dL_law_2314 : decode cL_law 2314 = .ok (.aload_n 3, 1) := by decide +kernel
theorem dL_law_2315 : decode cL_law 2315 = .ok (.iconst 0, 1) := by decide +kernel
theorem dL_law_2316 : decode cL_law 2316 = .ok (.laload, 1) := by decide +kernel
theorem dL_law_2317 : decode cL_law 2317 = .ok (.iload 6, 2) := by decide +kernel
theorem dL_law_2319 : decode cL_law 2319 = .ok (.i2l, 1) := by decide +kernel
theorem dL_law_2320 : decode cL_law 2320 = .ok (.lcmp, 1) := by decide +kernel
theorem dL_law_2321 : decode cL_law 2321 = .ok (.ifCond .eq 5, 3) := by decide +kernel
theorem dL_law_2324 : decode cL_law 2324 = .ok (.iconst 0, 1) := by decide +kernel
theorem dL_law_2325 : decode cL_law 2325 = .ok (.ireturn, 1) := by decide +kernel
theorem dL_law_2326 : decode cL_law 2326 = .ok (.goto 3, 3) := by decide +kernel
theorem dL_law_2329 : decode cL_law 2329 = .ok (.iinc 4 5, 3) := by decide +kernel
theorem dL_law_2332 : decode cL_law 2332 = .ok (.goto (-2309), 3) := by decide +kernel
theorem dL_law_2335 : decode cL_law 2335 = .ok (.iconst 1, 1) := by decide +kernel
theorem dL_law_2336 : decode cL_law 2336 = .ok (.ireturn, 1) := by decide +kernel
end
section
/-! ===== the memory: the cells made since the law's start, by labels of our own ===== -/
abbrev zm_Sh : Type := Nat → Option (Nat × Nat)
abbrev zm_Mi : Type := Nat → Nat → Int32
abbrev zm_Mr : Type := Nat → Nat → Option Nat
abbrev zz_D : Type := va_G × (Nat → ClassId)
/-- the first new address, the script's address, its length, what it holds -/
abbrev zz_E : Type := Nat × Nat × Nat × (Nat → Int32)
def zm_rkl : List (List Bool) := [[false, true, true, true], [true, true, true, true, true, true, false], [true, false, false, false, false, false, true, true, true], [false, true, true], [true, true, false], [true, false, true, false, true, true, false, true, true, false, false, false], [false, true, true, true, true, false, true, true, true, false, true, true, true, true, true, true, true, true, true, true, false, false, true, true, true, true, true, true, false, true, false]]
def zm_rk (ci k : Nat) : Bool := (zm_rkl.getD ci []).getD k false
def zm_nf (ci : Nat) : Nat := (zm_rkl.getD ci []).length
def zm_u2 {α : Type} (f : Nat → Nat → α) (l k : Nat) (v : α) : Nat → Nat → α := fun a b => if a = l ∧ b = k then v else f a b
def zm_u1 {α : Type} (f : Nat → α) (l : Nat) (v : α) : Nat → α := fun a => if a = l then v else f a
theorem zm_u1s {α : Type} {f : Nat → α} {l : Nat} {v : α} : zm_u1 f l v l = v := if_pos rfl
theorem zm_u1n {α : Type} {f : Nat → α} {l x : Nat} {v : α} (h : x ≠ l) : zm_u1 f l v x = f x := if_neg h
theorem zm_u2s {α : Type} {f : Nat → Nat → α} {l k : Nat} {v : α} : zm_u2 f l k v l k = v := if_pos ⟨rfl, rfl⟩
theorem zm_u2l {α : Type} {f : Nat → Nat → α} {l k x y : Nat} {v : α} (h : x ≠ l) : zm_u2 f l k v x y = f x y := if_neg (fun q => h q.1)
theorem zm_u2k {α : Type} {f : Nat → Nat → α} {l k x y : Nat} {v : α} (h : y ≠ k) : zm_u2 f l k v x y = f x y := if_neg (fun q => h q.2)
theorem zm_u2r {α : Type} {f : Nat → Nat → α} {l k x : Nat} {v : α} (h : x ≠ l) : zm_u2 f l k v x = f x := funext fun _ => zm_u2l h
def zm_fv (ad : Nat → Nat) (mi : zm_Mi) (mr : zm_Mr) (ci l k : Nat) : Value := if zm_rk ci k = true then va_rf ((mr l k).map ad) else .int (mi l k)
def zm_ent (cA : Nat → ClassId) (ad : Nat → Nat) (mi : zm_Mi) (mr : zm_Mr) (l : Nat) (s : Nat × Nat) : va_E :=
  if s.1 = 0 then .inr (s.2, (List.range (zm_nf s.2)).map (zm_fv ad mi mr s.2 l))
  else if s.1 ≤ 2 then .inl (cA s.1, s.2, .inl (mi l))
  else if s.1 = 3 then .inl (cA s.1, s.2, .inr (.inl (fun j => (mi l j).toInt64)))
  else .inl (cA s.1, s.2, .inr (.inr (.inr (.inr (fun j => (mr l j).map ad)))))
def zm_cell (cA : Nat → ClassId) (ad : Nat → Nat) (sh : zm_Sh) (mi : zm_Mi) (mr : zm_Mr) (l : Nat) : Nat × va_E := (ad l, zm_ent cA ad mi mr l ((sh l).getD (0, 0)))
def zm_L (sh : zm_Sh) (L : List Nat) : Prop := L.Nodup ∧ ∀ l, l ∈ L ↔ (sh l ≠ none ∧ sh l ≠ some (9, 0))
def zm_P (D : zz_D) (E : zz_E) (ad : Nat → Nat) (sh : zm_Sh) (mi : zm_Mi) (mr : zm_Mr) (H : Heap) : Prop :=
  (∃ L : List Nat, zm_L sh L ∧ va_P D.1 vwCl (L.map (zm_cell D.2 ad sh mi mr)) H ∧ va_D (fun q => E.1 ≤ q) (L.map (zm_cell D.2 ad sh mi mr))) ∧
  (∀ l k x, mr l k = some x → sh x ≠ none) ∧ ∀ l, sh l = some (9, 0) → ad l = E.2.1
def zm_cv (ad : Nat → Nat) (v : Value) : Value := match v with
  | .ref l => .ref (ad l)
  | v => v
def zm_ok (sh : zm_Sh) (v : Value) : Prop := match v with
  | .ref l => sh l ≠ none
  | _ => True
def zm_okl (sh : zm_Sh) (v : Value) : Prop := zm_ok sh v ∧ v.category = 1
theorem zm_cv_cat (ad : Nat → Nat) (v : Value) : (zm_cv ad v).category = v.category := by cases v <;> rfl
theorem zm_cv_cats (ad : Nat → Nat) (st : List Value) : ((st.map (zm_cv ad)).map fun v => v.category) = st.map fun v => v.category := by
  rw [List.map_map]
  exact List.map_congr_left fun v _ => zm_cv_cat ad v
def zm_oks (sh : zm_Sh) (st : List Value) : Prop := ∀ v ∈ st, zm_ok sh v
theorem zm_oc {sh : zm_Sh} {v : Value} {st : List Value} (h : zm_ok sh v) (h2 : zm_oks sh st) : zm_oks sh (v :: st) := List.forall_mem_cons.mpr ⟨h, h2⟩
theorem zm_oh {sh : zm_Sh} {v : Value} {st : List Value} (h : zm_oks sh (v :: st)) : zm_ok sh v := (List.forall_mem_cons.mp h).1
theorem zm_ot {sh : zm_Sh} {v : Value} {st : List Value} (h : zm_oks sh (v :: st)) : zm_oks sh st := (List.forall_mem_cons.mp h).2
theorem zm_on {sh : zm_Sh} : zm_oks sh [] := fun _ h => nomatch h
theorem zm_nodup_pos {L : List Nat} (h : L.Nodup) {i j : Nat} {x : Nat} (hi : L[i]? = some x) (hj : L[j]? = some x) : i = j := by
  obtain ⟨h1, e1⟩ := List.getElem?_eq_some_iff.mp hi
  obtain ⟨h2, e2⟩ := List.getElem?_eq_some_iff.mp hj
  exact (List.getElem_inj h).mp (e1.trans e2.symm)
theorem zm_map_set {α : Type} {L : List Nat} {f g : Nat → α} {q l : Nat} {y : α} (hn : L.Nodup) (hq : L[q]? = some l) (hy : g l = y) (ho : ∀ x, x ≠ l → g x = f x) : (L.map f).set q y = L.map g := by
  apply List.ext_getElem?
  intro i
  rw [List.getElem?_set, List.getElem?_map]
  by_cases hi : q = i
  · subst hi
    have hl : q < (L.map f).length := by rw [List.length_map]; exact (List.getElem?_eq_some_iff.mp hq).1
    rw [if_pos rfl, if_pos hl, List.getElem?_map, hq, Option.map_some, hy]
  · rw [if_neg hi, List.getElem?_map]
    cases hx : L[i]? with
    | none => rfl
    | some x =>
      have hne : x ≠ l := fun e => hi (zm_nodup_pos hn hq (e ▸ hx))
      rw [Option.map_some, Option.map_some, ho x hne]
theorem zm_at {D : zz_D} {ad : Nat → Nat} {sh : zm_Sh} {mi : zm_Mi} {mr : zm_Mr} {L : List Nat} (hL : zm_L sh L) {l : Nat} {s : Nat × Nat} (hs : sh l = some s) (h9 : s.1 ≠ 9) :
    ∃ q : Nat, L[q]? = some l ∧ (L.map (zm_cell D.2 ad sh mi mr))[q]? = some (ad l, zm_ent D.2 ad mi mr l s) := by
  have hm : l ∈ L := (hL.2 l).mpr ⟨(fun h => by rw [hs] at h; cases h), (fun h => by rw [hs] at h; cases h; exact h9 rfl)⟩
  obtain ⟨q, hq⟩ := List.getElem?_of_mem hm
  refine ⟨q, hq, ?_⟩
  rw [List.getElem?_map, hq, Option.map_some]
  show some (ad l, zm_ent D.2 ad mi mr l ((sh l).getD (0, 0))) = _
  rw [hs]
  rfl
/-- a row of a field or a place anew -/
theorem zm_set {D : zz_D} {E : zz_E} {ad : Nat → Nat} {sh : zm_Sh} {mi mi' : zm_Mi} {mr mr' : zm_Mr} {H1 : Heap} {L : List Nat} (hL : zm_L sh L) {l q : Nat} {s : Nat × Nat} (hs : sh l = some s) (hq : L[q]? = some l) (ho : ∀ x, x ≠ l → mi' x = mi x ∧ mr' x = mr x) {y : Nat × va_E} (hy : (ad l, zm_ent D.2 ad mi' mr' l s) = y)
    (hP : va_P D.1 vwCl ((L.map (zm_cell D.2 ad sh mi mr)).set q y) H1) (hD : va_D (fun q => E.1 ≤ q) ((L.map (zm_cell D.2 ad sh mi mr)).set q y)) (hr : ∀ l k x, mr' l k = some x → sh x ≠ none) (h9 : ∀ l, sh l = some (9, 0) → ad l = E.2.1) : zm_P D E ad sh mi' mr' H1 := by
  have e : (L.map (zm_cell D.2 ad sh mi mr)).set q y = L.map (zm_cell D.2 ad sh mi' mr') := by
    refine zm_map_set hL.1 hq ?_ fun x hx => ?_
    · rw [← hy]
      show (ad l, zm_ent D.2 ad mi' mr' l ((sh l).getD (0, 0))) = _
      rw [hs]
      rfl
    · obtain ⟨e1, e2⟩ := ho x hx
      have e3 : zm_fv ad mi' mr' ((sh x).getD (0, 0)).2 x = zm_fv ad mi mr ((sh x).getD (0, 0)).2 x := by
        funext k
        simp only [zm_fv, e1, e2]
      simp only [zm_cell, zm_ent, e1, e2, e3]
  rw [e] at hP hD
  exact ⟨⟨L, hL, hP, hD⟩, hr, h9⟩
/-- a new cell under a free label -/
theorem zm_new {D : zz_D} {E : zz_E} {ad : Nat → Nat} {sh : zm_Sh} {mi : zm_Mi} {mr : zm_Mr} {H1 : Heap} {L : List Nat} (hL : zm_L sh L) {l a : Nat} {s : Nat × Nat} (hf : sh l = none) (hs : s.1 ≠ 9) {e : va_E} (he : zm_ent D.2 (zm_u1 ad l a) (zm_u1 mi l (fun _ => 0)) (zm_u1 mr l (fun _ => none)) l s = e)
    (hP : va_P D.1 vwCl (L.map (zm_cell D.2 ad sh mi mr) ++ [(a, e)]) H1) (hD : va_D (fun q => E.1 ≤ q) (L.map (zm_cell D.2 ad sh mi mr) ++ [(a, e)])) (hr : ∀ l k x, mr l k = some x → sh x ≠ none) (h9 : ∀ l, sh l = some (9, 0) → ad l = E.2.1) :
    zm_P D E (zm_u1 ad l a) (zm_u1 sh l (some s)) (zm_u1 mi l (fun _ => 0)) (zm_u1 mr l (fun _ => none)) H1 := by
  have hnl : l ∉ L := fun h => ((hL.2 l).mp h).1 hf
  have hre : ∀ x k, x ≠ l → ((zm_u1 mr l (fun _ => none)) x k).map (zm_u1 ad l a) = (mr x k).map ad := by
    intro x k hx
    rw [zm_u1n hx]
    cases hk : mr x k with
    | none => rfl
    | some z =>
      have hz : z ≠ l := fun e => hr x k z hk (by rw [e]; exact hf)
      show some (zm_u1 ad l a z) = some (ad z)
      rw [zm_u1n hz]
  have e2 : L.map (zm_cell D.2 ad sh mi mr) ++ [(a, e)] = (L ++ [l]).map (zm_cell D.2 (zm_u1 ad l a) (zm_u1 sh l (some s)) (zm_u1 mi l (fun _ => 0)) (zm_u1 mr l (fun _ => none))) := by
    rw [List.map_append]
    congr 1
    · apply List.map_congr_left
      intro x hx
      have hxl : x ≠ l := fun q => hnl (q ▸ hx)
      have e3 : zm_fv (zm_u1 ad l a) (zm_u1 mi l (fun _ => 0)) (zm_u1 mr l (fun _ => none)) ((sh x).getD (0, 0)).2 x = zm_fv ad mi mr ((sh x).getD (0, 0)).2 x := by
        funext k
        unfold zm_fv
        rw [hre x k hxl, zm_u1n hxl]
      have e4 : (fun j => ((zm_u1 mr l (fun _ => none)) x j).map (zm_u1 ad l a)) = fun j => (mr x j).map ad := funext fun j => hre x j hxl
      simp only [zm_cell, zm_ent, e3, zm_u1n hxl]
      rw [← e4, zm_u1n hxl]
    · show [(a, e)] = [zm_cell _ _ _ _ _ l]
      rw [← he]
      simp only [zm_cell, zm_u1s, Option.getD_some]
  refine ⟨⟨L ++ [l], ⟨?_, fun x => ?_⟩, by rw [← e2]; exact hP, by rw [← e2]; exact hD⟩, fun x k z hz => ?_, fun x hx => ?_⟩
  · rw [List.nodup_append]
    refine ⟨hL.1, by simp, fun x hx y hy => ?_⟩
    rw [List.mem_singleton] at hy
    rintro rfl
    exact hnl (hy ▸ hx)
  · by_cases hx : x = l
    · subst hx
      simp only [zm_u1s, List.mem_append, List.mem_singleton, or_true, true_iff]
      exact ⟨(fun h => nomatch h), (fun h => hs (by cases h; rfl))⟩
    · rw [zm_u1n hx, List.mem_append, List.mem_singleton]
      exact ⟨fun h => h.elim (hL.2 x).mp (fun e => absurd e hx), fun h => Or.inl ((hL.2 x).mpr h)⟩
  · by_cases hx : x = l
    · subst hx
      rw [zm_u1s] at hz
      cases hz
    · rw [zm_u1n hx] at hz
      by_cases hzl : z = l
      · subst hzl
        rw [zm_u1s]
        exact fun h => nomatch h
      · rw [zm_u1n hzl]
        exact hr x k z hz
  · by_cases hxl : x = l
    · subst hxl
      rw [zm_u1s] at hx
      exact absurd (by cases hx; rfl) hs
    · rw [zm_u1n hxl] at hx
      rw [zm_u1n hxl]
      exact h9 x hx
/-- other numbers for labels that nothing bears -/
theorem zm_P.ad {D : zz_D} {E : zz_E} {ad ad' : Nat → Nat} {sh : zm_Sh} {mi : zm_Mi} {mr : zm_Mr} {H : Heap} (h : zm_P D E ad sh mi mr H) (hk : ∀ x, sh x ≠ none → ad' x = ad x) : zm_P D E ad' sh mi mr H := by
  obtain ⟨⟨L, hL, hP, hD⟩, hr, h9⟩ := h
  have e : L.map (zm_cell D.2 ad sh mi mr) = L.map (zm_cell D.2 ad' sh mi mr) := by
    apply List.map_congr_left
    intro x hx
    have hx0 := ((hL.2 x).mp hx).1
    have hre : ∀ k, (mr x k).map ad' = (mr x k).map ad := by
      intro k
      cases hz : mr x k with
      | none => rfl
      | some z => exact congrArg some (hk z (hr x k z hz))
    have e3 : zm_fv ad' mi mr ((sh x).getD (0, 0)).2 x = zm_fv ad mi mr ((sh x).getD (0, 0)).2 x := by
      funext k
      simp only [zm_fv, hre]
    simp only [zm_cell, zm_ent, e3, hre, hk x hx0]
  exact ⟨⟨L, hL, e ▸ hP, e ▸ hD⟩, hr, fun l hl => by rw [hk l (by rw [hl]; exact fun h => nomatch h)]; exact h9 l hl⟩
/-- two labels of one cell are one -/
theorem zm_inj {D : zz_D} {E : zz_E} {ad : Nat → Nat} {sh : zm_Sh} {mi : zm_Mi} {mr : zm_Mr} {H : Heap} (h : zm_P D E ad sh mi mr H) {x y : Nat} (hx : sh x ≠ none) (hx9 : sh x ≠ some (9, 0)) (hy : sh y ≠ none) (hy9 : sh y ≠ some (9, 0)) (e : ad x = ad y) : x = y := by
  obtain ⟨⟨L, hL, hP, hD⟩, -⟩ := h
  obtain ⟨i, hi⟩ := List.getElem?_of_mem ((hL.2 x).mpr ⟨hx, hx9⟩)
  obtain ⟨j, hj⟩ := List.getElem?_of_mem ((hL.2 y).mpr ⟨hy, hy9⟩)
  have hi2 : (L.map (zm_cell D.2 ad sh mi mr))[i]? = some (zm_cell D.2 ad sh mi mr x) := by rw [List.getElem?_map, hi]; rfl
  have hj2 : (L.map (zm_cell D.2 ad sh mi mr))[j]? = some (zm_cell D.2 ad sh mi mr y) := by rw [List.getElem?_map, hj]; rfl
  have hij := hD.1 i j _ _ hi2 hj2 e
  subst hij
  exact Option.some.inj (hi.symm.trans hj)
end
section
/-! ===== what every method may rest on: the tables' words, the classes, the constants, the script ===== -/
def zk_ok (w : Cond) : Bool := (w.onTables && w.keepsFace) || (match w with
  | .arrayClass _ => true
  | _ => false)
def zk_nest : List (String × Nat × MethodName × String) := [("FrameClay", 28, (⟨"FrameClay$Voice", "<init>", "()V"⟩ : MethodName), "FrameClay"), ("FrameClay$Track", 34, (⟨"FrameClay", "shorterWay", "(II)I"⟩ : MethodName), "FrameClay"), ("FrameClay$Puppet", 25, (⟨"FrameClay", "shorterWay", "(II)I"⟩ : MethodName), "FrameClay")]
def zk_str : List (String × Nat × String) := [("FrameClay", 278, "out of range"), ("FrameClay", 65, "there are 5 puppets"), ("FrameClay", 298, "no such puppet"), ("FrameClay", 83, "more than 9 mouths"), ("FrameClay", 88, "the voice has 12 sounds"), ("FrameClay", 94, "the voice has no sound"), ("FrameClay", 96, "there are 6 voices"), ("FrameClay", 283, "no such voice"), ("FrameClay", 101, "there are 8 shots"), ("FrameClay", 285, "no such shot"), ("FrameClay", 281, "no such animator"), ("FrameClay", 117, "the shot is done"), ("FrameClay", 129, "the shot has begun, and its animator is not ill"), ("FrameClay", 290, "no such joint"), ("FrameClay", 292, "no such frame"), ("FrameClay", 296, "the frame is struck"), ("FrameClay", 152, "the frame is held"), ("FrameClay", 319, "the shot has no animator"), ("FrameClay", 321, "the animator is ill"), ("FrameClay", 323, "another shot has begun, and is not done"), ("FrameClay", 325, "a joint is broken"), ("FrameClay", 327, "no such mouth is left"), ("FrameClay", 206, "the shot has not begun"), ("FrameClay", 211, "the frame is not struck"), ("FrameClay", 216, "the shot is in the film"), ("FrameClay", 221, "the shot is not done"), ("FrameClay", 229, "the shot is not in the film"), ("FrameClay", 294, "no such struck frame"), ("FrameClay", 273, "no such frame of the film")]
def zk_nc : List (String × String) := [("java/lang/IllegalStateException", "java/lang/IllegalArgumentException"), ("java/lang/IndexOutOfBoundsException", "java/lang/IllegalArgumentException"), ("java/lang/IllegalArgumentException", "java/lang/IllegalStateException"), ("java/lang/IndexOutOfBoundsException", "java/lang/IllegalStateException"), ("java/lang/IllegalArgumentException", "java/lang/IndexOutOfBoundsException"), ("java/lang/IllegalStateException", "java/lang/IndexOutOfBoundsException")]
def zk_ty : Nat → FieldType := fun k => match k with
  | 1 => .int
  | 2 => .boolean
  | 3 => .long
  | 4 => .object RX0
  | 5 => .object RX2
  | 6 => .object RX3
  | 7 => .object RX4
  | _ => .array .int
def zk_tys (cA : Nat → ClassId) : List (ClassId × FieldType) := (List.range 8).map fun k => (cA (k + 1), zk_ty (k + 1))
theorem zk_tys_at {cA : Nat → ClassId} (k : Nat) (h1 : 1 ≤ k) (h2 : k ≤ 8) : (zk_tys cA)[k - 1]? = some (cA k, zk_ty k) := by
  unfold zk_tys
  rw [List.getElem?_map, List.getElem?_range (by omega), Option.map_some, show k - 1 + 1 = k by omega]
/-- [[I may be made -/
def zk_AOA (U : State) : Prop := (Cond.arrayOver (.array .int)).before #[] U = true
def zk_K (D : zz_D) (E : zz_E) (U : State) : Prop :=
  va_K D.1 vwCl (zk_tys D.2) U ∧ vx_Zq Bundle.tN "UNASSIGNED_STACK" Bundle.steD (fun q => E.1 ≤ q) U U.heap ∧ vx_Zq Bundle.tN "SUPPRESSED_SENTINEL" Bundle.listD (fun q => E.1 ≤ q) U U.heap ∧
  (∀ w ∈ lw_tbl, zk_ok w = true → w.before #[] U = true) ∧ (∀ q ∈ zk_nest, va_Nw (.methodLinkNest q.1 q.2.1 q.2.2.1 q.2.2.2) U) ∧ (∀ C ∈ [RX0, RX2, RX3, RX4], va_AO C U) ∧
  (∀ q ∈ zk_str, ∃ a, vk_R q.1 q.2.1 q.2.2 a U) ∧ (∀ q ∈ zk_nc, va_Nc q.1 q.2 U) ∧ zk_AOA U ∧ (E.2.1 < E.1 ∧ va_X E.2.1 E.2.2.1 E.2.2.2 U U.heap) ∧ E.1 ≤ U.heap.size
theorem zk_idx_bare (vm : Vm) (comp : ClassId) : (vm.bare.classes.findIdx? fun (x : Class) => match x.kind with | .array component _ => component == comp | _ => false) = (vm.classes.findIdx? fun (x : Class) => match x.kind with | .array component _ => component == comp | _ => false) := by
  simp only [Vm.bare, Array.findIdx?_map]
  rfl
theorem zk_over {args : Array Value} {s : State} {t : FieldType} (h : (Cond.arrayOver (.array t)).before args s = true) :
    ∃ comp c k, s.vm.findClass (FieldType.array t).toString = some comp ∧ (s.vm.classes.findIdx? fun x => match x.kind with | .array component _ => component == comp | _ => false) = some c ∧ s.vm.classes[c]? = some k ∧ k.kind = .array comp (.array t) ∧ s.vm.findClass ("[" ++ (FieldType.array t).toString) = some c := by
  simp only [Cond.before, Cond.holds, Cond.value, beq_iff_eq] at h
  cases hc : s.vm.findClass (FieldType.array t).toString with
  | none => simp [hc] at h
  | some comp =>
    simp only [hc, Option.bind_some, Option.bind_eq_some_iff, Option.map_eq_some_iff] at h
    obtain ⟨c, hi, k, hk, hb⟩ := h
    obtain ⟨hlt, hp, -⟩ := Array.findIdx?_eq_some_iff_getElem.mp hi
    have hkk : s.vm.classes[c] = k := (Array.getElem?_eq_some_iff.mp hk).2
    rw [hkk] at hp
    cases hkind : k.kind with
    | array component ty =>
      rw [hkind] at hb hp
      simp at hb hp
      exact ⟨comp, c, k, rfl, hi, hk, by rw [hkind, hp, hb.1], hb.2⟩
    | _ => rw [hkind] at hb; simp at hb
theorem zk_AOA.moved {u U : State} (hvm : u.vm.Alike U.vm) (h : zk_AOA u) : zk_AOA U := by
  obtain ⟨comp, c, k, h1, h2, h3, h4, h5⟩ := zk_over h
  obtain ⟨k', hk', he⟩ := hvm.2.2 _ _ h3
  have hi : (U.vm.classes.findIdx? fun (x : Class) => match x.kind with | .array component _ => component == comp | _ => false) = some c := by
    rw [← zk_idx_bare]
    first | rw [hvm.bare_eq] | rw [← hvm.bare_eq]
    rw [zk_idx_bare]
    exact h2
  have hkind : k'.kind = .array comp (.array .int) := by rw [he]; exact h4
  have f1 : U.vm.findClass (FieldType.array .int).toString = some comp := by rw [hvm.findClass]; exact h1
  have f2 : U.vm.findClass ("[" ++ (FieldType.array .int).toString) = some c := by rw [hvm.findClass]; exact h5
  unfold zk_AOA Cond.before Cond.holds
  simp only [Cond.value]
  rw [f1, Option.bind_some]
  refine (congrArg (fun o : Option Nat => (o.bind (fun c => (U.vm.classes[c]?).map fun (k : Class) => match k.kind with | .array _ ty => decide (ty = FieldType.array .int) && decide (U.vm.findClass ("[" ++ (FieldType.array .int).toString) = some c) | _ => false) == some true)) hi).trans ?_
  simp [hk', hkind, f2]
theorem zk_Nc.moved {E T : String} {u U : State} (hvm : u.vm.Alike U.vm) (h : va_Nc E T u) : va_Nc E T U := by
  obtain ⟨c, t, h1, h2, h3⟩ := h
  exact ⟨c, t, by rw [hvm.findClass]; exact h1, by rw [hvm.findClass]; exact h2, by rw [hvm.assignable]; exact h3⟩
theorem zk_word {args args' : Array Value} {s U : State} (hW : s.WarmedH U.vm) {w : Cond} (hw : zk_ok w = true) (h : w.before args s = true) : w.before args' U = true := by
  unfold zk_ok at hw
  rw [Bool.or_eq_true, Bool.and_eq_true] at hw
  rcases hw with ⟨h1, h2⟩ | h1
  · have h3 := Cond.before_shiftedFace (State.Shifted.of_warmed hW) w h2 h
    exact va_tabs h1 (rfl : (s.setVm U.vm).vm = U.vm) h3
  · refine word_at hW (Or.inr ?_) h
    cases w <;> first | exact ⟨_, rfl⟩ | cases h1
theorem zk_K.moved {D : zz_D} {E : zz_E} {u U : State} (h : zk_K D E u) (hW : u.WarmedH U.vm) (hz : u.heap.size ≤ U.heap.size) (hq : ∀ q : Nat, q < u.heap.size → ¬ E.1 ≤ q → U.heap[q]? = u.heap[q]?) : zk_K D E U := by
  obtain ⟨h1, h2, h3, h4, h5, h6, h7, h8, h9, ⟨h10, h11⟩, h12⟩ := h
  refine ⟨va_K.moved hW.alike h1, vx_Zq.moved hW.alike (h2.kept hq), vx_Zq.moved hW.alike (h3.kept hq), fun w hw ho => zk_word hW ho (h4 w hw ho), fun q hx => va_Nw.warmM hW (h5 q hx), fun C hC => va_AO.moved hW.alike (h6 C hC), fun q hx => ?_, fun q hx => zk_Nc.moved hW.alike (h8 q hx), zk_AOA.moved hW.alike h9, ⟨h10, va_X.moved hW.alike (h11.kept (hq _ (by omega) (by omega)))⟩, by omega⟩
  obtain ⟨a, ha⟩ := h7 q hx
  exact ⟨a, vk_R.warm hW ha⟩
theorem zk_w {D : zz_D} {E : zz_E} {s : State} (h : zk_K D E s) {w : Cond} (hw : w ∈ lw_tbl) (ho : zk_ok w = true) {args : Array Value} : w.before args s = true := zk_word (State.WarmedH.refl s) ho (h.2.2.2.1 w hw ho)
end
section
/-! ===== the judgement zz: from here the method comes to its end; the memory by labels ===== -/
abbrev zz_C : Type := Program × Launch × Env × Room × State × MethodId × Array Value × List Frame × Method × Code
abbrev zz_G : Type := zz_D × zz_E × Nat × (Nat → Nat) × zm_Sh
abbrev zz_p (Γ : zz_C) : Program := Γ.1
abbrev zz_l (Γ : zz_C) : Launch := Γ.2.1
abbrev zz_e (Γ : zz_C) : Env := Γ.2.2.1
abbrev zz_R (Γ : zz_C) : Room := Γ.2.2.2.1
abbrev zz_s (Γ : zz_C) : State := Γ.2.2.2.2.1
abbrev zz_m (Γ : zz_C) : MethodId := Γ.2.2.2.2.2.1
abbrev zz_a (Γ : zz_C) : Array Value := Γ.2.2.2.2.2.2.1
abbrev zz_b (Γ : zz_C) : List Frame := Γ.2.2.2.2.2.2.2.1
abbrev zz_h (Γ : zz_C) : Method := Γ.2.2.2.2.2.2.2.2.1
abbrev zz_c (Γ : zz_C) : Code := Γ.2.2.2.2.2.2.2.2.2
abbrev zz_W (Γ : zz_C) (H : Heap) (locs : List Loc) (cells slots : Nat) (Q : State → Prop) (g : JFrame) : Prop := W (zz_p Γ) (zz_l Γ) (zz_e Γ) (zz_R Γ) (zz_s Γ) (zz_m Γ) (zz_a Γ) (zz_b Γ) (zz_h Γ) (zz_c Γ) H locs cells slots Q g
abbrev zz_A (E : zz_E) : Nat → Prop := fun q => E.1 ≤ q
def zz_rm (d mc ms : Nat) : Room := { frames := d, cells := mc, slots := ms, locals := 36 * d }
def zz_ls (ad : Nat → Nat) (ls : List (Nat × Value)) : List (Nat × Value) := ls.map fun q => (q.1, zm_cv ad q.2)
def zz_lok (sh : zm_Sh) (ls : List (Nat × Value)) : Prop := ∀ q ∈ ls, zm_okl sh q.2
def zz_ag (G : zz_G) (ad : Nat → Nat) (sh : zm_Sh) : Prop := ∀ x, G.2.2.2.2 x ≠ none → ad x = G.2.2.2.1 x ∧ sh x = G.2.2.2.2 x
/-- what holds where a frame of the method stands -/
def zz_H (Γ : zz_C) (G : zz_G) (sh : zm_Sh) (mi : zm_Mi) (mr : zm_Mr) (ls : List (Nat × Value)) (st : List Value) (ad : Nat → Nat) (H : Heap) (locs : List Loc) (la : Array Slot) : Prop :=
  zm_P G.1 G.2.1 ad sh mi mr H ∧ va_S (zz_A G.2.1) (zz_s Γ).heap H locs ∧ zz_ag G ad sh ∧ zz_lok sh ls ∧ zm_oks sh st ∧ lv_has la G.2.2.1 (zz_ls ad ls)
def zz (Γ : zz_C) (G : zz_G) (Q : State → Prop) (cells slots : Nat) (sh : zm_Sh) (mi : zm_Mi) (mr : zm_Mr) (pc : Nat) (ls : List (Nat × Value)) (st : List Value) : Prop :=
  ∀ (ad : Nat → Nat) (H : Heap) (locs : List Loc) (la : Array Slot), zz_H Γ G sh mi mr ls st ad H locs la → zz_W Γ H locs cells slots Q (F0 (zz_m Γ) pc la (st.map (zm_cv ad)))
/-- what is known of the method -/
def zz_X (Γ : zz_C) (G : zz_G) (own : String) (cc : ByteArray) (d mc ms : Nat) : Prop :=
  (zz_p Γ).tables.exec = Jvm.exec ∧ (zz_c Γ).code = cc ∧ (zz_c Γ).maxLocals = G.2.2.1 ∧ (zz_s Γ).vm.findClass own = some (zz_m Γ).cls ∧ (zz_h Γ).locks = false ∧ (zz_l Γ).stackTraces = false ∧ zk_K G.1 G.2.1 (zz_s Γ) ∧ zz_R Γ = zz_rm d mc ms
section ZR
variable {Γ : zz_C} {G : zz_G} {Q : State → Prop} {cells slots : Nat} {sh : zm_Sh} {mi : zm_Mi} {mr : zm_Mr} {pc : Nat} {ls : List (Nat × Value)} {st : List Value} {own : String} {cc : ByteArray} {d mc ms : Nat}
theorem zz_H.ws {st2 : List Value} {ad : Nat → Nat} {H : Heap} {locs : List Loc} {la : Array Slot} (h : zz_H Γ G sh mi mr ls st ad H locs la) (h2 : zm_oks sh st2) : zz_H Γ G sh mi mr ls st2 ad H locs la := ⟨h.1, h.2.1, h.2.2.1, h.2.2.2.1, h2, h.2.2.2.2.2⟩
theorem zz_H.oks {ad : Nat → Nat} {H : Heap} {locs : List Loc} {la : Array Slot} (h : zz_H Γ G sh mi mr ls st ad H locs la) : zm_oks sh st := h.2.2.2.2.1
theorem zz_H.la {ad : Nat → Nat} {H : Heap} {locs : List Loc} {la : Array Slot} (h : zz_H Γ G sh mi mr ls st ad H locs la) {k i : Nat} {v : Value} (hk : ls[k]? = some (i, v)) : la[i]? = some (.val (zm_cv ad v)) := by
  refine lv_at h.2.2.2.2.2 k ?_
  unfold zz_ls
  rw [List.getElem?_map, hk]
  rfl
theorem zz_H.lok {ad : Nat → Nat} {H : Heap} {locs : List Loc} {la : Array Slot} (h : zz_H Γ G sh mi mr ls st ad H locs la) {k i : Nat} {v : Value} (hk : ls[k]? = some (i, v)) : zm_okl sh v := h.2.2.2.1 (i, v) (List.mem_of_getElem? hk)
theorem zz_sz {ad : Nat → Nat} {H : Heap} {locs : List Loc} {la : Array Slot} (X : zz_X Γ G own cc d mc ms) (h : zz_H Γ G sh mi mr ls st ad H locs la) : la.size = (zz_c Γ).maxLocals := by
  rw [X.2.2.1]
  exact h.2.2.2.2.2.1
/-- fewer locals -/
theorem zz_drop {ls' : List (Nat × Value)} (hl : ∀ q ∈ ls', q ∈ ls) (kk : zz Γ G Q cells slots sh mi mr pc ls' st) : zz Γ G Q cells slots sh mi mr pc ls st := by
  intro ad H locs la h
  refine kk ad H locs la ⟨h.1, h.2.1, h.2.2.1, fun q hq => h.2.2.2.1 q (hl q hq), h.2.2.2.2.1, ⟨h.2.2.2.2.2.1, h.2.2.2.2.2.2.1, fun q hq => h.2.2.2.2.2.2.2 q ?_⟩⟩
  obtain ⟨x, hx, rfl⟩ := List.mem_map.mp hq
  exact List.mem_map.mpr ⟨x, hl x hx, rfl⟩
/-- the same locals, places by their numbers -/
theorem zz_pick {ls' : List (Nat × Value)} (ks : List Nat) (hl : lv_pick ls ks = ls') (kk : zz Γ G Q cells slots sh mi mr pc ls' st) : zz Γ G Q cells slots sh mi mr pc ls st := by
  refine zz_drop (fun q hq => ?_) kk
  rw [← hl] at hq
  obtain ⟨i, -, hi⟩ := List.mem_filterMap.mp hq
  exact List.mem_of_getElem? hi
theorem zz_widen {k n : Nat} (h1 : cells ≤ k) (h2 : slots ≤ n) (kk : zz Γ G Q k n sh mi mr pc ls st) : zz Γ G Q cells slots sh mi mr pc ls st := fun ad H locs la h => W.widen h1 h2 (kk ad H locs la h)
theorem zz_top {x y : Int32} (h : x = y) (kk : zz Γ G Q cells slots sh mi mr pc ls (.int y :: st)) : zz Γ G Q cells slots sh mi mr pc ls (.int x :: st) := h ▸ kk
theorem zz_mem {mi' : zm_Mi} (h : mi = mi') (kk : zz Γ G Q cells slots sh mi' mr pc ls st) : zz Γ G Q cells slots sh mi mr pc ls st := h ▸ kk
theorem zz_lcl {ls' : List (Nat × Value)} (h : ls = ls') (kk : zz Γ G Q cells slots sh mi mr pc ls' st) : zz Γ G Q cells slots sh mi mr pc ls st := h ▸ kk
-- constants, locals, the stack
theorem zz_iconst (X : zz_X Γ G own cc d mc ms) {n : Int} {v : Int32} (hdg : decode cc pc = .ok (.iconst n, 1)) (hv : Int32.ofInt n = v) (kk : zz Γ G Q cells slots sh mi mr (pc + 1) ls (.int v :: st)) : zz Γ G Q cells slots sh mi mr pc ls st :=
  fun ad H locs la h => lv_iconst X.1 X.2.1 hdg hv (kk ad H locs la (h.ws (zm_oc trivial h.oks)))
theorem zz_bipush (X : zz_X Γ G own cc d mc ms) {n : Int} {v : Int32} (hdg : decode cc pc = .ok (.bipush n, 2)) (hv : (Int8.ofInt n).toInt32 = v) (kk : zz Γ G Q cells slots sh mi mr (pc + 2) ls (.int v :: st)) : zz Γ G Q cells slots sh mi mr pc ls st :=
  fun ad H locs la h => lv_bipush X.1 X.2.1 hdg hv (kk ad H locs la (h.ws (zm_oc trivial h.oks)))
theorem zz_sipush (X : zz_X Γ G own cc d mc ms) {n : Int} {v : Int32} (hdg : decode cc pc = .ok (.sipush n, 3)) (hv : (Int16.ofInt n).toInt32 = v) (kk : zz Γ G Q cells slots sh mi mr (pc + 3) ls (.int v :: st)) : zz Γ G Q cells slots sh mi mr pc ls st :=
  fun ad H locs la h => lv_sipush X.1 X.2.1 hdg hv (kk ad H locs la (h.ws (zm_oc trivial h.oks)))
theorem zz_lconst (X : zz_X Γ G own cc d mc ms) {n : Fin 2} {v : Int64} (hdg : decode cc pc = .ok (.lconst n, 1)) (hv : Int64.ofNat (n : Nat) = v) (kk : zz Γ G Q cells slots sh mi mr (pc + 1) ls (.long v :: st)) : zz Γ G Q cells slots sh mi mr pc ls st :=
  fun ad H locs la h => lv_lconst X.1 X.2.1 hdg hv (kk ad H locs la (h.ws (zm_oc trivial h.oks)))
theorem zz_iload_n (X : zz_X Γ G own cc d mc ms) {k : Fin 4} {i : Nat} {x : Int32} (hdg : decode cc pc = .ok (.iload_n k, 1)) (j : Nat) (hi : (k : Nat) = i) (hl : ls[j]? = some (i, .int x)) (kk : zz Γ G Q cells slots sh mi mr (pc + 1) ls (.int x :: st)) : zz Γ G Q cells slots sh mi mr pc ls st :=
  fun ad H locs la h => lv_iload_n X.1 X.2.1 hdg hi (h.la hl) (kk ad H locs la (h.ws (zm_oc trivial h.oks)))
theorem zz_iload (X : zz_X Γ G own cc d mc ms) {i : Nat} {x : Int32} (hdg : decode cc pc = .ok (.iload i, 2)) (j : Nat) (hl : ls[j]? = some (i, .int x)) (kk : zz Γ G Q cells slots sh mi mr (pc + 2) ls (.int x :: st)) : zz Γ G Q cells slots sh mi mr pc ls st :=
  fun ad H locs la h => lv_iload X.1 X.2.1 hdg (h.la hl) (kk ad H locs la (h.ws (zm_oc trivial h.oks)))
theorem zz_aload_n (X : zz_X Γ G own cc d mc ms) {k : Fin 4} {i x : Nat} (hdg : decode cc pc = .ok (.aload_n k, 1)) (j : Nat) (hi : (k : Nat) = i) (hl : ls[j]? = some (i, .ref x)) (kk : zz Γ G Q cells slots sh mi mr (pc + 1) ls (.ref x :: st)) : zz Γ G Q cells slots sh mi mr pc ls st :=
  fun ad H locs la h => lv_aload_n X.1 X.2.1 hdg hi (h.la hl) (kk ad H locs la (h.ws (zm_oc (h.lok hl).1 h.oks)))
theorem zz_aload (X : zz_X Γ G own cc d mc ms) {i x : Nat} (hdg : decode cc pc = .ok (.aload i, 2)) (j : Nat) (hl : ls[j]? = some (i, .ref x)) (kk : zz Γ G Q cells slots sh mi mr (pc + 2) ls (.ref x :: st)) : zz Γ G Q cells slots sh mi mr pc ls st :=
  fun ad H locs la h => lv_aload X.1 X.2.1 hdg (h.la hl) (kk ad H locs la (h.ws (zm_oc (h.lok hl).1 h.oks)))
/-- the locals but one -/
def zz_del : List (Nat × Value) → Nat → List (Nat × Value)
  | [], _ => []
  | q :: r, i => if q.1 = i then zz_del r i else q :: zz_del r i
/-- the locals with a new one -/
def zz_set : List (Nat × Value) → Nat → Value → List (Nat × Value)
  | [], i, v => [(i, v)]
  | q :: r, i, v => if q.1 = i then (i, v) :: zz_del r i else q :: zz_set r i v
theorem zz_del_mem {i : Nat} : ∀ {ls : List (Nat × Value)} {q : Nat × Value}, q ∈ zz_del ls i → q ∈ ls ∧ q.1 ≠ i
  | [], _, h => nomatch h
  | a :: r, q, h => by
    unfold zz_del at h
    split at h
    · obtain ⟨h1, h2⟩ := zz_del_mem h
      exact ⟨List.mem_cons_of_mem _ h1, h2⟩
    · rename_i hne
      rcases List.mem_cons.mp h with rfl | h
      · exact ⟨List.mem_cons_self, hne⟩
      · obtain ⟨h1, h2⟩ := zz_del_mem h
        exact ⟨List.mem_cons_of_mem _ h1, h2⟩
theorem zz_set_mem {i : Nat} {v : Value} : ∀ {ls : List (Nat × Value)} {q : Nat × Value}, q ∈ zz_set ls i v → q = (i, v) ∨ (q ∈ ls ∧ q.1 ≠ i)
  | [], q, h => Or.inl (List.mem_singleton.mp h)
  | a :: r, q, h => by
    unfold zz_set at h
    split at h
    · rcases List.mem_cons.mp h with rfl | h
      · exact Or.inl rfl
      · obtain ⟨h1, h2⟩ := zz_del_mem h
        exact Or.inr ⟨List.mem_cons_of_mem _ h1, h2⟩
    · rename_i hne
      rcases List.mem_cons.mp h with rfl | h
      · exact Or.inr ⟨List.mem_cons_self, hne⟩
      · rcases zz_set_mem h with h | ⟨h1, h2⟩
        · exact Or.inl h
        · exact Or.inr ⟨List.mem_cons_of_mem _ h1, h2⟩
theorem zz_stored {ad : Nat → Nat} {H : Heap} {locs : List Loc} {la la' : Array Slot} {i : Nat} {v : Value} (h : zz_H Γ G sh mi mr ls (v :: st) ad H locs la) (hv : v.category = 1) (hs : lv_has la' G.2.2.1 ((i, zm_cv ad v) :: (zz_ls ad ls).filter (fun q => !(q.1 == i) && !(q.1 + 1 == i && q.2.category == 2)))) : zz_H Γ G sh mi mr (zz_set ls i v) st ad H locs la' := by
  refine ⟨h.1, h.2.1, h.2.2.1, fun q hq => ?_, zm_ot h.oks, ⟨hs.1, hs.2.1, fun q hq => ?_⟩⟩
  · rcases zz_set_mem hq with rfl | ⟨h1, -⟩
    · exact ⟨zm_oh h.oks, hv⟩
    · exact h.2.2.2.1 q h1
  · obtain ⟨x, hx, rfl⟩ := List.mem_map.mp hq
    refine hs.2.2 _ ?_
    rcases zz_set_mem hx with rfl | ⟨h1, h2⟩
    · exact List.mem_cons_self
    · refine List.mem_cons_of_mem _ (List.mem_filter.mpr ⟨List.mem_map.mpr ⟨x, h1, rfl⟩, ?_⟩)
      have hc : (zm_cv ad x.2).category = 1 := by rw [zm_cv_cat]; exact (h.2.2.2.1 x h1).2
      simp [h2, hc]
theorem zz_istore_n (X : zz_X Γ G own cc d mc ms) {k : Fin 4} {i : Nat} {x : Int32} {ls' : List (Nat × Value)} (hdg : decode cc pc = .ok (.istore_n k, 1)) (hi : (k : Nat) = i) (hn : i < G.2.2.1) (hl : zz_set ls i (.int x) = ls') (kk : zz Γ G Q cells slots sh mi mr (pc + 1) ls' st) : zz Γ G Q cells slots sh mi mr pc ls (.int x :: st) := by
  intro ad H locs la h
  subst hl
  exact lv_istore_n X.1 X.2.1 hdg hi h.2.2.2.2.2 hn rfl fun la' hs => kk ad H locs la' (zz_stored h rfl hs)
theorem zz_istore (X : zz_X Γ G own cc d mc ms) {i : Nat} {x : Int32} {ls' : List (Nat × Value)} (hdg : decode cc pc = .ok (.istore i, 2)) (hn : i < G.2.2.1) (hl : zz_set ls i (.int x) = ls') (kk : zz Γ G Q cells slots sh mi mr (pc + 2) ls' st) : zz Γ G Q cells slots sh mi mr pc ls (.int x :: st) := by
  intro ad H locs la h
  subst hl
  exact lv_istore X.1 X.2.1 hdg h.2.2.2.2.2 hn rfl fun la' hs => kk ad H locs la' (zz_stored h rfl hs)
theorem zz_astore_n (X : zz_X Γ G own cc d mc ms) {k : Fin 4} {i x : Nat} {ls' : List (Nat × Value)} (hdg : decode cc pc = .ok (.astore_n k, 1)) (hi : (k : Nat) = i) (hn : i < G.2.2.1) (hl : zz_set ls i (.ref x) = ls') (kk : zz Γ G Q cells slots sh mi mr (pc + 1) ls' st) : zz Γ G Q cells slots sh mi mr pc ls (.ref x :: st) := by
  intro ad H locs la h
  subst hl
  exact lv_astore_n X.1 X.2.1 hdg hi h.2.2.2.2.2 hn rfl fun la' hs => kk ad H locs la' (zz_stored h rfl hs)
theorem zz_astore (X : zz_X Γ G own cc d mc ms) {i x : Nat} {ls' : List (Nat × Value)} (hdg : decode cc pc = .ok (.astore i, 2)) (hn : i < G.2.2.1) (hl : zz_set ls i (.ref x) = ls') (kk : zz Γ G Q cells slots sh mi mr (pc + 2) ls' st) : zz Γ G Q cells slots sh mi mr pc ls (.ref x :: st) := by
  intro ad H locs la h
  subst hl
  exact lv_astore X.1 X.2.1 hdg h.2.2.2.2.2 hn rfl fun la' hs => kk ad H locs la' (zz_stored h rfl hs)
theorem zz_iinc (X : zz_X Γ G own cc d mc ms) {i : Nat} {n : Int} {x v : Int32} {ls' : List (Nat × Value)} (hdg : decode cc pc = .ok (.iinc i n, 3)) (k : Nat) (hk : ls[k]? = some (i, .int x)) (hv : x + Int32.ofInt n = v) (hn : i < G.2.2.1) (hl : zz_set ls i (.int v) = ls') (kk : zz Γ G Q cells slots sh mi mr (pc + 3) ls' st) : zz Γ G Q cells slots sh mi mr pc ls st := by
  intro ad H locs la h
  subst hl
  have hk2 : (zz_ls ad ls)[k]? = some (i, .int x) := by
    unfold zz_ls
    rw [List.getElem?_map, hk]
    rfl
  exact lv_iinc X.1 X.2.1 hdg h.2.2.2.2.2 hk2 hv hn rfl fun la' hs => kk ad H locs la' (zz_stored (v := .int v) (h.ws (zm_oc trivial h.oks)) rfl hs)
theorem zz_dup (X : zz_X Γ G own cc d mc ms) {v : Value} (hdg : decode cc pc = .ok (.dup, 1)) (hv : v.category = 1) (kk : zz Γ G Q cells slots sh mi mr (pc + 1) ls (v :: v :: st)) : zz Γ G Q cells slots sh mi mr pc ls (v :: st) :=
  fun ad H locs la h => lv_dup X.1 X.2.1 hdg ((zm_cv_cat ad v).trans hv) (kk ad H locs la (h.ws (zm_oc (zm_oh h.oks) h.oks)))
theorem zz_dup2 (X : zz_X Γ G own cc d mc ms) {v w : Value} (hdg : decode cc pc = .ok (.dup2, 1)) (hv : v.category = 1) (hw : w.category = 1) (kk : zz Γ G Q cells slots sh mi mr (pc + 1) ls (v :: w :: v :: w :: st)) : zz Γ G Q cells slots sh mi mr pc ls (v :: w :: st) :=
  fun ad H locs la h => lv_dup2_11 X.1 X.2.1 hdg ((zm_cv_cat ad v).trans hv) ((zm_cv_cat ad w).trans hw) (kk ad H locs la (h.ws (zm_oc (zm_oh h.oks) (zm_oc (zm_oh (zm_ot h.oks)) h.oks))))
theorem zz_dup_x1 (X : zz_X Γ G own cc d mc ms) {v w : Value} (hdg : decode cc pc = .ok (.dup_x1, 1)) (hv : v.category = 1) (hw : w.category = 1) (kk : zz Γ G Q cells slots sh mi mr (pc + 1) ls (v :: w :: v :: st)) : zz Γ G Q cells slots sh mi mr pc ls (v :: w :: st) :=
  fun ad H locs la h => lv_dup_x1 X.1 X.2.1 hdg ((zm_cv_cat ad v).trans hv) ((zm_cv_cat ad w).trans hw) (kk ad H locs la (h.ws (zm_oc (zm_oh h.oks) (zm_oc (zm_oh (zm_ot h.oks)) (zm_oc (zm_oh h.oks) (zm_ot (zm_ot h.oks)))))))
-- arithmetic
theorem zz_iadd (X : zz_X Γ G own cc d mc ms) {x y z : Int32} (hdg : decode cc pc = .ok (.iadd, 1)) (hz : x + y = z) (kk : zz Γ G Q cells slots sh mi mr (pc + 1) ls (.int z :: st)) : zz Γ G Q cells slots sh mi mr pc ls (.int y :: .int x :: st) := by
  subst hz
  exact fun ad H locs la h => lv_iadd X.1 X.2.1 hdg (kk ad H locs la (h.ws (zm_oc trivial (zm_ot (zm_ot h.oks)))))
theorem zz_isub (X : zz_X Γ G own cc d mc ms) {x y z : Int32} (hdg : decode cc pc = .ok (.isub, 1)) (hz : x - y = z) (kk : zz Γ G Q cells slots sh mi mr (pc + 1) ls (.int z :: st)) : zz Γ G Q cells slots sh mi mr pc ls (.int y :: .int x :: st) := by
  subst hz
  exact fun ad H locs la h => lv_isub X.1 X.2.1 hdg (kk ad H locs la (h.ws (zm_oc trivial (zm_ot (zm_ot h.oks)))))
theorem zz_imul (X : zz_X Γ G own cc d mc ms) {x y z : Int32} (hdg : decode cc pc = .ok (.imul, 1)) (hz : x * y = z) (kk : zz Γ G Q cells slots sh mi mr (pc + 1) ls (.int z :: st)) : zz Γ G Q cells slots sh mi mr pc ls (.int y :: .int x :: st) := by
  subst hz
  exact fun ad H locs la h => lv_imul X.1 X.2.1 hdg (kk ad H locs la (h.ws (zm_oc trivial (zm_ot (zm_ot h.oks)))))
theorem zz_iand (X : zz_X Γ G own cc d mc ms) {x y z : Int32} (hdg : decode cc pc = .ok (.iand, 1)) (hz : x &&& y = z) (kk : zz Γ G Q cells slots sh mi mr (pc + 1) ls (.int z :: st)) : zz Γ G Q cells slots sh mi mr pc ls (.int y :: .int x :: st) := by
  subst hz
  exact fun ad H locs la h => lv_iand X.1 X.2.1 hdg (kk ad H locs la (h.ws (zm_oc trivial (zm_ot (zm_ot h.oks)))))
theorem zz_ior (X : zz_X Γ G own cc d mc ms) {x y z : Int32} (hdg : decode cc pc = .ok (.ior, 1)) (hz : x ||| y = z) (kk : zz Γ G Q cells slots sh mi mr (pc + 1) ls (.int z :: st)) : zz Γ G Q cells slots sh mi mr pc ls (.int y :: .int x :: st) := by
  subst hz
  exact fun ad H locs la h => lv_ior X.1 X.2.1 hdg (kk ad H locs la (h.ws (zm_oc trivial (zm_ot (zm_ot h.oks)))))
theorem zz_ixor (X : zz_X Γ G own cc d mc ms) {x y z : Int32} (hdg : decode cc pc = .ok (.ixor, 1)) (hz : x ^^^ y = z) (kk : zz Γ G Q cells slots sh mi mr (pc + 1) ls (.int z :: st)) : zz Γ G Q cells slots sh mi mr pc ls (.int y :: .int x :: st) := by
  subst hz
  exact fun ad H locs la h => lv_ixor X.1 X.2.1 hdg (kk ad H locs la (h.ws (zm_oc trivial (zm_ot (zm_ot h.oks)))))
theorem zz_idiv (X : zz_X Γ G own cc d mc ms) {x y z : Int32} (hdg : decode cc pc = .ok (.idiv, 1)) (h0 : ¬ y = 0) (hz : x / y = z) (kk : zz Γ G Q cells slots sh mi mr (pc + 1) ls (.int z :: st)) : zz Γ G Q cells slots sh mi mr pc ls (.int y :: .int x :: st) := by
  subst hz
  exact fun ad H locs la h => lv_idiv X.1 X.2.1 hdg h0 (kk ad H locs la (h.ws (zm_oc trivial (zm_ot (zm_ot h.oks)))))
theorem zz_irem (X : zz_X Γ G own cc d mc ms) {x y z : Int32} (hdg : decode cc pc = .ok (.irem, 1)) (h0 : ¬ y = 0) (hz : x - x / y * y = z) (kk : zz Γ G Q cells slots sh mi mr (pc + 1) ls (.int z :: st)) : zz Γ G Q cells slots sh mi mr pc ls (.int y :: .int x :: st) := by
  subst hz
  exact fun ad H locs la h => lv_irem X.1 X.2.1 hdg h0 (kk ad H locs la (h.ws (zm_oc trivial (zm_ot (zm_ot h.oks)))))
theorem zz_i2l (X : zz_X Γ G own cc d mc ms) {x : Int32} (hdg : decode cc pc = .ok (.i2l, 1)) (kk : zz Γ G Q cells slots sh mi mr (pc + 1) ls (.long x.toInt64 :: st)) : zz Γ G Q cells slots sh mi mr pc ls (.int x :: st) :=
  fun ad H locs la h => lv_i2l X.1 X.2.1 hdg rfl (kk ad H locs la (h.ws (zm_oc trivial (zm_ot h.oks))))
theorem zz_lcmp (X : zz_X Γ G own cc d mc ms) {x y : Int64} (hdg : decode cc pc = .ok (.lcmp, 1)) (kk : zz Γ G Q cells slots sh mi mr (pc + 1) ls (.int (lg_cmp x y) :: st)) : zz Γ G Q cells slots sh mi mr pc ls (.long y :: .long x :: st) :=
  fun ad H locs la h => W.lcmp X.1 X.2.1 hdg (kk ad H locs la (h.ws (zm_oc trivial (zm_ot (zm_ot h.oks)))))
-- branches
theorem zz_goto (X : zz_X Γ G own cc d mc ms) {off : Int} (tgt : Nat) (hdg : decode cc pc = .ok (.goto off, 3)) (ht : (pc : Int) + off = (tgt : Int)) (kk : zz Γ G Q cells slots sh mi mr tgt ls st) : zz Γ G Q cells slots sh mi mr pc ls st :=
  fun ad H locs la h => lv_goto X.1 X.2.1 hdg ht (kk ad H locs la h)
theorem zz_if_eq (X : zz_X Γ G own cc d mc ms) {x : Int32} {off : Int} (tgt : Nat) (hdg : decode cc pc = .ok (.ifCond .eq off, 3)) (ht : (pc : Int) + off = (tgt : Int)) (kt : x = 0 → zz Γ G Q cells slots sh mi mr tgt ls st) (kf : ¬ x = 0 → zz Γ G Q cells slots sh mi mr (pc + 3) ls st) : zz Γ G Q cells slots sh mi mr pc ls (.int x :: st) :=
  fun ad H locs la h => lv_if_eq X.1 X.2.1 hdg ht (fun c => kt c ad H locs la (h.ws (zm_ot h.oks))) (fun c => kf c ad H locs la (h.ws (zm_ot h.oks)))
theorem zz_icmp_eq (X : zz_X Γ G own cc d mc ms) {x y : Int32} {off : Int} (tgt : Nat) (hdg : decode cc pc = .ok (.if_icmp .eq off, 3)) (ht : (pc : Int) + off = (tgt : Int)) (kt : x = y → zz Γ G Q cells slots sh mi mr tgt ls st) (kf : ¬ x = y → zz Γ G Q cells slots sh mi mr (pc + 3) ls st) : zz Γ G Q cells slots sh mi mr pc ls (.int y :: .int x :: st) :=
  fun ad H locs la h => lv_icmp_eq X.1 X.2.1 hdg ht (fun c => kt c ad H locs la (h.ws (zm_ot (zm_ot h.oks)))) (fun c => kf c ad H locs la (h.ws (zm_ot (zm_ot h.oks))))
theorem zz_icmp_eqN (X : zz_X Γ G own cc d mc ms) {a b : Nat} (ha : a < 2 ^ 31) (hb : b < 2 ^ 31) {off : Int} (tgt : Nat) (hdg : decode cc pc = .ok (.if_icmp .eq off, 3)) (ht : (pc : Int) + off = (tgt : Int)) (kt : a = b → zz Γ G Q cells slots sh mi mr tgt ls st) (kf : ¬ a = b → zz Γ G Q cells slots sh mi mr (pc + 3) ls st) : zz Γ G Q cells slots sh mi mr pc ls (.int (nI b) :: .int (nI a) :: st) :=
  zz_icmp_eq X tgt hdg ht (fun c => kt ((nI_eq ha hb).mp c)) (fun c => kf ((fun q => c ((nI_eq ha hb).mpr q))))
theorem zz_if_eqN (X : zz_X Γ G own cc d mc ms) {a : Nat} (ha : a < 2 ^ 31) {off : Int} (tgt : Nat) (hdg : decode cc pc = .ok (.ifCond .eq off, 3)) (ht : (pc : Int) + off = (tgt : Int)) (kt : a = 0 → zz Γ G Q cells slots sh mi mr tgt ls st) (kf : ¬ a = 0 → zz Γ G Q cells slots sh mi mr (pc + 3) ls st) : zz Γ G Q cells slots sh mi mr pc ls (.int (nI a) :: st) :=
  zz_if_eq X tgt hdg ht (fun c => kt ((nI_eq ha (by decide : 0 < 2 ^ 31)).mp (c.trans nI_0.symm))) (fun c => kf ((fun q => c (by rw [q]; exact nI_0))))
theorem zz_if_ne (X : zz_X Γ G own cc d mc ms) {x : Int32} {off : Int} (tgt : Nat) (hdg : decode cc pc = .ok (.ifCond .ne off, 3)) (ht : (pc : Int) + off = (tgt : Int)) (kt : ¬ x = 0 → zz Γ G Q cells slots sh mi mr tgt ls st) (kf : x = 0 → zz Γ G Q cells slots sh mi mr (pc + 3) ls st) : zz Γ G Q cells slots sh mi mr pc ls (.int x :: st) :=
  fun ad H locs la h => lv_if_ne X.1 X.2.1 hdg ht (fun c => kt c ad H locs la (h.ws (zm_ot h.oks))) (fun c => kf c ad H locs la (h.ws (zm_ot h.oks)))
theorem zz_icmp_ne (X : zz_X Γ G own cc d mc ms) {x y : Int32} {off : Int} (tgt : Nat) (hdg : decode cc pc = .ok (.if_icmp .ne off, 3)) (ht : (pc : Int) + off = (tgt : Int)) (kt : ¬ x = y → zz Γ G Q cells slots sh mi mr tgt ls st) (kf : x = y → zz Γ G Q cells slots sh mi mr (pc + 3) ls st) : zz Γ G Q cells slots sh mi mr pc ls (.int y :: .int x :: st) :=
  fun ad H locs la h => lv_icmp_ne X.1 X.2.1 hdg ht (fun c => kt c ad H locs la (h.ws (zm_ot (zm_ot h.oks)))) (fun c => kf c ad H locs la (h.ws (zm_ot (zm_ot h.oks))))
theorem zz_icmp_neN (X : zz_X Γ G own cc d mc ms) {a b : Nat} (ha : a < 2 ^ 31) (hb : b < 2 ^ 31) {off : Int} (tgt : Nat) (hdg : decode cc pc = .ok (.if_icmp .ne off, 3)) (ht : (pc : Int) + off = (tgt : Int)) (kt : ¬ a = b → zz Γ G Q cells slots sh mi mr tgt ls st) (kf : a = b → zz Γ G Q cells slots sh mi mr (pc + 3) ls st) : zz Γ G Q cells slots sh mi mr pc ls (.int (nI b) :: .int (nI a) :: st) :=
  zz_icmp_ne X tgt hdg ht (fun c => kt ((fun q => c ((nI_eq ha hb).mpr q)))) (fun c => kf ((nI_eq ha hb).mp c))
theorem zz_if_neN (X : zz_X Γ G own cc d mc ms) {a : Nat} (ha : a < 2 ^ 31) {off : Int} (tgt : Nat) (hdg : decode cc pc = .ok (.ifCond .ne off, 3)) (ht : (pc : Int) + off = (tgt : Int)) (kt : ¬ a = 0 → zz Γ G Q cells slots sh mi mr tgt ls st) (kf : a = 0 → zz Γ G Q cells slots sh mi mr (pc + 3) ls st) : zz Γ G Q cells slots sh mi mr pc ls (.int (nI a) :: st) :=
  zz_if_ne X tgt hdg ht (fun c => kt ((fun q => c (by rw [q]; exact nI_0)))) (fun c => kf ((nI_eq ha (by decide : 0 < 2 ^ 31)).mp (c.trans nI_0.symm)))
theorem zz_if_lt (X : zz_X Γ G own cc d mc ms) {x : Int32} {off : Int} (tgt : Nat) (hdg : decode cc pc = .ok (.ifCond .lt off, 3)) (ht : (pc : Int) + off = (tgt : Int)) (kt : x < 0 → zz Γ G Q cells slots sh mi mr tgt ls st) (kf : ¬ x < 0 → zz Γ G Q cells slots sh mi mr (pc + 3) ls st) : zz Γ G Q cells slots sh mi mr pc ls (.int x :: st) :=
  fun ad H locs la h => lv_if_lt X.1 X.2.1 hdg ht (fun c => kt c ad H locs la (h.ws (zm_ot h.oks))) (fun c => kf c ad H locs la (h.ws (zm_ot h.oks)))
theorem zz_icmp_lt (X : zz_X Γ G own cc d mc ms) {x y : Int32} {off : Int} (tgt : Nat) (hdg : decode cc pc = .ok (.if_icmp .lt off, 3)) (ht : (pc : Int) + off = (tgt : Int)) (kt : x < y → zz Γ G Q cells slots sh mi mr tgt ls st) (kf : ¬ x < y → zz Γ G Q cells slots sh mi mr (pc + 3) ls st) : zz Γ G Q cells slots sh mi mr pc ls (.int y :: .int x :: st) :=
  fun ad H locs la h => lv_icmp_lt X.1 X.2.1 hdg ht (fun c => kt c ad H locs la (h.ws (zm_ot (zm_ot h.oks)))) (fun c => kf c ad H locs la (h.ws (zm_ot (zm_ot h.oks))))
theorem zz_icmp_ltN (X : zz_X Γ G own cc d mc ms) {a b : Nat} (ha : a < 2 ^ 31) (hb : b < 2 ^ 31) {off : Int} (tgt : Nat) (hdg : decode cc pc = .ok (.if_icmp .lt off, 3)) (ht : (pc : Int) + off = (tgt : Int)) (kt : a < b → zz Γ G Q cells slots sh mi mr tgt ls st) (kf : b ≤ a → zz Γ G Q cells slots sh mi mr (pc + 3) ls st) : zz Γ G Q cells slots sh mi mr pc ls (.int (nI b) :: .int (nI a) :: st) :=
  zz_icmp_lt X tgt hdg ht (fun c => kt ((nI_ltI ha hb).mp c)) (fun c => kf (Nat.le_of_not_lt (fun q => c ((nI_ltI ha hb).mpr q))))
theorem zz_if_ge (X : zz_X Γ G own cc d mc ms) {x : Int32} {off : Int} (tgt : Nat) (hdg : decode cc pc = .ok (.ifCond .ge off, 3)) (ht : (pc : Int) + off = (tgt : Int)) (kt : 0 ≤ x → zz Γ G Q cells slots sh mi mr tgt ls st) (kf : ¬ 0 ≤ x → zz Γ G Q cells slots sh mi mr (pc + 3) ls st) : zz Γ G Q cells slots sh mi mr pc ls (.int x :: st) :=
  fun ad H locs la h => lv_if_ge X.1 X.2.1 hdg ht (fun c => kt c ad H locs la (h.ws (zm_ot h.oks))) (fun c => kf c ad H locs la (h.ws (zm_ot h.oks)))
theorem zz_icmp_ge (X : zz_X Γ G own cc d mc ms) {x y : Int32} {off : Int} (tgt : Nat) (hdg : decode cc pc = .ok (.if_icmp .ge off, 3)) (ht : (pc : Int) + off = (tgt : Int)) (kt : y ≤ x → zz Γ G Q cells slots sh mi mr tgt ls st) (kf : ¬ y ≤ x → zz Γ G Q cells slots sh mi mr (pc + 3) ls st) : zz Γ G Q cells slots sh mi mr pc ls (.int y :: .int x :: st) :=
  fun ad H locs la h => lv_icmp_ge X.1 X.2.1 hdg ht (fun c => kt c ad H locs la (h.ws (zm_ot (zm_ot h.oks)))) (fun c => kf c ad H locs la (h.ws (zm_ot (zm_ot h.oks))))
theorem zz_icmp_geN (X : zz_X Γ G own cc d mc ms) {a b : Nat} (ha : a < 2 ^ 31) (hb : b < 2 ^ 31) {off : Int} (tgt : Nat) (hdg : decode cc pc = .ok (.if_icmp .ge off, 3)) (ht : (pc : Int) + off = (tgt : Int)) (kt : b ≤ a → zz Γ G Q cells slots sh mi mr tgt ls st) (kf : a < b → zz Γ G Q cells slots sh mi mr (pc + 3) ls st) : zz Γ G Q cells slots sh mi mr pc ls (.int (nI b) :: .int (nI a) :: st) :=
  zz_icmp_ge X tgt hdg ht (fun c => kt ((nI_leI hb ha).mp c)) (fun c => kf (Nat.lt_of_not_le (fun q => c ((nI_leI hb ha).mpr q))))
theorem zz_if_gt (X : zz_X Γ G own cc d mc ms) {x : Int32} {off : Int} (tgt : Nat) (hdg : decode cc pc = .ok (.ifCond .gt off, 3)) (ht : (pc : Int) + off = (tgt : Int)) (kt : 0 < x → zz Γ G Q cells slots sh mi mr tgt ls st) (kf : ¬ 0 < x → zz Γ G Q cells slots sh mi mr (pc + 3) ls st) : zz Γ G Q cells slots sh mi mr pc ls (.int x :: st) :=
  fun ad H locs la h => lv_if_gt X.1 X.2.1 hdg ht (fun c => kt c ad H locs la (h.ws (zm_ot h.oks))) (fun c => kf c ad H locs la (h.ws (zm_ot h.oks)))
theorem zz_icmp_gt (X : zz_X Γ G own cc d mc ms) {x y : Int32} {off : Int} (tgt : Nat) (hdg : decode cc pc = .ok (.if_icmp .gt off, 3)) (ht : (pc : Int) + off = (tgt : Int)) (kt : y < x → zz Γ G Q cells slots sh mi mr tgt ls st) (kf : ¬ y < x → zz Γ G Q cells slots sh mi mr (pc + 3) ls st) : zz Γ G Q cells slots sh mi mr pc ls (.int y :: .int x :: st) :=
  fun ad H locs la h => lv_icmp_gt X.1 X.2.1 hdg ht (fun c => kt c ad H locs la (h.ws (zm_ot (zm_ot h.oks)))) (fun c => kf c ad H locs la (h.ws (zm_ot (zm_ot h.oks))))
theorem zz_icmp_gtN (X : zz_X Γ G own cc d mc ms) {a b : Nat} (ha : a < 2 ^ 31) (hb : b < 2 ^ 31) {off : Int} (tgt : Nat) (hdg : decode cc pc = .ok (.if_icmp .gt off, 3)) (ht : (pc : Int) + off = (tgt : Int)) (kt : b < a → zz Γ G Q cells slots sh mi mr tgt ls st) (kf : a ≤ b → zz Γ G Q cells slots sh mi mr (pc + 3) ls st) : zz Γ G Q cells slots sh mi mr pc ls (.int (nI b) :: .int (nI a) :: st) :=
  zz_icmp_gt X tgt hdg ht (fun c => kt ((nI_ltI hb ha).mp c)) (fun c => kf (Nat.le_of_not_lt (fun q => c ((nI_ltI hb ha).mpr q))))
theorem zz_if_gtN (X : zz_X Γ G own cc d mc ms) {a : Nat} (ha : a < 2 ^ 31) {off : Int} (tgt : Nat) (hdg : decode cc pc = .ok (.ifCond .gt off, 3)) (ht : (pc : Int) + off = (tgt : Int)) (kt : 0 < a → zz Γ G Q cells slots sh mi mr tgt ls st) (kf : a = 0 → zz Γ G Q cells slots sh mi mr (pc + 3) ls st) : zz Γ G Q cells slots sh mi mr pc ls (.int (nI a) :: st) :=
  zz_if_gt X tgt hdg ht (fun c => kt (Nat.pos_of_ne_zero (fun q => by rw [q] at c; exact absurd c (by decide)))) (fun c => kf (Classical.byContradiction (fun q => c (by have h3 := nI_lt (a := 0) (Nat.pos_of_ne_zero q) ha; rw [nI_0] at h3; exact h3))))
theorem zz_if_le (X : zz_X Γ G own cc d mc ms) {x : Int32} {off : Int} (tgt : Nat) (hdg : decode cc pc = .ok (.ifCond .le off, 3)) (ht : (pc : Int) + off = (tgt : Int)) (kt : x ≤ 0 → zz Γ G Q cells slots sh mi mr tgt ls st) (kf : ¬ x ≤ 0 → zz Γ G Q cells slots sh mi mr (pc + 3) ls st) : zz Γ G Q cells slots sh mi mr pc ls (.int x :: st) :=
  fun ad H locs la h => lv_if_le X.1 X.2.1 hdg ht (fun c => kt c ad H locs la (h.ws (zm_ot h.oks))) (fun c => kf c ad H locs la (h.ws (zm_ot h.oks)))
theorem zz_icmp_le (X : zz_X Γ G own cc d mc ms) {x y : Int32} {off : Int} (tgt : Nat) (hdg : decode cc pc = .ok (.if_icmp .le off, 3)) (ht : (pc : Int) + off = (tgt : Int)) (kt : x ≤ y → zz Γ G Q cells slots sh mi mr tgt ls st) (kf : ¬ x ≤ y → zz Γ G Q cells slots sh mi mr (pc + 3) ls st) : zz Γ G Q cells slots sh mi mr pc ls (.int y :: .int x :: st) :=
  fun ad H locs la h => lv_icmp_le X.1 X.2.1 hdg ht (fun c => kt c ad H locs la (h.ws (zm_ot (zm_ot h.oks)))) (fun c => kf c ad H locs la (h.ws (zm_ot (zm_ot h.oks))))
theorem zz_icmp_leN (X : zz_X Γ G own cc d mc ms) {a b : Nat} (ha : a < 2 ^ 31) (hb : b < 2 ^ 31) {off : Int} (tgt : Nat) (hdg : decode cc pc = .ok (.if_icmp .le off, 3)) (ht : (pc : Int) + off = (tgt : Int)) (kt : a ≤ b → zz Γ G Q cells slots sh mi mr tgt ls st) (kf : b < a → zz Γ G Q cells slots sh mi mr (pc + 3) ls st) : zz Γ G Q cells slots sh mi mr pc ls (.int (nI b) :: .int (nI a) :: st) :=
  zz_icmp_le X tgt hdg ht (fun c => kt ((nI_leI ha hb).mp c)) (fun c => kf (Nat.lt_of_not_le (fun q => c ((nI_leI ha hb).mpr q))))
theorem zz_if_leN (X : zz_X Γ G own cc d mc ms) {a : Nat} (ha : a < 2 ^ 31) {off : Int} (tgt : Nat) (hdg : decode cc pc = .ok (.ifCond .le off, 3)) (ht : (pc : Int) + off = (tgt : Int)) (kt : a = 0 → zz Γ G Q cells slots sh mi mr tgt ls st) (kf : 0 < a → zz Γ G Q cells slots sh mi mr (pc + 3) ls st) : zz Γ G Q cells slots sh mi mr pc ls (.int (nI a) :: st) :=
  zz_if_le X tgt hdg ht (fun c => kt (Classical.byContradiction (fun q => nI_nle (Nat.pos_of_ne_zero q) ha c))) (fun c => kf (Nat.pos_of_ne_zero (fun q => c (by rw [q]; decide))))
/-- true and false as ints -/
def zz_bi (p : Prop) [Decidable p] : Int32 := if p then 1 else 0
theorem zz_bi_t {p : Prop} [Decidable p] (h : p) : zz_bi p = 1 := if_pos h
theorem zz_bi_f {p : Prop} [Decidable p] (h : ¬ p) : zz_bi p = 0 := if_neg h
theorem zz_bi_0 {p : Prop} [Decidable p] : zz_bi p = 0 ↔ ¬ p := by
  unfold zz_bi
  by_cases h : p
  · rw [if_pos h]; exact ⟨fun q => absurd q (by decide), fun q => absurd h q⟩
  · rw [if_neg h]; exact ⟨fun _ => h, fun _ => rfl⟩
theorem zz_bi_c {p q : Prop} [Decidable p] [Decidable q] (h : p ↔ q) : zz_bi p = zz_bi q := by
  unfold zz_bi
  by_cases hp : p
  · rw [if_pos hp, if_pos (h.mp hp)]
  · rw [if_neg hp, if_neg (fun z => hp (h.mpr z))]
theorem zz_if_eqB (X : zz_X Γ G own cc d mc ms) {p : Prop} [Decidable p] {off : Int} (tgt : Nat) (hdg : decode cc pc = .ok (.ifCond .eq off, 3)) (ht : (pc : Int) + off = (tgt : Int)) (kt : ¬ p → zz Γ G Q cells slots sh mi mr tgt ls st) (kf : p → zz Γ G Q cells slots sh mi mr (pc + 3) ls st) : zz Γ G Q cells slots sh mi mr pc ls (.int (zz_bi p) :: st) :=
  zz_if_eq X tgt hdg ht (fun c => kt (zz_bi_0.mp c)) (fun c => kf (Classical.byContradiction fun q => c (zz_bi_0.mpr q)))
theorem zz_if_neB (X : zz_X Γ G own cc d mc ms) {p : Prop} [Decidable p] {off : Int} (tgt : Nat) (hdg : decode cc pc = .ok (.ifCond .ne off, 3)) (ht : (pc : Int) + off = (tgt : Int)) (kt : p → zz Γ G Q cells slots sh mi mr tgt ls st) (kf : ¬ p → zz Γ G Q cells slots sh mi mr (pc + 3) ls st) : zz Γ G Q cells slots sh mi mr pc ls (.int (zz_bi p) :: st) :=
  zz_if_ne X tgt hdg ht (fun c => kt (Classical.byContradiction fun q => c (zz_bi_0.mpr q))) (fun c => kf (zz_bi_0.mp c))
theorem zz_acmp_eq (X : zz_X Γ G own cc d mc ms) {x y : Nat} {off : Int} (tgt : Nat) (hdg : decode cc pc = .ok (.if_acmp .eq off, 3)) (ht : (pc : Int) + off = (tgt : Int)) (hx9 : sh x ≠ some (9, 0)) (hy9 : sh y ≠ some (9, 0)) (kt : x = y → zz Γ G Q cells slots sh mi mr tgt ls st) (kf : ¬ x = y → zz Γ G Q cells slots sh mi mr (pc + 3) ls st) : zz Γ G Q cells slots sh mi mr pc ls (.ref y :: .ref x :: st) := by
  intro ad H locs la h
  refine lv_acmp_eq (rx := some (ad x)) (ry := some (ad y)) X.1 X.2.1 hdg ht (fun c => ?_) (fun c => ?_)
  · refine kt ?_ ad H locs la (h.ws (zm_ot (zm_ot h.oks)))
    exact zm_inj h.1 (zm_oh (zm_ot h.oks)) hx9 (zm_oh h.oks) hy9 (Option.some.inj c)
  · exact kf (fun e => c (by rw [e])) ad H locs la (h.ws (zm_ot (zm_ot h.oks)))
theorem zz_acmp_ne (X : zz_X Γ G own cc d mc ms) {x y : Nat} {off : Int} (tgt : Nat) (hdg : decode cc pc = .ok (.if_acmp .ne off, 3)) (ht : (pc : Int) + off = (tgt : Int)) (hx9 : sh x ≠ some (9, 0)) (hy9 : sh y ≠ some (9, 0)) (kt : ¬ x = y → zz Γ G Q cells slots sh mi mr tgt ls st) (kf : x = y → zz Γ G Q cells slots sh mi mr (pc + 3) ls st) : zz Γ G Q cells slots sh mi mr pc ls (.ref y :: .ref x :: st) := by
  intro ad H locs la h
  refine lv_acmp_ne (rx := some (ad x)) (ry := some (ad y)) X.1 X.2.1 hdg ht (fun c => ?_) (fun c => ?_)
  · exact kt (fun e => c (by rw [e])) ad H locs la (h.ws (zm_ot (zm_ot h.oks)))
  · refine kf ?_ ad H locs la (h.ws (zm_ot (zm_ot h.oks)))
    exact zm_inj h.1 (zm_oh (zm_ot h.oks)) hx9 (zm_oh h.oks) hy9 (Option.some.inj c)
theorem zz_tableIn (X : zz_X Γ G own cc d mc ms) {dflt lo hi : Int} {offs : Array Int} {len : Nat} {x : Int32} {off : Int} (tgt : Nat) (hdg : decode cc pc = .ok (.tableswitch dflt lo hi offs, len)) (h1 : ¬ x.toInt < lo) (h2 : ¬ hi < x.toInt) (ho : offs[(x.toInt - lo).toNat]? = some off) (ht : (pc : Int) + off = (tgt : Int)) (kk : zz Γ G Q cells slots sh mi mr tgt ls st) : zz Γ G Q cells slots sh mi mr pc ls (.int x :: st) :=
  fun ad H locs la h => lv_tableIn X.1 X.2.1 hdg h1 h2 ho ht (kk ad H locs la (h.ws (zm_ot h.oks)))
theorem zz_tableOut (X : zz_X Γ G own cc d mc ms) {dflt lo hi : Int} {offs : Array Int} {len : Nat} {x : Int32} (tgt : Nat) (hdg : decode cc pc = .ok (.tableswitch dflt lo hi offs, len)) (h1 : x.toInt < lo ∨ hi < x.toInt) (ht : (pc : Int) + dflt = (tgt : Int)) (kk : zz Γ G Q cells slots sh mi mr tgt ls st) : zz Γ G Q cells slots sh mi mr pc ls (.int x :: st) :=
  fun ad H locs la h => lv_tableOut X.1 X.2.1 hdg h1 ht (kk ad H locs la (h.ws (zm_ot h.oks)))
end ZR
end
section
/-! ===== fields and arrays, by labels ===== -/
def zz_CL (ci : Nat) (C : String) (T : u_T) (N : Nat) (ty : Nat → FieldType) : Prop :=
  vwCl[ci]? = some (C, T, N) ∧ (∀ w ∈ u_ws C T N, w ∈ lw_tbl ∧ zk_ok w = true) ∧ (∀ k, k < N → parseFieldDescriptor (T k).2.2.1 = some (ty k)) ∧ (∀ a, a < N → ∀ b, b < N → a ≠ b → (T a).2.1 ≠ (T b).2.1) ∧ (∀ k, k < N → (T k).1 = C) ∧ zm_nf ci = N ∧ (∀ k, k < N → defaultValue (ty k) = if zm_rk ci k = true then .null else .int 0)
/-- a field of a class of ours by a place in the class file's pool: its number, its type, whether it is final -/
def zz_F (own : String) (idx ci k : Nat) (ty0 : FieldType) (fin : Bool) : Prop :=
  ∃ (C : String) (T : u_T) (N : Nat) (ty : Nat → FieldType), zz_CL ci C T N ty ∧ k < N ∧ Cond.fieldLink own idx C (T k).2.1 (T k).2.2.1 ∈ lw_tbl ∧ ty k = ty0 ∧ (T k).2.2.2 = fin ∧ (fin = true → C = own)
def zz_Fr (own : String) (idx ci k : Nat) : Prop :=
  ∃ (C : String) (T : u_T) (N : Nat) (ty : Nat → FieldType), zz_CL ci C T N ty ∧ k < N ∧ Cond.fieldLink own idx C (T k).2.1 (T k).2.2.1 ∈ lw_tbl
theorem zz_F.r {own : String} {idx ci k : Nat} {ty0 : FieldType} {fin : Bool} (F : zz_F own idx ci k ty0 fin) : zz_Fr own idx ci k := by
  obtain ⟨C, T, N, ty, h1, h2, h3, -⟩ := F
  exact ⟨C, T, N, ty, h1, h2, h3⟩
theorem zm_cv_new {ad : Nat → Nat} {sh : zm_Sh} {lbl a : Nat} (hf : sh lbl = none) {v : Value} (hv : zm_ok sh v) : zm_cv (zm_u1 ad lbl a) v = zm_cv ad v := by
  cases v with
  | ref x =>
    have hx : x ≠ lbl := fun e => hv (by rw [e]; exact hf)
    show Value.ref (zm_u1 ad lbl a x) = .ref (ad x)
    rw [zm_u1n hx]
  | _ => rfl
theorem zm_cvs_new {ad : Nat → Nat} {sh : zm_Sh} {lbl a : Nat} (hf : sh lbl = none) {st : List Value} (h : zm_oks sh st) : st.map (zm_cv (zm_u1 ad lbl a)) = st.map (zm_cv ad) := List.map_congr_left fun v hv => zm_cv_new hf (h v hv)
theorem zm_ok_new {sh : zm_Sh} {lbl : Nat} {s : Nat × Nat} {v : Value} (h : zm_ok sh v) : zm_ok (zm_u1 sh lbl (some s)) v := by
  cases v with
  | ref x =>
    show zm_u1 sh lbl (some s) x ≠ none
    by_cases hx : x = lbl
    · subst hx
      rw [zm_u1s]
      exact fun q => nomatch q
    · rw [zm_u1n hx]
      exact h
  | _ => trivial
section ZF
variable {Γ : zz_C} {G : zz_G} {Q : State → Prop} {cells slots : Nat} {sh : zm_Sh} {mi : zm_Mi} {mr : zm_Mr} {pc : Nat} {ls : List (Nat × Value)} {st : List Value} {own : String} {cc : ByteArray} {d mc ms : Nat}
theorem zz_getI (X : zz_X Γ G own cc d mc ms) {idx ci k : Nat} (F : zz_Fr own idx ci k) {l : Nat} {x : Int32} (hsh : sh l = some (0, ci)) (hrk : zm_rk ci k = false) (hx : mi l k = x) (hdg : decode cc pc = .ok (.getfield idx, 3)) (kk : zz Γ G Q cells slots sh mi mr (pc + 3) ls (.int x :: st)) : zz Γ G Q cells slots sh mi mr pc ls (.ref l :: st) := by
  intro ad H locs la h
  obtain ⟨C, T, N, ty, ⟨hcl, hws, hty, hnm, hC, hnf, -⟩, hk, hlk⟩ := F
  obtain ⟨⟨L, hL, hP, hD⟩, hr, h9⟩ := id h.1
  obtain ⟨q, hq, ha⟩ := zm_at (D := G.1) (ad := ad) (mi := mi) (mr := mr) hL hsh (fun q => nomatch q)
  have K := X.2.2.2.2.2.2.1
  refine va_get (D := G.1.1) (cl := vwCl) (v := .int x) X.1 X.2.1 (fun w hw => zk_w K (hws w hw).1 (hws w hw).2) (fun w hw => hw) X.2.2.2.1 K.1 hP q ha hcl k hk (zk_w K hlk rfl) (fun z hz => by rw [← hC k hk]; exact hz) ?_ hdg (kk ad H locs la (h.ws (zm_oc trivial (zm_ot h.oks))))
  rw [List.getElem?_map, List.getElem?_range (by show k < zm_nf ci; rw [hnf]; exact hk), Option.map_some]
  show some (zm_fv ad mi mr ci l k) = _
  unfold zm_fv
  rw [if_neg (by rw [hrk]; decide), hx]
theorem zz_getR (X : zz_X Γ G own cc d mc ms) {idx ci k : Nat} (F : zz_Fr own idx ci k) {l y : Nat} (hsh : sh l = some (0, ci)) (hrk : zm_rk ci k = true) (hy : mr l k = some y) (hdg : decode cc pc = .ok (.getfield idx, 3)) (kk : zz Γ G Q cells slots sh mi mr (pc + 3) ls (.ref y :: st)) : zz Γ G Q cells slots sh mi mr pc ls (.ref l :: st) := by
  intro ad H locs la h
  obtain ⟨C, T, N, ty, ⟨hcl, hws, hty, hnm, hC, hnf, -⟩, hk, hlk⟩ := F
  obtain ⟨⟨L, hL, hP, hD⟩, hr, h9⟩ := id h.1
  obtain ⟨q, hq, ha⟩ := zm_at (D := G.1) (ad := ad) (mi := mi) (mr := mr) hL hsh (fun q => nomatch q)
  have K := X.2.2.2.2.2.2.1
  refine va_get (D := G.1.1) (cl := vwCl) (v := .ref (ad y)) X.1 X.2.1 (fun w hw => zk_w K (hws w hw).1 (hws w hw).2) (fun w hw => hw) X.2.2.2.1 K.1 hP q ha hcl k hk (zk_w K hlk rfl) (fun z hz => by rw [← hC k hk]; exact hz) ?_ hdg (kk ad H locs la (h.ws (zm_oc (hr l k y hy) (zm_ot h.oks))))
  rw [List.getElem?_map, List.getElem?_range (by show k < zm_nf ci; rw [hnf]; exact hk), Option.map_some]
  show some (zm_fv ad mi mr ci l k) = _
  unfold zm_fv
  rw [if_pos hrk, hy]
  rfl
theorem zm_fs_set {ad : Nat → Nat} {mi mi' : zm_Mi} {mr mr' : zm_Mr} {ci l k : Nat} {v : Value} (hk : k < zm_nf ci) (hv : zm_fv ad mi' mr' ci l k = v) (ho : ∀ j, j ≠ k → zm_fv ad mi' mr' ci l j = zm_fv ad mi mr ci l j) : ((List.range (zm_nf ci)).map (zm_fv ad mi mr ci l)).set k v = (List.range (zm_nf ci)).map (zm_fv ad mi' mr' ci l) :=
  zm_map_set List.nodup_range (List.getElem?_range hk) hv ho
theorem zz_putI (X : zz_X Γ G own cc d mc ms) {idx ci k : Nat} {ty0 : FieldType} (F : zz_F own idx ci k ty0 false) {l : Nat} {x : Int32} (hsh : sh l = some (0, ci)) (hrk : zm_rk ci k = false) (hn : narrow ty0 (.int x) = .int x) (hf : fits ty0 (.int x) = true) (hdg : decode cc pc = .ok (.putfield idx, 3)) (kk : zz Γ G Q cells slots sh (zm_u2 mi l k x) mr (pc + 3) ls st) : zz Γ G Q cells slots sh mi mr pc ls (.int x :: .ref l :: st) := by
  intro ad H locs la h
  obtain ⟨C, T, N, ty, ⟨hcl, hws, hty, hnm, hC, hnf, -⟩, hk, hlk, rfl, hfin, -⟩ := F
  obtain ⟨⟨L, hL, hP, hD⟩, hr, h9⟩ := id h.1
  obtain ⟨q, hq, ha⟩ := zm_at (D := G.1) (ad := ad) (mi := mi) (mr := mr) hL hsh (fun q => nomatch q)
  have K := X.2.2.2.2.2.2.1
  refine va_put (D := G.1.1) (cl := vwCl) (v := .int x) X.1 X.2.1 (fun w hw => zk_w K (hws w hw).1 (hws w hw).2) (fun w hw => hw) ty hty hnm X.2.2.2.1 K.1 hP hD h.2.1 q ha hcl k hk (zk_w K hlk rfl) (fun z hz => by rw [← hC k hk]; exact hz) hfin (hty k hk) hn hf ?_ hdg (fun H1 locs1 hP1 hD1 hS1 => ?_)
  · rw [List.length_map, List.length_range]
    show k < zm_nf ci
    rw [hnf]; exact hk
  · refine kk ad H1 locs1 la ⟨zm_set (mi' := zm_u2 mi l k x) (mr' := mr) hL hsh hq (fun z hz => ⟨zm_u2r hz, rfl⟩) ?_ hP1 hD1 hr h9, hS1, h.2.2.1, h.2.2.2.1, zm_ot (zm_ot h.oks), h.2.2.2.2.2⟩
    refine congrArg (fun z => (ad l, (Sum.inr (ci, z) : va_E))) (Eq.symm ?_)
    refine zm_fs_set (mi' := zm_u2 mi l k x) (mr' := mr) (by rw [hnf]; exact hk) ?_ (fun j hj => ?_)
    · unfold zm_fv
      rw [if_neg (by rw [hrk]; decide), zm_u2s]
    · unfold zm_fv
      rw [zm_u2k hj]
theorem zz_putIF (X : zz_X Γ G own cc d mc ms) (hnm9 : (zz_h Γ).name = "<init>") {idx ci k : Nat} {ty0 : FieldType} (F : zz_F own idx ci k ty0 true) {l : Nat} {x : Int32} (hsh : sh l = some (0, ci)) (hrk : zm_rk ci k = false) (hn : narrow ty0 (.int x) = .int x) (hf : fits ty0 (.int x) = true) (hdg : decode cc pc = .ok (.putfield idx, 3)) (kk : zz Γ G Q cells slots sh (zm_u2 mi l k x) mr (pc + 3) ls st) : zz Γ G Q cells slots sh mi mr pc ls (.int x :: .ref l :: st) := by
  intro ad H locs la h
  obtain ⟨C, T, N, ty, ⟨hcl, hws, hty, hnm, hC, hnf, -⟩, hk, hlk, rfl, hfin, hCo⟩ := F
  obtain ⟨⟨L, hL, hP, hD⟩, hr, h9⟩ := id h.1
  obtain ⟨q, hq, ha⟩ := zm_at (D := G.1) (ad := ad) (mi := mi) (mr := mr) hL hsh (fun q => nomatch q)
  have K := X.2.2.2.2.2.2.1
  refine va_putF (D := G.1.1) (cl := vwCl) (v := .int x) X.1 X.2.1 (fun w hw => zk_w K (hws w hw).1 (hws w hw).2) (fun w hw => hw) ty hty hnm X.2.2.2.1 K.1 hP hD h.2.1 q ha hcl k hk (zk_w K hlk rfl) (fun z hz => by rw [← hC k hk]; exact hz) hfin hnm9 ((hC k hk).trans (hCo rfl)) (hty k hk) hn hf ?_ hdg (fun H1 locs1 hP1 hD1 hS1 => ?_)
  · rw [List.length_map, List.length_range]
    show k < zm_nf ci
    rw [hnf]; exact hk
  · refine kk ad H1 locs1 la ⟨zm_set (mi' := zm_u2 mi l k x) (mr' := mr) hL hsh hq (fun z hz => ⟨zm_u2r hz, rfl⟩) ?_ hP1 hD1 hr h9, hS1, h.2.2.1, h.2.2.2.1, zm_ot (zm_ot h.oks), h.2.2.2.2.2⟩
    refine congrArg (fun z => (ad l, (Sum.inr (ci, z) : va_E))) (Eq.symm ?_)
    refine zm_fs_set (mi' := zm_u2 mi l k x) (mr' := mr) (by rw [hnf]; exact hk) ?_ (fun j hj => ?_)
    · unfold zm_fv
      rw [if_neg (by rw [hrk]; decide), zm_u2s]
    · unfold zm_fv
      rw [zm_u2k hj]
theorem zm_hr_u2 {sh : zm_Sh} {mr : zm_Mr} {l k y : Nat} (hr : ∀ l k x, mr l k = some x → sh x ≠ none) (hy : sh y ≠ none) : ∀ a b x, zm_u2 mr l k (some y) a b = some x → sh x ≠ none := by
  intro a b x hx
  unfold zm_u2 at hx
  split at hx
  · cases hx
    exact hy
  · exact hr a b x hx
theorem zz_putR (X : zz_X Γ G own cc d mc ms) {idx ci k : Nat} {ty0 : FieldType} (F : zz_F own idx ci k ty0 false) {l y : Nat} (hsh : sh l = some (0, ci)) (hrk : zm_rk ci k = true) (hn : ∀ a, narrow ty0 (.ref a) = .ref a) (hf : ∀ a, fits ty0 (.ref a) = true) (hdg : decode cc pc = .ok (.putfield idx, 3)) (kk : zz Γ G Q cells slots sh mi (zm_u2 mr l k (some y)) (pc + 3) ls st) : zz Γ G Q cells slots sh mi mr pc ls (.ref y :: .ref l :: st) := by
  intro ad H locs la h
  obtain ⟨C, T, N, ty, ⟨hcl, hws, hty, hnm, hC, hnf, -⟩, hk, hlk, rfl, hfin, -⟩ := F
  obtain ⟨⟨L, hL, hP, hD⟩, hr, h9⟩ := id h.1
  obtain ⟨q, hq, ha⟩ := zm_at (D := G.1) (ad := ad) (mi := mi) (mr := mr) hL hsh (fun q => nomatch q)
  have K := X.2.2.2.2.2.2.1
  refine va_put (D := G.1.1) (cl := vwCl) (v := .ref (ad y)) X.1 X.2.1 (fun w hw => zk_w K (hws w hw).1 (hws w hw).2) (fun w hw => hw) ty hty hnm X.2.2.2.1 K.1 hP hD h.2.1 q ha hcl k hk (zk_w K hlk rfl) (fun z hz => by rw [← hC k hk]; exact hz) hfin (hty k hk) (hn _) (hf _) ?_ hdg (fun H1 locs1 hP1 hD1 hS1 => ?_)
  · rw [List.length_map, List.length_range]
    show k < zm_nf ci
    rw [hnf]; exact hk
  · refine kk ad H1 locs1 la ⟨zm_set (mi' := mi) (mr' := zm_u2 mr l k (some y)) hL hsh hq (fun z hz => ⟨rfl, zm_u2r hz⟩) ?_ hP1 hD1 (zm_hr_u2 hr (zm_oh h.oks)) h9, hS1, h.2.2.1, h.2.2.2.1, zm_ot (zm_ot h.oks), h.2.2.2.2.2⟩
    refine congrArg (fun z => (ad l, (Sum.inr (ci, z) : va_E))) (Eq.symm ?_)
    refine zm_fs_set (mi' := mi) (mr' := zm_u2 mr l k (some y)) (by rw [hnf]; exact hk) ?_ (fun j hj => ?_)
    · unfold zm_fv
      rw [if_pos hrk, zm_u2s]
      rfl
    · unfold zm_fv
      rw [zm_u2k hj]
theorem zz_putRF (X : zz_X Γ G own cc d mc ms) (hnm9 : (zz_h Γ).name = "<init>") {idx ci k : Nat} {ty0 : FieldType} (F : zz_F own idx ci k ty0 true) {l y : Nat} (hsh : sh l = some (0, ci)) (hrk : zm_rk ci k = true) (hn : ∀ a, narrow ty0 (.ref a) = .ref a) (hf : ∀ a, fits ty0 (.ref a) = true) (hdg : decode cc pc = .ok (.putfield idx, 3)) (kk : zz Γ G Q cells slots sh mi (zm_u2 mr l k (some y)) (pc + 3) ls st) : zz Γ G Q cells slots sh mi mr pc ls (.ref y :: .ref l :: st) := by
  intro ad H locs la h
  obtain ⟨C, T, N, ty, ⟨hcl, hws, hty, hnm, hC, hnf, -⟩, hk, hlk, rfl, hfin, hCo⟩ := F
  obtain ⟨⟨L, hL, hP, hD⟩, hr, h9⟩ := id h.1
  obtain ⟨q, hq, ha⟩ := zm_at (D := G.1) (ad := ad) (mi := mi) (mr := mr) hL hsh (fun q => nomatch q)
  have K := X.2.2.2.2.2.2.1
  refine va_putF (D := G.1.1) (cl := vwCl) (v := .ref (ad y)) X.1 X.2.1 (fun w hw => zk_w K (hws w hw).1 (hws w hw).2) (fun w hw => hw) ty hty hnm X.2.2.2.1 K.1 hP hD h.2.1 q ha hcl k hk (zk_w K hlk rfl) (fun z hz => by rw [← hC k hk]; exact hz) hfin hnm9 ((hC k hk).trans (hCo rfl)) (hty k hk) (hn _) (hf _) ?_ hdg (fun H1 locs1 hP1 hD1 hS1 => ?_)
  · rw [List.length_map, List.length_range]
    show k < zm_nf ci
    rw [hnf]; exact hk
  · refine kk ad H1 locs1 la ⟨zm_set (mi' := mi) (mr' := zm_u2 mr l k (some y)) hL hsh hq (fun z hz => ⟨rfl, zm_u2r hz⟩) ?_ hP1 hD1 (zm_hr_u2 hr (zm_oh h.oks)) h9, hS1, h.2.2.1, h.2.2.2.1, zm_ot (zm_ot h.oks), h.2.2.2.2.2⟩
    refine congrArg (fun z => (ad l, (Sum.inr (ci, z) : va_E))) (Eq.symm ?_)
    refine zm_fs_set (mi' := mi) (mr' := zm_u2 mr l k (some y)) (by rw [hnf]; exact hk) ?_ (fun j hj => ?_)
    · unfold zm_fv
      rw [if_pos hrk, zm_u2s]
      rfl
    · unfold zm_fv
      rw [zm_u2k hj]
-- arrays
theorem zz_iald (X : zz_X Γ G own cc d mc ms) {l n : Nat} (hsh : sh l = some (1, n)) {i x : Int32} (j : Nat) (hi : i = nI j) (hj : j < n) (hn : n < 2 ^ 31) (hx : mi l j = x) (hdg : decode cc pc = .ok (.iaload, 1)) (kk : zz Γ G Q cells slots sh mi mr (pc + 1) ls (.int x :: st)) : zz Γ G Q cells slots sh mi mr pc ls (.int i :: .ref l :: st) := by
  intro ad H locs la h
  subst hi; subst hx
  obtain ⟨⟨L, hL, hP, hD⟩, hr, h9⟩ := id h.1
  obtain ⟨q, hq, ha⟩ := zm_at (D := G.1) (ad := ad) (mi := mi) (mr := mr) hL hsh (fun q => nomatch q)
  have hc : (nI j).toNatClampNeg = j := nI_clamp (by omega)
  have k2 := kk ad H locs la (h.ws (zm_oc trivial (zm_ot (zm_ot h.oks))))
  rw [← hc] at k2
  exact va_iald (D := G.1.1) (cl := vwCl) X.1 X.2.1 X.2.2.2.2.2.2.1.1 hP q 0 ha (zk_tys_at 1 (by decide) (by decide)) (vp_in_nI hj hn) hdg k2
theorem zz_bald (X : zz_X Γ G own cc d mc ms) {l n : Nat} (hsh : sh l = some (2, n)) {i x : Int32} (j : Nat) (hi : i = nI j) (hj : j < n) (hn : n < 2 ^ 31) (hx : mi l j = x) (hdg : decode cc pc = .ok (.baload, 1)) (kk : zz Γ G Q cells slots sh mi mr (pc + 1) ls (.int x :: st)) : zz Γ G Q cells slots sh mi mr pc ls (.int i :: .ref l :: st) := by
  intro ad H locs la h
  subst hi; subst hx
  obtain ⟨⟨L, hL, hP, hD⟩, hr, h9⟩ := id h.1
  obtain ⟨q, hq, ha⟩ := zm_at (D := G.1) (ad := ad) (mi := mi) (mr := mr) hL hsh (fun q => nomatch q)
  have hc : (nI j).toNatClampNeg = j := nI_clamp (by omega)
  have k2 := kk ad H locs la (h.ws (zm_oc trivial (zm_ot (zm_ot h.oks))))
  rw [← hc] at k2
  exact va_zald (D := G.1.1) (cl := vwCl) X.1 X.2.1 X.2.2.2.2.2.2.1.1 hP q 1 ha (zk_tys_at 2 (by decide) (by decide)) (vp_in_nI hj hn) hdg k2
theorem zz_lald (X : zz_X Γ G own cc d mc ms) {l n : Nat} (hsh : sh l = some (3, n)) {i : Int32} (j : Nat) (hi : i = nI j) (hj : j < n) (hn : n < 2 ^ 31) (hdg : decode cc pc = .ok (.laload, 1)) (kk : zz Γ G Q cells slots sh mi mr (pc + 1) ls (.long (mi l j).toInt64 :: st)) : zz Γ G Q cells slots sh mi mr pc ls (.int i :: .ref l :: st) := by
  intro ad H locs la h
  subst hi
  obtain ⟨⟨L, hL, hP, hD⟩, hr, h9⟩ := id h.1
  obtain ⟨q, hq, ha⟩ := zm_at (D := G.1) (ad := ad) (mi := mi) (mr := mr) hL hsh (fun q => nomatch q)
  have hc : (nI j).toNatClampNeg = j := nI_clamp (by omega)
  have k2 := kk ad H locs la (h.ws (zm_oc trivial (zm_ot (zm_ot h.oks))))
  rw [← hc] at k2
  exact va_lald (D := G.1.1) (cl := vwCl) X.1 X.2.1 X.2.2.2.2.2.2.1.1 hP q 2 ha (zk_tys_at 3 (by decide) (by decide)) (vp_in_nI hj hn) hdg k2
theorem zm_upd {mi : zm_Mi} {l j : Nat} {x : Int32} : zm_u2 mi l j x l = upd (mi l) j x := by
  funext k
  by_cases hk : k = j
  · subst hk
    rw [zm_u2s]
    exact (if_pos rfl).symm
  · rw [zm_u2k hk]
    exact (if_neg hk).symm
theorem zz_iast (X : zz_X Γ G own cc d mc ms) {l n : Nat} (hsh : sh l = some (1, n)) {i x : Int32} (j : Nat) (hi : i = nI j) (hj : j < n) (hn : n < 2 ^ 31) (hdg : decode cc pc = .ok (.iastore, 1)) (kk : zz Γ G Q cells slots sh (zm_u2 mi l j x) mr (pc + 1) ls st) : zz Γ G Q cells slots sh mi mr pc ls (.int x :: .int i :: .ref l :: st) := by
  intro ad H locs la h
  subst hi
  obtain ⟨⟨L, hL, hP, hD⟩, hr, h9⟩ := id h.1
  obtain ⟨q, hq, ha⟩ := zm_at (D := G.1) (ad := ad) (mi := mi) (mr := mr) hL hsh (fun q => nomatch q)
  have hc : (nI j).toNatClampNeg = j := nI_clamp (by omega)
  refine va_iast (D := G.1.1) (cl := vwCl) X.1 X.2.1 X.2.2.2.2.2.2.1.1 hP hD h.2.1 q 0 ha (zk_tys_at 1 (by decide) (by decide)) (vp_in_nI hj hn) hdg (fun H1 locs1 hP1 hD1 hS1 => ?_)
  refine kk ad H1 locs1 la ⟨zm_set (mi' := zm_u2 mi l j x) (mr' := mr) hL hsh hq (fun z hz => ⟨zm_u2r hz, rfl⟩) ?_ hP1 hD1 hr h9, hS1, h.2.2.1, h.2.2.2.1, zm_ot (zm_ot (zm_ot h.oks)), h.2.2.2.2.2⟩
  show (ad l, (Sum.inl (G.1.2 1, n, .inl (zm_u2 mi l j x l)) : va_E)) = _
  rw [zm_upd, hc]
theorem zz_bast (X : zz_X Γ G own cc d mc ms) {l n : Nat} (hsh : sh l = some (2, n)) {i x : Int32} (j : Nat) (hi : i = nI j) (hj : j < n) (hn : n < 2 ^ 31) (hx : vp_nar .boolean x = x) (hdg : decode cc pc = .ok (.bastore, 1)) (kk : zz Γ G Q cells slots sh (zm_u2 mi l j x) mr (pc + 1) ls st) : zz Γ G Q cells slots sh mi mr pc ls (.int x :: .int i :: .ref l :: st) := by
  intro ad H locs la h
  subst hi
  obtain ⟨⟨L, hL, hP, hD⟩, hr, h9⟩ := id h.1
  obtain ⟨q, hq, ha⟩ := zm_at (D := G.1) (ad := ad) (mi := mi) (mr := mr) hL hsh (fun q => nomatch q)
  have hc : (nI j).toNatClampNeg = j := nI_clamp (by omega)
  refine va_zast (D := G.1.1) (cl := vwCl) X.1 X.2.1 X.2.2.2.2.2.2.1.1 hP hD h.2.1 q 1 ha (zk_tys_at 2 (by decide) (by decide)) (vp_in_nI hj hn) hdg (fun H1 locs1 hP1 hD1 hS1 => ?_)
  refine kk ad H1 locs1 la ⟨zm_set (mi' := zm_u2 mi l j x) (mr' := mr) hL hsh hq (fun z hz => ⟨zm_u2r hz, rfl⟩) ?_ hP1 hD1 hr h9, hS1, h.2.2.1, h.2.2.2.1, zm_ot (zm_ot (zm_ot h.oks)), h.2.2.2.2.2⟩
  show (ad l, (Sum.inl (G.1.2 2, n, .inl (zm_u2 mi l j x l)) : va_E)) = _
  rw [zm_upd, hc, hx]
theorem zz_last (X : zz_X Γ G own cc d mc ms) {l n : Nat} (hsh : sh l = some (3, n)) {i x : Int32} {y : Int64} (j : Nat) (hy : y = x.toInt64) (hi : i = nI j) (hj : j < n) (hn : n < 2 ^ 31) (hdg : decode cc pc = .ok (.lastore, 1)) (kk : zz Γ G Q cells slots sh (zm_u2 mi l j x) mr (pc + 1) ls st) : zz Γ G Q cells slots sh mi mr pc ls (.long y :: .int i :: .ref l :: st) := by
  intro ad H locs la h
  subst hi; subst hy
  obtain ⟨⟨L, hL, hP, hD⟩, hr, h9⟩ := id h.1
  obtain ⟨q, hq, ha⟩ := zm_at (D := G.1) (ad := ad) (mi := mi) (mr := mr) hL hsh (fun q => nomatch q)
  have hc : (nI j).toNatClampNeg = j := nI_clamp (by omega)
  refine va_last (D := G.1.1) (cl := vwCl) X.1 X.2.1 X.2.2.2.2.2.2.1.1 hP hD h.2.1 q 2 ha (zk_tys_at 3 (by decide) (by decide)) (vp_in_nI hj hn) hdg (fun H1 locs1 hP1 hD1 hS1 => ?_)
  refine kk ad H1 locs1 la ⟨zm_set (mi' := zm_u2 mi l j x) (mr' := mr) hL hsh hq (fun z hz => ⟨zm_u2r hz, rfl⟩) ?_ hP1 hD1 hr h9, hS1, h.2.2.1, h.2.2.2.1, zm_ot (zm_ot (zm_ot h.oks)), h.2.2.2.2.2⟩
  refine congrArg (fun z => (ad l, (Sum.inl (G.1.2 3, n, .inr (.inl z)) : va_E))) ?_
  funext k
  rw [zm_upd, hc]
  unfold upd vp_updL
  by_cases hk : k = j
  · rw [if_pos hk, if_pos hk]
  · rw [if_neg hk, if_neg hk]
theorem zz_alen (X : zz_X Γ G own cc d mc ms) {l n kd : Nat} (hsh : sh l = some (kd, n)) (h1 : 1 ≤ kd) (h8 : kd ≤ 8) (hdg : decode cc pc = .ok (.arraylength, 1)) (kk : zz Γ G Q cells slots sh mi mr (pc + 1) ls (.int (nI n) :: st)) : zz Γ G Q cells slots sh mi mr pc ls (.ref l :: st) := by
  intro ad H locs la h
  obtain ⟨⟨L, hL, hP, hD⟩, hr, h9⟩ := id h.1
  obtain ⟨q, hq, ha⟩ := zm_at (D := G.1) (ad := ad) (mi := mi) (mr := mr) hL hsh (by show kd ≠ 9; omega)
  have k2 := kk ad H locs la (h.ws (zm_oc trivial (zm_ot h.oks)))
  have ht := zk_tys_at (cA := G.1.2) kd h1 h8
  have hkd : kd ≠ 0 := by omega
  unfold zm_ent at ha
  dsimp only at ha
  rw [if_neg hkd] at ha
  by_cases h2 : kd ≤ 2
  · rw [if_pos h2] at ha
    exact va_alen (D := G.1.1) (cl := vwCl) X.1 X.2.1 X.2.2.2.2.2.2.1.1 hP q _ ha ht rfl hdg k2
  · rw [if_neg h2] at ha
    by_cases h3 : kd = 3
    · rw [if_pos h3] at ha
      exact va_alen (D := G.1.1) (cl := vwCl) X.1 X.2.1 X.2.2.2.2.2.2.1.1 hP q _ ha ht rfl hdg k2
    · rw [if_neg h3] at ha
      exact va_alen (D := G.1.1) (cl := vwCl) X.1 X.2.1 X.2.2.2.2.2.2.1.1 hP q _ ha ht rfl hdg k2
theorem zm_entR {cA : Nat → ClassId} {ad : Nat → Nat} {mi : zm_Mi} {mr : zm_Mr} {l kd n : Nat} (h4 : 4 ≤ kd) : zm_ent cA ad mi mr l (kd, n) = .inl (cA kd, n, .inr (.inr (.inr (.inr (fun j => (mr l j).map ad))))) := by
  unfold zm_ent
  dsimp only
  rw [if_neg (by omega), if_neg (by omega), if_neg (by omega)]
theorem zz_aald (X : zz_X Γ G own cc d mc ms) {l n kd y : Nat} (hsh : sh l = some (kd, n)) (h4 : 4 ≤ kd) (h8 : kd ≤ 8) {i : Int32} (j : Nat) (hi : i = nI j) (hj : j < n) (hn : n < 2 ^ 31) (hy : mr l j = some y) (hdg : decode cc pc = .ok (.aaload, 1)) (kk : zz Γ G Q cells slots sh mi mr (pc + 1) ls (.ref y :: st)) : zz Γ G Q cells slots sh mi mr pc ls (.int i :: .ref l :: st) := by
  intro ad H locs la h
  subst hi
  obtain ⟨⟨L, hL, hP, hD⟩, hr, h9⟩ := id h.1
  obtain ⟨q, hq, ha⟩ := zm_at (D := G.1) (ad := ad) (mi := mi) (mr := mr) hL hsh (by show kd ≠ 9; omega)
  rw [zm_entR h4] at ha
  have hc : (nI j).toNatClampNeg = j := nI_clamp (by omega)
  have ht := zk_tys_at (cA := G.1.2) kd (by omega) h8
  have k2 := kk ad H locs la (h.ws (zm_oc (hr l j y hy) (zm_ot (zm_ot h.oks))))
  have hin := vp_in_nI hj hn
  have hrt : (zk_ty kd).isReference = true := by
    rcases (by omega : kd = 4 ∨ kd = 5 ∨ kd = 6 ∨ kd = 7 ∨ kd = 8) with rfl | rfl | rfl | rfl | rfl <;> rfl
  exact W.aald (v := .ref (ad y)) (ty := zk_ty kd) X.1 X.2.1 (hP q _ ha) ((X.2.2.2.2.2.2.1.1.2 _ _ ht).1 n (fun j => va_rf ((mr l j).map ad))) hrt (fun q => by cases q) (by show ¬ (nI j < 0 ∨ (arrV _ _ _).slots.size ≤ _); rw [arrV_size]; exact hin) (by show (arrV _ _ _).slots[_]? = _; rw [hc, arrV_read _ _ hj]; show some (va_rf ((mr l j).map ad)) = _; rw [hy]; rfl) rfl rfl hdg k2
theorem zz_aast (X : zz_X Γ G own cc d mc ms) {l n kd y ci : Nat} {C : String} {T : u_T} {N : Nat} (hsh : sh l = some (kd, n)) (h4 : 4 ≤ kd) (h7 : kd ≤ 7) (hci : vwCl[ci]? = some (C, T, N)) (hkt : zk_ty kd = .object C) (hy : sh y = some (0, ci)) {i : Int32} (j : Nat) (hi : i = nI j) (hj : j < n) (hn : n < 2 ^ 31) (hdg : decode cc pc = .ok (.aastore, 1)) (kk : zz Γ G Q cells slots sh mi (zm_u2 mr l j (some y)) (pc + 1) ls st) : zz Γ G Q cells slots sh mi mr pc ls (.ref y :: .int i :: .ref l :: st) := by
  intro ad H locs la h
  subst hi
  obtain ⟨⟨L, hL, hP, hD⟩, hr, h9⟩ := id h.1
  obtain ⟨q, hq, ha⟩ := zm_at (D := G.1) (ad := ad) (mi := mi) (mr := mr) hL hsh (by show kd ≠ 9; omega)
  obtain ⟨q2, hq2, ha2⟩ := zm_at (D := G.1) (ad := ad) (mi := mi) (mr := mr) hL hy (fun q => nomatch q)
  rw [zm_entR h4] at ha
  have hc : (nI j).toNatClampNeg = j := nI_clamp (by omega)
  have ht := zk_tys_at (cA := G.1.2) kd (by omega) (by omega : kd ≤ 8)
  rw [hkt] at ht
  refine va_astq (D := G.1.1) (cl := vwCl) X.1 X.2.1 X.2.2.2.2.2.2.1.1 hP hD h.2.1 q _ q2 ci ha ht ha2 hci (vp_in_nI hj hn) hdg (fun H1 locs1 hP1 hD1 hS1 => ?_)
  refine kk ad H1 locs1 la ⟨zm_set (mi' := mi) (mr' := zm_u2 mr l j (some y)) hL hsh hq (fun z hz => ⟨rfl, zm_u2r hz⟩) ?_ hP1 hD1 (zm_hr_u2 hr (zm_oh h.oks)) h9, hS1, h.2.2.1, h.2.2.2.1, zm_ot (zm_ot (zm_ot h.oks)), h.2.2.2.2.2⟩
  rw [zm_entR h4]
  refine congrArg (fun z => (ad l, (Sum.inl (G.1.2 kd, n, .inr (.inr (.inr (.inr z)))) : va_E))) ?_
  funext k
  rw [hc]
  unfold va_up
  by_cases hk : k = j
  · subst hk
    rw [if_pos rfl, zm_u2s]
    rfl
  · rw [if_neg hk, zm_u2k hk]
-- new cells
theorem zz_born {ad : Nat → Nat} {H H1 : Heap} {locs : List Loc} {la : Array Slot} {lbl a : Nat} {s : Nat × Nat} {st2 : List Value} (h : zz_H Γ G sh mi mr ls st2 ad H locs la) (hf : sh lbl = none) (hP : zm_P G.1 G.2.1 (zm_u1 ad lbl a) (zm_u1 sh lbl (some s)) (zm_u1 mi lbl (fun _ => 0)) (zm_u1 mr lbl (fun _ => none)) H1) (hS : va_S (zz_A G.2.1) (zz_s Γ).heap H1 locs) (h2 : zm_oks sh st) :
    zz_H Γ G (zm_u1 sh lbl (some s)) (zm_u1 mi lbl (fun _ => 0)) (zm_u1 mr lbl (fun _ => none)) ls (.ref lbl :: st) (zm_u1 ad lbl a) H1 locs la := by
  refine ⟨hP, hS, fun x hx => ?_, fun q hq => ⟨zm_ok_new (h.2.2.2.1 q hq).1, (h.2.2.2.1 q hq).2⟩, zm_oc ?_ (fun v hv => zm_ok_new (h2 v hv)), ?_⟩
  · obtain ⟨e1, e2⟩ := h.2.2.1 x hx
    have hxl : x ≠ lbl := fun e => hx (by rw [← e2, e]; exact hf)
    rw [zm_u1n hxl, zm_u1n hxl]
    exact ⟨e1, e2⟩
  · show zm_u1 sh lbl (some s) lbl ≠ none
    rw [zm_u1s]
    exact fun q => nomatch q
  · have e : zz_ls (zm_u1 ad lbl a) ls = zz_ls ad ls := List.map_congr_left fun q hq => by rw [zm_cv_new hf (h.2.2.2.1 q hq).1]
    rw [e]
    exact h.2.2.2.2.2
theorem zz_new (X : zz_X Γ G own cc d mc ms) (lbl : Nat) (hf : sh lbl = none) {idx ci N : Nat} {C : String} {T : u_T} {ty : Nat → FieldType} (CL : zz_CL ci C T N ty) (hlk : Cond.classLink own idx C ∈ lw_tbl) (hin : Cond.instantiable C N ∈ lw_tbl) (hini : Cond.initialized C ∈ lw_tbl) (h1 : cells + 1 ≤ mc) (h2 : slots + N ≤ ms) (hdg : decode cc pc = .ok (.new idx, 3))
    (kk : zz Γ G Q (cells + 1) (slots + N) (zm_u1 sh lbl (some (0, ci))) (zm_u1 mi lbl (fun _ => 0)) (zm_u1 mr lbl (fun _ => none)) (pc + 3) ls (.ref lbl :: st)) : zz Γ G Q cells slots sh mi mr pc ls st := by
  intro ad H locs la h
  obtain ⟨hcl, hws, hty, hnm, hC, hnf, hdv⟩ := CL
  obtain ⟨⟨L, hL, hP, hD⟩, hr, h9⟩ := id h.1
  have K := X.2.2.2.2.2.2.1
  have hR := X.2.2.2.2.2.2.2
  refine va_new (D := G.1.1) (cl := vwCl) (ci := ci) (fs := (List.range (zm_nf ci)).map (fun k => if zm_rk ci k = true then Value.null else .int 0)) X.1 X.2.1 (fun w hw => zk_w K (hws w hw).1 (hws w hw).2) (fun w hw => hw) ty hty X.2.2.2.1 (zk_w K hlk rfl) (zk_w K hin rfl) (zk_w K hini rfl) K.1 hP hD h.2.1 (fun q hq => Nat.le_trans K.2.2.2.2.2.2.2.2.2.2 hq) hcl (fun j hj => ?_) (by rw [hR]; exact h1) (by rw [hR]; exact h2) hdg (fun q H1 hP1 hD1 hS1 => ?_)
  · rw [hdv j hj]
    unfold vp_V
    rw [List.getD_eq_getElem?_getD, List.getElem?_map, List.getElem?_range (by rw [hnf]; exact hj)]
    rfl
  · have k2 := kk (zm_u1 ad lbl q) H1 locs la (zz_born h hf (zm_new hL hf (fun q => nomatch q) ?_ hP1 hD1 hr h9) hS1 h.oks)
    · rw [List.map_cons, zm_cvs_new hf h.oks] at k2
      have e : zm_cv (zm_u1 ad lbl q) (.ref lbl) = .ref q := by
        show Value.ref (zm_u1 ad lbl q lbl) = _
        rw [zm_u1s]
      rw [e] at k2
      exact k2
    · refine congrArg (fun z => (Sum.inr (ci, z) : va_E)) (List.map_congr_left fun k _ => ?_)
      unfold zm_fv
      rw [zm_u1s, zm_u1s]
      rfl
theorem zz_newa (X : zz_X Γ G own cc d mc ms) (lbl : Nat) (hf : sh lbl = none) {at0 : ArrayType} {kd n : Nat} (hkd : kd = 1 ∨ kd = 2 ∨ kd = 3) (hty : newarray.typeOf at0 = zk_ty kd) (harr : Cond.arrayClass (zk_ty kd) ∈ lw_tbl) {i : Int32} (hi : i = nI n) (hn : n ≤ 60000) (h1 : cells + 1 ≤ mc) (h2 : slots + n ≤ ms) (hdg : decode cc pc = .ok (.newarray at0, 2))
    (kk : zz Γ G Q (cells + 1) (slots + n) (zm_u1 sh lbl (some (kd, n))) (zm_u1 mi lbl (fun _ => 0)) (zm_u1 mr lbl (fun _ => none)) (pc + 2) ls (.ref lbl :: st)) : zz Γ G Q cells slots sh mi mr pc ls (.int i :: st) := by
  intro ad H locs la h
  subst hi
  obtain ⟨⟨L, hL, hP, hD⟩, hr, h9⟩ := id h.1
  have K := X.2.2.2.2.2.2.1
  have hR := X.2.2.2.2.2.2.2
  have hc : (nI n).toNatClampNeg = n := nI_clamp (by omega)
  have hcb : componentBytes (zk_ty kd) ≤ 8 := by rcases hkd with rfl | rfl | rfl <;> decide
  have ha0 : ∃ a0 : vp_A, (∀ cA : ClassId, vp_cell cA a0 = arrV cA n (fun _ => defaultValue (zk_ty kd))) ∧ ∀ (cA : Nat → ClassId), zm_ent cA (fun x => x) (zm_u1 mi lbl (fun _ => 0)) mr lbl (kd, n) = .inl (cA kd, a0) := by
    rcases hkd with rfl | rfl | rfl
    · refine ⟨(n, .inl (fun _ => 0)), fun cA => rfl, fun cA => ?_⟩
      show (Sum.inl (cA 1, n, .inl (zm_u1 mi lbl (fun _ => 0) lbl)) : va_E) = _
      rw [zm_u1s]
    · refine ⟨(n, .inl (fun _ => 0)), fun cA => rfl, fun cA => ?_⟩
      show (Sum.inl (cA 2, n, .inl (zm_u1 mi lbl (fun _ => 0) lbl)) : va_E) = _
      rw [zm_u1s]
    · refine ⟨(n, .inr (.inl (fun _ => 0))), fun cA => rfl, fun cA => ?_⟩
      show (Sum.inl (cA 3, n, .inr (.inl (fun j => (zm_u1 mi lbl (fun _ => 0) lbl j).toInt64))) : va_E) = _
      rw [zm_u1s]
      rfl
  obtain ⟨a0, hb1, hb2⟩ := ha0
  refine va_newa (D := G.1.1) (cl := vwCl) (tys := zk_tys G.1.2) (atype := at0) (a0 := a0) X.1 X.2.1 (by rw [hty]; exact zk_w K harr rfl) hty K.1 hP hD h.2.1 (fun q hq => Nat.le_trans K.2.2.2.2.2.2.2.2.2.2 hq) hb1 (nI_pos (by omega)) hc ?_ (by rw [hR]; exact h1) (by rw [hR]; exact h2) hdg (fun q cA H1 hK1 hP1 hD1 hS1 => ?_)
  · exact Nat.le_trans (Nat.mul_le_mul hn hcb) (by decide)
  · have e1 := (hK1.2 (zk_tys G.1.2).length (cA, zk_ty kd) (by rw [List.getElem?_append_right (Nat.le_refl _), Nat.sub_self]; rfl)).2
    have e2 := (K.1.2 _ _ (zk_tys_at (cA := G.1.2) kd (by omega) (by omega))).2
    have hcA : cA = G.1.2 kd := by
      rcases hkd with rfl | rfl | rfl <;> exact Option.some.inj (e1.symm.trans e2)
    subst hcA
    have k2 := kk (zm_u1 ad lbl q) H1 locs la (zz_born h hf (zm_new hL hf (by show kd ≠ 9; omega) ?_ hP1 hD1 hr h9) hS1 (zm_ot h.oks))
    · rw [List.map_cons, zm_cvs_new hf (zm_ot h.oks)] at k2
      have e : zm_cv (zm_u1 ad lbl q) (.ref lbl) = .ref q := by
        show Value.ref (zm_u1 ad lbl q lbl) = _
        rw [zm_u1s]
      rw [e] at k2
      exact k2
    · rw [← hb2]
      rcases hkd with rfl | rfl | rfl <;> rfl
theorem zz_newq (X : zz_X Γ G own cc d mc ms) (lbl : Nat) (hf : sh lbl = none) {idx kd n : Nat} {C : String} (h4 : 4 ≤ kd) (h7 : kd ≤ 7) (hC : C ∈ [RX0, RX2, RX3, RX4]) (hty : zk_ty kd = .object C) (hlk : Cond.classLink own idx C ∈ lw_tbl) {i : Int32} (hi : i = nI n) (hn : n ≤ 60000) (h1 : cells + 1 ≤ mc) (h2 : slots + n ≤ ms) (hdg : decode cc pc = .ok (.anewarray idx, 3))
    (kk : zz Γ G Q (cells + 1) (slots + n) (zm_u1 sh lbl (some (kd, n))) (zm_u1 mi lbl (fun _ => 0)) (zm_u1 mr lbl (fun _ => none)) (pc + 3) ls (.ref lbl :: st)) : zz Γ G Q cells slots sh mi mr pc ls (.int i :: st) := by
  intro ad H locs la h
  subst hi
  obtain ⟨⟨L, hL, hP, hD⟩, hr, h9⟩ := id h.1
  have K := X.2.2.2.2.2.2.1
  have hR := X.2.2.2.2.2.2.2
  have hc : (nI n).toNatClampNeg = n := nI_clamp (by omega)
  refine va_newq (D := G.1.1) (cl := vwCl) (tys := zk_tys G.1.2) X.1 X.2.1 X.2.2.2.1 (zk_w K hlk rfl) (K.2.2.2.2.2.1 C hC) K.1 hP hD h.2.1 (fun q hq => Nat.le_trans K.2.2.2.2.2.2.2.2.2.2 hq) (nI_pos (by omega)) hc (by omega) (by rw [hR]; exact h1) (by rw [hR]; exact h2) hdg (fun q cA H1 hK1 hP1 hD1 hS1 => ?_)
  have e1 := (hK1.2 (zk_tys G.1.2).length (cA, .object C) (by rw [List.getElem?_append_right (Nat.le_refl _), Nat.sub_self]; rfl)).2
  have e2 := (K.1.2 _ _ (zk_tys_at (cA := G.1.2) kd (by omega) (by omega))).2
  have hcA : cA = G.1.2 kd := by
    rw [hty] at e2
    obtain ⟨_, _, _, _, _, f1⟩ := e1
    obtain ⟨_, _, _, _, _, f2⟩ := e2
    exact Option.some.inj (f1.symm.trans f2)
  subst hcA
  have k2 := kk (zm_u1 ad lbl q) H1 locs la (zz_born h hf (zm_new hL hf (by show kd ≠ 9; omega) ?_ hP1 hD1 hr h9) hS1 (zm_ot h.oks))
  · rw [List.map_cons, zm_cvs_new hf (zm_ot h.oks)] at k2
    have e : zm_cv (zm_u1 ad lbl q) (.ref lbl) = .ref q := by
      show Value.ref (zm_u1 ad lbl q lbl) = _
      rw [zm_u1s]
    rw [e] at k2
    exact k2
  · rw [zm_entR h4, zm_u1s]
    rfl
end ZF
end
section
/-! ===== contracts, calls, throws, ends ===== -/
def zz_Qr (D : zz_D) (E : zz_E) (ad0 : Nat → Nat) (sh0 : zm_Sh) (Qr : Option Value → zm_Sh → zm_Mi → zm_Mr → Prop) : Array Value → State → Outcome → State → Prop := fun _ u oc t =>
  ∃ (v : Option Value) (ad : Nat → Nat) (sh : zm_Sh) (mi : zm_Mi) (mr : zm_Mr), oc = .returned (v.map (zm_cv ad)) ∧ Qr v sh mi mr ∧ zm_P D E ad sh mi mr t.heap ∧ (∀ x, sh0 x ≠ none → ad x = ad0 x ∧ sh x = sh0 x) ∧ (∀ w, v = some w → zm_ok sh w) ∧ va_F (zz_A E) u t
def zz_Qx (D : zz_D) (E : zz_E) (ad0 : Nat → Nat) (sh0 : zm_Sh) (Qx : String → zm_Sh → zm_Mi → zm_Mr → Prop) : String → State → State → Prop := fun En u t =>
  ∃ (ad : Nat → Nat) (sh : zm_Sh) (mi : zm_Mi) (mr : zm_Mr), Qx En sh mi mr ∧ zm_P D E ad sh mi mr t.heap ∧ (∀ x, sh0 x ≠ none → ad x = ad0 x ∧ sh x = sh0 x) ∧ va_F (zz_A E) u t
/-- what a method does, called with these arguments over this memory -/
def zz_Con (y : MethodName) (w : Cond) (d mc ms : Nat) (args : List Value) (sh : zm_Sh) (mi : zm_Mi) (mr : zm_Mr) (Qr : Option Value → zm_Sh → zm_Mi → zm_Mr → Prop) (Qx : String → zm_Sh → zm_Mi → zm_Mr → Prop) : Prop :=
  ∀ (l : Launch) (D : zz_D) (E : zz_E) (ad : Nat → Nat), l.stackTraces = false → zm_oks sh args → vx_Met l y [w] (zz_rm d mc ms) (va_Pc (args.map (zm_cv ad)) (fun U => zm_P D E ad sh mi mr U.heap ∧ zk_K D E U)) (zz_Qr D E ad sh Qr) (zz_Qx D E ad sh Qx) mc ms (zz_A E)
abbrev zz_End (Γ : zz_C) (G : zz_G) (Qr : Option Value → zm_Sh → zm_Mi → zm_Mr → Prop) (Qx : String → zm_Sh → zm_Mi → zm_Mr → Prop) (mc ms : Nat) : State → Prop :=
  vx_MQ (zz_b Γ) (zz_Qr G.1 G.2.1 G.2.2.2.1 G.2.2.2.2 Qr) (zz_Qx G.1 G.2.1 G.2.2.2.1 G.2.2.2.2 Qx) (zz_a Γ) (zz_s Γ) mc ms (zz_A G.2.1)
def zz_none : String → zm_Sh → zm_Mi → zm_Mr → Prop := fun _ _ _ _ => False
def zz_args : Nat → List Value → List (Nat × Value)
  | _, [] => []
  | i, v :: vs => (i, v) :: zz_args (i + 1) vs
theorem zz_args_lv (ad : Nat → Nat) : ∀ (vs : List Value) (i : Nat), (∀ v ∈ vs, v.category = 1) → lv_args i (vs.map (zm_cv ad)) = zz_ls ad (zz_args i vs)
  | [], _, _ => rfl
  | v :: vs, i, h => by
    have hc : (zm_cv ad v).category = 1 := (zm_cv_cat ad v).trans (h v List.mem_cons_self)
    show (i, zm_cv ad v) :: lv_args (if (zm_cv ad v).category = 2 then i + 2 else i + 1) (vs.map (zm_cv ad)) = (i, zm_cv ad v) :: zz_ls ad (zz_args (i + 1) vs)
    rw [hc, if_neg (by decide), zz_args_lv ad vs (i + 1) (fun w hw => h w (List.mem_cons_of_mem _ hw))]
theorem zz_args_mem : ∀ (vs : List Value) (i : Nat) {q : Nat × Value}, q ∈ zz_args i vs → q.2 ∈ vs
  | [], _, _, h => nomatch h
  | v :: vs, i, q, h => by
    rcases List.mem_cons.mp h with rfl | h
    · exact List.mem_cons_self
    · exact List.mem_cons_of_mem _ (zz_args_mem vs (i + 1) h)
theorem zz_sl_len : ∀ (vs : List Value), (∀ v ∈ vs, v.category = 1) → (lg_sl vs).length = vs.length
  | [], _ => rfl
  | v :: vs, h => by
    have hc := h v List.mem_cons_self
    have ih := zz_sl_len vs (fun w hw => h w (List.mem_cons_of_mem _ hw))
    have e : lg_sl (v :: vs) = (if v.category = 2 then [Slot.val v, Slot.second] else [Slot.val v]) ++ lg_sl vs := rfl
    rw [e, if_neg (by rw [hc]; decide), List.length_append, ih, List.length_cons]
    exact Nat.add_comm 1 vs.length
theorem zz_blind {D : zz_D} {E : zz_E} {av : List Value} {ad : Nat → Nat} {sh : zm_Sh} {mi : zm_Mi} {mr : zm_Mr} : FrameBlind (va_Pc av (fun U => zm_P D E ad sh mi mr U.heap ∧ zk_K D E U)) := fun a U g mk q =>
  ⟨q.1, q.2.1, zk_K.moved (u := U) (U := U.calling g mk a) q.2.2 (State.WarmedH.refl U) (Nat.le_refl _) (fun _ _ _ => rfl)⟩
theorem zz_intro_of {y : MethodName} {d mc ms maxL : Nat} {bytes : ByteArray} {args : List Value} {sh : zm_Sh} {mi : zm_Mi} {mr : zm_Mr} {w : Cond} {ret : Option FieldType} {Qr : Option Value → zm_Sh → zm_Mi → zm_Mr → Prop} {Qx : String → zm_Sh → zm_Mi → zm_Mr → Prop} {l : Launch} {D : zz_D} {E : zz_E} {ad : Nat → Nat} {p : Program} {e : Env} {s : State} {m : MethodId} {a : Array Value} {below : List Frame} {meth : Method} {c : Code} {s₁ : State}
    (hl0 : l.stackTraces = false) (hoks : zm_oks sh args) (hc1 : ∀ v ∈ args, v.category = 1) (hlen : args.length ≤ maxL)
    (B : BodyLoose p l y (headSpec [w] (zz_rm d mc ms)) bytes maxL ret e s m a below meth c s₁) (hml : c.maxLocals = maxL) (hv : va_Pc (args.map (zm_cv ad)) (fun U => zm_P D E ad sh mi mr U.heap ∧ zk_K D E U) a s)
    (body : ∀ (Γ : zz_C), Γ = (p, l, e, zz_rm d mc ms, s, m, a, below, meth, c) → zz_X Γ (D, E, maxL, ad, sh) y.cls bytes d mc ms → zz Γ (D, E, maxL, ad, sh) (zz_End Γ (D, E, maxL, ad, sh) Qr Qx mc ms) 0 0 sh mi mr 0 (zz_args 0 args) []) :
    W p l e (zz_rm d mc ms) s m a below meth c s.heap [] 0 0 (vx_MQ below (zz_Qr D E ad sh Qr) (zz_Qx D E ad sh Qx) a s mc ms (zz_A E)) (entryFrame m a maxL) := by
  obtain ⟨rfl, hP, hK⟩ := hv
  have hcs : ∀ v ∈ args.map (zm_cv ad), v.category = 1 := fun v hv => by
    obtain ⟨z, hz, rfl⟩ := List.mem_map.mp hv
    rw [zm_cv_cat]
    exact hc1 z hz
  have hl := lv_entry (args.map (zm_cv ad)) (n := maxL) (by rw [zz_sl_len _ hcs, List.length_map]; exact hlen)
  rw [lg_entry_eq]
  rw [zz_args_lv ad args 0 hc1] at hl
  exact body _ rfl ⟨B.exec, B.bytes, hml, findClass_of_methodNamed B.named, B.notSynchronized, hl0, hK, rfl⟩ ad s.heap [] _ ⟨hP, va_S.rf, fun x _ => ⟨rfl, rfl⟩, fun q hq => ⟨hoks _ (zz_args_mem _ _ hq), hc1 _ (zz_args_mem _ _ hq)⟩, zm_on, hl⟩
theorem zz_intro {y : MethodName} {bytes : ByteArray} {maxL : Nat} {ret : Option FieldType} {d mc ms : Nat} {args : List Value} {sh : zm_Sh} {mi : zm_Mi} {mr : zm_Mr} {Qr : Option Value → zm_Sh → zm_Mi → zm_Mr → Prop} {Qx : String → zm_Sh → zm_Mi → zm_Mr → Prop}
    (hy : plainName y.cls = true) (hc1 : ∀ v ∈ args, v.category = 1) (hlen : args.length ≤ maxL)
    (body : ∀ (Γ : zz_C) (D : zz_D) (E : zz_E) (ad : Nat → Nat), zz_X Γ (D, E, maxL, ad, sh) y.cls bytes d mc ms → (zz_h Γ).sig.returnType = ret → (zz_h Γ).name = y.name → (∀ x ∈ (zz_c Γ).exceptionTable.toList, False) →
      zz Γ (D, E, maxL, ad, sh) (zz_End Γ (D, E, maxL, ad, sh) Qr Qx mc ms) 0 0 sh mi mr 0 (zz_args 0 args) []) : zz_Con y (.code y bytes maxL ret) d mc ms args sh mi mr Qr Qx := by
  intro l D E ad hl0 hoks
  refine vx_ofW (cc := bytes) (maxL := maxL) (ret := ret) hy rfl ?_
  intro p e s m a below meth c s₁ B hml ht hv
  exact zz_intro_of hl0 hoks hc1 hlen B hml hv (fun Γ hΓ X => by subst hΓ; exact body _ D E ad X B.returns (name_of_methodNamed B.named B.method).1 ht)
theorem zz_introH {y : MethodName} {bytes : ByteArray} {maxL : Nat} {ret : Option FieldType} {hh : List (Nat × Nat × Nat × Nat)} {d mc ms : Nat} {args : List Value} {sh : zm_Sh} {mi : zm_Mi} {mr : zm_Mr} {Qr : Option Value → zm_Sh → zm_Mi → zm_Mr → Prop} {Qx : String → zm_Sh → zm_Mi → zm_Mr → Prop}
    (hy : plainName y.cls = true) (hc1 : ∀ v ∈ args, v.category = 1) (hlen : args.length ≤ maxL)
    (body : ∀ (Γ : zz_C) (D : zz_D) (E : zz_E) (ad : Nat → Nat), zz_X Γ (D, E, maxL, ad, sh) y.cls bytes d mc ms → (zz_h Γ).sig.returnType = ret → (zz_c Γ).exceptionTable.toList = tableOf hh →
      zz Γ (D, E, maxL, ad, sh) (zz_End Γ (D, E, maxL, ad, sh) Qr Qx mc ms) 0 0 sh mi mr 0 (zz_args 0 args) []) : zz_Con y (.codeWith y bytes maxL ret hh) d mc ms args sh mi mr Qr Qx := by
  intro l D E ad hl0 hoks
  refine vx_ofWH (cc := bytes) (maxL := maxL) (ret := ret) hy rfl ?_
  intro p e s m a below meth c s₁ B hml hv
  have ht := vx_table (x := y) B (atoms_spec (ws := [Cond.codeWith y bytes maxL ret hh]) B.pre _ List.mem_cons_self)
  exact zz_intro_of hl0 hoks hc1 hlen B hml hv (fun Γ hΓ X => by subst hΓ; exact body _ D E ad X B.returns ht)
/-- less is said of the end -/
theorem zz_Con.mono {y : MethodName} {w : Cond} {d mc ms : Nat} {args : List Value} {sh : zm_Sh} {mi : zm_Mi} {mr : zm_Mr} {Qr Qr' : Option Value → zm_Sh → zm_Mi → zm_Mr → Prop} {Qx Qx' : String → zm_Sh → zm_Mi → zm_Mr → Prop} (h : zz_Con y w d mc ms args sh mi mr Qr Qx) (h1 : ∀ v s i r, Qr v s i r → Qr' v s i r) (h2 : ∀ v s i r, Qx v s i r → Qx' v s i r) : zz_Con y w d mc ms args sh mi mr Qr' Qx' := by
  intro l D E ad hl0 hoks
  refine fun p e hla hc hk s m a below hf happ hPc hK => ?_
  obtain ⟨n, o, h3, h4, h5, h6⟩ := h l D E ad hl0 hoks p e hla hc hk s m a below hf happ hPc hK
  refine ⟨n, o, h3, h4, h5, ?_⟩
  rcases h6 with ⟨⟨v, ad', sh', mi', mr', g1, g2, g3⟩, g4⟩ | ⟨q, g0, Ee, ce, L, ⟨ad', sh', mi', mr', g1, g2⟩, g3⟩
  · exact Or.inl ⟨⟨v, ad', sh', mi', mr', g1, h1 _ _ _ _ g2, g3⟩, g4⟩
  · exact Or.inr ⟨q, g0, Ee, ce, L, ⟨ad', sh', mi', mr', h2 _ _ _ _ g1, g2⟩, g3⟩
/-- q, of the class En, flies over the frame -/
def zzx (Γ : zz_C) (G : zz_G) (Q : State → Prop) (cells slots : Nat) (sh : zm_Sh) (mi : zm_Mi) (mr : zm_Mr) (pc : Nat) (ls : List (Nat × Value)) (st : List Value) (En : String) : Prop :=
  ∀ (ad : Nat → Nat) (H : Heap) (locs : List Loc) (la : Array Slot) (q : Addr) (ce : Cell), zz_H Γ G sh mi mr ls st ad H locs la → H[q]? = some ce → ce.vm = .none → (zz_s Γ).vm.findClass En = some ce.cls →
    vx_W (zz_p Γ) (zz_l Γ) (zz_e Γ) (zz_R Γ) (zz_s Γ) (zz_m Γ) (zz_a Γ) (zz_b Γ) (zz_h Γ) (zz_c Γ) H locs cells slots Q (F0 (zz_m Γ) pc la (st.map (zm_cv ad))) q
/-- a virtual call of a method of ours, by its place in the pool -/
def zz_V (own : String) (idx : Nat) (y : MethodName) (bytes : ByteArray) (maxL : Nat) (ret : Option FieldType) (n : Nat) : Prop :=
  Cond.methodLink own idx y ∈ lw_tbl ∧ Cond.instanceMethod y ∈ lw_tbl ∧ Cond.selects y.cls y y ∈ lw_tbl ∧ Cond.code y bytes maxL ret ∈ lw_tbl ∧ Cond.initialized y.cls ∈ lw_tbl ∧ (y.cls ≠ "java/lang/invoke/MethodHandle" ∧ y.cls ≠ "java/lang/invoke/VarHandle") ∧ (parseMethodDescriptor y.desc).map (fun d => d.parameters.length) = some n ∧ maxL ≤ 17
/-- a static one of the class itself, or of the JDK -/
def zz_S (own : String) (idx : Nat) (y : MethodName) (bytes : ByteArray) (maxL : Nat) (ret : Option FieldType) (n : Nat) : Prop :=
  Cond.methodLink own idx y ∈ lw_tbl ∧ Cond.static y ∈ lw_tbl ∧ Cond.code y bytes maxL ret ∈ lw_tbl ∧ Cond.initialized y.cls ∈ lw_tbl ∧ (y.cls ≠ "java/lang/invoke/MethodHandle" ∧ y.cls ≠ "java/lang/invoke/VarHandle") ∧ (parseMethodDescriptor y.desc).map (fun d => d.parameters.length) = some n ∧ maxL ≤ 17
/-- a static one with handlers -/
def zz_SH (own : String) (idx : Nat) (y : MethodName) (bytes : ByteArray) (maxL : Nat) (ret : Option FieldType) (hh : List (Nat × Nat × Nat × Nat)) (n : Nat) : Prop :=
  Cond.methodLink own idx y ∈ lw_tbl ∧ Cond.static y ∈ lw_tbl ∧ Cond.codeWith y bytes maxL ret hh ∈ lw_tbl ∧ Cond.initialized y.cls ∈ lw_tbl ∧ (y.cls ≠ "java/lang/invoke/MethodHandle" ∧ y.cls ≠ "java/lang/invoke/VarHandle") ∧ (parseMethodDescriptor y.desc).map (fun d => d.parameters.length) = some n ∧ maxL ≤ 17
/-- a constructor -/
def zz_I (own : String) (idx : Nat) (y : MethodName) (bytes : ByteArray) (maxL : Nat) (n : Nat) : Prop :=
  Cond.methodLink own idx y ∈ lw_tbl ∧ Cond.instanceMethod y ∈ lw_tbl ∧ y.name = "<init>" ∧ Cond.code y bytes maxL none ∈ lw_tbl ∧ Cond.initialized y.cls ∈ lw_tbl ∧ (y.cls ≠ "java/lang/invoke/MethodHandle" ∧ y.cls ≠ "java/lang/invoke/VarHandle") ∧ (parseMethodDescriptor y.desc).map (fun d => d.parameters.length) = some n ∧ maxL ≤ 17
/-- a private constructor of a nest mate -/
def zz_IN (own host : String) (idx : Nat) (y : MethodName) (bytes : ByteArray) (maxL : Nat) (n : Nat) : Prop :=
  (own, idx, y, host) ∈ zk_nest ∧ Cond.instanceMethod y ∈ lw_tbl ∧ y.name = "<init>" ∧ Cond.code y bytes maxL none ∈ lw_tbl ∧ Cond.initialized y.cls ∈ lw_tbl ∧ (y.cls ≠ "java/lang/invoke/MethodHandle" ∧ y.cls ≠ "java/lang/invoke/VarHandle") ∧ (parseMethodDescriptor y.desc).map (fun d => d.parameters.length) = some n ∧ maxL ≤ 17
/-- a private static of a nest mate -/
def zz_SN (own host : String) (idx : Nat) (y : MethodName) (bytes : ByteArray) (maxL : Nat) (ret : Option FieldType) (n : Nat) : Prop :=
  (own, idx, y, host) ∈ zk_nest ∧ Cond.static y ∈ lw_tbl ∧ Cond.code y bytes maxL ret ∈ lw_tbl ∧ Cond.initialized y.cls ∈ lw_tbl ∧ (y.cls ≠ "java/lang/invoke/MethodHandle" ∧ y.cls ≠ "java/lang/invoke/VarHandle") ∧ (parseMethodDescriptor y.desc).map (fun d => d.parameters.length) = some n ∧ maxL ≤ 17
theorem zz_np {y : MethodName} {n : Nat} (h : (parseMethodDescriptor y.desc).map (fun d => d.parameters.length) = some n) : ∀ sig, parseMethodDescriptor y.desc = some sig → n = sig.parameters.length := fun sig hs => by
  rw [hs] at h
  exact (Option.some.inj h).symm
section ZC
variable {Γ : zz_C} {G : zz_G} {Q : State → Prop} {cells slots : Nat} {sh : zm_Sh} {mi : zm_Mi} {mr : zm_Mr} {pc : Nat} {ls : List (Nat × Value)} {st stk : List Value} {own : String} {cc : ByteArray} {d mc ms : Nat}
variable {y : MethodName} {bytes : ByteArray} {maxL d1 mc1 ms1 n idx : Nat} {ret : Option FieldType} {As : List Value} {Qr : Option Value → zm_Sh → zm_Mi → zm_Mr → Prop} {Qx : String → zm_Sh → zm_Mi → zm_Mr → Prop}
theorem zz_locals (hd : d1 + 1 ≤ d) (h17 : maxL ≤ 17) : 8 + (maxL + 11) + (zz_rm d1 mc1 ms1).locals ≤ (zz_rm d mc ms).locals := by
  show 8 + (maxL + 11) + 36 * d1 ≤ 36 * d
  omega
theorem zz_words {w : Cond} (K : zk_K G.1 G.2.1 (zz_s Γ)) (hw : w ∈ lw_tbl) (hk : zk_ok w = true) : ∀ v ∈ [w], ∀ (a' : Array Value) (U : State), (zz_s Γ).WarmedH U.vm → v.before a' U = true := fun v hv a' U hW => by
  rw [List.mem_singleton] at hv
  subst hv
  exact zk_word hW hk (zk_w K hw hk (args := #[]))
theorem zz_pre {ad : Nat → Nat} {H : Heap} {locs : List Loc} {la : Array Slot} {args : List Value} (X : zz_X Γ G own cc d mc ms) (h : zz_H Γ G sh mi mr ls stk ad H locs la) : ∀ U : State, U.heap = H → (zz_s Γ).WarmedH U.vm → va_Pc (args.map (zm_cv ad)) (fun U => zm_P G.1 G.2.1 ad sh mi mr U.heap ∧ zk_K G.1 G.2.1 U) (args.map (zm_cv ad)).toArray U := fun U hU hW =>
  ⟨rfl, by rw [hU]; exact h.1, zk_K.moved X.2.2.2.2.2.2.1 hW (by rw [hU]; exact h.2.1.1) (fun q hq hA => by rw [hU]; exact h.2.1.2.1 q hq hA)⟩
/-- behind a call -/
theorem zz_behind (kk : ∀ v sh' mi' mr', Qr v sh' mi' mr' → (∀ x, sh x ≠ none → sh' x = sh x) → zz Γ G Q (cells + mc1) (slots + ms1) sh' mi' mr' (pc + 3) ls (v.toList ++ st)) (kx : ∀ En sh' mi' mr', Qx En sh' mi' mr' → (∀ x, sh x ≠ none → sh' x = sh x) → zzx Γ G Q (cells + mc1) (slots + ms1) sh' mi' mr' pc ls st En)
    {ad : Nat → Nat} {H : Heap} {locs : List Loc} {la : Array Slot} {stv : List Value} {a9 : Array Value} (h : zz_H Γ G sh mi mr ls stk ad H locs la) (h2 : zm_oks sh st)
    (hr : vx_Run (zz_p Γ) (zz_l Γ) (zz_e Γ) (zz_R Γ) (zz_s Γ) (zz_m Γ) (zz_a Γ) (zz_b Γ) (zz_h Γ) (zz_c Γ) H locs cells slots mc1 ms1 (F0 (zz_m Γ) pc la stv) (st.map (zm_cv ad)) (zz_Qr G.1 G.2.1 ad sh Qr a9) (zz_Qx G.1 G.2.1 ad sh Qx) (zz_A G.2.1)) : zz_W Γ H locs cells slots Q (F0 (zz_m Γ) pc la stv) := by
  have key : ∀ {ad' : Nat → Nat} {sh' : zm_Sh} {mi' : zm_Mi} {mr' : zm_Mr} {H1 : Heap} {locs1 : List Loc}, zm_P G.1 G.2.1 ad' sh' mi' mr' H1 → (∀ x, sh x ≠ none → ad' x = ad x ∧ sh' x = sh x) → va_S (zz_A G.2.1) (zz_s Γ).heap H1 locs1 → zz_H Γ G sh' mi' mr' ls st ad' H1 locs1 la ∧ st.map (zm_cv ad') = st.map (zm_cv ad) := by
    intro ad' sh' mi' mr' H1 locs1 hP hag hS
    have hcv : ∀ v, zm_ok sh v → zm_cv ad' v = zm_cv ad v := fun v hv => by
      cases v with
      | ref x =>
        show Value.ref (ad' x) = .ref (ad x)
        rw [(hag x hv).1]
      | _ => rfl
    have hok : ∀ v, zm_ok sh v → zm_ok sh' v := fun v hv => by
      cases v with
      | ref x =>
        show sh' x ≠ none
        rw [(hag x hv).2]
        exact hv
      | _ => trivial
    refine ⟨⟨hP, hS, fun x hx => ?_, fun q hq => ⟨hok _ (h.2.2.2.1 q hq).1, (h.2.2.2.1 q hq).2⟩, fun v hv => hok v (h2 v hv), ?_⟩, List.map_congr_left fun v hv => hcv v (h2 v hv)⟩
    · obtain ⟨e1, e2⟩ := h.2.2.1 x hx
      have hx2 : sh x ≠ none := by rw [e2]; exact hx
      exact ⟨(hag x hx2).1.trans e1, (hag x hx2).2.trans e2⟩
    · have e : zz_ls ad' ls = zz_ls ad ls := List.map_congr_left fun q hq => by rw [hcv q.2 (h.2.2.2.1 q hq).1]
      rw [e]
      exact h.2.2.2.2.2
  intro T hT X
  rcases hr T hT X with ⟨v, st₀, t, T', L, h0, X', hL, e1, e2, ⟨v', ad', sh', mi', mr', hv, hq, hP, hag, hvk, hF⟩, go⟩ | ⟨q, st₀, t, T', L, E9, ce, h0, X', hL, e1, e2, ⟨ad', sh', mi', mr', hq, hP, hag, hF⟩, hce, hcv, hcl, go⟩
  · cases hv
    obtain ⟨-, -, k3⟩ := vx_keep (A0 := zz_A G.2.1) h0 e1 h.2.1 (fun _ _ z => z) (fun _ z => z) hL hF
    obtain ⟨g1, g2⟩ := key (H1 := T'.heap) (by rw [e1]; exact hP) hag k3
    have hz2 : zm_oks sh' (v'.toList ++ st) := by
      intro z hz
      rcases List.mem_append.mp hz with hz | hz
      · cases v' with
        | none => cases hz
        | some w =>
          rcases List.mem_singleton.mp hz with rfl
          exact hvk _ rfl
      · exact g1.oks z hz
    obtain ⟨t2, a1, b1⟩ := kk v' sh' mi' mr' hq (fun x hx => (hag x hx).2) ad' T'.heap (locs ++ L) la (g1.ws hz2) T' rfl X'
    refine ⟨t2, go t2 ?_, b1⟩
    rw [List.map_append, g2] at a1
    cases v' with
    | none => exact a1
    | some w => exact a1
  · obtain ⟨-, -, k3⟩ := vx_keep (A0 := zz_A G.2.1) h0 e1 h.2.1 (fun _ _ z => z) (fun _ z => z) hL hF
    obtain ⟨g1, g2⟩ := key (H1 := T'.heap) (by rw [e1]; exact hP) hag k3
    obtain ⟨t2, a1, b1⟩ := kx E9 sh' mi' mr' hq (fun x hx => (hag x hx).2) ad' T'.heap (locs ++ L) la q ce g1 (by rw [e1]; exact hce) hcv hcl T' rfl X'
    rw [g2] at a1
    exact ⟨t2, go.trans a1, b1⟩
theorem zz_fix (X : zz_X Γ G own cc d mc ms) : CallFix (zz_p Γ) (zz_m Γ) (zz_c Γ) cc G.2.2.1 (zz_s Γ) (zz_a Γ) [] own := ⟨X.1, X.2.1, X.2.2.1, X.2.2.2.1, fun _ h => nomatch h⟩
theorem zz_room {ad : Nat → Nat} {la : Array Slot} {stv : List Value} (hr : (st.map fun v => v.category).sum ≤ 8) : 2 * (F0 (zz_m Γ) pc la stv).monitorRoom + ((st.map (zm_cv ad)).map fun v => v.category).sum ≤ 8 := lv_room (by rw [zm_cv_cats]; exact hr)
theorem zm_rev (ad : Nat → Nat) (As : List Value) (st : List Value) : (As.reverse ++ st).map (zm_cv ad) = (As.map (zm_cv ad)).reverse ++ st.map (zm_cv ad) := by rw [List.map_append, List.map_reverse]
theorem zz_oks_app (h : zm_oks sh (As.reverse ++ st)) : zm_oks sh st := fun v hv => h v (List.mem_append_right _ hv)
theorem zz_oks_rev {b : Nat} (h : zm_oks sh (As.reverse ++ .ref b :: st)) : zm_oks sh (.ref b :: As) := by
  intro v hv
  rcases List.mem_cons.mp hv with rfl | hv
  · exact h _ (List.mem_append_right _ List.mem_cons_self)
  · exact h v (List.mem_append_left _ (List.mem_reverse.mpr hv))
theorem zz_callV (X : zz_X Γ G own cc d mc ms) (V : zz_V own idx y bytes maxL ret n) {b ci N : Nat} {T : u_T} (hM : zz_Con y (.code y bytes maxL ret) d1 mc1 ms1 (.ref b :: As) sh mi mr Qr Qx) (hb : sh b = some (0, ci)) (hcl : vwCl[ci]? = some (y.cls, T, N)) (hst : stk = As.reverse ++ .ref b :: st) (hn : As.length = n) (hd : d1 + 1 ≤ d) (hr : (st.map fun v => v.category).sum ≤ 8) (h1 : cells + mc1 ≤ mc) (h2 : slots + ms1 ≤ ms) (hdg : decode cc pc = .ok (.invokevirtual idx, 3))
    (kk : ∀ v sh' mi' mr', Qr v sh' mi' mr' → (∀ x, sh x ≠ none → sh' x = sh x) → zz Γ G Q (cells + mc1) (slots + ms1) sh' mi' mr' (pc + 3) ls (v.toList ++ st)) (kx : ∀ En sh' mi' mr', Qx En sh' mi' mr' → (∀ x, sh x ≠ none → sh' x = sh x) → zzx Γ G Q (cells + mc1) (slots + ms1) sh' mi' mr' pc ls st En) : zz Γ G Q cells slots sh mi mr pc ls stk := by
  intro ad H locs la h
  obtain ⟨v1, v2, v3, v4, v5, v6, v7, v8⟩ := V
  have K := X.2.2.2.2.2.2.1
  have hR := X.2.2.2.2.2.2.2
  subst hst
  have hoks := h.oks
  obtain ⟨⟨L, hL, hP, hD⟩, -, -⟩ := id h.1
  obtain ⟨q, hq, ha⟩ := zm_at (D := G.1) (ad := ad) (mi := mi) (mr := mr) hL hb (fun q => nomatch q)
  refine zz_behind (a9 := (Value.ref (ad b) :: As.map (zm_cv ad)).toArray) kk kx h (zm_ot (zz_oks_app hoks)) ?_
  rw [zm_rev]
  refine vx_runV (As := As.map (zm_cv ad)) (b := ad b) (zz_fix X) (hM _ G.1 G.2.1 ad X.2.2.2.2.2.1 (zz_oks_rev hoks)) (C := y.cls) (index := idx) (n := n) (bytes := bytes) (maxL := maxL) (ret := ret)
    ⟨⟨rfl, rfl, by rw [hR]; exact hd, by rw [hR]; exact zz_locals hd v8, zz_words K v4 rfl, List.mem_singleton.mpr rfl, zk_w K v4 rfl, zk_w K v5 rfl, v6, zz_np v7, zk_w K v1 rfl⟩, zk_w K v2 rfl, zk_w K v3 rfl⟩
    ⟨zz_blind, va_recv (D := G.1.1) (cl := vwCl) K.1 hP hcl ha, zz_pre (args := .ref b :: As) X h⟩ rfl (by rw [List.length_map]; exact hn) ((zz_sz X h).trans X.2.2.1) rfl (zz_room hr) hdg ⟨by rw [hR]; exact h1, by rw [hR]; exact h2⟩
theorem zz_callS (X : zz_X Γ G own cc d mc ms) (V : zz_S own idx y bytes maxL ret n) (hM : zz_Con y (.code y bytes maxL ret) d1 mc1 ms1 As sh mi mr Qr Qx) (hst : stk = As.reverse ++ st) (hn : As.length = n) (hd : d1 + 1 ≤ d) (hr : (st.map fun v => v.category).sum ≤ 8) (h1 : cells + mc1 ≤ mc) (h2 : slots + ms1 ≤ ms) (hdg : decode cc pc = .ok (.invokestatic idx, 3))
    (kk : ∀ v sh' mi' mr', Qr v sh' mi' mr' → (∀ x, sh x ≠ none → sh' x = sh x) → zz Γ G Q (cells + mc1) (slots + ms1) sh' mi' mr' (pc + 3) ls (v.toList ++ st)) (kx : ∀ En sh' mi' mr', Qx En sh' mi' mr' → (∀ x, sh x ≠ none → sh' x = sh x) → zzx Γ G Q (cells + mc1) (slots + ms1) sh' mi' mr' pc ls st En) : zz Γ G Q cells slots sh mi mr pc ls stk := by
  intro ad H locs la h
  obtain ⟨v1, v2, v4, v5, v6, v7, v8⟩ := V
  have K := X.2.2.2.2.2.2.1
  have hR := X.2.2.2.2.2.2.2
  subst hst
  have hoks := h.oks
  refine zz_behind (a9 := (As.map (zm_cv ad)).toArray) kk kx h (zz_oks_app hoks) ?_
  rw [zm_rev]
  exact vx_runS (As := As.map (zm_cv ad)) (zz_fix X) (hM _ G.1 G.2.1 ad X.2.2.2.2.2.1 (fun v hv => hoks v (List.mem_append_left _ (List.mem_reverse.mpr hv)))) (index := idx) (n := n) (bytes := bytes) (maxL := maxL) (ret := ret)
    ⟨⟨rfl, rfl, by rw [hR]; exact hd, by rw [hR]; exact zz_locals hd v8, zz_words K v4 rfl, List.mem_singleton.mpr rfl, zk_w K v4 rfl, zk_w K v5 rfl, v6, zz_np v7, zk_w K v1 rfl⟩, zk_w K v2 rfl⟩
    ⟨zz_blind, zz_pre X h⟩ rfl (by rw [List.length_map]; exact hn) ((zz_sz X h).trans X.2.2.1) rfl (zz_room hr) hdg ⟨by rw [hR]; exact h1, by rw [hR]; exact h2⟩
theorem zz_callSH {hh : List (Nat × Nat × Nat × Nat)} (X : zz_X Γ G own cc d mc ms) (V : zz_SH own idx y bytes maxL ret hh n) (hM : zz_Con y (.codeWith y bytes maxL ret hh) d1 mc1 ms1 As sh mi mr Qr Qx) (hst : stk = As.reverse ++ st) (hn : As.length = n) (hd : d1 + 1 ≤ d) (hr : (st.map fun v => v.category).sum ≤ 8) (h1 : cells + mc1 ≤ mc) (h2 : slots + ms1 ≤ ms) (hdg : decode cc pc = .ok (.invokestatic idx, 3))
    (kk : ∀ v sh' mi' mr', Qr v sh' mi' mr' → (∀ x, sh x ≠ none → sh' x = sh x) → zz Γ G Q (cells + mc1) (slots + ms1) sh' mi' mr' (pc + 3) ls (v.toList ++ st)) (kx : ∀ En sh' mi' mr', Qx En sh' mi' mr' → (∀ x, sh x ≠ none → sh' x = sh x) → zzx Γ G Q (cells + mc1) (slots + ms1) sh' mi' mr' pc ls st En) : zz Γ G Q cells slots sh mi mr pc ls stk := by
  intro ad H locs la h
  obtain ⟨v1, v2, v4, v5, v6, v7, v8⟩ := V
  have K := X.2.2.2.2.2.2.1
  have hR := X.2.2.2.2.2.2.2
  subst hst
  have hoks := h.oks
  refine zz_behind (a9 := (As.map (zm_cv ad)).toArray) kk kx h (zz_oks_app hoks) ?_
  rw [zm_rev]
  exact vx_runSX (As := As.map (zm_cv ad)) (zz_fix X) (hM _ G.1 G.2.1 ad X.2.2.2.2.2.1 (fun v hv => hoks v (List.mem_append_left _ (List.mem_reverse.mpr hv)))) (index := idx) (n := n) (bytes := bytes) (maxL := maxL) (ret := ret) (hh := hh)
    ⟨⟨rfl, rfl, by rw [hR]; exact hd, by rw [hR]; exact zz_locals hd v8, zz_words K v4 rfl, List.mem_singleton.mpr rfl⟩, zk_w K v4 rfl, zk_w K v5 rfl, v6, zz_np v7, zk_w K v1 rfl, zk_w K v2 rfl⟩
    ⟨zz_blind, zz_pre X h⟩ rfl (by rw [List.length_map]; exact hn) ((zz_sz X h).trans X.2.2.1) rfl (zz_room hr) hdg ⟨by rw [hR]; exact h1, by rw [hR]; exact h2⟩
theorem zz_callSN {host : String} (X : zz_X Γ G own cc d mc ms) (V : zz_SN own host idx y bytes maxL ret n) (hM : zz_Con y (.code y bytes maxL ret) d1 mc1 ms1 As sh mi mr Qr Qx) (hst : stk = As.reverse ++ st) (hn : As.length = n) (hd : d1 + 1 ≤ d) (hr : (st.map fun v => v.category).sum ≤ 8) (h1 : cells + mc1 ≤ mc) (h2 : slots + ms1 ≤ ms) (hdg : decode cc pc = .ok (.invokestatic idx, 3))
    (kk : ∀ v sh' mi' mr', Qr v sh' mi' mr' → (∀ x, sh x ≠ none → sh' x = sh x) → zz Γ G Q (cells + mc1) (slots + ms1) sh' mi' mr' (pc + 3) ls (v.toList ++ st)) (kx : ∀ En sh' mi' mr', Qx En sh' mi' mr' → (∀ x, sh x ≠ none → sh' x = sh x) → zzx Γ G Q (cells + mc1) (slots + ms1) sh' mi' mr' pc ls st En) : zz Γ G Q cells slots sh mi mr pc ls stk := by
  intro ad H locs la h
  obtain ⟨v1, v2, v4, v5, v6, v7, v8⟩ := V
  have K := X.2.2.2.2.2.2.1
  have hR := X.2.2.2.2.2.2.2
  subst hst
  have hoks := h.oks
  refine zz_behind (a9 := (As.map (zm_cv ad)).toArray) kk kx h (zz_oks_app hoks) ?_
  rw [zm_rev]
  exact vx_runSN (As := As.map (zm_cv ad)) (zz_fix X) (hM _ G.1 G.2.1 ad X.2.2.2.2.2.1 (fun v hv => hoks v (List.mem_append_left _ (List.mem_reverse.mpr hv)))) (index := idx) (n := n) (bytes := bytes) (maxL := maxL) (ret := ret) (host := host)
    ⟨⟨⟨rfl, rfl, by rw [hR]; exact hd, by rw [hR]; exact zz_locals hd v8, zz_words K v4 rfl, List.mem_singleton.mpr rfl⟩, zk_w K v4 rfl, zk_w K v5 rfl, v6, zz_np v7, va_Nw.use rfl (K.2.2.2.2.1 _ v1)⟩, zk_w K v2 rfl, trivial⟩
    ⟨zz_blind, zz_pre X h⟩ rfl (by rw [List.length_map]; exact hn) ((zz_sz X h).trans X.2.2.1) rfl (zz_room hr) hdg ⟨by rw [hR]; exact h1, by rw [hR]; exact h2⟩
theorem zz_callI (X : zz_X Γ G own cc d mc ms) (V : zz_I own idx y bytes maxL n) {b : Nat} (hM : zz_Con y (.code y bytes maxL none) d1 mc1 ms1 (.ref b :: As) sh mi mr Qr Qx) (hst : stk = As.reverse ++ .ref b :: st) (hn : As.length = n) (hd : d1 + 1 ≤ d) (hr : (st.map fun v => v.category).sum ≤ 8) (h1 : cells + mc1 ≤ mc) (h2 : slots + ms1 ≤ ms) (hdg : decode cc pc = .ok (.invokespecial idx, 3))
    (kk : ∀ v sh' mi' mr', Qr v sh' mi' mr' → (∀ x, sh x ≠ none → sh' x = sh x) → zz Γ G Q (cells + mc1) (slots + ms1) sh' mi' mr' (pc + 3) ls (v.toList ++ st)) (kx : ∀ En sh' mi' mr', Qx En sh' mi' mr' → (∀ x, sh x ≠ none → sh' x = sh x) → zzx Γ G Q (cells + mc1) (slots + ms1) sh' mi' mr' pc ls st En) : zz Γ G Q cells slots sh mi mr pc ls stk := by
  intro ad H locs la h
  obtain ⟨v1, v2, v3, v4, v5, v6, v7, v8⟩ := V
  have K := X.2.2.2.2.2.2.1
  have hR := X.2.2.2.2.2.2.2
  subst hst
  have hoks := h.oks
  refine zz_behind (a9 := (Value.ref (ad b) :: As.map (zm_cv ad)).toArray) kk kx h (zm_ot (zz_oks_app hoks)) ?_
  rw [zm_rev]
  exact vx_runI (As := As.map (zm_cv ad)) (b := ad b) (zz_fix X) (hM _ G.1 G.2.1 ad X.2.2.2.2.2.1 (zz_oks_rev hoks)) (index := idx) (n := n) (bytes := bytes) (maxL := maxL)
    ⟨⟨rfl, rfl, by rw [hR]; exact hd, by rw [hR]; exact zz_locals hd v8, zz_words K v4 rfl, List.mem_singleton.mpr rfl, zk_w K v4 rfl, zk_w K v5 rfl, v6, zz_np v7, zk_w K v1 rfl⟩, v3, zk_w K v2 rfl⟩
    ⟨zz_blind, zz_pre (args := .ref b :: As) X h⟩ rfl (by rw [List.length_map]; exact hn) ((zz_sz X h).trans X.2.2.1) rfl (zz_room hr) hdg ⟨by rw [hR]; exact h1, by rw [hR]; exact h2⟩
theorem zz_objInit (X : zz_X Γ G own cc d mc ms) (hl : Cond.methodLink own idx Lib.objectInit ∈ lw_tbl) (hi : Cond.instanceMethod Lib.objectInit ∈ lw_tbl) (hc : Cond.code Lib.objectInit ⟨#[0xb1]⟩ 1 none ∈ lw_tbl) {b : Nat} (hd : 1 ≤ d) (hr : (st.map fun v => v.category).sum ≤ 8) (hdg : decode cc pc = .ok (.invokespecial idx, 3)) (kk : zz Γ G Q cells slots sh mi mr (pc + 3) ls st) : zz Γ G Q cells slots sh mi mr pc ls (.ref b :: st) := by
  intro ad H locs la h
  have K := X.2.2.2.2.2.2.1
  have hR := X.2.2.2.2.2.2.2
  have hrm := zz_room (Γ := Γ) (pc := pc) (ad := ad) (la := la) (stv := (.ref b :: st : List Value).map (zm_cv ad)) hr
  refine W.objInit X.1 X.2.1 X.2.2.2.1 (zk_w K hl rfl) (zk_w K hi rfl) (zk_w K hc rfl) rfl (zz_sz X h) rfl hdg (by rw [hR]; exact hd) ?_ (kk ad H locs la (h.ws (zm_ot h.oks)))
  rw [hR]
  show _ ≤ 36 * d
  omega
end ZC
end
section
/-! ===== ends, throws, catches, the JDK's own ===== -/
theorem va_F.of {E : zz_E} {u t : State} {H : Heap} {locs : List Loc} (h : va_S (zz_A E) u.heap H locs) (ht : t.heap = H) : va_F (zz_A E) u t := ⟨by rw [ht]; exact h.1, fun q h1 h2 => by rw [ht]; exact h.2.1 q h1 h2⟩
theorem zm_P.kept {D : zz_D} {E : zz_E} {ad : Nat → Nat} {sh : zm_Sh} {mi : zm_Mi} {mr : zm_Mr} {H H1 : Heap} (h : zm_P D E ad sh mi mr H) (hq : ∀ q : Nat, q < H.size → H1[q]? = H[q]?) : zm_P D E ad sh mi mr H1 := by
  obtain ⟨⟨L, hL, hP, hD⟩, hr, h9⟩ := h
  exact ⟨⟨L, hL, hP.kept (fun k q hk => hq q.1 ((hP k q hk).lt)), hD⟩, hr, h9⟩
/-- the words of a throw of the class cls at the pool's places -/
def zz_T (own : String) (ik is ic : Nat) (cls text : String) : Prop :=
  Bundle.fit cls = true ∧ Cond.classLink own ik cls ∈ lw_tbl ∧ Cond.initialized cls ∈ lw_tbl ∧ (own, is, text) ∈ zk_str ∧ (vx_atS own ic cls ["java/lang/RuntimeException", "java/lang/Exception"]).all (fun w => decide (w ∈ lw_tbl) && zk_ok w && vx_ot w) = true ∧ vx_ot (Cond.classLink own ik cls) = true ∧ vx_ot (Cond.initialized cls) = true
section ZE
variable {Γ : zz_C} {G : zz_G} {cells slots : Nat} {sh : zm_Sh} {mi : zm_Mi} {mr : zm_Mr} {pc : Nat} {ls : List (Nat × Value)} {st : List Value} {own : String} {cc : ByteArray} {d mc ms : Nat} {Qr : Option Value → zm_Sh → zm_Mi → zm_Mr → Prop} {Qx : String → zm_Sh → zm_Mi → zm_Mr → Prop}
theorem zz_iret (X : zz_X Γ G own cc d mc ms) {v : Int32} {ty : FieldType} (hr : (zz_h Γ).sig.returnType = some ty) (hn : narrow ty (.int v) = .int v) (hc : cells ≤ mc) (hs : slots ≤ ms) (hdg : decode cc pc = .ok (.ireturn, 1)) (hq : Qr (some (.int v)) sh mi mr) : zz Γ G (zz_End Γ G Qr Qx mc ms) cells slots sh mi mr pc ls [.int v] := by
  intro ad H locs la h
  refine W.widen hc hs (vx_ret ?_)
  exact W.zret X.1 X.2.1 hr hn (fun t ht _ => ⟨some (.int v), ad, sh, mi, mr, rfl, hq, by rw [ht]; exact h.1, h.2.2.1, fun w hw => (by cases hw; trivial), va_F.of h.2.1 ht⟩) h.2.1.2.2 hdg X.2.2.2.2.1
theorem zz_vret (X : zz_X Γ G own cc d mc ms) (hr : (zz_h Γ).sig.returnType = none) (hc : cells ≤ mc) (hs : slots ≤ ms) (hdg : decode cc pc = .ok (.return_, 1)) (hq : Qr none sh mi mr) : zz Γ G (zz_End Γ G Qr Qx mc ms) cells slots sh mi mr pc ls [] := by
  intro ad H locs la h
  refine W.widen hc hs (vx_ret ?_)
  exact W.vret X.1 X.2.1 hr (fun t ht _ => ⟨none, ad, sh, mi, mr, rfl, hq, by rw [ht]; exact h.1, h.2.2.1, (fun w hw => nomatch hw), va_F.of h.2.1 ht⟩) h.2.1.2.2 hdg X.2.2.2.2.1
theorem zz_aret (X : zz_X Γ G own cc d mc ms) {l : Nat} {ty : FieldType} (hr : (zz_h Γ).sig.returnType = some ty) (hty : (∃ n, ty = .object n) ∨ ∃ t, ty = .array t) (hc : cells ≤ mc) (hs : slots ≤ ms) (hdg : decode cc pc = .ok (.areturn, 1)) (hq : Qr (some (.ref l)) sh mi mr) : zz Γ G (zz_End Γ G Qr Qx mc ms) cells slots sh mi mr pc ls [.ref l] := by
  intro ad H locs la h
  refine W.widen hc hs (vx_ret ?_)
  exact W.aret (v := .ref (ad l)) X.1 X.2.1 hr hty (Or.inr ⟨_, rfl⟩) (fun t ht _ => ⟨some (.ref l), ad, sh, mi, mr, rfl, hq, by rw [ht]; exact h.1, h.2.2.1, fun w hw => (by cases hw; exact zm_oh h.oks), va_F.of h.2.1 ht⟩) h.2.1.2.2 hdg X.2.2.2.2.1
/-- not caught here -/
theorem zz_out (X : zz_X Γ G own cc d mc ms) (hT : ∀ x ∈ (zz_c Γ).exceptionTable.toList, False) {En : String} (hc : cells ≤ mc) (hs : slots ≤ ms) (hq : Qx En sh mi mr) : zzx Γ G (zz_End Γ G Qr Qx mc ms) cells slots sh mi mr pc ls st En := by
  intro ad H locs la q ce h h1 h2 h3
  exact vx_out (fun x hx => absurd hx (hT x)) X.2.2.2.2.1 h1 h2 h3 (fun t ht _ => ⟨ad, sh, mi, mr, hq, by rw [ht]; exact h.1, h.2.2.1, va_F.of h.2.1 ht⟩) h.2.1.2.2 hc hs
theorem zz_throw (X : zz_X Γ G own cc d mc ms) (hT : ∀ x ∈ (zz_c Γ).exceptionTable.toList, False) {ik is ic : Nat} {cls text : String} (V : zz_T own ik is ic cls text) (d0 : decode cc pc = .ok (.new ik, 3)) (d3 : decode cc (pc + 3) = .ok (.dup, 1)) (d4 : decode cc (pc + 4) = .ok (.ldc is, 2)) (d6 : decode cc (pc + 6) = .ok (.invokespecial ic, 3)) (d9 : decode cc (pc + 9) = .ok (.athrow, 1))
    (hd : 6 ≤ d) (hr : (st.map fun v => v.category).sum ≤ 8) (hc : cells + 1 ≤ mc) (hs : slots + 6 ≤ ms) (hq : Qx cls sh mi mr) : zz Γ G (zz_End Γ G Qr Qx mc ms) cells slots sh mi mr pc ls st := by
  intro ad H locs la h
  obtain ⟨t1, t2, t3, t4, t5, t6, t7⟩ := V
  have K := X.2.2.2.2.2.2.1
  have hR := X.2.2.2.2.2.2.2
  obtain ⟨sa, hsa⟩ := K.2.2.2.2.2.2.1 _ t4
  have t5' : ∀ w ∈ vx_atS own ic cls ["java/lang/RuntimeException", "java/lang/Exception"], w ∈ lw_tbl ∧ zk_ok w = true ∧ vx_ot w = true := fun w hw => by
    have h5 := List.all_eq_true.mp t5 w hw
    simp only [Bool.and_eq_true, decide_eq_true_eq] at h5
    exact ⟨h5.1.1, h5.1.2, h5.2⟩
  refine vx_throwS (names := ["java/lang/RuntimeException", "java/lang/Exception"]) X.1 X.2.1 X.2.2.2.2.2.1 X.2.2.2.1 t1 (fun n hn => ?_) (zk_w K t2 rfl) (zk_w K t3 rfl) hsa (fun w hw => zk_w K (t5' w hw).1 (t5' w hw).2.1) (fun w hw => ?_) K.2.1 K.2.2.1 h.2.1 (zz_sz X h) d0 d3 d4 d6 d9 (fun x hx => absurd hx (hT x)) ?_ ?_ (by rw [hR]; exact hc) (by rw [hR]; exact hs) X.2.2.2.2.1 (fun t _ hz ho => ⟨ad, sh, mi, mr, hq, h.1.kept ho, h.2.2.1, ?_⟩) h.2.1.2.2 hc hs
  · rcases List.mem_cons.mp hn with rfl | hn
    · decide +kernel
    · rcases List.mem_singleton.mp hn with rfl
      decide +kernel
  · rcases List.mem_cons.mp hw with rfl | hw
    · exact t6
    · rcases List.mem_cons.mp hw with rfl | hw
      · exact t7
      · exact (t5' w hw).2.2
  · rw [hR]
    show 2 + 3 < d
    omega
  · rw [hR, zm_cv_cats]
    show _ + (13 * (2 + 1) + 43) ≤ 36 * d
    omega
  · exact ⟨Nat.le_trans h.2.1.1 hz, fun q h1 h2 => (ho q (Nat.lt_of_lt_of_le h1 h.2.1.1)).trans (h.2.1.2.1 q h1 h2)⟩
theorem zz_throwW (X : zz_X Γ G own cc d mc ms) (hT : ∀ x ∈ (zz_c Γ).exceptionTable.toList, False) {ik is ic : Nat} {cls text : String} (V : zz_T own ik is ic cls text) (d0 : decode cc pc = .ok (.new ik, 3)) (d3 : decode cc (pc + 3) = .ok (.dup, 1)) (d4 : decode cc (pc + 4) = .ok (.ldc_w is, 3)) (d6 : decode cc (pc + 7) = .ok (.invokespecial ic, 3)) (d9 : decode cc (pc + 10) = .ok (.athrow, 1))
    (hd : 6 ≤ d) (hr : (st.map fun v => v.category).sum ≤ 8) (hc : cells + 1 ≤ mc) (hs : slots + 6 ≤ ms) (hq : Qx cls sh mi mr) : zz Γ G (zz_End Γ G Qr Qx mc ms) cells slots sh mi mr pc ls st := by
  intro ad H locs la h
  obtain ⟨t1, t2, t3, t4, t5, t6, t7⟩ := V
  have K := X.2.2.2.2.2.2.1
  have hR := X.2.2.2.2.2.2.2
  obtain ⟨sa, hsa⟩ := K.2.2.2.2.2.2.1 _ t4
  have t5' : ∀ w ∈ vx_atS own ic cls ["java/lang/RuntimeException", "java/lang/Exception"], w ∈ lw_tbl ∧ zk_ok w = true ∧ vx_ot w = true := fun w hw => by
    have h5 := List.all_eq_true.mp t5 w hw
    simp only [Bool.and_eq_true, decide_eq_true_eq] at h5
    exact ⟨h5.1.1, h5.1.2, h5.2⟩
  refine vx_throwSW (names := ["java/lang/RuntimeException", "java/lang/Exception"]) X.1 X.2.1 X.2.2.2.2.2.1 X.2.2.2.1 t1 (fun n hn => ?_) (zk_w K t2 rfl) (zk_w K t3 rfl) hsa (fun w hw => zk_w K (t5' w hw).1 (t5' w hw).2.1) (fun w hw => ?_) K.2.1 K.2.2.1 h.2.1 (zz_sz X h) d0 d3 d4 d6 d9 (fun x hx => absurd hx (hT x)) ?_ ?_ (by rw [hR]; exact hc) (by rw [hR]; exact hs) X.2.2.2.2.1 (fun t _ hz ho => ⟨ad, sh, mi, mr, hq, h.1.kept ho, h.2.2.1, ?_⟩) h.2.1.2.2 hc hs
  · rcases List.mem_cons.mp hn with rfl | hn
    · decide +kernel
    · rcases List.mem_singleton.mp hn with rfl
      decide +kernel
  · rcases List.mem_cons.mp hw with rfl | hw
    · exact t6
    · rcases List.mem_cons.mp hw with rfl | hw
      · exact t7
      · exact (t5' w hw).2.2
  · rw [hR]
    show 2 + 3 < d
    omega
  · rw [hR, zm_cv_cats]
    show _ + (13 * (2 + 1) + 43) ≤ 36 * d
    omega
  · exact ⟨Nat.le_trans h.2.1.1 hz, fun q h1 h2 => (ho q (Nat.lt_of_lt_of_le h1 h.2.1.1)).trans (h.2.1.2.1 q h1 h2)⟩
variable {Q : State → Prop}
theorem zz_max (X : zz_X Γ G own cc d mc ms) {idx : Nat} (hl : Cond.methodLink own idx Lib.Math.max.name ∈ lw_tbl) (hst : Cond.static Lib.Math.max.name ∈ lw_tbl) (hini : Cond.initialized "java/lang/Math" ∈ lw_tbl) (hcd : Cond.code Lib.Math.max.name Lib.Math.max.code 2 (some .int) ∈ lw_tbl) (hd : 1 ≤ d) (hr : (st.map fun v => v.category).sum ≤ 8) (hc : cells ≤ mc) (hs : slots ≤ ms) {x y z : Int32} (hz : (if x < y then y else x) = z) (hdg : decode cc pc = .ok (.invokestatic idx, 3)) (kk : zz Γ G Q cells slots sh mi mr (pc + 3) ls (.int z :: st)) : zz Γ G Q cells slots sh mi mr pc ls (.int y :: .int x :: st) := by
  subst hz
  intro ad H locs la h
  have K := X.2.2.2.2.2.2.1
  have hR := X.2.2.2.2.2.2.2
  exact va_mmax X.1 X.2.1 (zz_sz X h).symm X.2.2.2.1 (zk_w K hl rfl) (zk_w K hst rfl) (zk_w K hini rfl) (zk_w K hcd rfl) (by rw [hR]; exact hd) (by rw [hR, zm_cv_cats]; show _ ≤ 36 * d; omega) (by rw [hR]; exact hc) (by rw [hR]; exact hs) hdg (kk ad H locs la (h.ws (zm_oc trivial (zm_ot (zm_ot h.oks)))))
theorem zz_abs (X : zz_X Γ G own cc d mc ms) {idx : Nat} (hl : Cond.methodLink own idx Lib.Math.abs.name ∈ lw_tbl) (hst : Cond.static Lib.Math.abs.name ∈ lw_tbl) (hini : Cond.initialized "java/lang/Math" ∈ lw_tbl) (hcd : Cond.code Lib.Math.abs.name Lib.Math.abs.code 1 (some .int) ∈ lw_tbl) (hd : 1 ≤ d) (hr : (st.map fun v => v.category).sum ≤ 8) (hc : cells ≤ mc) (hs : slots ≤ ms) {x z : Int32} (hz : (if 0 ≤ x then x else 0 - x) = z) (hdg : decode cc pc = .ok (.invokestatic idx, 3)) (kk : zz Γ G Q cells slots sh mi mr (pc + 3) ls (.int z :: st)) : zz Γ G Q cells slots sh mi mr pc ls (.int x :: st) := by
  subst hz
  intro ad H locs la h
  have K := X.2.2.2.2.2.2.1
  have hR := X.2.2.2.2.2.2.2
  exact va_mabs X.1 X.2.1 (zz_sz X h).symm X.2.2.2.1 (zk_w K hl rfl) (zk_w K hst rfl) (zk_w K hini rfl) (zk_w K hcd rfl) (by rw [hR]; exact hd) (by rw [hR, zm_cv_cats]; show _ ≤ 36 * d; omega) (by rw [hR]; exact hc) (by rw [hR]; exact hs) hdg (kk ad H locs la (h.ws (zm_oc trivial (zm_ot h.oks))))
theorem zz_ldc (X : zz_X Γ G own cc d mc ms) {idx : Nat} {v : Int32} (hcn : Cond.constant own idx v ∈ lw_tbl) (hdg : decode cc pc = .ok (.ldc idx, 2)) (kk : zz Γ G Q cells slots sh mi mr (pc + 2) ls (.int v :: st)) : zz Γ G Q cells slots sh mi mr pc ls st :=
  fun ad H locs la h => lv_ldc X.1 X.2.1 X.2.2.2.1 (zk_w X.2.2.2.2.2.2.1 hcn rfl) hdg (kk ad H locs la (h.ws (zm_oc trivial h.oks)))
end ZE
end
section
/-! ===== the tables' words by their places ===== -/
theorem zf_CL0 : zz_CL 0 RX0 TX0 4 tyX0 := ⟨rfl, fun w hw => by
    have h : (u_ws RX0 TX0 4).all (fun w => decide (w ∈ lw_tbl) && zk_ok w) = true := by decide +kernel
    have h5 := List.all_eq_true.mp h w hw
    simp only [Bool.and_eq_true, decide_eq_true_eq] at h5
    exact h5, tyX0_ok, nmX0, by decide +kernel, rfl, by decide +kernel⟩
theorem zf_CL1 : zz_CL 1 RX1 TX1 7 tyX1 := ⟨rfl, fun w hw => by
    have h : (u_ws RX1 TX1 7).all (fun w => decide (w ∈ lw_tbl) && zk_ok w) = true := by decide +kernel
    have h5 := List.all_eq_true.mp h w hw
    simp only [Bool.and_eq_true, decide_eq_true_eq] at h5
    exact h5, tyX1_ok, nmX1, by decide +kernel, rfl, by decide +kernel⟩
theorem zf_CL2 : zz_CL 2 RX2 TX2 9 tyX2 := ⟨rfl, fun w hw => by
    have h : (u_ws RX2 TX2 9).all (fun w => decide (w ∈ lw_tbl) && zk_ok w) = true := by decide +kernel
    have h5 := List.all_eq_true.mp h w hw
    simp only [Bool.and_eq_true, decide_eq_true_eq] at h5
    exact h5, tyX2_ok, nmX2, by decide +kernel, rfl, by decide +kernel⟩
theorem zf_CL3 : zz_CL 3 RX3 TX3 3 tyX3 := ⟨rfl, fun w hw => by
    have h : (u_ws RX3 TX3 3).all (fun w => decide (w ∈ lw_tbl) && zk_ok w) = true := by decide +kernel
    have h5 := List.all_eq_true.mp h w hw
    simp only [Bool.and_eq_true, decide_eq_true_eq] at h5
    exact h5, tyX3_ok, nmX3, by decide +kernel, rfl, by decide +kernel⟩
theorem zf_CL4 : zz_CL 4 RX4 TX4 3 tyX4 := ⟨rfl, fun w hw => by
    have h : (u_ws RX4 TX4 3).all (fun w => decide (w ∈ lw_tbl) && zk_ok w) = true := by decide +kernel
    have h5 := List.all_eq_true.mp h w hw
    simp only [Bool.and_eq_true, decide_eq_true_eq] at h5
    exact h5, tyX4_ok, nmX4, by decide +kernel, rfl, by decide +kernel⟩
theorem zf_CL5 : zz_CL 5 RX5 TX5 12 tyX5 := ⟨rfl, fun w hw => by
    have h : (u_ws RX5 TX5 12).all (fun w => decide (w ∈ lw_tbl) && zk_ok w) = true := by decide +kernel
    have h5 := List.all_eq_true.mp h w hw
    simp only [Bool.and_eq_true, decide_eq_true_eq] at h5
    exact h5, tyX5_ok, nmX5, by decide +kernel, rfl, by decide +kernel⟩
theorem zf_CL6 : zz_CL 6 RX6 TX6 31 tyX6 := ⟨rfl, fun w hw => by
    have h : (u_ws RX6 TX6 31).all (fun w => decide (w ∈ lw_tbl) && zk_ok w) = true := by decide +kernel
    have h5 := List.all_eq_true.mp h w hw
    simp only [Bool.and_eq_true, decide_eq_true_eq] at h5
    exact h5, tyX6_ok, nmX6, by decide +kernel, rfl, by decide +kernel⟩
theorem zf_F_X4_9 : zz_F RX4 9 4 0 (.array .int) true := ⟨RX4, TX4, 3, tyX4, zf_CL4, by decide, (List.mem_of_getElem? (i := 77) (by decide +kernel)), rfl, rfl, fun _ => rfl⟩
theorem zf_F_X4_15 : zz_F RX4 15 4 1 (.array .int) true := ⟨RX4, TX4, 3, tyX4, zf_CL4, by decide, (List.mem_of_getElem? (i := 78) (by decide +kernel)), rfl, rfl, fun _ => rfl⟩
theorem zf_F_X4_18 : zz_F RX4 18 4 2 .int false := ⟨RX4, TX4, 3, tyX4, zf_CL4, by decide, (List.mem_of_getElem? (i := 79) (by decide +kernel)), rfl, rfl, fun _ => rfl⟩
theorem zf_F_X5_85 : zz_F RX5 85 4 2 .int false := ⟨RX4, TX4, 3, tyX4, zf_CL4, by decide, (List.mem_of_getElem? (i := 80) (by decide +kernel)), rfl, rfl, fun h => nomatch h⟩
theorem zf_F_X5_11 : zz_F RX5 11 5 0 (.array (.object "FrameClay$Puppet")) true := ⟨RX5, TX5, 12, tyX5, zf_CL5, by decide, (List.mem_of_getElem? (i := 91) (by decide +kernel)), rfl, rfl, fun _ => rfl⟩
theorem zf_F_X5_15 : zz_F RX5 15 5 1 .int false := ⟨RX5, TX5, 12, tyX5, zf_CL5, by decide, (List.mem_of_getElem? (i := 92) (by decide +kernel)), rfl, rfl, fun _ => rfl⟩
theorem zf_F_X5_21 : zz_F RX5 21 5 2 (.array (.object "FrameClay$Voice")) true := ⟨RX5, TX5, 12, tyX5, zf_CL5, by decide, (List.mem_of_getElem? (i := 93) (by decide +kernel)), rfl, rfl, fun _ => rfl⟩
theorem zf_F_X5_25 : zz_F RX5 25 5 3 .int false := ⟨RX5, TX5, 12, tyX5, zf_CL5, by decide, (List.mem_of_getElem? (i := 94) (by decide +kernel)), rfl, rfl, fun _ => rfl⟩
theorem zf_F_X5_29 : zz_F RX5 29 5 4 (.object "FrameClay$Voice") false := ⟨RX5, TX5, 12, tyX5, zf_CL5, by decide, (List.mem_of_getElem? (i := 95) (by decide +kernel)), rfl, rfl, fun _ => rfl⟩
theorem zf_F_X5_35 : zz_F RX5 35 5 5 (.array (.object "FrameClay$Shot")) true := ⟨RX5, TX5, 12, tyX5, zf_CL5, by decide, (List.mem_of_getElem? (i := 96) (by decide +kernel)), rfl, rfl, fun _ => rfl⟩
theorem zf_F_X5_39 : zz_F RX5 39 5 6 .int false := ⟨RX5, TX5, 12, tyX5, zf_CL5, by decide, (List.mem_of_getElem? (i := 97) (by decide +kernel)), rfl, rfl, fun _ => rfl⟩
theorem zf_F_X5_42 : zz_F RX5 42 5 7 (.array .boolean) true := ⟨RX5, TX5, 12, tyX5, zf_CL5, by decide, (List.mem_of_getElem? (i := 98) (by decide +kernel)), rfl, rfl, fun _ => rfl⟩
theorem zf_F_X5_46 : zz_F RX5 46 5 8 (.array .int) true := ⟨RX5, TX5, 12, tyX5, zf_CL5, by decide, (List.mem_of_getElem? (i := 99) (by decide +kernel)), rfl, rfl, fun _ => rfl⟩
theorem zf_F_X5_50 : zz_F RX5 50 5 9 .int false := ⟨RX5, TX5, 12, tyX5, zf_CL5, by decide, (List.mem_of_getElem? (i := 100) (by decide +kernel)), rfl, rfl, fun _ => rfl⟩
theorem zf_F_X5_53 : zz_F RX5 53 5 10 .int false := ⟨RX5, TX5, 12, tyX5, zf_CL5, by decide, (List.mem_of_getElem? (i := 101) (by decide +kernel)), rfl, rfl, fun _ => rfl⟩
theorem zf_F_X5_56 : zz_F RX5 56 5 11 .int false := ⟨RX5, TX5, 12, tyX5, zf_CL5, by decide, (List.mem_of_getElem? (i := 102) (by decide +kernel)), rfl, rfl, fun _ => rfl⟩
theorem zf_F_X0_15 : zz_F RX0 15 0 0 .int true := ⟨RX0, TX0, 4, tyX0, zf_CL0, by decide, (List.mem_of_getElem? (i := 245) (by decide +kernel)), rfl, rfl, fun _ => rfl⟩
theorem zf_F_X2_31 : zz_Fr RX2 31 0 0 := ⟨RX0, TX0, 4, tyX0, zf_CL0, by decide, (List.mem_of_getElem? (i := 246) (by decide +kernel))⟩
theorem zf_F_X5_287 : zz_Fr RX5 287 0 0 := ⟨RX0, TX0, 4, tyX0, zf_CL0, by decide, (List.mem_of_getElem? (i := 247) (by decide +kernel))⟩
theorem zf_F_X0_19 : zz_F RX0 19 0 1 (.array .int) true := ⟨RX0, TX0, 4, tyX0, zf_CL0, by decide, (List.mem_of_getElem? (i := 248) (by decide +kernel)), rfl, rfl, fun _ => rfl⟩
theorem zf_F_X5_238 : zz_Fr RX5 238 0 1 := ⟨RX0, TX0, 4, tyX0, zf_CL0, by decide, (List.mem_of_getElem? (i := 249) (by decide +kernel))⟩
theorem zf_F_X0_22 : zz_F RX0 22 0 2 (.array .int) true := ⟨RX0, TX0, 4, tyX0, zf_CL0, by decide, (List.mem_of_getElem? (i := 250) (by decide +kernel)), rfl, rfl, fun _ => rfl⟩
theorem zf_F_X5_218 : zz_Fr RX5 218 0 2 := ⟨RX0, TX0, 4, tyX0, zf_CL0, by decide, (List.mem_of_getElem? (i := 251) (by decide +kernel))⟩
theorem zf_F_X0_9 : zz_F RX0 9 0 3 (.array .int) true := ⟨RX0, TX0, 4, tyX0, zf_CL0, by decide, (List.mem_of_getElem? (i := 252) (by decide +kernel)), rfl, rfl, fun _ => rfl⟩
theorem zf_F_X5_80 : zz_Fr RX5 80 0 3 := ⟨RX0, TX0, 4, tyX0, zf_CL0, by decide, (List.mem_of_getElem? (i := 253) (by decide +kernel))⟩
theorem zf_F_X3_9 : zz_F RX3 9 3 0 .boolean true := ⟨RX3, TX3, 3, tyX3, zf_CL3, by decide, (List.mem_of_getElem? (i := 341) (by decide +kernel)), rfl, rfl, fun _ => rfl⟩
theorem zf_F_X3_15 : zz_F RX3 15 3 1 (.array .int) true := ⟨RX3, TX3, 3, tyX3, zf_CL3, by decide, (List.mem_of_getElem? (i := 342) (by decide +kernel)), rfl, rfl, fun _ => rfl⟩
theorem zf_F_X3_19 : zz_F RX3 19 3 2 (.array .boolean) true := ⟨RX3, TX3, 3, tyX3, zf_CL3, by decide, (List.mem_of_getElem? (i := 343) (by decide +kernel)), rfl, rfl, fun _ => rfl⟩
theorem zf_F_X1_17 : zz_F RX1 17 1 0 (.array (.array .int)) true := ⟨RX1, TX1, 7, tyX1, zf_CL1, by decide, (List.mem_of_getElem? (i := 359) (by decide +kernel)), rfl, rfl, fun _ => rfl⟩
theorem zf_F_X2_75 : zz_Fr RX2 75 1 0 := ⟨RX1, TX1, 7, tyX1, zf_CL1, by decide, (List.mem_of_getElem? (i := 360) (by decide +kernel))⟩
theorem zf_F_X5_252 : zz_Fr RX5 252 1 0 := ⟨RX1, TX1, 7, tyX1, zf_CL1, by decide, (List.mem_of_getElem? (i := 361) (by decide +kernel))⟩
theorem zf_F_X1_20 : zz_F RX1 20 1 1 (.array .int) true := ⟨RX1, TX1, 7, tyX1, zf_CL1, by decide, (List.mem_of_getElem? (i := 362) (by decide +kernel)), rfl, rfl, fun _ => rfl⟩
theorem zf_F_X5_256 : zz_Fr RX5 256 1 1 := ⟨RX1, TX1, 7, tyX1, zf_CL1, by decide, (List.mem_of_getElem? (i := 363) (by decide +kernel))⟩
theorem zf_F_X1_24 : zz_F RX1 24 1 2 (.array .int) true := ⟨RX1, TX1, 7, tyX1, zf_CL1, by decide, (List.mem_of_getElem? (i := 364) (by decide +kernel)), rfl, rfl, fun _ => rfl⟩
theorem zf_F_X5_259 : zz_Fr RX5 259 1 2 := ⟨RX1, TX1, 7, tyX1, zf_CL1, by decide, (List.mem_of_getElem? (i := 365) (by decide +kernel))⟩
theorem zf_F_X1_27 : zz_F RX1 27 1 3 (.array .int) true := ⟨RX1, TX1, 7, tyX1, zf_CL1, by decide, (List.mem_of_getElem? (i := 366) (by decide +kernel)), rfl, rfl, fun _ => rfl⟩
theorem zf_F_X5_262 : zz_Fr RX5 262 1 3 := ⟨RX1, TX1, 7, tyX1, zf_CL1, by decide, (List.mem_of_getElem? (i := 367) (by decide +kernel))⟩
theorem zf_F_X1_30 : zz_F RX1 30 1 4 (.array .int) true := ⟨RX1, TX1, 7, tyX1, zf_CL1, by decide, (List.mem_of_getElem? (i := 368) (by decide +kernel)), rfl, rfl, fun _ => rfl⟩
theorem zf_F_X5_265 : zz_Fr RX5 265 1 4 := ⟨RX1, TX1, 7, tyX1, zf_CL1, by decide, (List.mem_of_getElem? (i := 369) (by decide +kernel))⟩
theorem zf_F_X1_33 : zz_F RX1 33 1 5 (.array .int) true := ⟨RX1, TX1, 7, tyX1, zf_CL1, by decide, (List.mem_of_getElem? (i := 370) (by decide +kernel)), rfl, rfl, fun _ => rfl⟩
theorem zf_F_X1_9 : zz_F RX1 9 1 6 .int false := ⟨RX1, TX1, 7, tyX1, zf_CL1, by decide, (List.mem_of_getElem? (i := 371) (by decide +kernel)), rfl, rfl, fun _ => rfl⟩
theorem zf_F_X2_62 : zz_F RX2 62 1 6 .int false := ⟨RX1, TX1, 7, tyX1, zf_CL1, by decide, (List.mem_of_getElem? (i := 372) (by decide +kernel)), rfl, rfl, fun h => nomatch h⟩
theorem zf_F_X5_186 : zz_F RX5 186 1 6 .int false := ⟨RX1, TX1, 7, tyX1, zf_CL1, by decide, (List.mem_of_getElem? (i := 373) (by decide +kernel)), rfl, rfl, fun h => nomatch h⟩
theorem zf_F_X2_18 : zz_F RX2 18 2 0 (.object "FrameClay$Puppet") true := ⟨RX2, TX2, 9, tyX2, zf_CL2, by decide, (List.mem_of_getElem? (i := 389) (by decide +kernel)), rfl, rfl, fun _ => rfl⟩
theorem zf_F_X5_134 : zz_Fr RX5 134 2 0 := ⟨RX2, TX2, 9, tyX2, zf_CL2, by decide, (List.mem_of_getElem? (i := 390) (by decide +kernel))⟩
theorem zf_F_X2_22 : zz_F RX2 22 2 1 .int true := ⟨RX2, TX2, 9, tyX2, zf_CL2, by decide, (List.mem_of_getElem? (i := 391) (by decide +kernel)), rfl, rfl, fun _ => rfl⟩
theorem zf_F_X5_235 : zz_Fr RX5 235 2 1 := ⟨RX2, TX2, 9, tyX2, zf_CL2, by decide, (List.mem_of_getElem? (i := 392) (by decide +kernel))⟩
theorem zf_F_X2_25 : zz_F RX2 25 2 2 .int true := ⟨RX2, TX2, 9, tyX2, zf_CL2, by decide, (List.mem_of_getElem? (i := 393) (by decide +kernel)), rfl, rfl, fun _ => rfl⟩
theorem zf_F_X2_28 : zz_F RX2 28 2 3 .int false := ⟨RX2, TX2, 9, tyX2, zf_CL2, by decide, (List.mem_of_getElem? (i := 394) (by decide +kernel)), rfl, rfl, fun _ => rfl⟩
theorem zf_F_X5_131 : zz_F RX5 131 2 3 .int false := ⟨RX2, TX2, 9, tyX2, zf_CL2, by decide, (List.mem_of_getElem? (i := 395) (by decide +kernel)), rfl, rfl, fun h => nomatch h⟩
theorem zf_F_X2_9 : zz_F RX2 9 2 4 .int false := ⟨RX2, TX2, 9, tyX2, zf_CL2, by decide, (List.mem_of_getElem? (i := 396) (by decide +kernel)), rfl, rfl, fun _ => rfl⟩
theorem zf_F_X5_122 : zz_F RX5 122 2 4 .int false := ⟨RX2, TX2, 9, tyX2, zf_CL2, by decide, (List.mem_of_getElem? (i := 397) (by decide +kernel)), rfl, rfl, fun h => nomatch h⟩
theorem zf_F_X2_15 : zz_F RX2 15 2 5 .int false := ⟨RX2, TX2, 9, tyX2, zf_CL2, by decide, (List.mem_of_getElem? (i := 398) (by decide +kernel)), rfl, rfl, fun _ => rfl⟩
theorem zf_F_X5_199 : zz_F RX5 199 2 5 .int false := ⟨RX2, TX2, 9, tyX2, zf_CL2, by decide, (List.mem_of_getElem? (i := 399) (by decide +kernel)), rfl, rfl, fun h => nomatch h⟩
theorem zf_F_X2_38 : zz_F RX2 38 2 6 (.array (.object "FrameClay$Track")) true := ⟨RX2, TX2, 9, tyX2, zf_CL2, by decide, (List.mem_of_getElem? (i := 400) (by decide +kernel)), rfl, rfl, fun _ => rfl⟩
theorem zf_F_X5_158 : zz_Fr RX5 158 2 6 := ⟨RX2, TX2, 9, tyX2, zf_CL2, by decide, (List.mem_of_getElem? (i := 401) (by decide +kernel))⟩
theorem zf_F_X2_45 : zz_F RX2 45 2 7 (.object "FrameClay$Track") true := ⟨RX2, TX2, 9, tyX2, zf_CL2, by decide, (List.mem_of_getElem? (i := 402) (by decide +kernel)), rfl, rfl, fun _ => rfl⟩
theorem zf_F_X5_167 : zz_Fr RX5 167 2 7 := ⟨RX2, TX2, 9, tyX2, zf_CL2, by decide, (List.mem_of_getElem? (i := 403) (by decide +kernel))⟩
theorem zf_F_X2_54 : zz_F RX2 54 2 8 (.object "FrameClay$Reel") true := ⟨RX2, TX2, 9, tyX2, zf_CL2, by decide, (List.mem_of_getElem? (i := 404) (by decide +kernel)), rfl, rfl, fun _ => rfl⟩
theorem zf_F_X5_182 : zz_Fr RX5 182 2 8 := ⟨RX2, TX2, 9, tyX2, zf_CL2, by decide, (List.mem_of_getElem? (i := 405) (by decide +kernel))⟩
theorem zf_F_X6_88 : zz_F RX6 88 6 0 .int false := ⟨RX6, TX6, 31, tyX6, zf_CL6, by decide, (List.mem_of_getElem? (i := 802) (by decide +kernel)), rfl, rfl, fun _ => rfl⟩
theorem zf_F_X6_7 : zz_F RX6 7 6 1 (.array .int) true := ⟨RX6, TX6, 31, tyX6, zf_CL6, by decide, (List.mem_of_getElem? (i := 803) (by decide +kernel)), rfl, rfl, fun _ => rfl⟩
theorem zf_F_X6_13 : zz_F RX6 13 6 2 (.array .int) true := ⟨RX6, TX6, 31, tyX6, zf_CL6, by decide, (List.mem_of_getElem? (i := 804) (by decide +kernel)), rfl, rfl, fun _ => rfl⟩
theorem zf_F_X6_16 : zz_F RX6 16 6 3 (.array .int) true := ⟨RX6, TX6, 31, tyX6, zf_CL6, by decide, (List.mem_of_getElem? (i := 805) (by decide +kernel)), rfl, rfl, fun _ => rfl⟩
theorem zf_F_X6_19 : zz_F RX6 19 6 4 (.array .int) true := ⟨RX6, TX6, 31, tyX6, zf_CL6, by decide, (List.mem_of_getElem? (i := 806) (by decide +kernel)), rfl, rfl, fun _ => rfl⟩
theorem zf_F_X6_99 : zz_F RX6 99 6 5 .int false := ⟨RX6, TX6, 31, tyX6, zf_CL6, by decide, (List.mem_of_getElem? (i := 807) (by decide +kernel)), rfl, rfl, fun _ => rfl⟩
theorem zf_F_X6_22 : zz_F RX6 22 6 6 (.array .int) true := ⟨RX6, TX6, 31, tyX6, zf_CL6, by decide, (List.mem_of_getElem? (i := 808) (by decide +kernel)), rfl, rfl, fun _ => rfl⟩
theorem zf_F_X6_25 : zz_F RX6 25 6 7 (.array .int) true := ⟨RX6, TX6, 31, tyX6, zf_CL6, by decide, (List.mem_of_getElem? (i := 809) (by decide +kernel)), rfl, rfl, fun _ => rfl⟩
theorem zf_F_X6_28 : zz_F RX6 28 6 8 (.array .int) true := ⟨RX6, TX6, 31, tyX6, zf_CL6, by decide, (List.mem_of_getElem? (i := 810) (by decide +kernel)), rfl, rfl, fun _ => rfl⟩
theorem zf_F_X6_102 : zz_F RX6 102 6 9 .int false := ⟨RX6, TX6, 31, tyX6, zf_CL6, by decide, (List.mem_of_getElem? (i := 811) (by decide +kernel)), rfl, rfl, fun _ => rfl⟩
theorem zf_F_X6_31 : zz_F RX6 31 6 10 (.array .int) true := ⟨RX6, TX6, 31, tyX6, zf_CL6, by decide, (List.mem_of_getElem? (i := 812) (by decide +kernel)), rfl, rfl, fun _ => rfl⟩
theorem zf_F_X6_34 : zz_F RX6 34 6 11 (.array .int) true := ⟨RX6, TX6, 31, tyX6, zf_CL6, by decide, (List.mem_of_getElem? (i := 813) (by decide +kernel)), rfl, rfl, fun _ => rfl⟩
theorem zf_F_X6_37 : zz_F RX6 37 6 12 (.array .int) true := ⟨RX6, TX6, 31, tyX6, zf_CL6, by decide, (List.mem_of_getElem? (i := 814) (by decide +kernel)), rfl, rfl, fun _ => rfl⟩
theorem zf_F_X6_40 : zz_F RX6 40 6 13 (.array .int) true := ⟨RX6, TX6, 31, tyX6, zf_CL6, by decide, (List.mem_of_getElem? (i := 815) (by decide +kernel)), rfl, rfl, fun _ => rfl⟩
theorem zf_F_X6_43 : zz_F RX6 43 6 14 (.array .int) true := ⟨RX6, TX6, 31, tyX6, zf_CL6, by decide, (List.mem_of_getElem? (i := 816) (by decide +kernel)), rfl, rfl, fun _ => rfl⟩
theorem zf_F_X6_46 : zz_F RX6 46 6 15 (.array .int) true := ⟨RX6, TX6, 31, tyX6, zf_CL6, by decide, (List.mem_of_getElem? (i := 817) (by decide +kernel)), rfl, rfl, fun _ => rfl⟩
theorem zf_F_X6_49 : zz_F RX6 49 6 16 (.array .int) true := ⟨RX6, TX6, 31, tyX6, zf_CL6, by decide, (List.mem_of_getElem? (i := 818) (by decide +kernel)), rfl, rfl, fun _ => rfl⟩
theorem zf_F_X6_52 : zz_F RX6 52 6 17 (.array .boolean) true := ⟨RX6, TX6, 31, tyX6, zf_CL6, by decide, (List.mem_of_getElem? (i := 819) (by decide +kernel)), rfl, rfl, fun _ => rfl⟩
theorem zf_F_X6_56 : zz_F RX6 56 6 18 (.array .int) true := ⟨RX6, TX6, 31, tyX6, zf_CL6, by decide, (List.mem_of_getElem? (i := 820) (by decide +kernel)), rfl, rfl, fun _ => rfl⟩
theorem zf_F_X6_59 : zz_F RX6 59 6 19 (.array .int) true := ⟨RX6, TX6, 31, tyX6, zf_CL6, by decide, (List.mem_of_getElem? (i := 821) (by decide +kernel)), rfl, rfl, fun _ => rfl⟩
theorem zf_F_X6_151 : zz_F RX6 151 6 20 .int false := ⟨RX6, TX6, 31, tyX6, zf_CL6, by decide, (List.mem_of_getElem? (i := 822) (by decide +kernel)), rfl, rfl, fun _ => rfl⟩
theorem zf_F_X6_154 : zz_F RX6 154 6 21 .int false := ⟨RX6, TX6, 31, tyX6, zf_CL6, by decide, (List.mem_of_getElem? (i := 823) (by decide +kernel)), rfl, rfl, fun _ => rfl⟩
theorem zf_F_X6_62 : zz_F RX6 62 6 22 (.array .int) true := ⟨RX6, TX6, 31, tyX6, zf_CL6, by decide, (List.mem_of_getElem? (i := 824) (by decide +kernel)), rfl, rfl, fun _ => rfl⟩
theorem zf_F_X6_65 : zz_F RX6 65 6 23 (.array .int) true := ⟨RX6, TX6, 31, tyX6, zf_CL6, by decide, (List.mem_of_getElem? (i := 825) (by decide +kernel)), rfl, rfl, fun _ => rfl⟩
theorem zf_F_X6_68 : zz_F RX6 68 6 24 (.array .int) true := ⟨RX6, TX6, 31, tyX6, zf_CL6, by decide, (List.mem_of_getElem? (i := 826) (by decide +kernel)), rfl, rfl, fun _ => rfl⟩
theorem zf_F_X6_71 : zz_F RX6 71 6 25 (.array .int) true := ⟨RX6, TX6, 31, tyX6, zf_CL6, by decide, (List.mem_of_getElem? (i := 827) (by decide +kernel)), rfl, rfl, fun _ => rfl⟩
theorem zf_F_X6_74 : zz_F RX6 74 6 26 (.array .int) true := ⟨RX6, TX6, 31, tyX6, zf_CL6, by decide, (List.mem_of_getElem? (i := 828) (by decide +kernel)), rfl, rfl, fun _ => rfl⟩
theorem zf_F_X6_77 : zz_F RX6 77 6 27 (.array .int) true := ⟨RX6, TX6, 31, tyX6, zf_CL6, by decide, (List.mem_of_getElem? (i := 829) (by decide +kernel)), rfl, rfl, fun _ => rfl⟩
theorem zf_F_X6_190 : zz_F RX6 190 6 28 .int false := ⟨RX6, TX6, 31, tyX6, zf_CL6, by decide, (List.mem_of_getElem? (i := 830) (by decide +kernel)), rfl, rfl, fun _ => rfl⟩
theorem zf_F_X6_80 : zz_F RX6 80 6 29 (.array .int) true := ⟨RX6, TX6, 31, tyX6, zf_CL6, by decide, (List.mem_of_getElem? (i := 831) (by decide +kernel)), rfl, rfl, fun _ => rfl⟩
theorem zf_F_X6_84 : zz_F RX6 84 6 30 .int false := ⟨RX6, TX6, 31, tyX6, zf_CL6, by decide, (List.mem_of_getElem? (i := 832) (by decide +kernel)), rfl, rfl, fun _ => rfl⟩
theorem zf_M_X5_1 : Cond.methodLink RX5 1 Lib.objectInit ∈ lw_tbl := (List.mem_of_getElem? (i := 65) (by decide +kernel))
theorem zf_M_X5_28 : zz_IN RX5 "FrameClay" 28 yX4_init cX4_init 1 0 := ⟨by decide +kernel, (List.mem_of_getElem? (i := 74) (by decide +kernel)), rfl, (List.mem_of_getElem? (i := 75) (by decide +kernel)), (List.mem_of_getElem? (i := 46) (by decide +kernel)), ⟨by decide +kernel, by decide +kernel⟩, by decide +kernel, by decide⟩
theorem zf_M_X5_70 : zz_I RX5 70 yX0_init cX0_init 2 1 := ⟨(List.mem_of_getElem? (i := 241) (by decide +kernel)), (List.mem_of_getElem? (i := 242) (by decide +kernel)), rfl, (List.mem_of_getElem? (i := 243) (by decide +kernel)), (List.mem_of_getElem? (i := 53) (by decide +kernel)), ⟨by decide +kernel, by decide +kernel⟩, by decide +kernel, by decide⟩
theorem zf_M_X5_103 : zz_I RX5 103 yX2_init cX2_init 6 4 := ⟨(List.mem_of_getElem? (i := 330) (by decide +kernel)), (List.mem_of_getElem? (i := 331) (by decide +kernel)), rfl, (List.mem_of_getElem? (i := 332) (by decide +kernel)), (List.mem_of_getElem? (i := 55) (by decide +kernel)), ⟨by decide +kernel, by decide +kernel⟩, by decide +kernel, by decide⟩
theorem zf_M_X5_59 : zz_S RX5 59 yX5_needRange cX5_needRange 3 none 3 := ⟨(List.mem_of_getElem? (i := 153) (by decide +kernel)), (List.mem_of_getElem? (i := 154) (by decide +kernel)), (List.mem_of_getElem? (i := 155) (by decide +kernel)), (List.mem_of_getElem? (i := 45) (by decide +kernel)), ⟨by decide +kernel, by decide +kernel⟩, by decide +kernel, by decide⟩
theorem zf_M_X5_77 : zz_S RX5 77 yX5_needSound cX5_needSound 1 none 1 := ⟨(List.mem_of_getElem? (i := 291) (by decide +kernel)), (List.mem_of_getElem? (i := 292) (by decide +kernel)), (List.mem_of_getElem? (i := 293) (by decide +kernel)), (List.mem_of_getElem? (i := 45) (by decide +kernel)), ⟨by decide +kernel, by decide +kernel⟩, by decide +kernel, by decide⟩
theorem zf_M_X5_110 : zz_S RX5 110 yX5_needAnimator cX5_needAnimator 1 none 1 := ⟨(List.mem_of_getElem? (i := 441) (by decide +kernel)), (List.mem_of_getElem? (i := 442) (by decide +kernel)), (List.mem_of_getElem? (i := 443) (by decide +kernel)), (List.mem_of_getElem? (i := 45) (by decide +kernel)), ⟨by decide +kernel, by decide +kernel⟩, by decide +kernel, by decide⟩
theorem zf_M_X5_138 : zz_S RX5 138 yX5_needJoint cX5_needJoint 2 none 2 := ⟨(List.mem_of_getElem? (i := 480) (by decide +kernel)), (List.mem_of_getElem? (i := 481) (by decide +kernel)), (List.mem_of_getElem? (i := 482) (by decide +kernel)), (List.mem_of_getElem? (i := 45) (by decide +kernel)), ⟨by decide +kernel, by decide +kernel⟩, by decide +kernel, by decide⟩
theorem zf_M_X5_142 : zz_S RX5 142 yX5_needFrame cX5_needFrame 2 none 2 := ⟨(List.mem_of_getElem? (i := 484) (by decide +kernel)), (List.mem_of_getElem? (i := 485) (by decide +kernel)), (List.mem_of_getElem? (i := 486) (by decide +kernel)), (List.mem_of_getElem? (i := 45) (by decide +kernel)), ⟨by decide +kernel, by decide +kernel⟩, by decide +kernel, by decide⟩
theorem zf_M_X5_146 : zz_S RX5 146 yX5_needNotStruck cX5_needNotStruck 2 none 2 := ⟨(List.mem_of_getElem? (i := 488) (by decide +kernel)), (List.mem_of_getElem? (i := 489) (by decide +kernel)), (List.mem_of_getElem? (i := 490) (by decide +kernel)), (List.mem_of_getElem? (i := 45) (by decide +kernel)), ⟨by decide +kernel, by decide +kernel⟩, by decide +kernel, by decide⟩
theorem zf_M_X5_179 : zz_S RX5 179 yX5_refuseBarred cX5_refuseBarred 1 none 1 := ⟨(List.mem_of_getElem? (i := 601) (by decide +kernel)), (List.mem_of_getElem? (i := 602) (by decide +kernel)), (List.mem_of_getElem? (i := 603) (by decide +kernel)), (List.mem_of_getElem? (i := 45) (by decide +kernel)), ⟨by decide +kernel, by decide +kernel⟩, by decide +kernel, by decide⟩
theorem zf_M_X5_241 : zz_S RX5 241 yX5_shorterWay cX5_shorterWay 3 (some Jvm.ClassFile.FieldType.int) 2 := ⟨(List.mem_of_getElem? (i := 734) (by decide +kernel)), (List.mem_of_getElem? (i := 526) (by decide +kernel)), (List.mem_of_getElem? (i := 527) (by decide +kernel)), (List.mem_of_getElem? (i := 45) (by decide +kernel)), ⟨by decide +kernel, by decide +kernel⟩, by decide +kernel, by decide⟩
theorem zf_M_X5_244 : Cond.methodLink RX5 244 Lib.Math.abs.name ∈ lw_tbl := (List.mem_of_getElem? (i := 735) (by decide +kernel))
theorem zf_M_X5_249 : zz_S RX5 249 yX5_needStruck cX5_needStruck 2 none 2 := ⟨(List.mem_of_getElem? (i := 750) (by decide +kernel)), (List.mem_of_getElem? (i := 751) (by decide +kernel)), (List.mem_of_getElem? (i := 752) (by decide +kernel)), (List.mem_of_getElem? (i := 45) (by decide +kernel)), ⟨by decide +kernel, by decide +kernel⟩, by decide +kernel, by decide⟩
theorem zf_M_X5_341 : Cond.methodLink RX5 341 Lib.Math.max.name ∈ lw_tbl := (List.mem_of_getElem? (i := 137) (by decide +kernel))
theorem zf_M_X5_344 : zz_S RX5 344 yJ9_floorMod_7cf53 cJ9_floorMod_7cf53 3 (some Jvm.ClassFile.FieldType.int) 2 := ⟨(List.mem_of_getElem? (i := 528) (by decide +kernel)), (List.mem_of_getElem? (i := 529) (by decide +kernel)), (List.mem_of_getElem? (i := 530) (by decide +kernel)), (List.mem_of_getElem? (i := 58) (by decide +kernel)), ⟨by decide +kernel, by decide +kernel⟩, by decide +kernel, by decide⟩
theorem zf_M_X5_73 : zz_V RX5 73 yX5_puppetAt cX5_puppetAt 2 (some (Jvm.ClassFile.FieldType.object "FrameClay$Puppet")) 1 := ⟨(List.mem_of_getElem? (i := 271) (by decide +kernel)), (List.mem_of_getElem? (i := 273) (by decide +kernel)), (List.mem_of_getElem? (i := 2) (by decide +kernel)), (List.mem_of_getElem? (i := 274) (by decide +kernel)), (List.mem_of_getElem? (i := 45) (by decide +kernel)), ⟨by decide +kernel, by decide +kernel⟩, by decide +kernel, by decide⟩
theorem zf_M_X5_90 : zz_V RX5 90 yX4_add cX4_add 3 none 2 := ⟨(List.mem_of_getElem? (i := 303) (by decide +kernel)), (List.mem_of_getElem? (i := 304) (by decide +kernel)), (List.mem_of_getElem? (i := 305) (by decide +kernel)), (List.mem_of_getElem? (i := 306) (by decide +kernel)), (List.mem_of_getElem? (i := 46) (by decide +kernel)), ⟨by decide +kernel, by decide +kernel⟩, by decide +kernel, by decide⟩
theorem zf_M_X5_98 : zz_V RX5 98 yX5_needVoiceOrNone cX5_needVoiceOrNone 2 none 1 := ⟨(List.mem_of_getElem? (i := 323) (by decide +kernel)), (List.mem_of_getElem? (i := 325) (by decide +kernel)), (List.mem_of_getElem? (i := 3) (by decide +kernel)), (List.mem_of_getElem? (i := 326) (by decide +kernel)), (List.mem_of_getElem? (i := 45) (by decide +kernel)), ⟨by decide +kernel, by decide +kernel⟩, by decide +kernel, by decide⟩
theorem zf_M_X5_106 : zz_V RX5 106 yX5_shotAt cX5_shotAt 2 (some (Jvm.ClassFile.FieldType.object "FrameClay$Shot")) 1 := ⟨(List.mem_of_getElem? (i := 432) (by decide +kernel)), (List.mem_of_getElem? (i := 434) (by decide +kernel)), (List.mem_of_getElem? (i := 4) (by decide +kernel)), (List.mem_of_getElem? (i := 435) (by decide +kernel)), (List.mem_of_getElem? (i := 45) (by decide +kernel)), ⟨by decide +kernel, by decide +kernel⟩, by decide +kernel, by decide⟩
theorem zf_M_X5_113 : zz_V RX5 113 yX2_isDone cX2_isDone 1 (some Jvm.ClassFile.FieldType.boolean) 0 := ⟨(List.mem_of_getElem? (i := 445) (by decide +kernel)), (List.mem_of_getElem? (i := 446) (by decide +kernel)), (List.mem_of_getElem? (i := 447) (by decide +kernel)), (List.mem_of_getElem? (i := 448) (by decide +kernel)), (List.mem_of_getElem? (i := 55) (by decide +kernel)), ⟨by decide +kernel, by decide +kernel⟩, by decide +kernel, by decide⟩
theorem zf_M_X5_119 : zz_V RX5 119 yX2_hasBegun cX2_hasBegun 1 (some Jvm.ClassFile.FieldType.boolean) 0 := ⟨(List.mem_of_getElem? (i := 450) (by decide +kernel)), (List.mem_of_getElem? (i := 451) (by decide +kernel)), (List.mem_of_getElem? (i := 452) (by decide +kernel)), (List.mem_of_getElem? (i := 453) (by decide +kernel)), (List.mem_of_getElem? (i := 55) (by decide +kernel)), ⟨by decide +kernel, by decide +kernel⟩, by decide +kernel, by decide⟩
theorem zf_M_X5_125 : zz_V RX5 125 yX5_isIll cX5_isIll 2 (some Jvm.ClassFile.FieldType.boolean) 1 := ⟨(List.mem_of_getElem? (i := 454) (by decide +kernel)), (List.mem_of_getElem? (i := 456) (by decide +kernel)), (List.mem_of_getElem? (i := 6) (by decide +kernel)), (List.mem_of_getElem? (i := 457) (by decide +kernel)), (List.mem_of_getElem? (i := 45) (by decide +kernel)), ⟨by decide +kernel, by decide +kernel⟩, by decide +kernel, by decide⟩
theorem zf_M_X5_149 : zz_V RX5 149 yX2_isHeld cX2_isHeld 2 (some Jvm.ClassFile.FieldType.boolean) 1 := ⟨(List.mem_of_getElem? (i := 496) (by decide +kernel)), (List.mem_of_getElem? (i := 497) (by decide +kernel)), (List.mem_of_getElem? (i := 498) (by decide +kernel)), (List.mem_of_getElem? (i := 499) (by decide +kernel)), (List.mem_of_getElem? (i := 55) (by decide +kernel)), ⟨by decide +kernel, by decide +kernel⟩, by decide +kernel, by decide⟩
theorem zf_M_X5_154 : zz_V RX5 154 yX2_sheetDegree cX2_sheetDegree 3 (some Jvm.ClassFile.FieldType.int) 2 := ⟨(List.mem_of_getElem? (i := 505) (by decide +kernel)), (List.mem_of_getElem? (i := 506) (by decide +kernel)), (List.mem_of_getElem? (i := 507) (by decide +kernel)), (List.mem_of_getElem? (i := 508) (by decide +kernel)), (List.mem_of_getElem? (i := 55) (by decide +kernel)), ⟨by decide +kernel, by decide +kernel⟩, by decide +kernel, by decide⟩
theorem zf_M_X5_162 : zz_V RX5 162 yX3_tell cX3_tell 3 none 2 := ⟨(List.mem_of_getElem? (i := 532) (by decide +kernel)), (List.mem_of_getElem? (i := 533) (by decide +kernel)), (List.mem_of_getElem? (i := 534) (by decide +kernel)), (List.mem_of_getElem? (i := 535) (by decide +kernel)), (List.mem_of_getElem? (i := 56) (by decide +kernel)), ⟨by decide +kernel, by decide +kernel⟩, by decide +kernel, by decide⟩
theorem zf_M_X5_171 : zz_V RX5 171 yX3_valueAt cX3_valueAt 4 (some Jvm.ClassFile.FieldType.int) 1 := ⟨(List.mem_of_getElem? (i := 543) (by decide +kernel)), (List.mem_of_getElem? (i := 510) (by decide +kernel)), (List.mem_of_getElem? (i := 511) (by decide +kernel)), (List.mem_of_getElem? (i := 512) (by decide +kernel)), (List.mem_of_getElem? (i := 56) (by decide +kernel)), ⟨by decide +kernel, by decide +kernel⟩, by decide +kernel, by decide⟩
theorem zf_M_X5_175 : zz_V RX5 175 yX5_barOf cX5_barOf 2 (some Jvm.ClassFile.FieldType.int) 1 := ⟨(List.mem_of_getElem? (i := 558) (by decide +kernel)), (List.mem_of_getElem? (i := 560) (by decide +kernel)), (List.mem_of_getElem? (i := 10) (by decide +kernel)), (List.mem_of_getElem? (i := 561) (by decide +kernel)), (List.mem_of_getElem? (i := 45) (by decide +kernel)), ⟨by decide +kernel, by decide +kernel⟩, by decide +kernel, by decide⟩
theorem zf_M_X5_189 : zz_V RX5 189 yX1_repeatPoseAndMouth cX1_repeatPoseAndMouth 2 none 0 := ⟨(List.mem_of_getElem? (i := 609) (by decide +kernel)), (List.mem_of_getElem? (i := 610) (by decide +kernel)), (List.mem_of_getElem? (i := 611) (by decide +kernel)), (List.mem_of_getElem? (i := 612) (by decide +kernel)), (List.mem_of_getElem? (i := 57) (by decide +kernel)), ⟨by decide +kernel, by decide +kernel⟩, by decide +kernel, by decide⟩
theorem zf_M_X5_192 : zz_V RX5 192 yX5_poseNext cX5_poseNext 6 none 2 := ⟨(List.mem_of_getElem? (i := 614) (by decide +kernel)), (List.mem_of_getElem? (i := 616) (by decide +kernel)), (List.mem_of_getElem? (i := 16) (by decide +kernel)), (List.mem_of_getElem? (i := 617) (by decide +kernel)), (List.mem_of_getElem? (i := 45) (by decide +kernel)), ⟨by decide +kernel, by decide +kernel⟩, by decide +kernel, by decide⟩
theorem zf_M_X5_195 : zz_V RX5 195 yX5_lampLight cX5_lampLight 1 (some Jvm.ClassFile.FieldType.int) 0 := ⟨(List.mem_of_getElem? (i := 133) (by decide +kernel)), (List.mem_of_getElem? (i := 135) (by decide +kernel)), (List.mem_of_getElem? (i := 0) (by decide +kernel)), (List.mem_of_getElem? (i := 136) (by decide +kernel)), (List.mem_of_getElem? (i := 45) (by decide +kernel)), ⟨by decide +kernel, by decide +kernel⟩, by decide +kernel, by decide⟩
theorem zf_M_X5_202 : zz_V RX5 202 yX1_keepNext cX1_keepNext 5 none 4 := ⟨(List.mem_of_getElem? (i := 626) (by decide +kernel)), (List.mem_of_getElem? (i := 627) (by decide +kernel)), (List.mem_of_getElem? (i := 628) (by decide +kernel)), (List.mem_of_getElem? (i := 629) (by decide +kernel)), (List.mem_of_getElem? (i := 57) (by decide +kernel)), ⟨by decide +kernel, by decide +kernel⟩, by decide +kernel, by decide⟩
theorem zf_M_X5_208 : zz_V RX5 208 yX2_isStruck cX2_isStruck 2 (some Jvm.ClassFile.FieldType.boolean) 1 := ⟨(List.mem_of_getElem? (i := 491) (by decide +kernel)), (List.mem_of_getElem? (i := 492) (by decide +kernel)), (List.mem_of_getElem? (i := 493) (by decide +kernel)), (List.mem_of_getElem? (i := 494) (by decide +kernel)), (List.mem_of_getElem? (i := 55) (by decide +kernel)), ⟨by decide +kernel, by decide +kernel⟩, by decide +kernel, by decide⟩
theorem zf_M_X5_213 : zz_V RX5 213 yX5_cutIndex cX5_cutIndex 3 (some Jvm.ClassFile.FieldType.int) 1 := ⟨(List.mem_of_getElem? (i := 660) (by decide +kernel)), (List.mem_of_getElem? (i := 662) (by decide +kernel)), (List.mem_of_getElem? (i := 18) (by decide +kernel)), (List.mem_of_getElem? (i := 663) (by decide +kernel)), (List.mem_of_getElem? (i := 45) (by decide +kernel)), ⟨by decide +kernel, by decide +kernel⟩, by decide +kernel, by decide⟩
theorem zf_M_X5_223 : zz_V RX5 223 yX5_filmLength cX5_filmLength 3 (some Jvm.ClassFile.FieldType.int) 0 := ⟨(List.mem_of_getElem? (i := 680) (by decide +kernel)), (List.mem_of_getElem? (i := 682) (by decide +kernel)), (List.mem_of_getElem? (i := 19) (by decide +kernel)), (List.mem_of_getElem? (i := 683) (by decide +kernel)), (List.mem_of_getElem? (i := 45) (by decide +kernel)), ⟨by decide +kernel, by decide +kernel⟩, by decide +kernel, by decide⟩
theorem zf_M_X5_226 : zz_V RX5 226 yX5_needShot cX5_needShot 2 none 1 := ⟨(List.mem_of_getElem? (i := 436) (by decide +kernel)), (List.mem_of_getElem? (i := 438) (by decide +kernel)), (List.mem_of_getElem? (i := 5) (by decide +kernel)), (List.mem_of_getElem? (i := 439) (by decide +kernel)), (List.mem_of_getElem? (i := 45) (by decide +kernel)), ⟨by decide +kernel, by decide +kernel⟩, by decide +kernel, by decide⟩
theorem zf_M_X5_231 : zz_V RX5 231 yX5_sheetMouth cX5_sheetMouth 3 (some Jvm.ClassFile.FieldType.int) 2 := ⟨(List.mem_of_getElem? (i := 588) (by decide +kernel)), (List.mem_of_getElem? (i := 590) (by decide +kernel)), (List.mem_of_getElem? (i := 15) (by decide +kernel)), (List.mem_of_getElem? (i := 591) (by decide +kernel)), (List.mem_of_getElem? (i := 45) (by decide +kernel)), ⟨by decide +kernel, by decide +kernel⟩, by decide +kernel, by decide⟩
theorem zf_M_X5_268 : zz_V RX5 268 yX2_posedAsSheet cX2_posedAsSheet 3 (some Jvm.ClassFile.FieldType.boolean) 1 := ⟨(List.mem_of_getElem? (i := 768) (by decide +kernel)), (List.mem_of_getElem? (i := 769) (by decide +kernel)), (List.mem_of_getElem? (i := 770) (by decide +kernel)), (List.mem_of_getElem? (i := 771) (by decide +kernel)), (List.mem_of_getElem? (i := 55) (by decide +kernel)), ⟨by decide +kernel, by decide +kernel⟩, by decide +kernel, by decide⟩
theorem zf_M_X5_300 : zz_V RX5 300 yX5_animatorIsBusy cX5_animatorIsBusy 4 (some Jvm.ClassFile.FieldType.boolean) 1 := ⟨(List.mem_of_getElem? (i := 562) (by decide +kernel)), (List.mem_of_getElem? (i := 564) (by decide +kernel)), (List.mem_of_getElem? (i := 11) (by decide +kernel)), (List.mem_of_getElem? (i := 565) (by decide +kernel)), (List.mem_of_getElem? (i := 45) (by decide +kernel)), ⟨by decide +kernel, by decide +kernel⟩, by decide +kernel, by decide⟩
theorem zf_M_X5_304 : zz_V RX5 304 yX5_puppetIsBusy cX5_puppetIsBusy 4 (some Jvm.ClassFile.FieldType.boolean) 1 := ⟨(List.mem_of_getElem? (i := 572) (by decide +kernel)), (List.mem_of_getElem? (i := 574) (by decide +kernel)), (List.mem_of_getElem? (i := 12) (by decide +kernel)), (List.mem_of_getElem? (i := 575) (by decide +kernel)), (List.mem_of_getElem? (i := 45) (by decide +kernel)), ⟨by decide +kernel, by decide +kernel⟩, by decide +kernel, by decide⟩
theorem zf_M_X5_307 : zz_V RX5 307 yX5_barOfPosing cX5_barOfPosing 3 (some Jvm.ClassFile.FieldType.int) 1 := ⟨(List.mem_of_getElem? (i := 576) (by decide +kernel)), (List.mem_of_getElem? (i := 578) (by decide +kernel)), (List.mem_of_getElem? (i := 13) (by decide +kernel)), (List.mem_of_getElem? (i := 579) (by decide +kernel)), (List.mem_of_getElem? (i := 45) (by decide +kernel)), ⟨by decide +kernel, by decide +kernel⟩, by decide +kernel, by decide⟩
theorem zf_M_X5_310 : zz_V RX5 310 yX0_isBroken cX0_isBroken 2 (some Jvm.ClassFile.FieldType.boolean) 0 := ⟨(List.mem_of_getElem? (i := 580) (by decide +kernel)), (List.mem_of_getElem? (i := 581) (by decide +kernel)), (List.mem_of_getElem? (i := 582) (by decide +kernel)), (List.mem_of_getElem? (i := 583) (by decide +kernel)), (List.mem_of_getElem? (i := 53) (by decide +kernel)), ⟨by decide +kernel, by decide +kernel⟩, by decide +kernel, by decide⟩
theorem zf_M_X5_313 : zz_V RX5 313 yX5_mouthWanted cX5_mouthWanted 4 (some Jvm.ClassFile.FieldType.int) 2 := ⟨(List.mem_of_getElem? (i := 584) (by decide +kernel)), (List.mem_of_getElem? (i := 586) (by decide +kernel)), (List.mem_of_getElem? (i := 14) (by decide +kernel)), (List.mem_of_getElem? (i := 587) (by decide +kernel)), (List.mem_of_getElem? (i := 45) (by decide +kernel)), ⟨by decide +kernel, by decide +kernel⟩, by decide +kernel, by decide⟩
theorem zf_M_X5_316 : zz_V RX5 316 yX2_isUnderWay cX2_isUnderWay 1 (some Jvm.ClassFile.FieldType.boolean) 0 := ⟨(List.mem_of_getElem? (i := 566) (by decide +kernel)), (List.mem_of_getElem? (i := 567) (by decide +kernel)), (List.mem_of_getElem? (i := 568) (by decide +kernel)), (List.mem_of_getElem? (i := 569) (by decide +kernel)), (List.mem_of_getElem? (i := 55) (by decide +kernel)), ⟨by decide +kernel, by decide +kernel⟩, by decide +kernel, by decide⟩
theorem zf_M_X5_329 : zz_V RX5 329 yX0_turn cX0_turn 3 none 2 := ⟨(List.mem_of_getElem? (i := 618) (by decide +kernel)), (List.mem_of_getElem? (i := 619) (by decide +kernel)), (List.mem_of_getElem? (i := 620) (by decide +kernel)), (List.mem_of_getElem? (i := 621) (by decide +kernel)), (List.mem_of_getElem? (i := 53) (by decide +kernel)), ⟨by decide +kernel, by decide +kernel⟩, by decide +kernel, by decide⟩
theorem zf_M_X5_332 : zz_V RX5 332 yX2_posedFrame cX2_posedFrame 2 (some Jvm.ClassFile.FieldType.int) 1 := ⟨(List.mem_of_getElem? (i := 592) (by decide +kernel)), (List.mem_of_getElem? (i := 501) (by decide +kernel)), (List.mem_of_getElem? (i := 502) (by decide +kernel)), (List.mem_of_getElem? (i := 503) (by decide +kernel)), (List.mem_of_getElem? (i := 55) (by decide +kernel)), ⟨by decide +kernel, by decide +kernel⟩, by decide +kernel, by decide⟩
theorem zf_M_X5_335 : zz_V RX5 335 yX4_soundAt cX4_soundAt 3 (some Jvm.ClassFile.FieldType.int) 1 := ⟨(List.mem_of_getElem? (i := 593) (by decide +kernel)), (List.mem_of_getElem? (i := 594) (by decide +kernel)), (List.mem_of_getElem? (i := 595) (by decide +kernel)), (List.mem_of_getElem? (i := 596) (by decide +kernel)), (List.mem_of_getElem? (i := 46) (by decide +kernel)), ⟨by decide +kernel, by decide +kernel⟩, by decide +kernel, by decide⟩
theorem zf_M_X5_338 : zz_V RX5 338 yX1_lastMouth cX1_lastMouth 1 (some Jvm.ClassFile.FieldType.int) 0 := ⟨(List.mem_of_getElem? (i := 597) (by decide +kernel)), (List.mem_of_getElem? (i := 598) (by decide +kernel)), (List.mem_of_getElem? (i := 599) (by decide +kernel)), (List.mem_of_getElem? (i := 600) (by decide +kernel)), (List.mem_of_getElem? (i := 57) (by decide +kernel)), ⟨by decide +kernel, by decide +kernel⟩, by decide +kernel, by decide⟩
theorem zf_M_X0_3 : Cond.methodLink RX0 3 Lib.objectInit ∈ lw_tbl := (List.mem_of_getElem? (i := 244) (by decide +kernel))
theorem zf_M_X0_25 : zz_SN RX0 "FrameClay" 25 yX5_shorterWay cX5_shorterWay 3 (some Jvm.ClassFile.FieldType.int) 2 := ⟨by decide +kernel, (List.mem_of_getElem? (i := 526) (by decide +kernel)), (List.mem_of_getElem? (i := 527) (by decide +kernel)), (List.mem_of_getElem? (i := 45) (by decide +kernel)), ⟨by decide +kernel, by decide +kernel⟩, by decide +kernel, by decide⟩
theorem zf_M_X0_29 : Cond.methodLink RX0 29 Lib.Math.abs.name ∈ lw_tbl := (List.mem_of_getElem? (i := 623) (by decide +kernel))
theorem zf_M_X1_3 : Cond.methodLink RX1 3 Lib.objectInit ∈ lw_tbl := (List.mem_of_getElem? (i := 356) (by decide +kernel))
theorem zf_M_X1_44 : zz_S RX1 44 yJ6_compare_7cf53 cJ6_compare_7cf53 2 (some Jvm.ClassFile.FieldType.int) 2 := ⟨(List.mem_of_getElem? (i := 634) (by decide +kernel)), (List.mem_of_getElem? (i := 635) (by decide +kernel)), (List.mem_of_getElem? (i := 636) (by decide +kernel)), (List.mem_of_getElem? (i := 59) (by decide +kernel)), ⟨by decide +kernel, by decide +kernel⟩, by decide +kernel, by decide⟩
theorem zf_M_X1_36 : zz_V RX1 36 yX1_lastMouth cX1_lastMouth 1 (some Jvm.ClassFile.FieldType.int) 0 := ⟨(List.mem_of_getElem? (i := 613) (by decide +kernel)), (List.mem_of_getElem? (i := 598) (by decide +kernel)), (List.mem_of_getElem? (i := 599) (by decide +kernel)), (List.mem_of_getElem? (i := 600) (by decide +kernel)), (List.mem_of_getElem? (i := 57) (by decide +kernel)), ⟨by decide +kernel, by decide +kernel⟩, by decide +kernel, by decide⟩
theorem zf_M_X1_40 : zz_V RX1 40 yX1_cameraOfNext cX1_cameraOfNext 6 (some Jvm.ClassFile.FieldType.int) 1 := ⟨(List.mem_of_getElem? (i := 630) (by decide +kernel)), (List.mem_of_getElem? (i := 632) (by decide +kernel)), (List.mem_of_getElem? (i := 17) (by decide +kernel)), (List.mem_of_getElem? (i := 633) (by decide +kernel)), (List.mem_of_getElem? (i := 57) (by decide +kernel)), ⟨by decide +kernel, by decide +kernel⟩, by decide +kernel, by decide⟩
theorem zf_M_X2_3 : Cond.methodLink RX2 3 Lib.objectInit ∈ lw_tbl := (List.mem_of_getElem? (i := 333) (by decide +kernel))
theorem zf_M_X2_42 : zz_I RX2 42 yX3_init cX3_init 3 2 := ⟨(List.mem_of_getElem? (i := 337) (by decide +kernel)), (List.mem_of_getElem? (i := 338) (by decide +kernel)), rfl, (List.mem_of_getElem? (i := 339) (by decide +kernel)), (List.mem_of_getElem? (i := 56) (by decide +kernel)), ⟨by decide +kernel, by decide +kernel⟩, by decide +kernel, by decide⟩
theorem zf_M_X2_51 : zz_I RX2 51 yX1_init cX1_init 3 2 := ⟨(List.mem_of_getElem? (i := 353) (by decide +kernel)), (List.mem_of_getElem? (i := 354) (by decide +kernel)), rfl, (List.mem_of_getElem? (i := 355) (by decide +kernel)), (List.mem_of_getElem? (i := 57) (by decide +kernel)), ⟨by decide +kernel, by decide +kernel⟩, by decide +kernel, by decide⟩
theorem zf_M_X2_58 : zz_V RX2 58 yX2_posedFrame cX2_posedFrame 2 (some Jvm.ClassFile.FieldType.int) 1 := ⟨(List.mem_of_getElem? (i := 500) (by decide +kernel)), (List.mem_of_getElem? (i := 501) (by decide +kernel)), (List.mem_of_getElem? (i := 502) (by decide +kernel)), (List.mem_of_getElem? (i := 503) (by decide +kernel)), (List.mem_of_getElem? (i := 55) (by decide +kernel)), ⟨by decide +kernel, by decide +kernel⟩, by decide +kernel, by decide⟩
theorem zf_M_X2_65 : zz_V RX2 65 yX2_hasBegun cX2_hasBegun 1 (some Jvm.ClassFile.FieldType.boolean) 0 := ⟨(List.mem_of_getElem? (i := 570) (by decide +kernel)), (List.mem_of_getElem? (i := 451) (by decide +kernel)), (List.mem_of_getElem? (i := 452) (by decide +kernel)), (List.mem_of_getElem? (i := 453) (by decide +kernel)), (List.mem_of_getElem? (i := 55) (by decide +kernel)), ⟨by decide +kernel, by decide +kernel⟩, by decide +kernel, by decide⟩
theorem zf_M_X2_69 : zz_V RX2 69 yX2_isDone cX2_isDone 1 (some Jvm.ClassFile.FieldType.boolean) 0 := ⟨(List.mem_of_getElem? (i := 571) (by decide +kernel)), (List.mem_of_getElem? (i := 446) (by decide +kernel)), (List.mem_of_getElem? (i := 447) (by decide +kernel)), (List.mem_of_getElem? (i := 448) (by decide +kernel)), (List.mem_of_getElem? (i := 55) (by decide +kernel)), ⟨by decide +kernel, by decide +kernel⟩, by decide +kernel, by decide⟩
theorem zf_M_X2_72 : zz_V RX2 72 yX3_valueAt cX3_valueAt 4 (some Jvm.ClassFile.FieldType.int) 1 := ⟨(List.mem_of_getElem? (i := 509) (by decide +kernel)), (List.mem_of_getElem? (i := 510) (by decide +kernel)), (List.mem_of_getElem? (i := 511) (by decide +kernel)), (List.mem_of_getElem? (i := 512) (by decide +kernel)), (List.mem_of_getElem? (i := 56) (by decide +kernel)), ⟨by decide +kernel, by decide +kernel⟩, by decide +kernel, by decide⟩
theorem zf_M_X2_79 : zz_V RX2 79 yX2_sheetDegree cX2_sheetDegree 3 (some Jvm.ClassFile.FieldType.int) 2 := ⟨(List.mem_of_getElem? (i := 772) (by decide +kernel)), (List.mem_of_getElem? (i := 506) (by decide +kernel)), (List.mem_of_getElem? (i := 507) (by decide +kernel)), (List.mem_of_getElem? (i := 508) (by decide +kernel)), (List.mem_of_getElem? (i := 55) (by decide +kernel)), ⟨by decide +kernel, by decide +kernel⟩, by decide +kernel, by decide⟩
theorem zf_M_X3_3 : Cond.methodLink RX3 3 Lib.objectInit ∈ lw_tbl := (List.mem_of_getElem? (i := 340) (by decide +kernel))
theorem zf_M_X3_34 : zz_SN RX3 "FrameClay" 34 yX5_shorterWay cX5_shorterWay 3 (some Jvm.ClassFile.FieldType.int) 2 := ⟨by decide +kernel, (List.mem_of_getElem? (i := 526) (by decide +kernel)), (List.mem_of_getElem? (i := 527) (by decide +kernel)), (List.mem_of_getElem? (i := 45) (by decide +kernel)), ⟨by decide +kernel, by decide +kernel⟩, by decide +kernel, by decide⟩
theorem zf_M_X3_38 : zz_S RX3 38 yJ9_floorMod_7cf53 cJ9_floorMod_7cf53 3 (some Jvm.ClassFile.FieldType.int) 2 := ⟨(List.mem_of_getElem? (i := 531) (by decide +kernel)), (List.mem_of_getElem? (i := 529) (by decide +kernel)), (List.mem_of_getElem? (i := 530) (by decide +kernel)), (List.mem_of_getElem? (i := 58) (by decide +kernel)), ⟨by decide +kernel, by decide +kernel⟩, by decide +kernel, by decide⟩
theorem zf_M_X3_23 : zz_V RX3 23 yX3_keyUpTo cX3_keyUpTo 3 (some Jvm.ClassFile.FieldType.int) 1 := ⟨(List.mem_of_getElem? (i := 513) (by decide +kernel)), (List.mem_of_getElem? (i := 515) (by decide +kernel)), (List.mem_of_getElem? (i := 7) (by decide +kernel)), (List.mem_of_getElem? (i := 516) (by decide +kernel)), (List.mem_of_getElem? (i := 56) (by decide +kernel)), ⟨by decide +kernel, by decide +kernel⟩, by decide +kernel, by decide⟩
theorem zf_M_X3_27 : zz_V RX3 27 yX3_keyFrom cX3_keyFrom 3 (some Jvm.ClassFile.FieldType.int) 1 := ⟨(List.mem_of_getElem? (i := 517) (by decide +kernel)), (List.mem_of_getElem? (i := 519) (by decide +kernel)), (List.mem_of_getElem? (i := 8) (by decide +kernel)), (List.mem_of_getElem? (i := 520) (by decide +kernel)), (List.mem_of_getElem? (i := 56) (by decide +kernel)), ⟨by decide +kernel, by decide +kernel⟩, by decide +kernel, by decide⟩
theorem zf_M_X3_30 : zz_V RX3 30 yX3_between cX3_between 7 (some Jvm.ClassFile.FieldType.int) 3 := ⟨(List.mem_of_getElem? (i := 521) (by decide +kernel)), (List.mem_of_getElem? (i := 523) (by decide +kernel)), (List.mem_of_getElem? (i := 9) (by decide +kernel)), (List.mem_of_getElem? (i := 524) (by decide +kernel)), (List.mem_of_getElem? (i := 56) (by decide +kernel)), ⟨by decide +kernel, by decide +kernel⟩, by decide +kernel, by decide⟩
theorem zf_M_X4_3 : Cond.methodLink RX4 3 Lib.objectInit ∈ lw_tbl := (List.mem_of_getElem? (i := 76) (by decide +kernel))
theorem zf_M_L_114 : zz_I RL 114 yX5_init cX5_init 1 0 := ⟨(List.mem_of_getElem? (i := 62) (by decide +kernel)), (List.mem_of_getElem? (i := 63) (by decide +kernel)), rfl, (List.mem_of_getElem? (i := 64) (by decide +kernel)), (List.mem_of_getElem? (i := 45) (by decide +kernel)), ⟨by decide +kernel, by decide +kernel⟩, by decide +kernel, by decide⟩
theorem zf_M_L_117 : zz_I RL 117 yX6_init cX6_init 2 0 := ⟨(List.mem_of_getElem? (i := 797) (by decide +kernel)), (List.mem_of_getElem? (i := 798) (by decide +kernel)), rfl, (List.mem_of_getElem? (i := 799) (by decide +kernel)), (List.mem_of_getElem? (i := 47) (by decide +kernel)), ⟨by decide +kernel, by decide +kernel⟩, by decide +kernel, by decide⟩
theorem zf_M_L_118 : zz_SH RL 118 yL_puppet cL_puppet 4 (some Jvm.ClassFile.FieldType.int) [((0 : Nat), (9 : Nat), (12 : Nat), (13 : Nat)), ((0 : Nat), (9 : Nat), (15 : Nat), (15 : Nat))] 3 := ⟨(List.mem_of_getElem? (i := 144) (by decide +kernel)), (List.mem_of_getElem? (i := 145) (by decide +kernel)), (List.mem_of_getElem? (i := 146) (by decide +kernel)), (List.mem_of_getElem? (i := 44) (by decide +kernel)), ⟨by decide +kernel, by decide +kernel⟩, by decide +kernel, by decide⟩
theorem zf_M_L_127 : zz_SH RL 127 yL_mouths cL_mouths 6 (some Jvm.ClassFile.FieldType.int) [((0 : Nat), (12 : Nat), (15 : Nat), (21 : Nat)), ((0 : Nat), (12 : Nat), (19 : Nat), (13 : Nat)), ((0 : Nat), (12 : Nat), (23 : Nat), (15 : Nat))] 5 := ⟨(List.mem_of_getElem? (i := 263) (by decide +kernel)), (List.mem_of_getElem? (i := 264) (by decide +kernel)), (List.mem_of_getElem? (i := 265) (by decide +kernel)), (List.mem_of_getElem? (i := 44) (by decide +kernel)), ⟨by decide +kernel, by decide +kernel⟩, by decide +kernel, by decide⟩
theorem zf_M_L_131 : zz_SH RL 131 yL_sound cL_sound 5 (some Jvm.ClassFile.FieldType.int) [((0 : Nat), (10 : Nat), (13 : Nat), (13 : Nat)), ((0 : Nat), (10 : Nat), (17 : Nat), (15 : Nat))] 4 := ⟨(List.mem_of_getElem? (i := 295) (by decide +kernel)), (List.mem_of_getElem? (i := 296) (by decide +kernel)), (List.mem_of_getElem? (i := 297) (by decide +kernel)), (List.mem_of_getElem? (i := 44) (by decide +kernel)), ⟨by decide +kernel, by decide +kernel⟩, by decide +kernel, by decide⟩
theorem zf_M_L_135 : zz_SH RL 135 yL_voice cL_voice 3 (some Jvm.ClassFile.FieldType.int) [((0 : Nat), (8 : Nat), (11 : Nat), (15 : Nat))] 2 := ⟨(List.mem_of_getElem? (i := 307) (by decide +kernel)), (List.mem_of_getElem? (i := 308) (by decide +kernel)), (List.mem_of_getElem? (i := 309) (by decide +kernel)), (List.mem_of_getElem? (i := 44) (by decide +kernel)), ⟨by decide +kernel, by decide +kernel⟩, by decide +kernel, by decide⟩
theorem zf_M_L_139 : zz_SH RL 139 yL_shot cL_shot 7 (some Jvm.ClassFile.FieldType.int) [((0 : Nat), (14 : Nat), (17 : Nat), (21 : Nat)), ((0 : Nat), (14 : Nat), (21 : Nat), (13 : Nat)), ((0 : Nat), (14 : Nat), (25 : Nat), (15 : Nat))] 6 := ⟨(List.mem_of_getElem? (i := 316) (by decide +kernel)), (List.mem_of_getElem? (i := 317) (by decide +kernel)), (List.mem_of_getElem? (i := 318) (by decide +kernel)), (List.mem_of_getElem? (i := 44) (by decide +kernel)), ⟨by decide +kernel, by decide +kernel⟩, by decide +kernel, by decide⟩
theorem zf_M_L_143 : zz_SH RL 143 yL_assign cL_assign 5 (some Jvm.ClassFile.FieldType.int) [((0 : Nat), (10 : Nat), (13 : Nat), (21 : Nat)), ((0 : Nat), (10 : Nat), (17 : Nat), (15 : Nat))] 4 := ⟨(List.mem_of_getElem? (i := 425) (by decide +kernel)), (List.mem_of_getElem? (i := 426) (by decide +kernel)), (List.mem_of_getElem? (i := 427) (by decide +kernel)), (List.mem_of_getElem? (i := 44) (by decide +kernel)), ⟨by decide +kernel, by decide +kernel⟩, by decide +kernel, by decide⟩
theorem zf_M_L_146 : zz_SH RL 146 yL_ill cL_ill 5 (some Jvm.ClassFile.FieldType.int) [((0 : Nat), (17 : Nat), (20 : Nat), (21 : Nat))] 4 := ⟨(List.mem_of_getElem? (i := 459) (by decide +kernel)), (List.mem_of_getElem? (i := 460) (by decide +kernel)), (List.mem_of_getElem? (i := 461) (by decide +kernel)), (List.mem_of_getElem? (i := 44) (by decide +kernel)), ⟨by decide +kernel, by decide +kernel⟩, by decide +kernel, by decide⟩
theorem zf_M_L_150 : zz_SH RL 150 yL_dub cL_dub 5 (some Jvm.ClassFile.FieldType.int) [((0 : Nat), (10 : Nat), (13 : Nat), (21 : Nat))] 4 := ⟨(List.mem_of_getElem? (i := 466) (by decide +kernel)), (List.mem_of_getElem? (i := 467) (by decide +kernel)), (List.mem_of_getElem? (i := 468) (by decide +kernel)), (List.mem_of_getElem? (i := 44) (by decide +kernel)), ⟨by decide +kernel, by decide +kernel⟩, by decide +kernel, by decide⟩
theorem zf_M_L_153 : zz_SH RL 153 yL_key cL_key 7 (some Jvm.ClassFile.FieldType.int) [((0 : Nat), (14 : Nat), (17 : Nat), (21 : Nat)), ((0 : Nat), (14 : Nat), (21 : Nat), (13 : Nat)), ((0 : Nat), (14 : Nat), (25 : Nat), (15 : Nat))] 6 := ⟨(List.mem_of_getElem? (i := 473) (by decide +kernel)), (List.mem_of_getElem? (i := 474) (by decide +kernel)), (List.mem_of_getElem? (i := 475) (by decide +kernel)), (List.mem_of_getElem? (i := 44) (by decide +kernel)), ⟨by decide +kernel, by decide +kernel⟩, by decide +kernel, by decide⟩
theorem zf_M_L_156 : zz_SH RL 156 yL_camera cL_camera 6 (some Jvm.ClassFile.FieldType.int) [((0 : Nat), (12 : Nat), (15 : Nat), (21 : Nat)), ((0 : Nat), (12 : Nat), (19 : Nat), (13 : Nat)), ((0 : Nat), (12 : Nat), (23 : Nat), (15 : Nat))] 5 := ⟨(List.mem_of_getElem? (i := 536) (by decide +kernel)), (List.mem_of_getElem? (i := 537) (by decide +kernel)), (List.mem_of_getElem? (i := 538) (by decide +kernel)), (List.mem_of_getElem? (i := 44) (by decide +kernel)), ⟨by decide +kernel, by decide +kernel⟩, by decide +kernel, by decide⟩
theorem zf_M_L_159 : zz_SH RL 159 yL_play cL_play 4 (some Jvm.ClassFile.FieldType.int) [((0 : Nat), (9 : Nat), (12 : Nat), (13 : Nat))] 3 := ⟨(List.mem_of_getElem? (i := 544) (by decide +kernel)), (List.mem_of_getElem? (i := 545) (by decide +kernel)), (List.mem_of_getElem? (i := 546) (by decide +kernel)), (List.mem_of_getElem? (i := 44) (by decide +kernel)), ⟨by decide +kernel, by decide +kernel⟩, by decide +kernel, by decide⟩
theorem zf_M_L_162 : zz_SH RL 162 yL_strike cL_strike 4 (some Jvm.ClassFile.FieldType.int) [((0 : Nat), (9 : Nat), (12 : Nat), (21 : Nat)), ((0 : Nat), (9 : Nat), (15 : Nat), (15 : Nat))] 3 := ⟨(List.mem_of_getElem? (i := 551) (by decide +kernel)), (List.mem_of_getElem? (i := 552) (by decide +kernel)), (List.mem_of_getElem? (i := 553) (by decide +kernel)), (List.mem_of_getElem? (i := 44) (by decide +kernel)), ⟨by decide +kernel, by decide +kernel⟩, by decide +kernel, by decide⟩
theorem zf_M_L_165 : zz_SH RL 165 yL_bump cL_bump 5 (some Jvm.ClassFile.FieldType.int) [((0 : Nat), (10 : Nat), (13 : Nat), (21 : Nat)), ((0 : Nat), (10 : Nat), (17 : Nat), (13 : Nat)), ((0 : Nat), (10 : Nat), (21 : Nat), (15 : Nat))] 4 := ⟨(List.mem_of_getElem? (i := 637) (by decide +kernel)), (List.mem_of_getElem? (i := 638) (by decide +kernel)), (List.mem_of_getElem? (i := 639) (by decide +kernel)), (List.mem_of_getElem? (i := 44) (by decide +kernel)), ⟨by decide +kernel, by decide +kernel⟩, by decide +kernel, by decide⟩
theorem zf_M_L_168 : zz_SH RL 168 yL_level cL_level 4 (some Jvm.ClassFile.FieldType.int) [((0 : Nat), (9 : Nat), (12 : Nat), (21 : Nat))] 3 := ⟨(List.mem_of_getElem? (i := 645) (by decide +kernel)), (List.mem_of_getElem? (i := 646) (by decide +kernel)), (List.mem_of_getElem? (i := 647) (by decide +kernel)), (List.mem_of_getElem? (i := 44) (by decide +kernel)), ⟨by decide +kernel, by decide +kernel⟩, by decide +kernel, by decide⟩
theorem zf_M_L_171 : zz_SH RL 171 yL_anew cL_anew 5 (some Jvm.ClassFile.FieldType.int) [((0 : Nat), (10 : Nat), (13 : Nat), (21 : Nat)), ((0 : Nat), (10 : Nat), (17 : Nat), (15 : Nat))] 4 := ⟨(List.mem_of_getElem? (i := 652) (by decide +kernel)), (List.mem_of_getElem? (i := 653) (by decide +kernel)), (List.mem_of_getElem? (i := 654) (by decide +kernel)), (List.mem_of_getElem? (i := 44) (by decide +kernel)), ⟨by decide +kernel, by decide +kernel⟩, by decide +kernel, by decide⟩
theorem zf_M_L_174 : zz_SH RL 174 yL_mend cL_mend 5 (some Jvm.ClassFile.FieldType.int) [((0 : Nat), (10 : Nat), (13 : Nat), (21 : Nat))] 4 := ⟨(List.mem_of_getElem? (i := 665) (by decide +kernel)), (List.mem_of_getElem? (i := 666) (by decide +kernel)), (List.mem_of_getElem? (i := 667) (by decide +kernel)), (List.mem_of_getElem? (i := 44) (by decide +kernel)), ⟨by decide +kernel, by decide +kernel⟩, by decide +kernel, by decide⟩
theorem zf_M_L_181 : zz_SH RL 181 yL_cut cL_cut 4 (some Jvm.ClassFile.FieldType.int) [((0 : Nat), (9 : Nat), (12 : Nat), (21 : Nat)), ((0 : Nat), (9 : Nat), (15 : Nat), (15 : Nat))] 3 := ⟨(List.mem_of_getElem? (i := 672) (by decide +kernel)), (List.mem_of_getElem? (i := 673) (by decide +kernel)), (List.mem_of_getElem? (i := 674) (by decide +kernel)), (List.mem_of_getElem? (i := 44) (by decide +kernel)), ⟨by decide +kernel, by decide +kernel⟩, by decide +kernel, by decide⟩
theorem zf_M_L_184 : zz_SH RL 184 yL_cutOut cL_cutOut 4 (some Jvm.ClassFile.FieldType.int) [((0 : Nat), (9 : Nat), (12 : Nat), (21 : Nat)), ((0 : Nat), (9 : Nat), (15 : Nat), (15 : Nat))] 3 := ⟨(List.mem_of_getElem? (i := 684) (by decide +kernel)), (List.mem_of_getElem? (i := 685) (by decide +kernel)), (List.mem_of_getElem? (i := 686) (by decide +kernel)), (List.mem_of_getElem? (i := 44) (by decide +kernel)), ⟨by decide +kernel, by decide +kernel⟩, by decide +kernel, by decide⟩
theorem zf_M_L_187 : zz_SH RL 187 yL_degree cL_degree 6 (some Jvm.ClassFile.FieldType.int) [((0 : Nat), (12 : Nat), (15 : Nat), (21 : Nat))] 5 := ⟨(List.mem_of_getElem? (i := 692) (by decide +kernel)), (List.mem_of_getElem? (i := 693) (by decide +kernel)), (List.mem_of_getElem? (i := 694) (by decide +kernel)), (List.mem_of_getElem? (i := 44) (by decide +kernel)), ⟨by decide +kernel, by decide +kernel⟩, by decide +kernel, by decide⟩
theorem zf_M_L_190 : zz_SH RL 190 yL_mouth cL_mouth 5 (some Jvm.ClassFile.FieldType.int) [((0 : Nat), (10 : Nat), (13 : Nat), (21 : Nat))] 4 := ⟨(List.mem_of_getElem? (i := 699) (by decide +kernel)), (List.mem_of_getElem? (i := 700) (by decide +kernel)), (List.mem_of_getElem? (i := 701) (by decide +kernel)), (List.mem_of_getElem? (i := 44) (by decide +kernel)), ⟨by decide +kernel, by decide +kernel⟩, by decide +kernel, by decide⟩
theorem zf_M_L_193 : zz_SH RL 193 yL_place cL_place 5 (some Jvm.ClassFile.FieldType.int) [((0 : Nat), (10 : Nat), (13 : Nat), (21 : Nat))] 4 := ⟨(List.mem_of_getElem? (i := 706) (by decide +kernel)), (List.mem_of_getElem? (i := 707) (by decide +kernel)), (List.mem_of_getElem? (i := 708) (by decide +kernel)), (List.mem_of_getElem? (i := 44) (by decide +kernel)), ⟨by decide +kernel, by decide +kernel⟩, by decide +kernel, by decide⟩
theorem zf_M_L_196 : zz_SH RL 196 yL_wants cL_wants 5 (some Jvm.ClassFile.FieldType.int) [((0 : Nat), (10 : Nat), (13 : Nat), (21 : Nat)), ((0 : Nat), (10 : Nat), (17 : Nat), (13 : Nat))] 4 := ⟨(List.mem_of_getElem? (i := 713) (by decide +kernel)), (List.mem_of_getElem? (i := 714) (by decide +kernel)), (List.mem_of_getElem? (i := 715) (by decide +kernel)), (List.mem_of_getElem? (i := 44) (by decide +kernel)), ⟨by decide +kernel, by decide +kernel⟩, by decide +kernel, by decide⟩
theorem zf_M_L_199 : zz_SH RL 199 yL_bars cL_bars 4 (some Jvm.ClassFile.FieldType.int) [((0 : Nat), (9 : Nat), (12 : Nat), (21 : Nat))] 3 := ⟨(List.mem_of_getElem? (i := 720) (by decide +kernel)), (List.mem_of_getElem? (i := 721) (by decide +kernel)), (List.mem_of_getElem? (i := 722) (by decide +kernel)), (List.mem_of_getElem? (i := 44) (by decide +kernel)), ⟨by decide +kernel, by decide +kernel⟩, by decide +kernel, by decide⟩
theorem zf_M_L_202 : zz_SH RL 202 yL_wears cL_wears 5 (some Jvm.ClassFile.FieldType.int) [((0 : Nat), (10 : Nat), (13 : Nat), (21 : Nat))] 4 := ⟨(List.mem_of_getElem? (i := 727) (by decide +kernel)), (List.mem_of_getElem? (i := 728) (by decide +kernel)), (List.mem_of_getElem? (i := 729) (by decide +kernel)), (List.mem_of_getElem? (i := 44) (by decide +kernel)), ⟨by decide +kernel, by decide +kernel⟩, by decide +kernel, by decide⟩
theorem zf_M_L_205 : zz_SH RL 205 yL_struck cL_struck 4 (some Jvm.ClassFile.FieldType.int) [((0 : Nat), (9 : Nat), (12 : Nat), (21 : Nat))] 3 := ⟨(List.mem_of_getElem? (i := 736) (by decide +kernel)), (List.mem_of_getElem? (i := 737) (by decide +kernel)), (List.mem_of_getElem? (i := 738) (by decide +kernel)), (List.mem_of_getElem? (i := 44) (by decide +kernel)), ⟨by decide +kernel, by decide +kernel⟩, by decide +kernel, by decide⟩
theorem zf_M_L_208 : zz_SH RL 208 yL_pose cL_pose 6 (some Jvm.ClassFile.FieldType.int) [((0 : Nat), (12 : Nat), (15 : Nat), (21 : Nat))] 5 := ⟨(List.mem_of_getElem? (i := 743) (by decide +kernel)), (List.mem_of_getElem? (i := 744) (by decide +kernel)), (List.mem_of_getElem? (i := 745) (by decide +kernel)), (List.mem_of_getElem? (i := 44) (by decide +kernel)), ⟨by decide +kernel, by decide +kernel⟩, by decide +kernel, by decide⟩
theorem zf_M_L_211 : zz_SH RL 211 yL_ofFrame cL_ofFrame 6 (some Jvm.ClassFile.FieldType.int) [((0 : Nat), (12 : Nat), (15 : Nat), (21 : Nat)), ((0 : Nat), (12 : Nat), (19 : Nat), (13 : Nat))] 5 := ⟨(List.mem_of_getElem? (i := 754) (by decide +kernel)), (List.mem_of_getElem? (i := 755) (by decide +kernel)), (List.mem_of_getElem? (i := 756) (by decide +kernel)), (List.mem_of_getElem? (i := 44) (by decide +kernel)), ⟨by decide +kernel, by decide +kernel⟩, by decide +kernel, by decide⟩
theorem zf_M_L_214 : zz_SH RL 214 yL_faults cL_faults 5 (some Jvm.ClassFile.FieldType.int) [((0 : Nat), (10 : Nat), (13 : Nat), (21 : Nat))] 4 := ⟨(List.mem_of_getElem? (i := 761) (by decide +kernel)), (List.mem_of_getElem? (i := 762) (by decide +kernel)), (List.mem_of_getElem? (i := 763) (by decide +kernel)), (List.mem_of_getElem? (i := 44) (by decide +kernel)), ⟨by decide +kernel, by decide +kernel⟩, by decide +kernel, by decide⟩
theorem zf_M_L_217 : zz_SH RL 217 yL_ofJoint cL_ofJoint 6 (some Jvm.ClassFile.FieldType.int) [((0 : Nat), (12 : Nat), (15 : Nat), (21 : Nat)), ((0 : Nat), (12 : Nat), (19 : Nat), (13 : Nat))] 5 := ⟨(List.mem_of_getElem? (i := 773) (by decide +kernel)), (List.mem_of_getElem? (i := 774) (by decide +kernel)), (List.mem_of_getElem? (i := 775) (by decide +kernel)), (List.mem_of_getElem? (i := 44) (by decide +kernel)), ⟨by decide +kernel, by decide +kernel⟩, by decide +kernel, by decide⟩
theorem zf_M_L_220 : zz_SH RL 220 yL_left cL_left 5 (some Jvm.ClassFile.FieldType.int) [((0 : Nat), (10 : Nat), (13 : Nat), (21 : Nat)), ((0 : Nat), (10 : Nat), (17 : Nat), (13 : Nat))] 4 := ⟨(List.mem_of_getElem? (i := 780) (by decide +kernel)), (List.mem_of_getElem? (i := 781) (by decide +kernel)), (List.mem_of_getElem? (i := 782) (by decide +kernel)), (List.mem_of_getElem? (i := 44) (by decide +kernel)), ⟨by decide +kernel, by decide +kernel⟩, by decide +kernel, by decide⟩
theorem zf_M_L_227 : zz_SH RL 227 yL_film cL_film 4 (some Jvm.ClassFile.FieldType.int) [((0 : Nat), (9 : Nat), (12 : Nat), (21 : Nat))] 3 := ⟨(List.mem_of_getElem? (i := 787) (by decide +kernel)), (List.mem_of_getElem? (i := 788) (by decide +kernel)), (List.mem_of_getElem? (i := 789) (by decide +kernel)), (List.mem_of_getElem? (i := 44) (by decide +kernel)), ⟨by decide +kernel, by decide +kernel⟩, by decide +kernel, by decide⟩
theorem zf_M_L_7 : zz_V RL 7 yX5_puppet cX5_puppet 2 (some Jvm.ClassFile.FieldType.int) 1 := ⟨(List.mem_of_getElem? (i := 149) (by decide +kernel)), (List.mem_of_getElem? (i := 150) (by decide +kernel)), (List.mem_of_getElem? (i := 151) (by decide +kernel)), (List.mem_of_getElem? (i := 152) (by decide +kernel)), (List.mem_of_getElem? (i := 45) (by decide +kernel)), ⟨by decide +kernel, by decide +kernel⟩, by decide +kernel, by decide⟩
theorem zf_M_L_17 : zz_V RL 17 yX5_mouths cX5_mouths 5 (some Jvm.ClassFile.FieldType.int) 3 := ⟨(List.mem_of_getElem? (i := 267) (by decide +kernel)), (List.mem_of_getElem? (i := 268) (by decide +kernel)), (List.mem_of_getElem? (i := 269) (by decide +kernel)), (List.mem_of_getElem? (i := 270) (by decide +kernel)), (List.mem_of_getElem? (i := 45) (by decide +kernel)), ⟨by decide +kernel, by decide +kernel⟩, by decide +kernel, by decide⟩
theorem zf_M_L_23 : zz_V RL 23 yX5_sound cX5_sound 3 (some Jvm.ClassFile.FieldType.int) 2 := ⟨(List.mem_of_getElem? (i := 298) (by decide +kernel)), (List.mem_of_getElem? (i := 299) (by decide +kernel)), (List.mem_of_getElem? (i := 300) (by decide +kernel)), (List.mem_of_getElem? (i := 301) (by decide +kernel)), (List.mem_of_getElem? (i := 45) (by decide +kernel)), ⟨by decide +kernel, by decide +kernel⟩, by decide +kernel, by decide⟩
theorem zf_M_L_27 : zz_V RL 27 yX5_voice cX5_voice 1 (some Jvm.ClassFile.FieldType.int) 0 := ⟨(List.mem_of_getElem? (i := 310) (by decide +kernel)), (List.mem_of_getElem? (i := 311) (by decide +kernel)), (List.mem_of_getElem? (i := 312) (by decide +kernel)), (List.mem_of_getElem? (i := 313) (by decide +kernel)), (List.mem_of_getElem? (i := 45) (by decide +kernel)), ⟨by decide +kernel, by decide +kernel⟩, by decide +kernel, by decide⟩
theorem zf_M_L_31 : zz_V RL 31 yX5_shot cX5_shot 6 (some Jvm.ClassFile.FieldType.int) 4 := ⟨(List.mem_of_getElem? (i := 319) (by decide +kernel)), (List.mem_of_getElem? (i := 320) (by decide +kernel)), (List.mem_of_getElem? (i := 321) (by decide +kernel)), (List.mem_of_getElem? (i := 322) (by decide +kernel)), (List.mem_of_getElem? (i := 45) (by decide +kernel)), ⟨by decide +kernel, by decide +kernel⟩, by decide +kernel, by decide⟩
theorem zf_M_L_35 : zz_V RL 35 yX5_assign cX5_assign 5 (some Jvm.ClassFile.FieldType.int) 2 := ⟨(List.mem_of_getElem? (i := 428) (by decide +kernel)), (List.mem_of_getElem? (i := 429) (by decide +kernel)), (List.mem_of_getElem? (i := 430) (by decide +kernel)), (List.mem_of_getElem? (i := 431) (by decide +kernel)), (List.mem_of_getElem? (i := 45) (by decide +kernel)), ⟨by decide +kernel, by decide +kernel⟩, by decide +kernel, by decide⟩
theorem zf_M_L_38 : zz_V RL 38 yX5_ill cX5_ill 4 (some Jvm.ClassFile.FieldType.boolean) 2 := ⟨(List.mem_of_getElem? (i := 462) (by decide +kernel)), (List.mem_of_getElem? (i := 463) (by decide +kernel)), (List.mem_of_getElem? (i := 464) (by decide +kernel)), (List.mem_of_getElem? (i := 465) (by decide +kernel)), (List.mem_of_getElem? (i := 45) (by decide +kernel)), ⟨by decide +kernel, by decide +kernel⟩, by decide +kernel, by decide⟩
theorem zf_M_L_42 : zz_V RL 42 yX5_dub cX5_dub 5 (some Jvm.ClassFile.FieldType.int) 2 := ⟨(List.mem_of_getElem? (i := 469) (by decide +kernel)), (List.mem_of_getElem? (i := 470) (by decide +kernel)), (List.mem_of_getElem? (i := 471) (by decide +kernel)), (List.mem_of_getElem? (i := 472) (by decide +kernel)), (List.mem_of_getElem? (i := 45) (by decide +kernel)), ⟨by decide +kernel, by decide +kernel⟩, by decide +kernel, by decide⟩
theorem zf_M_L_45 : zz_V RL 45 yX5_key cX5_key 7 (some Jvm.ClassFile.FieldType.int) 4 := ⟨(List.mem_of_getElem? (i := 476) (by decide +kernel)), (List.mem_of_getElem? (i := 477) (by decide +kernel)), (List.mem_of_getElem? (i := 478) (by decide +kernel)), (List.mem_of_getElem? (i := 479) (by decide +kernel)), (List.mem_of_getElem? (i := 45) (by decide +kernel)), ⟨by decide +kernel, by decide +kernel⟩, by decide +kernel, by decide⟩
theorem zf_M_L_48 : zz_V RL 48 yX5_camera cX5_camera 6 (some Jvm.ClassFile.FieldType.int) 3 := ⟨(List.mem_of_getElem? (i := 539) (by decide +kernel)), (List.mem_of_getElem? (i := 540) (by decide +kernel)), (List.mem_of_getElem? (i := 541) (by decide +kernel)), (List.mem_of_getElem? (i := 542) (by decide +kernel)), (List.mem_of_getElem? (i := 45) (by decide +kernel)), ⟨by decide +kernel, by decide +kernel⟩, by decide +kernel, by decide⟩
theorem zf_M_L_51 : zz_V RL 51 yX5_play cX5_play 3 (some Jvm.ClassFile.FieldType.int) 1 := ⟨(List.mem_of_getElem? (i := 547) (by decide +kernel)), (List.mem_of_getElem? (i := 548) (by decide +kernel)), (List.mem_of_getElem? (i := 549) (by decide +kernel)), (List.mem_of_getElem? (i := 550) (by decide +kernel)), (List.mem_of_getElem? (i := 45) (by decide +kernel)), ⟨by decide +kernel, by decide +kernel⟩, by decide +kernel, by decide⟩
theorem zf_M_L_54 : zz_V RL 54 yX5_strike cX5_strike 5 (some Jvm.ClassFile.FieldType.int) 1 := ⟨(List.mem_of_getElem? (i := 554) (by decide +kernel)), (List.mem_of_getElem? (i := 555) (by decide +kernel)), (List.mem_of_getElem? (i := 556) (by decide +kernel)), (List.mem_of_getElem? (i := 557) (by decide +kernel)), (List.mem_of_getElem? (i := 45) (by decide +kernel)), ⟨by decide +kernel, by decide +kernel⟩, by decide +kernel, by decide⟩
theorem zf_M_L_57 : zz_V RL 57 yX5_bump cX5_bump 4 (some Jvm.ClassFile.FieldType.int) 2 := ⟨(List.mem_of_getElem? (i := 640) (by decide +kernel)), (List.mem_of_getElem? (i := 641) (by decide +kernel)), (List.mem_of_getElem? (i := 642) (by decide +kernel)), (List.mem_of_getElem? (i := 643) (by decide +kernel)), (List.mem_of_getElem? (i := 45) (by decide +kernel)), ⟨by decide +kernel, by decide +kernel⟩, by decide +kernel, by decide⟩
theorem zf_M_L_60 : zz_V RL 60 yX5_level cX5_level 4 (some Jvm.ClassFile.FieldType.int) 1 := ⟨(List.mem_of_getElem? (i := 648) (by decide +kernel)), (List.mem_of_getElem? (i := 649) (by decide +kernel)), (List.mem_of_getElem? (i := 650) (by decide +kernel)), (List.mem_of_getElem? (i := 651) (by decide +kernel)), (List.mem_of_getElem? (i := 45) (by decide +kernel)), ⟨by decide +kernel, by decide +kernel⟩, by decide +kernel, by decide⟩
theorem zf_M_L_63 : zz_V RL 63 yX5_anew cX5_anew 5 (some Jvm.ClassFile.FieldType.int) 2 := ⟨(List.mem_of_getElem? (i := 655) (by decide +kernel)), (List.mem_of_getElem? (i := 656) (by decide +kernel)), (List.mem_of_getElem? (i := 657) (by decide +kernel)), (List.mem_of_getElem? (i := 658) (by decide +kernel)), (List.mem_of_getElem? (i := 45) (by decide +kernel)), ⟨by decide +kernel, by decide +kernel⟩, by decide +kernel, by decide⟩
theorem zf_M_L_66 : zz_V RL 66 yX5_mend cX5_mend 5 (some Jvm.ClassFile.FieldType.int) 2 := ⟨(List.mem_of_getElem? (i := 668) (by decide +kernel)), (List.mem_of_getElem? (i := 669) (by decide +kernel)), (List.mem_of_getElem? (i := 670) (by decide +kernel)), (List.mem_of_getElem? (i := 671) (by decide +kernel)), (List.mem_of_getElem? (i := 45) (by decide +kernel)), ⟨by decide +kernel, by decide +kernel⟩, by decide +kernel, by decide⟩
theorem zf_M_L_69 : zz_V RL 69 yX5_cut cX5_cut 3 (some Jvm.ClassFile.FieldType.int) 1 := ⟨(List.mem_of_getElem? (i := 675) (by decide +kernel)), (List.mem_of_getElem? (i := 676) (by decide +kernel)), (List.mem_of_getElem? (i := 677) (by decide +kernel)), (List.mem_of_getElem? (i := 678) (by decide +kernel)), (List.mem_of_getElem? (i := 45) (by decide +kernel)), ⟨by decide +kernel, by decide +kernel⟩, by decide +kernel, by decide⟩
theorem zf_M_L_72 : zz_V RL 72 yX5_cutOut cX5_cutOut 4 (some Jvm.ClassFile.FieldType.int) 1 := ⟨(List.mem_of_getElem? (i := 687) (by decide +kernel)), (List.mem_of_getElem? (i := 688) (by decide +kernel)), (List.mem_of_getElem? (i := 689) (by decide +kernel)), (List.mem_of_getElem? (i := 690) (by decide +kernel)), (List.mem_of_getElem? (i := 45) (by decide +kernel)), ⟨by decide +kernel, by decide +kernel⟩, by decide +kernel, by decide⟩
theorem zf_M_L_75 : zz_V RL 75 yX5_degree cX5_degree 5 (some Jvm.ClassFile.FieldType.int) 3 := ⟨(List.mem_of_getElem? (i := 695) (by decide +kernel)), (List.mem_of_getElem? (i := 696) (by decide +kernel)), (List.mem_of_getElem? (i := 697) (by decide +kernel)), (List.mem_of_getElem? (i := 698) (by decide +kernel)), (List.mem_of_getElem? (i := 45) (by decide +kernel)), ⟨by decide +kernel, by decide +kernel⟩, by decide +kernel, by decide⟩
theorem zf_M_L_78 : zz_V RL 78 yX5_mouth cX5_mouth 4 (some Jvm.ClassFile.FieldType.int) 2 := ⟨(List.mem_of_getElem? (i := 702) (by decide +kernel)), (List.mem_of_getElem? (i := 703) (by decide +kernel)), (List.mem_of_getElem? (i := 704) (by decide +kernel)), (List.mem_of_getElem? (i := 705) (by decide +kernel)), (List.mem_of_getElem? (i := 45) (by decide +kernel)), ⟨by decide +kernel, by decide +kernel⟩, by decide +kernel, by decide⟩
theorem zf_M_L_81 : zz_V RL 81 yX5_place cX5_place 4 (some Jvm.ClassFile.FieldType.int) 2 := ⟨(List.mem_of_getElem? (i := 709) (by decide +kernel)), (List.mem_of_getElem? (i := 710) (by decide +kernel)), (List.mem_of_getElem? (i := 711) (by decide +kernel)), (List.mem_of_getElem? (i := 712) (by decide +kernel)), (List.mem_of_getElem? (i := 45) (by decide +kernel)), ⟨by decide +kernel, by decide +kernel⟩, by decide +kernel, by decide⟩
theorem zf_M_L_84 : zz_V RL 84 yX5_wants cX5_wants 8 (some Jvm.ClassFile.FieldType.int) 2 := ⟨(List.mem_of_getElem? (i := 716) (by decide +kernel)), (List.mem_of_getElem? (i := 717) (by decide +kernel)), (List.mem_of_getElem? (i := 718) (by decide +kernel)), (List.mem_of_getElem? (i := 719) (by decide +kernel)), (List.mem_of_getElem? (i := 45) (by decide +kernel)), ⟨by decide +kernel, by decide +kernel⟩, by decide +kernel, by decide⟩
theorem zf_M_L_87 : zz_V RL 87 yX5_bars cX5_bars 2 (some Jvm.ClassFile.FieldType.int) 1 := ⟨(List.mem_of_getElem? (i := 723) (by decide +kernel)), (List.mem_of_getElem? (i := 724) (by decide +kernel)), (List.mem_of_getElem? (i := 725) (by decide +kernel)), (List.mem_of_getElem? (i := 726) (by decide +kernel)), (List.mem_of_getElem? (i := 45) (by decide +kernel)), ⟨by decide +kernel, by decide +kernel⟩, by decide +kernel, by decide⟩
theorem zf_M_L_90 : zz_V RL 90 yX5_wears cX5_wears 8 (some Jvm.ClassFile.FieldType.int) 2 := ⟨(List.mem_of_getElem? (i := 730) (by decide +kernel)), (List.mem_of_getElem? (i := 731) (by decide +kernel)), (List.mem_of_getElem? (i := 732) (by decide +kernel)), (List.mem_of_getElem? (i := 733) (by decide +kernel)), (List.mem_of_getElem? (i := 45) (by decide +kernel)), ⟨by decide +kernel, by decide +kernel⟩, by decide +kernel, by decide⟩
theorem zf_M_L_93 : zz_V RL 93 yX5_struck cX5_struck 2 (some Jvm.ClassFile.FieldType.int) 1 := ⟨(List.mem_of_getElem? (i := 739) (by decide +kernel)), (List.mem_of_getElem? (i := 740) (by decide +kernel)), (List.mem_of_getElem? (i := 741) (by decide +kernel)), (List.mem_of_getElem? (i := 742) (by decide +kernel)), (List.mem_of_getElem? (i := 45) (by decide +kernel)), ⟨by decide +kernel, by decide +kernel⟩, by decide +kernel, by decide⟩
theorem zf_M_L_96 : zz_V RL 96 yX5_pose cX5_pose 5 (some Jvm.ClassFile.FieldType.int) 3 := ⟨(List.mem_of_getElem? (i := 746) (by decide +kernel)), (List.mem_of_getElem? (i := 747) (by decide +kernel)), (List.mem_of_getElem? (i := 748) (by decide +kernel)), (List.mem_of_getElem? (i := 749) (by decide +kernel)), (List.mem_of_getElem? (i := 45) (by decide +kernel)), ⟨by decide +kernel, by decide +kernel⟩, by decide +kernel, by decide⟩
theorem zf_M_L_99 : zz_V RL 99 yX5_ofFrame cX5_ofFrame 5 (some Jvm.ClassFile.FieldType.int) 3 := ⟨(List.mem_of_getElem? (i := 757) (by decide +kernel)), (List.mem_of_getElem? (i := 758) (by decide +kernel)), (List.mem_of_getElem? (i := 759) (by decide +kernel)), (List.mem_of_getElem? (i := 760) (by decide +kernel)), (List.mem_of_getElem? (i := 45) (by decide +kernel)), ⟨by decide +kernel, by decide +kernel⟩, by decide +kernel, by decide⟩
theorem zf_M_L_102 : zz_V RL 102 yX5_faults cX5_faults 6 (some Jvm.ClassFile.FieldType.int) 2 := ⟨(List.mem_of_getElem? (i := 764) (by decide +kernel)), (List.mem_of_getElem? (i := 765) (by decide +kernel)), (List.mem_of_getElem? (i := 766) (by decide +kernel)), (List.mem_of_getElem? (i := 767) (by decide +kernel)), (List.mem_of_getElem? (i := 45) (by decide +kernel)), ⟨by decide +kernel, by decide +kernel⟩, by decide +kernel, by decide⟩
theorem zf_M_L_105 : zz_V RL 105 yX5_ofJoint cX5_ofJoint 5 (some Jvm.ClassFile.FieldType.int) 3 := ⟨(List.mem_of_getElem? (i := 776) (by decide +kernel)), (List.mem_of_getElem? (i := 777) (by decide +kernel)), (List.mem_of_getElem? (i := 778) (by decide +kernel)), (List.mem_of_getElem? (i := 779) (by decide +kernel)), (List.mem_of_getElem? (i := 45) (by decide +kernel)), ⟨by decide +kernel, by decide +kernel⟩, by decide +kernel, by decide⟩
theorem zf_M_L_108 : zz_V RL 108 yX5_left cX5_left 4 (some Jvm.ClassFile.FieldType.int) 2 := ⟨(List.mem_of_getElem? (i := 783) (by decide +kernel)), (List.mem_of_getElem? (i := 784) (by decide +kernel)), (List.mem_of_getElem? (i := 785) (by decide +kernel)), (List.mem_of_getElem? (i := 786) (by decide +kernel)), (List.mem_of_getElem? (i := 45) (by decide +kernel)), ⟨by decide +kernel, by decide +kernel⟩, by decide +kernel, by decide⟩
theorem zf_M_L_111 : zz_V RL 111 yX5_film cX5_film 5 (some Jvm.ClassFile.FieldType.int) 1 := ⟨(List.mem_of_getElem? (i := 790) (by decide +kernel)), (List.mem_of_getElem? (i := 791) (by decide +kernel)), (List.mem_of_getElem? (i := 792) (by decide +kernel)), (List.mem_of_getElem? (i := 793) (by decide +kernel)), (List.mem_of_getElem? (i := 45) (by decide +kernel)), ⟨by decide +kernel, by decide +kernel⟩, by decide +kernel, by decide⟩
theorem zf_M_L_123 : zz_V RL 123 yX6_puppet cX6_puppet 2 (some Jvm.ClassFile.FieldType.int) 1 := ⟨(List.mem_of_getElem? (i := 900) (by decide +kernel)), (List.mem_of_getElem? (i := 901) (by decide +kernel)), (List.mem_of_getElem? (i := 902) (by decide +kernel)), (List.mem_of_getElem? (i := 903) (by decide +kernel)), (List.mem_of_getElem? (i := 47) (by decide +kernel)), ⟨by decide +kernel, by decide +kernel⟩, by decide +kernel, by decide⟩
theorem zf_M_L_124 : zz_V RL 124 yX6_thrown cX6_thrown 1 (some Jvm.ClassFile.FieldType.int) 0 := ⟨(List.mem_of_getElem? (i := 896) (by decide +kernel)), (List.mem_of_getElem? (i := 897) (by decide +kernel)), (List.mem_of_getElem? (i := 898) (by decide +kernel)), (List.mem_of_getElem? (i := 899) (by decide +kernel)), (List.mem_of_getElem? (i := 47) (by decide +kernel)), ⟨by decide +kernel, by decide +kernel⟩, by decide +kernel, by decide⟩
theorem zf_M_L_130 : zz_V RL 130 yX6_mouths cX6_mouths 5 (some Jvm.ClassFile.FieldType.int) 3 := ⟨(List.mem_of_getElem? (i := 911) (by decide +kernel)), (List.mem_of_getElem? (i := 912) (by decide +kernel)), (List.mem_of_getElem? (i := 913) (by decide +kernel)), (List.mem_of_getElem? (i := 914) (by decide +kernel)), (List.mem_of_getElem? (i := 47) (by decide +kernel)), ⟨by decide +kernel, by decide +kernel⟩, by decide +kernel, by decide⟩
theorem zf_M_L_134 : zz_V RL 134 yX6_sound cX6_sound 4 (some Jvm.ClassFile.FieldType.int) 2 := ⟨(List.mem_of_getElem? (i := 922) (by decide +kernel)), (List.mem_of_getElem? (i := 923) (by decide +kernel)), (List.mem_of_getElem? (i := 924) (by decide +kernel)), (List.mem_of_getElem? (i := 925) (by decide +kernel)), (List.mem_of_getElem? (i := 47) (by decide +kernel)), ⟨by decide +kernel, by decide +kernel⟩, by decide +kernel, by decide⟩
theorem zf_M_L_138 : zz_V RL 138 yX6_voice cX6_voice 1 (some Jvm.ClassFile.FieldType.int) 0 := ⟨(List.mem_of_getElem? (i := 926) (by decide +kernel)), (List.mem_of_getElem? (i := 927) (by decide +kernel)), (List.mem_of_getElem? (i := 928) (by decide +kernel)), (List.mem_of_getElem? (i := 929) (by decide +kernel)), (List.mem_of_getElem? (i := 47) (by decide +kernel)), ⟨by decide +kernel, by decide +kernel⟩, by decide +kernel, by decide⟩
theorem zf_M_L_142 : zz_V RL 142 yX6_shot cX6_shot 7 (some Jvm.ClassFile.FieldType.int) 4 := ⟨(List.mem_of_getElem? (i := 930) (by decide +kernel)), (List.mem_of_getElem? (i := 931) (by decide +kernel)), (List.mem_of_getElem? (i := 932) (by decide +kernel)), (List.mem_of_getElem? (i := 933) (by decide +kernel)), (List.mem_of_getElem? (i := 47) (by decide +kernel)), ⟨by decide +kernel, by decide +kernel⟩, by decide +kernel, by decide⟩
theorem zf_M_L_145 : zz_V RL 145 yX6_assign cX6_assign 6 (some Jvm.ClassFile.FieldType.int) 2 := ⟨(List.mem_of_getElem? (i := 938) (by decide +kernel)), (List.mem_of_getElem? (i := 939) (by decide +kernel)), (List.mem_of_getElem? (i := 940) (by decide +kernel)), (List.mem_of_getElem? (i := 941) (by decide +kernel)), (List.mem_of_getElem? (i := 47) (by decide +kernel)), ⟨by decide +kernel, by decide +kernel⟩, by decide +kernel, by decide⟩
theorem zf_M_L_149 : zz_V RL 149 yX6_ill cX6_ill 4 (some Jvm.ClassFile.FieldType.boolean) 2 := ⟨(List.mem_of_getElem? (i := 953) (by decide +kernel)), (List.mem_of_getElem? (i := 954) (by decide +kernel)), (List.mem_of_getElem? (i := 955) (by decide +kernel)), (List.mem_of_getElem? (i := 956) (by decide +kernel)), (List.mem_of_getElem? (i := 47) (by decide +kernel)), ⟨by decide +kernel, by decide +kernel⟩, by decide +kernel, by decide⟩
theorem zf_M_L_152 : zz_V RL 152 yX6_dub cX6_dub 4 (some Jvm.ClassFile.FieldType.int) 2 := ⟨(List.mem_of_getElem? (i := 957) (by decide +kernel)), (List.mem_of_getElem? (i := 958) (by decide +kernel)), (List.mem_of_getElem? (i := 959) (by decide +kernel)), (List.mem_of_getElem? (i := 960) (by decide +kernel)), (List.mem_of_getElem? (i := 47) (by decide +kernel)), ⟨by decide +kernel, by decide +kernel⟩, by decide +kernel, by decide⟩
theorem zf_M_L_155 : zz_V RL 155 yX6_key cX6_key 8 (some Jvm.ClassFile.FieldType.int) 4 := ⟨(List.mem_of_getElem? (i := 961) (by decide +kernel)), (List.mem_of_getElem? (i := 962) (by decide +kernel)), (List.mem_of_getElem? (i := 963) (by decide +kernel)), (List.mem_of_getElem? (i := 964) (by decide +kernel)), (List.mem_of_getElem? (i := 47) (by decide +kernel)), ⟨by decide +kernel, by decide +kernel⟩, by decide +kernel, by decide⟩
theorem zf_M_L_158 : zz_V RL 158 yX6_camera cX6_camera 5 (some Jvm.ClassFile.FieldType.int) 3 := ⟨(List.mem_of_getElem? (i := 992) (by decide +kernel)), (List.mem_of_getElem? (i := 993) (by decide +kernel)), (List.mem_of_getElem? (i := 994) (by decide +kernel)), (List.mem_of_getElem? (i := 995) (by decide +kernel)), (List.mem_of_getElem? (i := 47) (by decide +kernel)), ⟨by decide +kernel, by decide +kernel⟩, by decide +kernel, by decide⟩
theorem zf_M_L_161 : zz_V RL 161 yX6_play cX6_play 3 (some Jvm.ClassFile.FieldType.int) 1 := ⟨(List.mem_of_getElem? (i := 1000) (by decide +kernel)), (List.mem_of_getElem? (i := 1001) (by decide +kernel)), (List.mem_of_getElem? (i := 1002) (by decide +kernel)), (List.mem_of_getElem? (i := 1003) (by decide +kernel)), (List.mem_of_getElem? (i := 47) (by decide +kernel)), ⟨by decide +kernel, by decide +kernel⟩, by decide +kernel, by decide⟩
theorem zf_M_L_164 : zz_V RL 164 yX6_strike cX6_strike 4 (some Jvm.ClassFile.FieldType.int) 1 := ⟨(List.mem_of_getElem? (i := 1004) (by decide +kernel)), (List.mem_of_getElem? (i := 1005) (by decide +kernel)), (List.mem_of_getElem? (i := 1006) (by decide +kernel)), (List.mem_of_getElem? (i := 1007) (by decide +kernel)), (List.mem_of_getElem? (i := 47) (by decide +kernel)), ⟨by decide +kernel, by decide +kernel⟩, by decide +kernel, by decide⟩
theorem zf_M_L_167 : zz_V RL 167 yX6_bump cX6_bump 3 (some Jvm.ClassFile.FieldType.int) 2 := ⟨(List.mem_of_getElem? (i := 1047) (by decide +kernel)), (List.mem_of_getElem? (i := 1048) (by decide +kernel)), (List.mem_of_getElem? (i := 1049) (by decide +kernel)), (List.mem_of_getElem? (i := 1050) (by decide +kernel)), (List.mem_of_getElem? (i := 47) (by decide +kernel)), ⟨by decide +kernel, by decide +kernel⟩, by decide +kernel, by decide⟩
theorem zf_M_L_170 : zz_V RL 170 yX6_level cX6_level 3 (some Jvm.ClassFile.FieldType.int) 1 := ⟨(List.mem_of_getElem? (i := 1051) (by decide +kernel)), (List.mem_of_getElem? (i := 1052) (by decide +kernel)), (List.mem_of_getElem? (i := 1053) (by decide +kernel)), (List.mem_of_getElem? (i := 1054) (by decide +kernel)), (List.mem_of_getElem? (i := 47) (by decide +kernel)), ⟨by decide +kernel, by decide +kernel⟩, by decide +kernel, by decide⟩
theorem zf_M_L_173 : zz_V RL 173 yX6_anew cX6_anew 5 (some Jvm.ClassFile.FieldType.int) 2 := ⟨(List.mem_of_getElem? (i := 1055) (by decide +kernel)), (List.mem_of_getElem? (i := 1056) (by decide +kernel)), (List.mem_of_getElem? (i := 1057) (by decide +kernel)), (List.mem_of_getElem? (i := 1058) (by decide +kernel)), (List.mem_of_getElem? (i := 47) (by decide +kernel)), ⟨by decide +kernel, by decide +kernel⟩, by decide +kernel, by decide⟩
theorem zf_M_L_176 : zz_V RL 176 yX6_mend cX6_mend 4 (some Jvm.ClassFile.FieldType.int) 2 := ⟨(List.mem_of_getElem? (i := 1067) (by decide +kernel)), (List.mem_of_getElem? (i := 1068) (by decide +kernel)), (List.mem_of_getElem? (i := 1069) (by decide +kernel)), (List.mem_of_getElem? (i := 1070) (by decide +kernel)), (List.mem_of_getElem? (i := 47) (by decide +kernel)), ⟨by decide +kernel, by decide +kernel⟩, by decide +kernel, by decide⟩
theorem zf_M_L_177 : zz_V RL 177 yX5_lamp cX5_lamp 2 (some Jvm.ClassFile.FieldType.int) 0 := ⟨(List.mem_of_getElem? (i := 129) (by decide +kernel)), (List.mem_of_getElem? (i := 130) (by decide +kernel)), (List.mem_of_getElem? (i := 131) (by decide +kernel)), (List.mem_of_getElem? (i := 132) (by decide +kernel)), (List.mem_of_getElem? (i := 45) (by decide +kernel)), ⟨by decide +kernel, by decide +kernel⟩, by decide +kernel, by decide⟩
theorem zf_M_L_180 : zz_V RL 180 yX6_lamp cX6_lamp 2 (some Jvm.ClassFile.FieldType.int) 0 := ⟨(List.mem_of_getElem? (i := 1071) (by decide +kernel)), (List.mem_of_getElem? (i := 1072) (by decide +kernel)), (List.mem_of_getElem? (i := 1073) (by decide +kernel)), (List.mem_of_getElem? (i := 1074) (by decide +kernel)), (List.mem_of_getElem? (i := 47) (by decide +kernel)), ⟨by decide +kernel, by decide +kernel⟩, by decide +kernel, by decide⟩
theorem zf_M_L_183 : zz_V RL 183 yX6_cut cX6_cut 2 (some Jvm.ClassFile.FieldType.int) 1 := ⟨(List.mem_of_getElem? (i := 1075) (by decide +kernel)), (List.mem_of_getElem? (i := 1076) (by decide +kernel)), (List.mem_of_getElem? (i := 1077) (by decide +kernel)), (List.mem_of_getElem? (i := 1078) (by decide +kernel)), (List.mem_of_getElem? (i := 47) (by decide +kernel)), ⟨by decide +kernel, by decide +kernel⟩, by decide +kernel, by decide⟩
theorem zf_M_L_186 : zz_V RL 186 yX6_cutOut cX6_cutOut 4 (some Jvm.ClassFile.FieldType.int) 1 := ⟨(List.mem_of_getElem? (i := 1083) (by decide +kernel)), (List.mem_of_getElem? (i := 1084) (by decide +kernel)), (List.mem_of_getElem? (i := 1085) (by decide +kernel)), (List.mem_of_getElem? (i := 1086) (by decide +kernel)), (List.mem_of_getElem? (i := 47) (by decide +kernel)), ⟨by decide +kernel, by decide +kernel⟩, by decide +kernel, by decide⟩
theorem zf_M_L_189 : zz_V RL 189 yX6_degree cX6_degree 4 (some Jvm.ClassFile.FieldType.int) 3 := ⟨(List.mem_of_getElem? (i := 1087) (by decide +kernel)), (List.mem_of_getElem? (i := 1088) (by decide +kernel)), (List.mem_of_getElem? (i := 1089) (by decide +kernel)), (List.mem_of_getElem? (i := 1090) (by decide +kernel)), (List.mem_of_getElem? (i := 47) (by decide +kernel)), ⟨by decide +kernel, by decide +kernel⟩, by decide +kernel, by decide⟩
theorem zf_M_L_192 : zz_V RL 192 yX6_mouth cX6_mouth 3 (some Jvm.ClassFile.FieldType.int) 2 := ⟨(List.mem_of_getElem? (i := 1091) (by decide +kernel)), (List.mem_of_getElem? (i := 1092) (by decide +kernel)), (List.mem_of_getElem? (i := 1093) (by decide +kernel)), (List.mem_of_getElem? (i := 1094) (by decide +kernel)), (List.mem_of_getElem? (i := 47) (by decide +kernel)), ⟨by decide +kernel, by decide +kernel⟩, by decide +kernel, by decide⟩
theorem zf_M_L_195 : zz_V RL 195 yX6_place cX6_place 3 (some Jvm.ClassFile.FieldType.int) 2 := ⟨(List.mem_of_getElem? (i := 1095) (by decide +kernel)), (List.mem_of_getElem? (i := 1096) (by decide +kernel)), (List.mem_of_getElem? (i := 1097) (by decide +kernel)), (List.mem_of_getElem? (i := 1098) (by decide +kernel)), (List.mem_of_getElem? (i := 47) (by decide +kernel)), ⟨by decide +kernel, by decide +kernel⟩, by decide +kernel, by decide⟩
theorem zf_M_L_198 : zz_V RL 198 yX6_wants cX6_wants 5 (some Jvm.ClassFile.FieldType.int) 2 := ⟨(List.mem_of_getElem? (i := 1099) (by decide +kernel)), (List.mem_of_getElem? (i := 1100) (by decide +kernel)), (List.mem_of_getElem? (i := 1101) (by decide +kernel)), (List.mem_of_getElem? (i := 1102) (by decide +kernel)), (List.mem_of_getElem? (i := 47) (by decide +kernel)), ⟨by decide +kernel, by decide +kernel⟩, by decide +kernel, by decide⟩
theorem zf_M_L_201 : zz_V RL 201 yX6_bars cX6_bars 2 (some Jvm.ClassFile.FieldType.int) 1 := ⟨(List.mem_of_getElem? (i := 1103) (by decide +kernel)), (List.mem_of_getElem? (i := 1104) (by decide +kernel)), (List.mem_of_getElem? (i := 1105) (by decide +kernel)), (List.mem_of_getElem? (i := 1106) (by decide +kernel)), (List.mem_of_getElem? (i := 47) (by decide +kernel)), ⟨by decide +kernel, by decide +kernel⟩, by decide +kernel, by decide⟩
theorem zf_M_L_204 : zz_V RL 204 yX6_wears cX6_wears 6 (some Jvm.ClassFile.FieldType.int) 2 := ⟨(List.mem_of_getElem? (i := 1107) (by decide +kernel)), (List.mem_of_getElem? (i := 1108) (by decide +kernel)), (List.mem_of_getElem? (i := 1109) (by decide +kernel)), (List.mem_of_getElem? (i := 1110) (by decide +kernel)), (List.mem_of_getElem? (i := 47) (by decide +kernel)), ⟨by decide +kernel, by decide +kernel⟩, by decide +kernel, by decide⟩
theorem zf_M_L_207 : zz_V RL 207 yX6_struck cX6_struck 2 (some Jvm.ClassFile.FieldType.int) 1 := ⟨(List.mem_of_getElem? (i := 1111) (by decide +kernel)), (List.mem_of_getElem? (i := 1112) (by decide +kernel)), (List.mem_of_getElem? (i := 1113) (by decide +kernel)), (List.mem_of_getElem? (i := 1114) (by decide +kernel)), (List.mem_of_getElem? (i := 47) (by decide +kernel)), ⟨by decide +kernel, by decide +kernel⟩, by decide +kernel, by decide⟩
theorem zf_M_L_210 : zz_V RL 210 yX6_pose cX6_pose 4 (some Jvm.ClassFile.FieldType.int) 3 := ⟨(List.mem_of_getElem? (i := 1115) (by decide +kernel)), (List.mem_of_getElem? (i := 1116) (by decide +kernel)), (List.mem_of_getElem? (i := 1117) (by decide +kernel)), (List.mem_of_getElem? (i := 1118) (by decide +kernel)), (List.mem_of_getElem? (i := 47) (by decide +kernel)), ⟨by decide +kernel, by decide +kernel⟩, by decide +kernel, by decide⟩
theorem zf_M_L_213 : zz_V RL 213 yX6_ofFrame cX6_ofFrame 5 (some Jvm.ClassFile.FieldType.int) 3 := ⟨(List.mem_of_getElem? (i := 1119) (by decide +kernel)), (List.mem_of_getElem? (i := 1120) (by decide +kernel)), (List.mem_of_getElem? (i := 1121) (by decide +kernel)), (List.mem_of_getElem? (i := 1122) (by decide +kernel)), (List.mem_of_getElem? (i := 47) (by decide +kernel)), ⟨by decide +kernel, by decide +kernel⟩, by decide +kernel, by decide⟩
theorem zf_M_L_216 : zz_V RL 216 yX6_faults cX6_faults 7 (some Jvm.ClassFile.FieldType.int) 2 := ⟨(List.mem_of_getElem? (i := 1123) (by decide +kernel)), (List.mem_of_getElem? (i := 1124) (by decide +kernel)), (List.mem_of_getElem? (i := 1125) (by decide +kernel)), (List.mem_of_getElem? (i := 1126) (by decide +kernel)), (List.mem_of_getElem? (i := 47) (by decide +kernel)), ⟨by decide +kernel, by decide +kernel⟩, by decide +kernel, by decide⟩
theorem zf_M_L_219 : zz_V RL 219 yX6_ofJoint cX6_ofJoint 4 (some Jvm.ClassFile.FieldType.int) 3 := ⟨(List.mem_of_getElem? (i := 1127) (by decide +kernel)), (List.mem_of_getElem? (i := 1128) (by decide +kernel)), (List.mem_of_getElem? (i := 1129) (by decide +kernel)), (List.mem_of_getElem? (i := 1130) (by decide +kernel)), (List.mem_of_getElem? (i := 47) (by decide +kernel)), ⟨by decide +kernel, by decide +kernel⟩, by decide +kernel, by decide⟩
theorem zf_M_L_222 : zz_V RL 222 yX6_left cX6_left 3 (some Jvm.ClassFile.FieldType.int) 2 := ⟨(List.mem_of_getElem? (i := 1131) (by decide +kernel)), (List.mem_of_getElem? (i := 1132) (by decide +kernel)), (List.mem_of_getElem? (i := 1133) (by decide +kernel)), (List.mem_of_getElem? (i := 1134) (by decide +kernel)), (List.mem_of_getElem? (i := 47) (by decide +kernel)), ⟨by decide +kernel, by decide +kernel⟩, by decide +kernel, by decide⟩
theorem zf_M_L_223 : zz_V RL 223 yX5_light cX5_light 1 (some Jvm.ClassFile.FieldType.int) 0 := ⟨(List.mem_of_getElem? (i := 140) (by decide +kernel)), (List.mem_of_getElem? (i := 141) (by decide +kernel)), (List.mem_of_getElem? (i := 142) (by decide +kernel)), (List.mem_of_getElem? (i := 143) (by decide +kernel)), (List.mem_of_getElem? (i := 45) (by decide +kernel)), ⟨by decide +kernel, by decide +kernel⟩, by decide +kernel, by decide⟩
theorem zf_M_L_226 : zz_V RL 226 yX6_light cX6_light 1 (some Jvm.ClassFile.FieldType.int) 0 := ⟨(List.mem_of_getElem? (i := 1135) (by decide +kernel)), (List.mem_of_getElem? (i := 1136) (by decide +kernel)), (List.mem_of_getElem? (i := 1137) (by decide +kernel)), (List.mem_of_getElem? (i := 1138) (by decide +kernel)), (List.mem_of_getElem? (i := 47) (by decide +kernel)), ⟨by decide +kernel, by decide +kernel⟩, by decide +kernel, by decide⟩
theorem zf_M_L_229 : zz_V RL 229 yX6_film cX6_film 4 (some Jvm.ClassFile.FieldType.int) 1 := ⟨(List.mem_of_getElem? (i := 1139) (by decide +kernel)), (List.mem_of_getElem? (i := 1140) (by decide +kernel)), (List.mem_of_getElem? (i := 1141) (by decide +kernel)), (List.mem_of_getElem? (i := 1142) (by decide +kernel)), (List.mem_of_getElem? (i := 47) (by decide +kernel)), ⟨by decide +kernel, by decide +kernel⟩, by decide +kernel, by decide⟩
theorem zf_M_X6_1 : Cond.methodLink RX6 1 Lib.objectInit ∈ lw_tbl := (List.mem_of_getElem? (i := 800) (by decide +kernel))
theorem zf_M_X6_91 : zz_S RX6 91 yX6_isIn cX6_isIn 3 (some Jvm.ClassFile.FieldType.boolean) 3 := ⟨(List.mem_of_getElem? (i := 904) (by decide +kernel)), (List.mem_of_getElem? (i := 905) (by decide +kernel)), (List.mem_of_getElem? (i := 906) (by decide +kernel)), (List.mem_of_getElem? (i := 47) (by decide +kernel)), ⟨by decide +kernel, by decide +kernel⟩, by decide +kernel, by decide⟩
theorem zf_M_X6_111 : zz_S RX6 111 yX6_isSound cX6_isSound 1 (some Jvm.ClassFile.FieldType.boolean) 1 := ⟨(List.mem_of_getElem? (i := 915) (by decide +kernel)), (List.mem_of_getElem? (i := 916) (by decide +kernel)), (List.mem_of_getElem? (i := 917) (by decide +kernel)), (List.mem_of_getElem? (i := 47) (by decide +kernel)), ⟨by decide +kernel, by decide +kernel⟩, by decide +kernel, by decide⟩
theorem zf_M_X6_120 : zz_S RX6 120 yX6_isAnimator cX6_isAnimator 1 (some Jvm.ClassFile.FieldType.boolean) 1 := ⟨(List.mem_of_getElem? (i := 946) (by decide +kernel)), (List.mem_of_getElem? (i := 947) (by decide +kernel)), (List.mem_of_getElem? (i := 948) (by decide +kernel)), (List.mem_of_getElem? (i := 47) (by decide +kernel)), ⟨by decide +kernel, by decide +kernel⟩, by decide +kernel, by decide⟩
theorem zf_M_X6_131 : zz_S RX6 131 yX6_nearest cX6_nearest 6 (some Jvm.ClassFile.FieldType.int) 5 := ⟨(List.mem_of_getElem? (i := 989) (by decide +kernel)), (List.mem_of_getElem? (i := 990) (by decide +kernel)), (List.mem_of_getElem? (i := 991) (by decide +kernel)), (List.mem_of_getElem? (i := 47) (by decide +kernel)), ⟨by decide +kernel, by decide +kernel⟩, by decide +kernel, by decide⟩
theorem zf_M_X6_170 : zz_S RX6 170 yX6_shorter cX6_shorter 3 (some Jvm.ClassFile.FieldType.int) 2 := ⟨(List.mem_of_getElem? (i := 1036) (by decide +kernel)), (List.mem_of_getElem? (i := 1037) (by decide +kernel)), (List.mem_of_getElem? (i := 1038) (by decide +kernel)), (List.mem_of_getElem? (i := 47) (by decide +kernel)), ⟨by decide +kernel, by decide +kernel⟩, by decide +kernel, by decide⟩
theorem zf_M_X6_95 : zz_V RX6 95 yX6_isPuppet cX6_isPuppet 2 (some Jvm.ClassFile.FieldType.boolean) 1 := ⟨(List.mem_of_getElem? (i := 918) (by decide +kernel)), (List.mem_of_getElem? (i := 920) (by decide +kernel)), (List.mem_of_getElem? (i := 21) (by decide +kernel)), (List.mem_of_getElem? (i := 921) (by decide +kernel)), (List.mem_of_getElem? (i := 47) (by decide +kernel)), ⟨by decide +kernel, by decide +kernel⟩, by decide +kernel, by decide⟩
theorem zf_M_X6_105 : zz_V RX6 105 yX6_isShot cX6_isShot 2 (some Jvm.ClassFile.FieldType.boolean) 1 := ⟨(List.mem_of_getElem? (i := 942) (by decide +kernel)), (List.mem_of_getElem? (i := 944) (by decide +kernel)), (List.mem_of_getElem? (i := 23) (by decide +kernel)), (List.mem_of_getElem? (i := 945) (by decide +kernel)), (List.mem_of_getElem? (i := 47) (by decide +kernel)), ⟨by decide +kernel, by decide +kernel⟩, by decide +kernel, by decide⟩
theorem zf_M_X6_108 : zz_V RX6 108 yX6_fails cX6_fails 2 (some Jvm.ClassFile.FieldType.boolean) 1 := ⟨(List.mem_of_getElem? (i := 907) (by decide +kernel)), (List.mem_of_getElem? (i := 909) (by decide +kernel)), (List.mem_of_getElem? (i := 20) (by decide +kernel)), (List.mem_of_getElem? (i := 910) (by decide +kernel)), (List.mem_of_getElem? (i := 47) (by decide +kernel)), ⟨by decide +kernel, by decide +kernel⟩, by decide +kernel, by decide⟩
theorem zf_M_X6_114 : zz_V RX6 114 yX6_isVoice cX6_isVoice 2 (some Jvm.ClassFile.FieldType.boolean) 1 := ⟨(List.mem_of_getElem? (i := 934) (by decide +kernel)), (List.mem_of_getElem? (i := 936) (by decide +kernel)), (List.mem_of_getElem? (i := 22) (by decide +kernel)), (List.mem_of_getElem? (i := 937) (by decide +kernel)), (List.mem_of_getElem? (i := 47) (by decide +kernel)), ⟨by decide +kernel, by decide +kernel⟩, by decide +kernel, by decide⟩
theorem zf_M_X6_117 : zz_V RX6 117 yX6_isDone cX6_isDone 2 (some Jvm.ClassFile.FieldType.boolean) 1 := ⟨(List.mem_of_getElem? (i := 949) (by decide +kernel)), (List.mem_of_getElem? (i := 951) (by decide +kernel)), (List.mem_of_getElem? (i := 24) (by decide +kernel)), (List.mem_of_getElem? (i := 952) (by decide +kernel)), (List.mem_of_getElem? (i := 47) (by decide +kernel)), ⟨by decide +kernel, by decide +kernel⟩, by decide +kernel, by decide⟩
theorem zf_M_X6_123 : zz_V RX6 123 yX6_isHeld cX6_isHeld 3 (some Jvm.ClassFile.FieldType.boolean) 2 := ⟨(List.mem_of_getElem? (i := 977) (by decide +kernel)), (List.mem_of_getElem? (i := 979) (by decide +kernel)), (List.mem_of_getElem? (i := 28) (by decide +kernel)), (List.mem_of_getElem? (i := 980) (by decide +kernel)), (List.mem_of_getElem? (i := 47) (by decide +kernel)), ⟨by decide +kernel, by decide +kernel⟩, by decide +kernel, by decide⟩
theorem zf_M_X6_127 : zz_V RX6 127 yX6_row cX6_row 3 (some Jvm.ClassFile.FieldType.int) 2 := ⟨(List.mem_of_getElem? (i := 985) (by decide +kernel)), (List.mem_of_getElem? (i := 987) (by decide +kernel)), (List.mem_of_getElem? (i := 30) (by decide +kernel)), (List.mem_of_getElem? (i := 988) (by decide +kernel)), (List.mem_of_getElem? (i := 47) (by decide +kernel)), ⟨by decide +kernel, by decide +kernel⟩, by decide +kernel, by decide⟩
theorem zf_M_X6_135 : zz_V RX6 135 yX6_isJoint cX6_isJoint 3 (some Jvm.ClassFile.FieldType.boolean) 2 := ⟨(List.mem_of_getElem? (i := 969) (by decide +kernel)), (List.mem_of_getElem? (i := 971) (by decide +kernel)), (List.mem_of_getElem? (i := 26) (by decide +kernel)), (List.mem_of_getElem? (i := 972) (by decide +kernel)), (List.mem_of_getElem? (i := 47) (by decide +kernel)), ⟨by decide +kernel, by decide +kernel⟩, by decide +kernel, by decide⟩
theorem zf_M_X6_138 : zz_V RX6 138 yX6_isJointOf cX6_isJointOf 3 (some Jvm.ClassFile.FieldType.boolean) 2 := ⟨(List.mem_of_getElem? (i := 965) (by decide +kernel)), (List.mem_of_getElem? (i := 967) (by decide +kernel)), (List.mem_of_getElem? (i := 25) (by decide +kernel)), (List.mem_of_getElem? (i := 968) (by decide +kernel)), (List.mem_of_getElem? (i := 47) (by decide +kernel)), ⟨by decide +kernel, by decide +kernel⟩, by decide +kernel, by decide⟩
theorem zf_M_X6_141 : zz_V RX6 141 yX6_isFrame cX6_isFrame 3 (some Jvm.ClassFile.FieldType.boolean) 2 := ⟨(List.mem_of_getElem? (i := 973) (by decide +kernel)), (List.mem_of_getElem? (i := 975) (by decide +kernel)), (List.mem_of_getElem? (i := 27) (by decide +kernel)), (List.mem_of_getElem? (i := 976) (by decide +kernel)), (List.mem_of_getElem? (i := 47) (by decide +kernel)), ⟨by decide +kernel, by decide +kernel⟩, by decide +kernel, by decide⟩
theorem zf_M_X6_144 : zz_V RX6 144 yX6_degreeAt cX6_degreeAt 9 (some Jvm.ClassFile.FieldType.int) 3 := ⟨(List.mem_of_getElem? (i := 981) (by decide +kernel)), (List.mem_of_getElem? (i := 983) (by decide +kernel)), (List.mem_of_getElem? (i := 29) (by decide +kernel)), (List.mem_of_getElem? (i := 984) (by decide +kernel)), (List.mem_of_getElem? (i := 47) (by decide +kernel)), ⟨by decide +kernel, by decide +kernel⟩, by decide +kernel, by decide⟩
theorem zf_M_X6_148 : zz_V RX6 148 yX6_placeAt cX6_placeAt 7 (some Jvm.ClassFile.FieldType.int) 2 := ⟨(List.mem_of_getElem? (i := 996) (by decide +kernel)), (List.mem_of_getElem? (i := 998) (by decide +kernel)), (List.mem_of_getElem? (i := 31) (by decide +kernel)), (List.mem_of_getElem? (i := 999) (by decide +kernel)), (List.mem_of_getElem? (i := 47) (by decide +kernel)), ⟨by decide +kernel, by decide +kernel⟩, by decide +kernel, by decide⟩
theorem zf_M_X6_157 : zz_V RX6 157 yX6_mouthAt cX6_mouthAt 6 (some Jvm.ClassFile.FieldType.int) 2 := ⟨(List.mem_of_getElem? (i := 1020) (by decide +kernel)), (List.mem_of_getElem? (i := 1022) (by decide +kernel)), (List.mem_of_getElem? (i := 35) (by decide +kernel)), (List.mem_of_getElem? (i := 1023) (by decide +kernel)), (List.mem_of_getElem? (i := 47) (by decide +kernel)), ⟨by decide +kernel, by decide +kernel⟩, by decide +kernel, by decide⟩
theorem zf_M_X6_160 : zz_V RX6 160 yX6_isOn cX6_isOn 2 (some Jvm.ClassFile.FieldType.boolean) 1 := ⟨(List.mem_of_getElem? (i := 1012) (by decide +kernel)), (List.mem_of_getElem? (i := 1014) (by decide +kernel)), (List.mem_of_getElem? (i := 33) (by decide +kernel)), (List.mem_of_getElem? (i := 1015) (by decide +kernel)), (List.mem_of_getElem? (i := 47) (by decide +kernel)), ⟨by decide +kernel, by decide +kernel⟩, by decide +kernel, by decide⟩
theorem zf_M_X6_163 : zz_V RX6 163 yX6_wanted cX6_wanted 4 (some Jvm.ClassFile.FieldType.int) 1 := ⟨(List.mem_of_getElem? (i := 1016) (by decide +kernel)), (List.mem_of_getElem? (i := 1018) (by decide +kernel)), (List.mem_of_getElem? (i := 34) (by decide +kernel)), (List.mem_of_getElem? (i := 1019) (by decide +kernel)), (List.mem_of_getElem? (i := 47) (by decide +kernel)), ⟨by decide +kernel, by decide +kernel⟩, by decide +kernel, by decide⟩
theorem zf_M_X6_167 : zz_V RX6 167 yX6_isBroken cX6_isBroken 4 (some Jvm.ClassFile.FieldType.boolean) 1 := ⟨(List.mem_of_getElem? (i := 1024) (by decide +kernel)), (List.mem_of_getElem? (i := 1026) (by decide +kernel)), (List.mem_of_getElem? (i := 36) (by decide +kernel)), (List.mem_of_getElem? (i := 1027) (by decide +kernel)), (List.mem_of_getElem? (i := 47) (by decide +kernel)), ⟨by decide +kernel, by decide +kernel⟩, by decide +kernel, by decide⟩
theorem zf_M_X6_173 : zz_V RX6 173 yX6_reason cX6_reason 5 (some Jvm.ClassFile.FieldType.int) 1 := ⟨(List.mem_of_getElem? (i := 1008) (by decide +kernel)), (List.mem_of_getElem? (i := 1010) (by decide +kernel)), (List.mem_of_getElem? (i := 32) (by decide +kernel)), (List.mem_of_getElem? (i := 1011) (by decide +kernel)), (List.mem_of_getElem? (i := 47) (by decide +kernel)), ⟨by decide +kernel, by decide +kernel⟩, by decide +kernel, by decide⟩
theorem zf_M_X6_176 : zz_V RX6 176 yX6_holds cX6_holds 4 none 2 := ⟨(List.mem_of_getElem? (i := 1028) (by decide +kernel)), (List.mem_of_getElem? (i := 1030) (by decide +kernel)), (List.mem_of_getElem? (i := 37) (by decide +kernel)), (List.mem_of_getElem? (i := 1031) (by decide +kernel)), (List.mem_of_getElem? (i := 47) (by decide +kernel)), ⟨by decide +kernel, by decide +kernel⟩, by decide +kernel, by decide⟩
theorem zf_M_X6_180 : zz_V RX6 180 yX6_poses cX6_poses 6 none 2 := ⟨(List.mem_of_getElem? (i := 1032) (by decide +kernel)), (List.mem_of_getElem? (i := 1034) (by decide +kernel)), (List.mem_of_getElem? (i := 38) (by decide +kernel)), (List.mem_of_getElem? (i := 1035) (by decide +kernel)), (List.mem_of_getElem? (i := 47) (by decide +kernel)), ⟨by decide +kernel, by decide +kernel⟩, by decide +kernel, by decide⟩
theorem zf_M_X6_183 : zz_V RX6 183 yX6_stays cX6_stays 8 (some Jvm.ClassFile.FieldType.int) 2 := ⟨(List.mem_of_getElem? (i := 1039) (by decide +kernel)), (List.mem_of_getElem? (i := 1041) (by decide +kernel)), (List.mem_of_getElem? (i := 39) (by decide +kernel)), (List.mem_of_getElem? (i := 1042) (by decide +kernel)), (List.mem_of_getElem? (i := 47) (by decide +kernel)), ⟨by decide +kernel, by decide +kernel⟩, by decide +kernel, by decide⟩
theorem zf_M_X6_186 : zz_V RX6 186 yX6_lightNow cX6_lightNow 2 (some Jvm.ClassFile.FieldType.int) 0 := ⟨(List.mem_of_getElem? (i := 1043) (by decide +kernel)), (List.mem_of_getElem? (i := 1045) (by decide +kernel)), (List.mem_of_getElem? (i := 40) (by decide +kernel)), (List.mem_of_getElem? (i := 1046) (by decide +kernel)), (List.mem_of_getElem? (i := 47) (by decide +kernel)), ⟨by decide +kernel, by decide +kernel⟩, by decide +kernel, by decide⟩
theorem zf_M_X6_193 : zz_V RX6 193 yX6_isStruck cX6_isStruck 3 (some Jvm.ClassFile.FieldType.boolean) 2 := ⟨(List.mem_of_getElem? (i := 1059) (by decide +kernel)), (List.mem_of_getElem? (i := 1061) (by decide +kernel)), (List.mem_of_getElem? (i := 41) (by decide +kernel)), (List.mem_of_getElem? (i := 1062) (by decide +kernel)), (List.mem_of_getElem? (i := 47) (by decide +kernel)), ⟨by decide +kernel, by decide +kernel⟩, by decide +kernel, by decide⟩
theorem zf_M_X6_196 : zz_V RX6 196 yX6_inFilm cX6_inFilm 4 (some Jvm.ClassFile.FieldType.int) 1 := ⟨(List.mem_of_getElem? (i := 1063) (by decide +kernel)), (List.mem_of_getElem? (i := 1065) (by decide +kernel)), (List.mem_of_getElem? (i := 42) (by decide +kernel)), (List.mem_of_getElem? (i := 1066) (by decide +kernel)), (List.mem_of_getElem? (i := 47) (by decide +kernel)), ⟨by decide +kernel, by decide +kernel⟩, by decide +kernel, by decide⟩
theorem zf_M_X6_198 : zz_V RX6 198 yX6_framesInFilm cX6_framesInFilm 3 (some Jvm.ClassFile.FieldType.int) 0 := ⟨(List.mem_of_getElem? (i := 1079) (by decide +kernel)), (List.mem_of_getElem? (i := 1081) (by decide +kernel)), (List.mem_of_getElem? (i := 43) (by decide +kernel)), (List.mem_of_getElem? (i := 1082) (by decide +kernel)), (List.mem_of_getElem? (i := 47) (by decide +kernel)), ⟨by decide +kernel, by decide +kernel⟩, by decide +kernel, by decide⟩
theorem zw_oi : Cond.instanceMethod Lib.objectInit ∈ lw_tbl := (List.mem_of_getElem? (i := 66) (by decide +kernel))
theorem zw_oc : Cond.code Lib.objectInit ⟨#[0xb1]⟩ 1 none ∈ lw_tbl := (List.mem_of_getElem? (i := 67) (by decide +kernel))
theorem zw_maxs : Cond.static Lib.Math.max.name ∈ lw_tbl := (List.mem_of_getElem? (i := 138) (by decide +kernel))
theorem zw_maxc : Cond.code Lib.Math.max.name Lib.Math.max.code 2 (some .int) ∈ lw_tbl := (List.mem_of_getElem? (i := 139) (by decide +kernel))
theorem zw_abss : Cond.static Lib.Math.abs.name ∈ lw_tbl := (List.mem_of_getElem? (i := 624) (by decide +kernel))
theorem zw_absc : Cond.code Lib.Math.abs.name Lib.Math.abs.code 1 (some .int) ∈ lw_tbl := (List.mem_of_getElem? (i := 625) (by decide +kernel))
theorem zw_mi : Cond.initialized "java/lang/Math" ∈ lw_tbl := (List.mem_of_getElem? (i := 58) (by decide +kernel))
theorem zw_inst_X0 : Cond.instantiable RX0 4 ∈ lw_tbl := (List.mem_of_getElem? (i := 240) (by decide +kernel))
theorem zw_init_X0 : Cond.initialized RX0 ∈ lw_tbl := (List.mem_of_getElem? (i := 53) (by decide +kernel))
theorem zw_inst_X1 : Cond.instantiable RX1 7 ∈ lw_tbl := (List.mem_of_getElem? (i := 352) (by decide +kernel))
theorem zw_init_X1 : Cond.initialized RX1 ∈ lw_tbl := (List.mem_of_getElem? (i := 57) (by decide +kernel))
theorem zw_inst_X2 : Cond.instantiable RX2 9 ∈ lw_tbl := (List.mem_of_getElem? (i := 329) (by decide +kernel))
theorem zw_init_X2 : Cond.initialized RX2 ∈ lw_tbl := (List.mem_of_getElem? (i := 55) (by decide +kernel))
theorem zw_inst_X3 : Cond.instantiable RX3 3 ∈ lw_tbl := (List.mem_of_getElem? (i := 336) (by decide +kernel))
theorem zw_init_X3 : Cond.initialized RX3 ∈ lw_tbl := (List.mem_of_getElem? (i := 56) (by decide +kernel))
theorem zw_inst_X4 : Cond.instantiable RX4 3 ∈ lw_tbl := (List.mem_of_getElem? (i := 72) (by decide +kernel))
theorem zw_init_X4 : Cond.initialized RX4 ∈ lw_tbl := (List.mem_of_getElem? (i := 46) (by decide +kernel))
theorem zw_inst_X5 : Cond.instantiable RX5 12 ∈ lw_tbl := (List.mem_of_getElem? (i := 61) (by decide +kernel))
theorem zw_init_X5 : Cond.initialized RX5 ∈ lw_tbl := (List.mem_of_getElem? (i := 45) (by decide +kernel))
theorem zw_inst_X6 : Cond.instantiable RX6 31 ∈ lw_tbl := (List.mem_of_getElem? (i := 796) (by decide +kernel))
theorem zw_init_X6 : Cond.initialized RX6 ∈ lw_tbl := (List.mem_of_getElem? (i := 47) (by decide +kernel))
theorem zw_arr_int : Cond.arrayClass .int ∈ lw_tbl := (List.mem_of_getElem? (i := 88) (by decide +kernel))
theorem zw_arr_boolean : Cond.arrayClass .boolean ∈ lw_tbl := (List.mem_of_getElem? (i := 128) (by decide +kernel))
theorem zw_arr_long : Cond.arrayClass .long ∈ lw_tbl := (List.mem_of_getElem? (i := 1143) (by decide +kernel))
theorem zw_arr_byte : Cond.arrayClass .byte ∈ lw_tbl := (List.mem_of_getElem? (i := 223) (by decide +kernel))
theorem zw_cl_X5_9 : Cond.classLink RX5 9 RX0 ∈ lw_tbl := (List.mem_of_getElem? (i := 68) (by decide +kernel))
theorem zw_cl_X5_19 : Cond.classLink RX5 19 RX4 ∈ lw_tbl := (List.mem_of_getElem? (i := 70) (by decide +kernel))
theorem zw_cl_X5_33 : Cond.classLink RX5 33 RX2 ∈ lw_tbl := (List.mem_of_getElem? (i := 89) (by decide +kernel))
theorem zw_cl_X5_63 : Cond.classLink RX5 63 "java/lang/IllegalStateException" ∈ lw_tbl := (List.mem_of_getElem? (i := 224) (by decide +kernel))
theorem zw_cl_X5_271 : Cond.classLink RX5 271 "java/lang/IndexOutOfBoundsException" ∈ lw_tbl := (List.mem_of_getElem? (i := 275) (by decide +kernel))
theorem zw_cl_X5_276 : Cond.classLink RX5 276 "java/lang/IllegalArgumentException" ∈ lw_tbl := (List.mem_of_getElem? (i := 156) (by decide +kernel))
theorem zw_cl_X1_15 : Cond.classLink RX1 15 "[[I" ∈ lw_tbl := (List.mem_of_getElem? (i := 357) (by decide +kernel))
theorem zw_cl_X2_36 : Cond.classLink RX2 36 RX3 ∈ lw_tbl := (List.mem_of_getElem? (i := 334) (by decide +kernel))
theorem zw_cl_X2_49 : Cond.classLink RX2 49 RX1 ∈ lw_tbl := (List.mem_of_getElem? (i := 351) (by decide +kernel))
theorem zw_cl_L_8 : Cond.classLink RL 8 RX5 ∈ lw_tbl := (List.mem_of_getElem? (i := 60) (by decide +kernel))
theorem zw_cl_L_13 : Cond.classLink RL 13 "java/lang/IllegalArgumentException" ∈ lw_tbl := (List.mem_of_getElem? (i := 147) (by decide +kernel))
theorem zw_cl_L_15 : Cond.classLink RL 15 "java/lang/IllegalStateException" ∈ lw_tbl := (List.mem_of_getElem? (i := 148) (by decide +kernel))
theorem zw_cl_L_21 : Cond.classLink RL 21 "java/lang/IndexOutOfBoundsException" ∈ lw_tbl := (List.mem_of_getElem? (i := 266) (by decide +kernel))
theorem zw_cl_L_115 : Cond.classLink RL 115 RX6 ∈ lw_tbl := (List.mem_of_getElem? (i := 795) (by decide +kernel))
theorem zw_con_X6_83 : Cond.constant RX6 83 100000 ∈ lw_tbl := (List.mem_of_getElem? (i := 801) (by decide +kernel))
theorem zw_at_X5_63_67 : (vx_atS RX5 67 "java/lang/IllegalStateException" ["java/lang/RuntimeException", "java/lang/Exception"]).all (fun w => decide (w ∈ lw_tbl) && zk_ok w && vx_ot w) = true := by decide +kernel
theorem zf_T_X5_65 : zz_T RX5 63 65 67 "java/lang/IllegalStateException" "there are 5 puppets" := ⟨by decide +kernel, (List.mem_of_getElem? (i := 224) (by decide +kernel)), (List.mem_of_getElem? (i := 52) (by decide +kernel)), by decide +kernel, zw_at_X5_63_67, by decide +kernel, by decide +kernel⟩
theorem zf_T_X5_83 : zz_T RX5 63 83 67 "java/lang/IllegalStateException" "more than 9 mouths" := ⟨by decide +kernel, (List.mem_of_getElem? (i := 224) (by decide +kernel)), (List.mem_of_getElem? (i := 52) (by decide +kernel)), by decide +kernel, zw_at_X5_63_67, by decide +kernel, by decide +kernel⟩
theorem zf_T_X5_88 : zz_T RX5 63 88 67 "java/lang/IllegalStateException" "the voice has 12 sounds" := ⟨by decide +kernel, (List.mem_of_getElem? (i := 224) (by decide +kernel)), (List.mem_of_getElem? (i := 52) (by decide +kernel)), by decide +kernel, zw_at_X5_63_67, by decide +kernel, by decide +kernel⟩
theorem zf_T_X5_94 : zz_T RX5 63 94 67 "java/lang/IllegalStateException" "the voice has no sound" := ⟨by decide +kernel, (List.mem_of_getElem? (i := 224) (by decide +kernel)), (List.mem_of_getElem? (i := 52) (by decide +kernel)), by decide +kernel, zw_at_X5_63_67, by decide +kernel, by decide +kernel⟩
theorem zf_T_X5_96 : zz_T RX5 63 96 67 "java/lang/IllegalStateException" "there are 6 voices" := ⟨by decide +kernel, (List.mem_of_getElem? (i := 224) (by decide +kernel)), (List.mem_of_getElem? (i := 52) (by decide +kernel)), by decide +kernel, zw_at_X5_63_67, by decide +kernel, by decide +kernel⟩
theorem zf_T_X5_101 : zz_T RX5 63 101 67 "java/lang/IllegalStateException" "there are 8 shots" := ⟨by decide +kernel, (List.mem_of_getElem? (i := 224) (by decide +kernel)), (List.mem_of_getElem? (i := 52) (by decide +kernel)), by decide +kernel, zw_at_X5_63_67, by decide +kernel, by decide +kernel⟩
theorem zf_T_X5_117 : zz_T RX5 63 117 67 "java/lang/IllegalStateException" "the shot is done" := ⟨by decide +kernel, (List.mem_of_getElem? (i := 224) (by decide +kernel)), (List.mem_of_getElem? (i := 52) (by decide +kernel)), by decide +kernel, zw_at_X5_63_67, by decide +kernel, by decide +kernel⟩
theorem zf_T_X5_129 : zz_T RX5 63 129 67 "java/lang/IllegalStateException" "the shot has begun, and its animator is not ill" := ⟨by decide +kernel, (List.mem_of_getElem? (i := 224) (by decide +kernel)), (List.mem_of_getElem? (i := 52) (by decide +kernel)), by decide +kernel, zw_at_X5_63_67, by decide +kernel, by decide +kernel⟩
theorem zf_T_X5_152 : zz_T RX5 63 152 67 "java/lang/IllegalStateException" "the frame is held" := ⟨by decide +kernel, (List.mem_of_getElem? (i := 224) (by decide +kernel)), (List.mem_of_getElem? (i := 52) (by decide +kernel)), by decide +kernel, zw_at_X5_63_67, by decide +kernel, by decide +kernel⟩
theorem zf_T_X5_206 : zz_T RX5 63 206 67 "java/lang/IllegalStateException" "the shot has not begun" := ⟨by decide +kernel, (List.mem_of_getElem? (i := 224) (by decide +kernel)), (List.mem_of_getElem? (i := 52) (by decide +kernel)), by decide +kernel, zw_at_X5_63_67, by decide +kernel, by decide +kernel⟩
theorem zf_T_X5_211 : zz_T RX5 63 211 67 "java/lang/IllegalStateException" "the frame is not struck" := ⟨by decide +kernel, (List.mem_of_getElem? (i := 224) (by decide +kernel)), (List.mem_of_getElem? (i := 52) (by decide +kernel)), by decide +kernel, zw_at_X5_63_67, by decide +kernel, by decide +kernel⟩
theorem zf_T_X5_216 : zz_T RX5 63 216 67 "java/lang/IllegalStateException" "the shot is in the film" := ⟨by decide +kernel, (List.mem_of_getElem? (i := 224) (by decide +kernel)), (List.mem_of_getElem? (i := 52) (by decide +kernel)), by decide +kernel, zw_at_X5_63_67, by decide +kernel, by decide +kernel⟩
theorem zf_T_X5_221 : zz_T RX5 63 221 67 "java/lang/IllegalStateException" "the shot is not done" := ⟨by decide +kernel, (List.mem_of_getElem? (i := 224) (by decide +kernel)), (List.mem_of_getElem? (i := 52) (by decide +kernel)), by decide +kernel, zw_at_X5_63_67, by decide +kernel, by decide +kernel⟩
theorem zf_T_X5_229 : zz_T RX5 63 229 67 "java/lang/IllegalStateException" "the shot is not in the film" := ⟨by decide +kernel, (List.mem_of_getElem? (i := 224) (by decide +kernel)), (List.mem_of_getElem? (i := 52) (by decide +kernel)), by decide +kernel, zw_at_X5_63_67, by decide +kernel, by decide +kernel⟩
theorem zf_T_X5_296 : zz_T RX5 63 296 67 "java/lang/IllegalStateException" "the frame is struck" := ⟨by decide +kernel, (List.mem_of_getElem? (i := 224) (by decide +kernel)), (List.mem_of_getElem? (i := 52) (by decide +kernel)), by decide +kernel, zw_at_X5_63_67, by decide +kernel, by decide +kernel⟩
theorem zf_T_X5_319 : zz_T RX5 63 319 67 "java/lang/IllegalStateException" "the shot has no animator" := ⟨by decide +kernel, (List.mem_of_getElem? (i := 224) (by decide +kernel)), (List.mem_of_getElem? (i := 52) (by decide +kernel)), by decide +kernel, zw_at_X5_63_67, by decide +kernel, by decide +kernel⟩
theorem zf_T_X5_321 : zz_T RX5 63 321 67 "java/lang/IllegalStateException" "the animator is ill" := ⟨by decide +kernel, (List.mem_of_getElem? (i := 224) (by decide +kernel)), (List.mem_of_getElem? (i := 52) (by decide +kernel)), by decide +kernel, zw_at_X5_63_67, by decide +kernel, by decide +kernel⟩
theorem zf_T_X5_323 : zz_T RX5 63 323 67 "java/lang/IllegalStateException" "another shot has begun, and is not done" := ⟨by decide +kernel, (List.mem_of_getElem? (i := 224) (by decide +kernel)), (List.mem_of_getElem? (i := 52) (by decide +kernel)), by decide +kernel, zw_at_X5_63_67, by decide +kernel, by decide +kernel⟩
theorem zf_T_X5_325 : zz_T RX5 63 325 67 "java/lang/IllegalStateException" "a joint is broken" := ⟨by decide +kernel, (List.mem_of_getElem? (i := 224) (by decide +kernel)), (List.mem_of_getElem? (i := 52) (by decide +kernel)), by decide +kernel, zw_at_X5_63_67, by decide +kernel, by decide +kernel⟩
theorem zf_T_X5_327 : zz_T RX5 63 327 67 "java/lang/IllegalStateException" "no such mouth is left" := ⟨by decide +kernel, (List.mem_of_getElem? (i := 224) (by decide +kernel)), (List.mem_of_getElem? (i := 52) (by decide +kernel)), by decide +kernel, zw_at_X5_63_67, by decide +kernel, by decide +kernel⟩
theorem zw_at_X5_271_275 : (vx_atS RX5 275 "java/lang/IndexOutOfBoundsException" ["java/lang/RuntimeException", "java/lang/Exception"]).all (fun w => decide (w ∈ lw_tbl) && zk_ok w && vx_ot w) = true := by decide +kernel
theorem zf_T_X5_273 : zz_T RX5 271 273 275 "java/lang/IndexOutOfBoundsException" "no such frame of the film" := ⟨by decide +kernel, (List.mem_of_getElem? (i := 275) (by decide +kernel)), (List.mem_of_getElem? (i := 54) (by decide +kernel)), by decide +kernel, zw_at_X5_271_275, by decide +kernel, by decide +kernel⟩
theorem zf_T_X5_281 : zz_T RX5 271 281 275 "java/lang/IndexOutOfBoundsException" "no such animator" := ⟨by decide +kernel, (List.mem_of_getElem? (i := 275) (by decide +kernel)), (List.mem_of_getElem? (i := 54) (by decide +kernel)), by decide +kernel, zw_at_X5_271_275, by decide +kernel, by decide +kernel⟩
theorem zf_T_X5_283 : zz_T RX5 271 283 275 "java/lang/IndexOutOfBoundsException" "no such voice" := ⟨by decide +kernel, (List.mem_of_getElem? (i := 275) (by decide +kernel)), (List.mem_of_getElem? (i := 54) (by decide +kernel)), by decide +kernel, zw_at_X5_271_275, by decide +kernel, by decide +kernel⟩
theorem zf_T_X5_285 : zz_T RX5 271 285 275 "java/lang/IndexOutOfBoundsException" "no such shot" := ⟨by decide +kernel, (List.mem_of_getElem? (i := 275) (by decide +kernel)), (List.mem_of_getElem? (i := 54) (by decide +kernel)), by decide +kernel, zw_at_X5_271_275, by decide +kernel, by decide +kernel⟩
theorem zf_T_X5_290 : zz_T RX5 271 290 275 "java/lang/IndexOutOfBoundsException" "no such joint" := ⟨by decide +kernel, (List.mem_of_getElem? (i := 275) (by decide +kernel)), (List.mem_of_getElem? (i := 54) (by decide +kernel)), by decide +kernel, zw_at_X5_271_275, by decide +kernel, by decide +kernel⟩
theorem zf_T_X5_292 : zz_T RX5 271 292 275 "java/lang/IndexOutOfBoundsException" "no such frame" := ⟨by decide +kernel, (List.mem_of_getElem? (i := 275) (by decide +kernel)), (List.mem_of_getElem? (i := 54) (by decide +kernel)), by decide +kernel, zw_at_X5_271_275, by decide +kernel, by decide +kernel⟩
theorem zf_T_X5_294 : zz_T RX5 271 294 275 "java/lang/IndexOutOfBoundsException" "no such struck frame" := ⟨by decide +kernel, (List.mem_of_getElem? (i := 275) (by decide +kernel)), (List.mem_of_getElem? (i := 54) (by decide +kernel)), by decide +kernel, zw_at_X5_271_275, by decide +kernel, by decide +kernel⟩
theorem zf_T_X5_298 : zz_T RX5 271 298 275 "java/lang/IndexOutOfBoundsException" "no such puppet" := ⟨by decide +kernel, (List.mem_of_getElem? (i := 275) (by decide +kernel)), (List.mem_of_getElem? (i := 54) (by decide +kernel)), by decide +kernel, zw_at_X5_271_275, by decide +kernel, by decide +kernel⟩
theorem zw_at_X5_276_280 : (vx_atS RX5 280 "java/lang/IllegalArgumentException" ["java/lang/RuntimeException", "java/lang/Exception"]).all (fun w => decide (w ∈ lw_tbl) && zk_ok w && vx_ot w) = true := by decide +kernel
theorem zf_T_X5_278 : zz_T RX5 276 278 280 "java/lang/IllegalArgumentException" "out of range" := ⟨by decide +kernel, (List.mem_of_getElem? (i := 156) (by decide +kernel)), (List.mem_of_getElem? (i := 51) (by decide +kernel)), by decide +kernel, zw_at_X5_276_280, by decide +kernel, by decide +kernel⟩
end
