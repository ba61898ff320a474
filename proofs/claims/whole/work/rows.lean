section
/-- a private method of a class that the tables say can be made, by its rows of tables_1 -/
def lw_okq (q : MethodName × Nat) : Prop := (q.1.cls ≠ "java/lang/invoke/MethodHandle" ∧ q.1.cls ≠ "java/lang/invoke/VarHandle") ∧ Cond.instantiable q.1.cls q.2 ∈ tables_1 ∧ Cond.privateMethod q.1 ∈ tables_1 ∧ Cond.instanceMethod q.1 ∈ tables_1
theorem lw_p0 : lw_okq (⟨"SlideStage", "slideShown", "()LSlideStage$Page;"⟩, 9) := ⟨⟨by decide +kernel, by decide +kernel⟩, List.mem_of_getElem? (i := 25) (by decide +kernel), List.mem_of_getElem? (i := 120) (by decide +kernel), List.mem_of_getElem? (i := 121) (by decide +kernel)⟩
theorem lw_p1 : lw_okq (⟨"SlideStage", "findSlide", "(I)LSlideStage$Page;"⟩, 9) := ⟨⟨by decide +kernel, by decide +kernel⟩, List.mem_of_getElem? (i := 25) (by decide +kernel), List.mem_of_getElem? (i := 124) (by decide +kernel), List.mem_of_getElem? (i := 125) (by decide +kernel)⟩
theorem lw_p2 : lw_okq (⟨"SlideStage", "show", "(III)V"⟩, 9) := ⟨⟨by decide +kernel, by decide +kernel⟩, List.mem_of_getElem? (i := 25) (by decide +kernel), List.mem_of_getElem? (i := 174) (by decide +kernel), List.mem_of_getElem? (i := 175) (by decide +kernel)⟩
theorem lw_p3 : lw_okq (⟨"SlideStage", "showEnd", "(II)V"⟩, 9) := ⟨⟨by decide +kernel, by decide +kernel⟩, List.mem_of_getElem? (i := 25) (by decide +kernel), List.mem_of_getElem? (i := 182) (by decide +kernel), List.mem_of_getElem? (i := 183) (by decide +kernel)⟩
theorem lw_p4 : lw_okq (⟨"SlideStage", "paintPage", "(LSlideStage$Page;III)I"⟩, 9) := ⟨⟨by decide +kernel, by decide +kernel⟩, List.mem_of_getElem? (i := 25) (by decide +kernel), List.mem_of_getElem? (i := 207) (by decide +kernel), List.mem_of_getElem? (i := 208) (by decide +kernel)⟩
theorem lw_p5 : lw_okq (⟨"SlideStage", "valueNow", "(LSlideStage$Shape;I)I"⟩, 9) := ⟨⟨by decide +kernel, by decide +kernel⟩, List.mem_of_getElem? (i := 25) (by decide +kernel), List.mem_of_getElem? (i := 212) (by decide +kernel), List.mem_of_getElem? (i := 213) (by decide +kernel)⟩
theorem lw_p6 : lw_okq (⟨"SlideStage", "resolve", "(LSlideStage$Shape;I)I"⟩, 9) := ⟨⟨by decide +kernel, by decide +kernel⟩, List.mem_of_getElem? (i := 25) (by decide +kernel), List.mem_of_getElem? (i := 216) (by decide +kernel), List.mem_of_getElem? (i := 217) (by decide +kernel)⟩
theorem lw_p7 : lw_okq (⟨"SlideStage", "moved", "(LSlideStage$Shape;I)I"⟩, 9) := ⟨⟨by decide +kernel, by decide +kernel⟩, List.mem_of_getElem? (i := 25) (by decide +kernel), List.mem_of_getElem? (i := 226) (by decide +kernel), List.mem_of_getElem? (i := 227) (by decide +kernel)⟩
theorem lw_p8 : lw_okq (⟨"SlideStage", "part", "(LSlideStage$Effect;I)I"⟩, 9) := ⟨⟨by decide +kernel, by decide +kernel⟩, List.mem_of_getElem? (i := 25) (by decide +kernel), List.mem_of_getElem? (i := 230) (by decide +kernel), List.mem_of_getElem? (i := 231) (by decide +kernel)⟩
theorem lw_p9 : lw_okq (⟨"SlideStage", "progress", "(LSlideStage$Effect;)I"⟩, 9) := ⟨⟨by decide +kernel, by decide +kernel⟩, List.mem_of_getElem? (i := 25) (by decide +kernel), List.mem_of_getElem? (i := 234) (by decide +kernel), List.mem_of_getElem? (i := 235) (by decide +kernel)⟩
theorem lw_p10 : lw_okq (⟨"SlideStage", "alphaNow", "(LSlideStage$Shape;I)I"⟩, 9) := ⟨⟨by decide +kernel, by decide +kernel⟩, List.mem_of_getElem? (i := 25) (by decide +kernel), List.mem_of_getElem? (i := 238) (by decide +kernel), List.mem_of_getElem? (i := 239) (by decide +kernel)⟩
theorem lw_p11 : lw_okq (⟨"java/lang/Throwable", "fillInStackTrace", "(I)Ljava/lang/Throwable;"⟩, 6) := ⟨⟨by decide +kernel, by decide +kernel⟩, List.mem_of_getElem? (i := 300) (by decide +kernel), List.mem_of_getElem? (i := 298) (by decide +kernel), List.mem_of_getElem? (i := 299) (by decide +kernel)⟩
theorem lw_p12 : lw_okq (⟨"SlideStage", "findPage", "(I)LSlideStage$Page;"⟩, 9) := ⟨⟨by decide +kernel, by decide +kernel⟩, List.mem_of_getElem? (i := 25) (by decide +kernel), List.mem_of_getElem? (i := 330) (by decide +kernel), List.mem_of_getElem? (i := 331) (by decide +kernel)⟩
theorem lw_p13 : lw_okq (⟨"java/util/ArrayList", "add", "(Ljava/lang/Object;[Ljava/lang/Object;I)V"⟩, 3) := ⟨⟨by decide +kernel, by decide +kernel⟩, List.mem_of_getElem? (i := 34) (by decide +kernel), List.mem_of_getElem? (i := 402) (by decide +kernel), List.mem_of_getElem? (i := 403) (by decide +kernel)⟩
theorem lw_p14 : lw_okq (⟨"java/util/ArrayList", "grow", "()[Ljava/lang/Object;"⟩, 3) := ⟨⟨by decide +kernel, by decide +kernel⟩, List.mem_of_getElem? (i := 34) (by decide +kernel), List.mem_of_getElem? (i := 406) (by decide +kernel), List.mem_of_getElem? (i := 407) (by decide +kernel)⟩
theorem lw_p15 : lw_okq (⟨"java/util/ArrayList", "grow", "(I)[Ljava/lang/Object;"⟩, 3) := ⟨⟨by decide +kernel, by decide +kernel⟩, List.mem_of_getElem? (i := 34) (by decide +kernel), List.mem_of_getElem? (i := 410) (by decide +kernel), List.mem_of_getElem? (i := 411) (by decide +kernel)⟩
def lw_privs_1 : List (MethodName × Nat) := [(⟨"SlideStage", "slideShown", "()LSlideStage$Page;"⟩, 9), (⟨"SlideStage", "findSlide", "(I)LSlideStage$Page;"⟩, 9), (⟨"SlideStage", "show", "(III)V"⟩, 9), (⟨"SlideStage", "showEnd", "(II)V"⟩, 9), (⟨"SlideStage", "paintPage", "(LSlideStage$Page;III)I"⟩, 9), (⟨"SlideStage", "valueNow", "(LSlideStage$Shape;I)I"⟩, 9), (⟨"SlideStage", "resolve", "(LSlideStage$Shape;I)I"⟩, 9), (⟨"SlideStage", "moved", "(LSlideStage$Shape;I)I"⟩, 9), (⟨"SlideStage", "part", "(LSlideStage$Effect;I)I"⟩, 9), (⟨"SlideStage", "progress", "(LSlideStage$Effect;)I"⟩, 9), (⟨"SlideStage", "alphaNow", "(LSlideStage$Shape;I)I"⟩, 9), (⟨"java/lang/Throwable", "fillInStackTrace", "(I)Ljava/lang/Throwable;"⟩, 6), (⟨"SlideStage", "findPage", "(I)LSlideStage$Page;"⟩, 9), (⟨"java/util/ArrayList", "add", "(Ljava/lang/Object;[Ljava/lang/Object;I)V"⟩, 3), (⟨"java/util/ArrayList", "grow", "()[Ljava/lang/Object;"⟩, 3), (⟨"java/util/ArrayList", "grow", "(I)[Ljava/lang/Object;"⟩, 3)]
theorem lw_r1 : ∀ q ∈ lw_privs_1, lw_okq q := List.forall_mem_cons.mpr ⟨lw_p0, List.forall_mem_cons.mpr ⟨lw_p1, List.forall_mem_cons.mpr ⟨lw_p2, List.forall_mem_cons.mpr ⟨lw_p3, List.forall_mem_cons.mpr ⟨lw_p4, List.forall_mem_cons.mpr ⟨lw_p5, List.forall_mem_cons.mpr ⟨lw_p6, List.forall_mem_cons.mpr ⟨lw_p7, List.forall_mem_cons.mpr ⟨lw_p8, List.forall_mem_cons.mpr ⟨lw_p9, List.forall_mem_cons.mpr ⟨lw_p10, List.forall_mem_cons.mpr ⟨lw_p11, List.forall_mem_cons.mpr ⟨lw_p12, List.forall_mem_cons.mpr ⟨lw_p13, List.forall_mem_cons.mpr ⟨lw_p14, List.forall_mem_cons.mpr ⟨lw_p15, fun _ h => absurd h List.not_mem_nil⟩⟩⟩⟩⟩⟩⟩⟩⟩⟩⟩⟩⟩⟩⟩⟩
theorem lw_p16 : lw_okq (⟨"SlideStage", "addSlide", "(LSlideStage$Page;)V"⟩, 9) := ⟨⟨by decide +kernel, by decide +kernel⟩, List.mem_of_getElem? (i := 25) (by decide +kernel), List.mem_of_getElem? (i := 455) (by decide +kernel), List.mem_of_getElem? (i := 456) (by decide +kernel)⟩
theorem lw_p17 : lw_okq (⟨"SlideStage", "findShape", "(I)LSlideStage$Shape;"⟩, 9) := ⟨⟨by decide +kernel, by decide +kernel⟩, List.mem_of_getElem? (i := 25) (by decide +kernel), List.mem_of_getElem? (i := 549) (by decide +kernel), List.mem_of_getElem? (i := 550) (by decide +kernel)⟩
theorem lw_p18 : lw_okq (⟨"SlideStage", "fitText", "(LSlideStage$Shape;)I"⟩, 9) := ⟨⟨by decide +kernel, by decide +kernel⟩, List.mem_of_getElem? (i := 25) (by decide +kernel), List.mem_of_getElem? (i := 624) (by decide +kernel), List.mem_of_getElem? (i := 625) (by decide +kernel)⟩
theorem lw_p19 : lw_okq (⟨"SlideStage$LineRows", "addParagraph", "(IIII)V"⟩, 5) := ⟨⟨by decide +kernel, by decide +kernel⟩, List.mem_of_getElem? (i := 61) (by decide +kernel), List.mem_of_getElem? (i := 637) (by decide +kernel), List.mem_of_getElem? (i := 638) (by decide +kernel)⟩
theorem lw_p20 : lw_okq (⟨"SlideStage$LineRows", "extendLine", "(II)Z"⟩, 5) := ⟨⟨by decide +kernel, by decide +kernel⟩, List.mem_of_getElem? (i := 61) (by decide +kernel), List.mem_of_getElem? (i := 642) (by decide +kernel), List.mem_of_getElem? (i := 643) (by decide +kernel)⟩
theorem lw_p21 : lw_okq (⟨"SlideStage$LineRows", "beginLine", "(III)V"⟩, 5) := ⟨⟨by decide +kernel, by decide +kernel⟩, List.mem_of_getElem? (i := 61) (by decide +kernel), List.mem_of_getElem? (i := 646) (by decide +kernel), List.mem_of_getElem? (i := 647) (by decide +kernel)⟩
theorem lw_p22 : lw_okq (⟨"SlideStage", "findEffect", "(I)LSlideStage$Effect;"⟩, 9) := ⟨⟨by decide +kernel, by decide +kernel⟩, List.mem_of_getElem? (i := 25) (by decide +kernel), List.mem_of_getElem? (i := 733) (by decide +kernel), List.mem_of_getElem? (i := 734) (by decide +kernel)⟩
theorem lw_p23 : lw_okq (⟨"SlideStageModel", "noPage", "(I)Z"⟩, 29) := ⟨⟨by decide +kernel, by decide +kernel⟩, List.mem_of_getElem? (i := 771) (by decide +kernel), List.mem_of_getElem? (i := 874) (by decide +kernel), List.mem_of_getElem? (i := 875) (by decide +kernel)⟩
theorem lw_p24 : lw_okq (⟨"SlideStageModel", "slotted", "(II)I"⟩, 29) := ⟨⟨by decide +kernel, by decide +kernel⟩, List.mem_of_getElem? (i := 771) (by decide +kernel), List.mem_of_getElem? (i := 882) (by decide +kernel), List.mem_of_getElem? (i := 883) (by decide +kernel)⟩
theorem lw_p25 : lw_okq (⟨"SlideStageModel", "noShape", "(I)Z"⟩, 29) := ⟨⟨by decide +kernel, by decide +kernel⟩, List.mem_of_getElem? (i := 771) (by decide +kernel), List.mem_of_getElem? (i := 898) (by decide +kernel), List.mem_of_getElem? (i := 899) (by decide +kernel)⟩
theorem lw_p26 : lw_okq (⟨"SlideStageModel", "value", "(II)I"⟩, 29) := ⟨⟨by decide +kernel, by decide +kernel⟩, List.mem_of_getElem? (i := 771) (by decide +kernel), List.mem_of_getElem? (i := 913) (by decide +kernel), List.mem_of_getElem? (i := 914) (by decide +kernel)⟩
theorem lw_p27 : lw_okq (⟨"SlideStageModel", "source", "(II)I"⟩, 29) := ⟨⟨by decide +kernel, by decide +kernel⟩, List.mem_of_getElem? (i := 771) (by decide +kernel), List.mem_of_getElem? (i := 917) (by decide +kernel), List.mem_of_getElem? (i := 918) (by decide +kernel)⟩
theorem lw_p28 : lw_okq (⟨"SlideStageModel", "fit", "(I)I"⟩, 29) := ⟨⟨by decide +kernel, by decide +kernel⟩, List.mem_of_getElem? (i := 771) (by decide +kernel), List.mem_of_getElem? (i := 937) (by decide +kernel), List.mem_of_getElem? (i := 938) (by decide +kernel)⟩
theorem lw_p29 : lw_okq (⟨"SlideStageModel", "breakText", "(II)V"⟩, 29) := ⟨⟨by decide +kernel, by decide +kernel⟩, List.mem_of_getElem? (i := 771) (by decide +kernel), List.mem_of_getElem? (i := 941) (by decide +kernel), List.mem_of_getElem? (i := 942) (by decide +kernel)⟩
theorem lw_p30 : lw_okq (⟨"SlideStageModel", "noEffect", "(I)Z"⟩, 29) := ⟨⟨by decide +kernel, by decide +kernel⟩, List.mem_of_getElem? (i := 771) (by decide +kernel), List.mem_of_getElem? (i := 965) (by decide +kernel), List.mem_of_getElem? (i := 966) (by decide +kernel)⟩
theorem lw_p31 : lw_okq (⟨"SlideStageModel", "start", "(I)I"⟩, 29) := ⟨⟨by decide +kernel, by decide +kernel⟩, List.mem_of_getElem? (i := 771) (by decide +kernel), List.mem_of_getElem? (i := 973) (by decide +kernel), List.mem_of_getElem? (i := 974) (by decide +kernel)⟩
def lw_privs_2 : List (MethodName × Nat) := [(⟨"SlideStage", "addSlide", "(LSlideStage$Page;)V"⟩, 9), (⟨"SlideStage", "findShape", "(I)LSlideStage$Shape;"⟩, 9), (⟨"SlideStage", "fitText", "(LSlideStage$Shape;)I"⟩, 9), (⟨"SlideStage$LineRows", "addParagraph", "(IIII)V"⟩, 5), (⟨"SlideStage$LineRows", "extendLine", "(II)Z"⟩, 5), (⟨"SlideStage$LineRows", "beginLine", "(III)V"⟩, 5), (⟨"SlideStage", "findEffect", "(I)LSlideStage$Effect;"⟩, 9), (⟨"SlideStageModel", "noPage", "(I)Z"⟩, 29), (⟨"SlideStageModel", "slotted", "(II)I"⟩, 29), (⟨"SlideStageModel", "noShape", "(I)Z"⟩, 29), (⟨"SlideStageModel", "value", "(II)I"⟩, 29), (⟨"SlideStageModel", "source", "(II)I"⟩, 29), (⟨"SlideStageModel", "fit", "(I)I"⟩, 29), (⟨"SlideStageModel", "breakText", "(II)V"⟩, 29), (⟨"SlideStageModel", "noEffect", "(I)Z"⟩, 29), (⟨"SlideStageModel", "start", "(I)I"⟩, 29)]
theorem lw_r2 : ∀ q ∈ lw_privs_2, lw_okq q := List.forall_mem_cons.mpr ⟨lw_p16, List.forall_mem_cons.mpr ⟨lw_p17, List.forall_mem_cons.mpr ⟨lw_p18, List.forall_mem_cons.mpr ⟨lw_p19, List.forall_mem_cons.mpr ⟨lw_p20, List.forall_mem_cons.mpr ⟨lw_p21, List.forall_mem_cons.mpr ⟨lw_p22, List.forall_mem_cons.mpr ⟨lw_p23, List.forall_mem_cons.mpr ⟨lw_p24, List.forall_mem_cons.mpr ⟨lw_p25, List.forall_mem_cons.mpr ⟨lw_p26, List.forall_mem_cons.mpr ⟨lw_p27, List.forall_mem_cons.mpr ⟨lw_p28, List.forall_mem_cons.mpr ⟨lw_p29, List.forall_mem_cons.mpr ⟨lw_p30, List.forall_mem_cons.mpr ⟨lw_p31, fun _ h => absurd h List.not_mem_nil⟩⟩⟩⟩⟩⟩⟩⟩⟩⟩⟩⟩⟩⟩⟩⟩
theorem lw_p32 : lw_okq (⟨"SlideStageModel", "end", "(I)I"⟩, 29) := ⟨⟨by decide +kernel, by decide +kernel⟩, List.mem_of_getElem? (i := 771) (by decide +kernel), List.mem_of_getElem? (i := 977) (by decide +kernel), List.mem_of_getElem? (i := 978) (by decide +kernel)⟩
theorem lw_p33 : lw_okq (⟨"SlideStageModel", "build", "(I)I"⟩, 29) := ⟨⟨by decide +kernel, by decide +kernel⟩, List.mem_of_getElem? (i := 771) (by decide +kernel), List.mem_of_getElem? (i := 981) (by decide +kernel), List.mem_of_getElem? (i := 982) (by decide +kernel)⟩
theorem lw_p34 : lw_okq (⟨"SlideStageModel", "slide", "(I)I"⟩, 29) := ⟨⟨by decide +kernel, by decide +kernel⟩, List.mem_of_getElem? (i := 771) (by decide +kernel), List.mem_of_getElem? (i := 985) (by decide +kernel), List.mem_of_getElem? (i := 986) (by decide +kernel)⟩
theorem lw_p35 : lw_okq (⟨"SlideStageModel", "stage", "(I)I"⟩, 29) := ⟨⟨by decide +kernel, by decide +kernel⟩, List.mem_of_getElem? (i := 771) (by decide +kernel), List.mem_of_getElem? (i := 989) (by decide +kernel), List.mem_of_getElem? (i := 990) (by decide +kernel)⟩
theorem lw_p36 : lw_okq (⟨"SlideStageModel", "lastBuild", "(I)I"⟩, 29) := ⟨⟨by decide +kernel, by decide +kernel⟩, List.mem_of_getElem? (i := 771) (by decide +kernel), List.mem_of_getElem? (i := 997) (by decide +kernel), List.mem_of_getElem? (i := 998) (by decide +kernel)⟩
theorem lw_p37 : lw_okq (⟨"SlideStageModel", "length", "(II)I"⟩, 29) := ⟨⟨by decide +kernel, by decide +kernel⟩, List.mem_of_getElem? (i := 771) (by decide +kernel), List.mem_of_getElem? (i := 1005) (by decide +kernel), List.mem_of_getElem? (i := 1006) (by decide +kernel)⟩
theorem lw_p38 : lw_okq (⟨"SlideStageModel", "valueNow", "(II)I"⟩, 29) := ⟨⟨by decide +kernel, by decide +kernel⟩, List.mem_of_getElem? (i := 771) (by decide +kernel), List.mem_of_getElem? (i := 1026) (by decide +kernel), List.mem_of_getElem? (i := 1027) (by decide +kernel)⟩
theorem lw_p39 : lw_okq (⟨"SlideStageModel", "moved", "(II)I"⟩, 29) := ⟨⟨by decide +kernel, by decide +kernel⟩, List.mem_of_getElem? (i := 771) (by decide +kernel), List.mem_of_getElem? (i := 1030) (by decide +kernel), List.mem_of_getElem? (i := 1031) (by decide +kernel)⟩
theorem lw_p40 : lw_okq (⟨"SlideStageModel", "part", "(II)I"⟩, 29) := ⟨⟨by decide +kernel, by decide +kernel⟩, List.mem_of_getElem? (i := 771) (by decide +kernel), List.mem_of_getElem? (i := 1034) (by decide +kernel), List.mem_of_getElem? (i := 1035) (by decide +kernel)⟩
theorem lw_p41 : lw_okq (⟨"SlideStageModel", "shown", "(II)I"⟩, 29) := ⟨⟨by decide +kernel, by decide +kernel⟩, List.mem_of_getElem? (i := 771) (by decide +kernel), List.mem_of_getElem? (i := 1038) (by decide +kernel), List.mem_of_getElem? (i := 1039) (by decide +kernel)⟩
theorem lw_p42 : lw_okq (⟨"SlideStageModel", "painted", "(IZIII)I"⟩, 29) := ⟨⟨by decide +kernel, by decide +kernel⟩, List.mem_of_getElem? (i := 771) (by decide +kernel), List.mem_of_getElem? (i := 1046) (by decide +kernel), List.mem_of_getElem? (i := 1047) (by decide +kernel)⟩
theorem lw_p43 : lw_okq (⟨"SlideStageModel", "covers", "(III)Z"⟩, 29) := ⟨⟨by decide +kernel, by decide +kernel⟩, List.mem_of_getElem? (i := 771) (by decide +kernel), List.mem_of_getElem? (i := 1050) (by decide +kernel), List.mem_of_getElem? (i := 1051) (by decide +kernel)⟩
theorem lw_p44 : lw_okq (⟨"SlideStageModel", "over", "(II)I"⟩, 29) := ⟨⟨by decide +kernel, by decide +kernel⟩, List.mem_of_getElem? (i := 771) (by decide +kernel), List.mem_of_getElem? (i := 1054) (by decide +kernel), List.mem_of_getElem? (i := 1055) (by decide +kernel)⟩
def lw_privs_3 : List (MethodName × Nat) := [(⟨"SlideStageModel", "end", "(I)I"⟩, 29), (⟨"SlideStageModel", "build", "(I)I"⟩, 29), (⟨"SlideStageModel", "slide", "(I)I"⟩, 29), (⟨"SlideStageModel", "stage", "(I)I"⟩, 29), (⟨"SlideStageModel", "lastBuild", "(I)I"⟩, 29), (⟨"SlideStageModel", "length", "(II)I"⟩, 29), (⟨"SlideStageModel", "valueNow", "(II)I"⟩, 29), (⟨"SlideStageModel", "moved", "(II)I"⟩, 29), (⟨"SlideStageModel", "part", "(II)I"⟩, 29), (⟨"SlideStageModel", "shown", "(II)I"⟩, 29), (⟨"SlideStageModel", "painted", "(IZIII)I"⟩, 29), (⟨"SlideStageModel", "covers", "(III)Z"⟩, 29), (⟨"SlideStageModel", "over", "(II)I"⟩, 29)]
theorem lw_r3 : ∀ q ∈ lw_privs_3, lw_okq q := List.forall_mem_cons.mpr ⟨lw_p32, List.forall_mem_cons.mpr ⟨lw_p33, List.forall_mem_cons.mpr ⟨lw_p34, List.forall_mem_cons.mpr ⟨lw_p35, List.forall_mem_cons.mpr ⟨lw_p36, List.forall_mem_cons.mpr ⟨lw_p37, List.forall_mem_cons.mpr ⟨lw_p38, List.forall_mem_cons.mpr ⟨lw_p39, List.forall_mem_cons.mpr ⟨lw_p40, List.forall_mem_cons.mpr ⟨lw_p41, List.forall_mem_cons.mpr ⟨lw_p42, List.forall_mem_cons.mpr ⟨lw_p43, List.forall_mem_cons.mpr ⟨lw_p44, fun _ h => absurd h List.not_mem_nil⟩⟩⟩⟩⟩⟩⟩⟩⟩⟩⟩⟩⟩
def lw_privs : List (MethodName × Nat) := lw_privs_1 ++ (lw_privs_2 ++ (lw_privs_3))
def lw_tbl : List Cond := k2_sels lw_privs ++ tables_1
theorem lw_privs_ok : ∀ q ∈ lw_privs, lw_okq q := by
  show ∀ q ∈ lw_privs_1 ++ (lw_privs_2 ++ (lw_privs_3)), lw_okq q
  exact List.forall_mem_append.mpr ⟨lw_r1, List.forall_mem_append.mpr ⟨lw_r2, lw_r3⟩⟩
end
section
/-! the tables: the fields of each kind of cell, the words that stay true under warmer tables -/
def t_S : u_T := fun k => match k with
  | 0 => ("SlideStage", "themeValues", "[I", true)
  | 1 => ("SlideStage", "pages", "Ljava/util/List;", true)
  | 2 => ("SlideStage", "slides", "Ljava/util/List;", true)
  | 3 => ("SlideStage", "shapes", "Ljava/util/List;", true)
  | 4 => ("SlideStage", "effects", "Ljava/util/List;", true)
  | 5 => ("SlideStage", "rows", "LSlideStage$LineRows;", true)
  | 6 => ("SlideStage", "slideAt", "I", false)
  | 7 => ("SlideStage", "clicks", "I", false)
  | _ => ("SlideStage", "time", "I", false)
def t_Sy : Nat → FieldType := fun k => match k with
  | 0 => (.array .int)
  | 1 => (.object "java/util/List")
  | 2 => (.object "java/util/List")
  | 3 => (.object "java/util/List")
  | 4 => (.object "java/util/List")
  | 5 => (.object "SlideStage$LineRows")
  | 6 => .int
  | 7 => .int
  | _ => .int
def t_P : u_T := fun k => match k with
  | 0 => ("SlideStage$Page", "kind", "I", true)
  | 1 => ("SlideStage$Page", "parent", "LSlideStage$Page;", true)
  | 2 => ("SlideStage$Page", "shapes", "Ljava/util/List;", true)
  | _ => ("SlideStage$Page", "effects", "Ljava/util/List;", true)
def t_Py : Nat → FieldType := fun k => match k with
  | 0 => .int
  | 1 => (.object "SlideStage$Page")
  | 2 => (.object "java/util/List")
  | _ => (.object "java/util/List")
def t_H : u_T := fun k => match k with
  | 0 => ("SlideStage$Shape", "index", "I", true)
  | 1 => ("SlideStage$Shape", "page", "LSlideStage$Page;", true)
  | 2 => ("SlideStage$Shape", "slot", "I", true)
  | 3 => ("SlideStage$Shape", "owns", "[Z", true)
  | 4 => ("SlideStage$Shape", "values", "[I", true)
  | 5 => ("SlideStage$Shape", "paragraphs", "Ljava/util/List;", true)
  | _ => ("SlideStage$Shape", "effects", "Ljava/util/List;", true)
def t_Hy : Nat → FieldType := fun k => match k with
  | 0 => .int
  | 1 => (.object "SlideStage$Page")
  | 2 => .int
  | 3 => (.array .boolean)
  | 4 => (.array .int)
  | 5 => (.object "java/util/List")
  | _ => (.object "java/util/List")
def t_G : u_T := fun k => match k with
  | 0 => ("SlideStage$Paragraph", "level", "I", true)
  | _ => ("SlideStage$Paragraph", "words", "I", true)
def t_Gy : Nat → FieldType := fun k => match k with
  | 0 => .int
  | _ => .int
def t_F : u_T := fun k => match k with
  | 0 => ("SlideStage$Effect", "slide", "LSlideStage$Page;", true)
  | 1 => ("SlideStage$Effect", "kind", "I", true)
  | 2 => ("SlideStage$Effect", "build", "I", true)
  | 3 => ("SlideStage$Effect", "base", "I", true)
  | 4 => ("SlideStage$Effect", "start", "I", true)
  | 5 => ("SlideStage$Effect", "end", "I", true)
  | 6 => ("SlideStage$Effect", "duration", "I", true)
  | _ => ("SlideStage$Effect", "amount", "I", false)
def t_Fy : Nat → FieldType := fun k => match k with
  | 0 => (.object "SlideStage$Page")
  | 1 => .int
  | 2 => .int
  | 3 => .int
  | 4 => .int
  | 5 => .int
  | 6 => .int
  | _ => .int
def t_R : u_T := fun k => match k with
  | 0 => ("SlideStage$LineRows", "paragraph", "[I", true)
  | 1 => ("SlideStage$LineRows", "firstWord", "[I", true)
  | 2 => ("SlideStage$LineRows", "words", "[I", true)
  | 3 => ("SlideStage$LineRows", "width", "[I", true)
  | _ => ("SlideStage$LineRows", "count", "I", false)
def t_Ry : Nat → FieldType := fun k => match k with
  | 0 => (.array .int)
  | 1 => (.array .int)
  | 2 => (.array .int)
  | 3 => (.array .int)
  | _ => .int
def t_A : u_T := fun k => match k with
  | 0 => ("java/util/ArrayList", "elementData", "[Ljava/lang/Object;", false)
  | 1 => ("java/util/ArrayList", "size", "I", false)
  | _ => ("java/util/AbstractList", "modCount", "I", false)
def t_Ay : Nat → FieldType := fun k => match k with
  | 0 => (.array (.object "java/lang/Object"))
  | 1 => .int
  | _ => .int
def t_M : u_T := fun k => match k with
  | 0 => ("SlideStageModel", "code", "I", false)
  | 1 => ("SlideStageModel", "pages", "I", false)
  | 2 => ("SlideStageModel", "kind", "[I", true)
  | 3 => ("SlideStageModel", "parent", "[I", true)
  | 4 => ("SlideStageModel", "shapes", "I", false)
  | 5 => ("SlideStageModel", "home", "[I", true)
  | 6 => ("SlideStageModel", "slot", "[I", true)
  | 7 => ("SlideStageModel", "has", "[Z", true)
  | 8 => ("SlideStageModel", "own", "[I", true)
  | 9 => ("SlideStageModel", "theme", "[I", true)
  | 10 => ("SlideStageModel", "paragraphs", "[I", true)
  | 11 => ("SlideStageModel", "level", "[I", true)
  | 12 => ("SlideStageModel", "words", "[I", true)
  | 13 => ("SlideStageModel", "letters", "[I", true)
  | 14 => ("SlideStageModel", "effects", "I", false)
  | 15 => ("SlideStageModel", "actor", "[I", true)
  | 16 => ("SlideStageModel", "deed", "[I", true)
  | 17 => ("SlideStageModel", "trigger", "[I", true)
  | 18 => ("SlideStageModel", "delay", "[I", true)
  | 19 => ("SlideStageModel", "duration", "[I", true)
  | 20 => ("SlideStageModel", "amounts", "[I", true)
  | 21 => ("SlideStageModel", "at", "I", false)
  | 22 => ("SlideStageModel", "clicks", "I", false)
  | 23 => ("SlideStageModel", "time", "I", false)
  | 24 => ("SlideStageModel", "lineCount", "I", false)
  | 25 => ("SlideStageModel", "linePart", "[I", true)
  | 26 => ("SlideStageModel", "lineFirst", "[I", true)
  | 27 => ("SlideStageModel", "lineWords", "[I", true)
  | _ => ("SlideStageModel", "lineWide", "[I", true)
def t_My : Nat → FieldType := fun k => match k with
  | 0 => .int
  | 1 => .int
  | 2 => (.array .int)
  | 3 => (.array .int)
  | 4 => .int
  | 5 => (.array .int)
  | 6 => (.array .int)
  | 7 => (.array .boolean)
  | 8 => (.array .int)
  | 9 => (.array .int)
  | 10 => (.array .int)
  | 11 => (.array .int)
  | 12 => (.array .int)
  | 13 => (.array .int)
  | 14 => .int
  | 15 => (.array .int)
  | 16 => (.array .int)
  | 17 => (.array .int)
  | 18 => (.array .int)
  | 19 => (.array .int)
  | 20 => (.array .int)
  | 21 => .int
  | 22 => .int
  | 23 => .int
  | 24 => .int
  | 25 => (.array .int)
  | 26 => (.array .int)
  | 27 => (.array .int)
  | _ => (.array .int)
def g_cl : List vw_C := [("SlideStage", t_S, 9), ("SlideStage$Page", t_P, 4), ("SlideStage$Shape", t_H, 7), ("SlideStage$Paragraph", t_G, 2), ("SlideStage$Effect", t_F, 8), ("SlideStage$LineRows", t_R, 5), ("java/util/ArrayList", t_A, 3), ("SlideStageModel", t_M, 29)]
def g_good (w : Cond) : Bool := goodWord w || (w.faceAtom || (w.castAtom || match w with
  | .methodLinkNest .. => true
  | _ => false))
theorem g_stable {w : Cond} (h : g_good w = true) {s U : State} (hW : s.WarmedH U.vm) (hw : ∀ A : Array Value, w.before A s = true) : ∀ A : Array Value, w.before A U = true := by
  unfold g_good at h
  simp only [Bool.or_eq_true] at h
  rcases h with h | h | h | h
  · exact fun A => word_at hW (good_of_word h) (hw #[])
  · intro A
    have h1 := Cond.faceAtom_setVm (args := A) hW.alike w h (hw A)
    have ho : w.onTables = true := by
      cases w <;> first | rfl | simp [Cond.faceAtom] at h
    have h2 := Cond.onTables_vm (A := A) (A' := A) (U := s) (U' := U) U.vm w ho
    rw [h2] at h1
    exact h1
  · intro A
    have h1 := Cond.castAtom_setVm (args := A) hW.alike w h (hw A)
    match w, h with
    | .not (.castable a b), _ =>
      simp only [Cond.before, Cond.holds, Cond.value] at h1 ⊢
      exact h1
  · intro A
    cases w with
    | methodLinkNest a i x hh =>
      have h1 := va_Nw.warmM hW (show va_Nw (.methodLinkNest a i x hh) s from hw #[])
      exact va_any rfl h1
    | _ => cases h
def g_nc : List Cond := [.not (.castable "java/lang/IllegalArgumentException" "java/lang/IndexOutOfBoundsException"), .not (.castable "java/lang/IllegalArgumentException" "java/lang/IllegalStateException"), .not (.castable "java/lang/IllegalArgumentException" "java/lang/UnsupportedOperationException"), .not (.castable "java/lang/IndexOutOfBoundsException" "java/lang/IllegalArgumentException"), .not (.castable "java/lang/IndexOutOfBoundsException" "java/lang/IllegalStateException"), .not (.castable "java/lang/IndexOutOfBoundsException" "java/lang/UnsupportedOperationException"), .not (.castable "java/lang/IllegalStateException" "java/lang/IllegalArgumentException"), .not (.castable "java/lang/IllegalStateException" "java/lang/IndexOutOfBoundsException"), .not (.castable "java/lang/IllegalStateException" "java/lang/UnsupportedOperationException"), .not (.castable "java/lang/UnsupportedOperationException" "java/lang/IllegalArgumentException"), .not (.castable "java/lang/UnsupportedOperationException" "java/lang/IndexOutOfBoundsException"), .not (.castable "java/lang/UnsupportedOperationException" "java/lang/IllegalStateException")]
def g_wl : List Cond := lw_tbl.filter g_good ++ g_nc
theorem g_nc_ok : g_nc.all g_good = true := by decide +kernel
theorem g_wl_ok (w : Cond) (hw : w ∈ g_wl) {s U : State} (hW : s.WarmedH U.vm) (h : ∀ A : Array Value, w.before A s = true) : ∀ A : Array Value, w.before A U = true := by
  rcases List.mem_append.mp hw with h1 | h1
  · exact g_stable (List.mem_filter.mp h1).2 hW h
  · exact g_stable (List.all_eq_true.mp g_nc_ok w h1) hW h
theorem g_in {w : Cond} (i : Nat) (hi : lw_tbl[i]? = some w) (hg : g_good w = true) : w ∈ g_wl := List.mem_append_left _ (List.mem_filter.mpr ⟨List.mem_of_getElem? hi, hg⟩)
theorem g_inc {w : Cond} (i : Nat) (hi : g_nc[i]? = some w) : w ∈ g_wl := List.mem_append_right _ (List.mem_of_getElem? hi)
theorem g_ins {ws : List Cond} (ps : List Nat) (hp : ws = ps.filterMap (fun i => lw_tbl[i]?)) (hg : ws.all g_good = true) : ∀ w ∈ ws, w ∈ g_wl := by
  intro w hw
  have h1 := List.all_eq_true.mp hg w hw
  rw [hp] at hw
  obtain ⟨i, -, hi⟩ := List.mem_filterMap.mp hw
  exact g_in i hi h1
def g_strs : List (Nat × String) := [(53, "no such kind of page"), (68, "no such parent for this kind"), (79, "no more pages"), (95, "no such page"), (97, "no such slot"), (103, "the slot is taken"), (107, "no more shapes"), (301, "no such property"), (309, "no such value for the property"), (311, "no such shape"), (160, "no such level"), (166, "no such words"), (171, "no more paragraphs"), (202, "no such kind or trigger"), (204, "no such delay or duration"), (209, "the shape is on no slide"), (211, "no more effects"), (313, "no such effect"), (235, "no such amount"), (274, "no such slide"), (276, "no such time to pass")]
/-- a static field of the tables' that holds v, its cell as the heap H0 has it -/
def g_SZ (C n d : String) (v : Value) (H0 : Heap) (U : State) : Prop :=
  ∃ (c : ClassId) (k : Class) (i : Nat) (f : Field) (a : Nat) (cell : Cell), U.vm.findClass C = some c ∧ U.fieldFound? C n d = some (c, k, i, f) ∧ f.isStatic = true ∧ k.statics = some a ∧ H0[a]? = some cell ∧ cell.vm.isStatics = true ∧ cell.cls = c ∧ f.slot < cell.slots.size ∧ k.staticTypes[f.slot]? = some f.type ∧ k.init = .initialized ∧ cell.slots[f.slot]? = some v
theorem g_SZ.moved {C n d : String} {v : Value} {H0 : Heap} {u U : State} (hvm : u.vm.Alike U.vm) (h : g_SZ C n d v H0 u) : g_SZ C n d v H0 U := by
  obtain ⟨c, k, i, f, a, cell, h1, h2, h3, h4, h5, h6, h7, h8, h9, h10, h11⟩ := h
  obtain ⟨k', hi', he⟩ := State.fieldFound?_setVm hvm h2
  exact ⟨c, k', i, f, a, cell, by rw [hvm.findClass]; exact h1, hi', h3, by rw [he]; exact h4, h5, h6, h7, h8, by rw [he]; exact h9, by rw [he]; exact h10, h11⟩
/-- statics (places ad 0, 1, 2: LEAST, GREATEST, ArrayList's empty array; two of Throwable's) and strings (place ad (100 + entry)) -/
def g_K3 (H0 : Heap) (ad : Nat → Nat) (U : State) : Prop :=
  g_SZ "SlideStage" "LEAST" "[I" (.ref (ad 0)) H0 U ∧ g_SZ "SlideStage" "GREATEST" "[I" (.ref (ad 1)) H0 U ∧ g_SZ "java/util/ArrayList" "DEFAULTCAPACITY_EMPTY_ELEMENTDATA" "[Ljava/lang/Object;" (.ref (ad 2)) H0 U ∧
  (∃ v : Value, v.isRef = true ∧ g_SZ "java/lang/Throwable" "UNASSIGNED_STACK" "[Ljava/lang/StackTraceElement;" v H0 U) ∧ (∃ v : Value, v.isRef = true ∧ g_SZ "java/lang/Throwable" "SUPPRESSED_SENTINEL" "Ljava/util/List;" v H0 U) ∧
  ∀ q ∈ g_strs, vk_R "SlideStage" q.1 q.2 (ad (100 + q.1)) U
theorem g_K3_warm {H0 : Heap} {ad : Nat → Nat} {s U : State} (hW : s.WarmedH U.vm) (h : g_K3 H0 ad s) : g_K3 H0 ad U := by
  obtain ⟨h1, h2, h3, ⟨v4, r4, h4⟩, ⟨v5, r5, h5⟩, h6⟩ := h
  exact ⟨h1.moved hW.alike, h2.moved hW.alike, h3.moved hW.alike, ⟨v4, r4, h4.moved hW.alike⟩, ⟨v5, r5, h5.moved hW.alike⟩, fun q hq => (h6 q hq).warm hW⟩
def g_hw : List Cond := [.laysStatic "java/lang/Throwable" "UNASSIGNED_STACK" "[Ljava/lang/StackTraceElement;", .laysStatic "java/lang/Throwable" "SUPPRESSED_SENTINEL" "Ljava/util/List;", .isRef (.static "java/lang/Throwable" "UNASSIGNED_STACK" "[Ljava/lang/StackTraceElement;"), .isRef (.static "java/lang/Throwable" "SUPPRESSED_SENTINEL" "Ljava/util/List;")]
theorem g_ow {ws : List Cond} (ps : List Nat) (hp : ws = ps.filterMap (fun i => (lw_tbl ++ g_hw)[i]?)) (hg : ws.all (fun w => g_good w || g_hw.contains w) = true) : ∀ w ∈ ws, w ∈ g_wl ∨ w ∈ g_hw := by
  intro w hw
  have h1 := List.all_eq_true.mp hg w hw
  simp only [Bool.or_eq_true] at h1
  rw [hp] at hw
  obtain ⟨i, -, hi⟩ := List.mem_filterMap.mp hw
  have hm : w ∈ lw_tbl ++ g_hw := List.mem_of_getElem? hi
  rcases List.mem_append.mp hm with h2 | h2
  · rcases h1 with h3 | h3
    · exact Or.inl (List.mem_append_left _ (List.mem_filter.mpr ⟨h2, h3⟩))
    · exact Or.inr (List.contains_iff_mem.mp h3)
  · exact Or.inr h2
theorem g_own0 : ∀ w ∈ Jvm.Bundle.ownAtoms "SlideStage" 55 "java/lang/IllegalArgumentException" ["java/lang/RuntimeException", "java/lang/Exception"], w ∈ g_wl ∨ w ∈ g_hw := g_ow [52, 327, 336, 341, 344, 346, 328, 329, 75, 76, 330, 335, 342, 362, 317, 363, 319, 364, 321, 331, 1122, 333, 1123, 323, 358, 359, 361, 323, 349, 350, 351, 352, 309, 352, 353, 354, 355, 311, 355, 356, 357, 358, 313, 348, 306, 307, 314, 315, 316, 318, 320, 322, 1124, 1125, 326, 325, 324] (by decide +kernel) (by decide +kernel)
theorem g_own1 : ∀ w ∈ Jvm.Bundle.ownAtoms "SlideStage" 70 "java/lang/IndexOutOfBoundsException" ["java/lang/RuntimeException", "java/lang/Exception"], w ∈ g_wl ∨ w ∈ g_hw := g_ow [52, 327, 336, 341, 344, 346, 328, 329, 75, 76, 330, 335, 342, 362, 317, 363, 319, 364, 321, 331, 1122, 333, 1123, 323, 358, 359, 361, 323, 392, 393, 394, 352, 309, 352, 353, 354, 355, 311, 355, 356, 357, 358, 313, 391, 382, 383, 384, 339, 385, 386, 387, 388, 1124, 1125, 326, 325, 389] (by decide +kernel) (by decide +kernel)
theorem g_own2 : ∀ w ∈ Jvm.Bundle.ownAtoms "SlideStage" 81 "java/lang/IllegalStateException" ["java/lang/RuntimeException", "java/lang/Exception"], w ∈ g_wl ∨ w ∈ g_hw := g_ow [52, 327, 336, 341, 344, 346, 328, 329, 75, 76, 330, 335, 342, 362, 317, 363, 319, 364, 321, 331, 1122, 333, 1123, 323, 358, 359, 361, 323, 408, 409, 410, 352, 309, 352, 353, 354, 355, 311, 355, 356, 357, 358, 313, 407, 398, 399, 400, 338, 401, 402, 403, 404, 1124, 1125, 326, 325, 405] (by decide +kernel) (by decide +kernel)
theorem g_own3 : ∀ w ∈ Jvm.Bundle.ownAtoms "SlideStage" 109 "java/lang/UnsupportedOperationException" ["java/lang/RuntimeException", "java/lang/Exception"], w ∈ g_wl ∨ w ∈ g_hw := g_ow [52, 327, 336, 341, 344, 346, 328, 329, 75, 76, 330, 335, 342, 362, 317, 363, 319, 364, 321, 331, 1122, 333, 1123, 323, 358, 359, 361, 323, 525, 526, 527, 352, 309, 352, 353, 354, 355, 311, 355, 356, 357, 358, 313, 524, 515, 516, 517, 340, 518, 519, 520, 521, 1124, 1125, 326, 325, 522] (by decide +kernel) (by decide +kernel)
end
section
/-! the light layer: a view of the heap (address to cell), a walk over views -/
abbrev g_H : Type := Nat → Option va_E
def g_set (h : g_H) (a : Nat) (e : va_E) : g_H := fun q => if q = a then some e else h q
theorem g_set_same (h : g_H) (a : Nat) (e : va_E) : g_set h a e a = some e := by simp [g_set]
theorem g_set_ne (h : g_H) {a b : Nat} (e : va_E) (hn : b ≠ a) : g_set h a e b = h b := by simp [g_set, hn]
/-- the tables' numbers, the heap at the law's start, places of constants in it -/
abbrev g_E : Type := va_G × Heap × (Nat → Nat)
abbrev g_E.D (E : g_E) : va_G := E.1
abbrev g_E.H0 (E : g_E) : Heap := E.2.1
abbrev g_E.ad (E : g_E) : Nat → Nat := E.2.2
abbrev g_X : Type := Program × Launch × Env × Room × State × MethodId × Array Value × List Frame × Method × Code
abbrev g_X.p (X : g_X) : Program := X.1
abbrev g_X.l (X : g_X) : Launch := X.2.1
abbrev g_X.e (X : g_X) : Env := X.2.2.1
abbrev g_X.R (X : g_X) : Room := X.2.2.2.1
abbrev g_X.s (X : g_X) : State := X.2.2.2.2.1
abbrev g_X.m (X : g_X) : MethodId := X.2.2.2.2.2.1
abbrev g_X.args (X : g_X) : Array Value := X.2.2.2.2.2.2.1
abbrev g_X.below (X : g_X) : List Frame := X.2.2.2.2.2.2.2.1
abbrev g_X.meth (X : g_X) : Method := X.2.2.2.2.2.2.2.2.1
abbrev g_X.c (X : g_X) : Code := X.2.2.2.2.2.2.2.2.2
/-- a method: its name, its bytes, its locals, what it returns, its handlers -/
abbrev g_M : Type := MethodName × ByteArray × Nat × Option FieldType × List (Nat × Nat × Nat × Nat)
abbrev g_M.y (M : g_M) : MethodName := M.1
abbrev g_M.cc (M : g_M) : ByteArray := M.2.1
abbrev g_M.nl (M : g_M) : Nat := M.2.2.1
abbrev g_M.ret (M : g_M) : Option FieldType := M.2.2.2.1
abbrev g_M.tb (M : g_M) : List (Nat × Nat × Nat × Nat) := M.2.2.2.2
def g_cw (M : g_M) : Cond := match M.tb with
  | [] => .code M.y M.cc M.nl M.ret
  | _ :: _ => .codeWith M.y M.cc M.nl M.ret M.tb
/-- threw an exception of this number; or returned -/
abbrev g_R : Type := Nat ⊕ Option Value
/-- what is promised: whether nothing at all is written or made; the outcome and the view -/
abbrev g_P : Type := Bool × (g_R → g_H → Prop)
def g_xn (k : Nat) : String := ["java/lang/IllegalArgumentException", "java/lang/IndexOutOfBoundsException", "java/lang/IllegalStateException", "java/lang/UnsupportedOperationException"].getD k ""
def g_tys (D : va_G) : List (ClassId × FieldType) := [(D.1 100, .int), (D.1 101, .boolean), (D.1 102, .long), (D.1 103, .object "java/lang/Object")]
def g_V (D : va_G) (h : g_H) (H : Heap) : Prop := ∀ (a : Nat) (e : va_E), h a = some e → va_at D g_cl (a, e) H
def g_B (H0 H : Heap) : Prop := H0.size ≤ H.size ∧ ∀ a : Nat, a < H0.size → H[a]? = H0[a]?
theorem g_V.lt {D : va_G} {h : g_H} {H : Heap} (hV : g_V D h H) {a : Nat} {e : va_E} (ha : h a = some e) : a < H.size := (hV a e ha).lt
theorem g_V.put {D : va_G} {h : g_H} {H H1 : Heap} {a : Nat} {e : va_E} (hV : g_V D h H) (he : va_at D g_cl (a, e) H1) (oq : ∀ q : Nat, q ≠ a → H1[q]? = H[q]?) : g_V D (g_set h a e) H1 := by
  intro b e' hb
  by_cases hba : b = a
  · subst hba
    rw [g_set_same] at hb
    cases hb
    exact he
  · rw [g_set_ne h e hba] at hb
    exact (hV b e' hb).kept (oq b hba)
theorem g_V.grow {D : va_G} {h : g_H} {H H1 : Heap} (hV : g_V D h H) (oq : ∀ q : Nat, q < H.size → H1[q]? = H[q]?) : g_V D h H1 := fun a e ha => (hV a e ha).kept (oq a (hV.lt ha))
theorem g_V.new {D : va_G} {h : g_H} {H H1 : Heap} {e : va_E} (hV : g_V D h H) (he : va_at D g_cl (H.size, e) H1) (oq : ∀ q : Nat, q < H.size → H1[q]? = H[q]?) : g_V D (g_set h H.size e) H1 := by
  intro b e' hb
  by_cases hba : b = H.size
  · subst hba
    rw [g_set_same] at hb
    cases hb
    exact he
  · rw [g_set_ne h e hba] at hb
    exact (hV b e' hb).kept (oq b (hV.lt hb))
theorem g_V.fresh {D : va_G} {h : g_H} {H : Heap} (hV : g_V D h H) : h H.size = none := by
  cases hq : h H.size with
  | none => rfl
  | some e => exact absurd (hV.lt hq) (Nat.lt_irrefl _)
theorem g_B.put {H0 H H1 : Heap} {a : Nat} (hB : g_B H0 H) (z : H1.size = H.size) (oq : ∀ q : Nat, q ≠ a → H1[q]? = H[q]?) (ha : H0.size ≤ a) : g_B H0 H1 :=
  ⟨by rw [z]; exact hB.1, fun b hb => (oq b (by omega)).trans (hB.2 b hb)⟩
theorem g_B.grow {H0 H H1 : Heap} (hB : g_B H0 H) (z : H.size ≤ H1.size) (oq : ∀ q : Nat, q < H.size → H1[q]? = H[q]?) : g_B H0 H1 :=
  ⟨Nat.le_trans hB.1 z, fun b hb => (oq b (Nat.lt_of_lt_of_le hb hB.1)).trans (hB.2 b hb)⟩
/-- what the tables say: the fields' slots, the arrays, the words of g_wl, and g_K3 (statics, strings) -/
def g_K (E : g_E) (U : State) : Prop := va_K E.D g_cl (g_tys E.D) U ∧ (∀ w ∈ g_wl, ∀ A : Array Value, w.before A U = true) ∧ g_K3 E.H0 E.ad U
theorem g_K.warm {E : g_E} {s U : State} (hW : s.WarmedH U.vm) (h : g_K E s) : g_K E U := ⟨h.1.moved hW.alike, fun w hw => g_wl_ok w hw hW (h.2.1 w hw), g_K3_warm hW h.2.2⟩
theorem g_K.w {E : g_E} {U : State} (h : g_K E U) {w : Cond} (hw : w ∈ g_wl) {A : Array Value} : w.before A U = true := h.2.1 w hw A
/-- locals: a list, none where nothing is known -/
def g_L (ls : Array Slot) (n : Nat) (L : List (Option Value)) : Prop := ls.size = n ∧ lv_wf ls ∧ ∀ (i : Nat) (v : Value), L[i]? = some (some v) → ls[i]? = some (.val v) ∧ v.category = 1
theorem g_L.store {ls : Array Slot} {n i : Nat} {L : List (Option Value)} {v : Value} (h : g_L ls n L) (hi : i < n) (hc : v.category = 1) : ∃ ls', storeLocals ls i v = some ls' ∧ g_L ls' n (L.set i (some v)) := by
  obtain ⟨h1, h2, h3⟩ := h
  obtain ⟨ls', e', hs, hw, hm⟩ := lv_store1 (l := []) (v := v) ⟨h1, h2, fun q hq => by cases hq⟩ hi hc
  refine ⟨ls', e', hs, hw, fun j w hj => ?_⟩
  by_cases hji : j = i
  · subst hji
    have hw2 : w = v := by
      by_cases hlt : j < L.length
      · rw [List.getElem?_set_self hlt] at hj
        exact (Option.some.inj (Option.some.inj hj)).symm
      · rw [List.getElem?_eq_none (by simpa using Nat.not_lt.mp hlt)] at hj
        cases hj
    subst hw2
    exact ⟨hm (j, w) List.mem_cons_self, hc⟩
  · have hj' : L[j]? = some (some w) := by
      rw [List.getElem?_set_ne (fun q => hji q.symm)] at hj
      exact hj
    obtain ⟨g1, g2⟩ := h3 j w hj'
    obtain ⟨ls2, e2, hs2, hw2, hm2⟩ := lv_store1 (l := [(j, w)]) (v := v) ⟨h1, h2, fun q hq => by
      rw [List.mem_singleton] at hq
      subst hq
      exact g1⟩ hi hc
    have he : ls2 = ls' := Option.some.inj (e2.symm.trans e')
    subst he
    refine ⟨hm2 (j, w) (List.mem_cons_of_mem _ (List.mem_filter.mpr ⟨List.mem_cons_self, ?_⟩)), g2⟩
    simp [hji, g2]
theorem g_L.get {ls : Array Slot} {n i : Nat} {L : List (Option Value)} {v : Value} (h : g_L ls n L) (hi : L[i]? = some (some v)) : ls[i]? = some (.val v) := (h.2.2 i v hi).1
theorem g_L.lt {ls : Array Slot} {n i : Nat} {L : List (Option Value)} {v : Value} (h : g_L ls n L) (hi : L[i]? = some (some v)) : i < n := by
  have h1 := h.get hi
  have h2 := (Array.getElem?_eq_some_iff.mp h1).1
  rw [h.1] at h2
  exact h2
/-- what came out, in the machine's words -/
def g_o (r : g_R) (o : Outcome) (t : State) : Prop := match r with
  | .inr v => o = .returned v
  | .inl k => ∃ (a : Addr) (cell : Cell), o = .threw a ∧ t.heap[a]? = some cell ∧ cell.vm = .none ∧ t.vm.findClass (g_xn k) = some cell.cls
def g_Z (E : g_E) (mc ms : Nat) (P : g_P) (s : State) (o : Outcome) (t : State) : Prop :=
  (∃ (r : g_R) (h' : g_H), P.2 r h' ∧ g_o r o t ∧ g_V E.D h' t.heap ∧ g_B E.H0 t.heap) ∧ s.WarmedH t.vm ∧ ∃ L : List Loc, s.sameButNew ({ t with vm := s.vm } : State) L mc ms ∧ (∀ q ∈ L, E.H0.size ≤ q.base) ∧ (P.1 = true → L = [] ∧ t.heap = s.heap)
def g_Q (E : g_E) (X : g_X) (P : g_P) : State → Prop := fun t => ∃ o, t.status = .running ∧ Ended t X.below o ∧ g_Z E X.R.cells X.R.slots P X.s o t
def g_Wk (X : g_X) (H : Heap) (locs : List Loc) (cs ss : Nat) (Q : State → Prop) (g : JFrame) : Prop := W X.p X.l X.e X.R X.s X.m X.args X.below X.meth X.c H locs cs ss Q g
/-- z: nothing has been written or made so far -/
def g_Go (E : g_E) (X : g_X) (P : g_P) (h : g_H) (z : Bool) (cs ss pc : Nat) (L : List (Option Value)) (st : List Value) : Prop :=
  ∀ (H : Heap) (locs : List Loc) (ls : Array Slot), g_V E.D h H → g_B E.H0 H → (∀ q ∈ locs, E.H0.size ≤ q.base) → g_L ls X.c.maxLocals L → (z = true → locs = [] ∧ H = X.s.heap ∧ cs = 0 ∧ ss = 0) →
    W X.p X.l X.e X.R X.s X.m X.args X.below X.meth X.c H locs cs ss (g_Q E X P) (F0 X.m pc ls st)
def g_ok (E : g_E) (X : g_X) (M : g_M) : Prop :=
  X.p.tables.exec = Jvm.exec ∧ X.c.code = M.cc ∧ X.meth.sig.returnType = M.ret ∧ X.c.maxLocals = M.nl ∧ X.s.vm.findClass M.y.cls = some X.m.cls ∧ g_K E X.s ∧ X.l.stackTraces = false ∧ X.meth.locks = false ∧
    g_B E.H0 X.s.heap ∧ X.meth.name = M.y.name ∧ X.c.exceptionTable.toList = tableOf M.tb
theorem g_ok.exec {E : g_E} {X : g_X} {M : g_M} (h : g_ok E X M) : X.p.tables.exec = Jvm.exec := h.1
theorem g_ok.code {E : g_E} {X : g_X} {M : g_M} (h : g_ok E X M) : X.c.code = M.cc := h.2.1
theorem g_ok.ret {E : g_E} {X : g_X} {M : g_M} (h : g_ok E X M) : X.meth.sig.returnType = M.ret := h.2.2.1
theorem g_ok.nl {E : g_E} {X : g_X} {M : g_M} (h : g_ok E X M) : X.c.maxLocals = M.nl := h.2.2.2.1
theorem g_ok.own {E : g_E} {X : g_X} {M : g_M} (h : g_ok E X M) : X.s.vm.findClass M.y.cls = some X.m.cls := h.2.2.2.2.1
theorem g_ok.K {E : g_E} {X : g_X} {M : g_M} (h : g_ok E X M) : g_K E X.s := h.2.2.2.2.2.1
theorem g_ok.tr {E : g_E} {X : g_X} {M : g_M} (h : g_ok E X M) : X.l.stackTraces = false := h.2.2.2.2.2.2.1
theorem g_ok.locks {E : g_E} {X : g_X} {M : g_M} (h : g_ok E X M) : X.meth.locks = false := h.2.2.2.2.2.2.2.1
theorem g_ok.base {E : g_E} {X : g_X} {M : g_M} (h : g_ok E X M) : g_B E.H0 X.s.heap := h.2.2.2.2.2.2.2.2.1
theorem g_ok.name {E : g_E} {X : g_X} {M : g_M} (h : g_ok E X M) : X.meth.name = M.y.name := h.2.2.2.2.2.2.2.2.2.1
theorem g_ok.tb {E : g_E} {X : g_X} {M : g_M} (h : g_ok E X M) : X.c.exceptionTable.toList = tableOf M.tb := h.2.2.2.2.2.2.2.2.2.2
theorem g_ok.w {E : g_E} {X : g_X} {M : g_M} (h : g_ok E X M) {w : Cond} (hw : w ∈ g_wl) {A : Array Value} : w.before A X.s = true := h.K.w hw
/-- a contract: from the view h with these arguments, the method ends as P says; it makes at most mc cells of ms slots; fr frames deep, of lo words -/
def g_Ct (l : Launch) (M : g_M) (fr lo mc ms : Nat) (as : List Value) (E : g_E) (h : g_H) (P : g_P) : Prop :=
  MetFree l M.y (headSpec [g_cw M] { frames := fr, cells := mc, slots := ms, locals := lo }) (fun a U => a = as.toArray ∧ g_K E U ∧ g_V E.D h U.heap ∧ g_B E.H0 U.heap) (fun _ _ _ _ _ => True) (fun _ st o t => g_Z E mc ms P st o t)
theorem g_cw_spec {M : g_M} {A : Array Value} {s : State} {m : MethodId} (hn : s.methodNamed? M.y = some m) (h : (g_cw M).before A s = true) :
    ∃ meth c, s.vm.method? m = some meth ∧ meth.code = some c ∧ c.code = M.cc ∧ c.maxLocals = M.nl ∧ meth.sig.returnType = M.ret ∧ meth.locks = false ∧ c.exceptionTable.toList = tableOf M.tb ∧ parseMethodDescriptor M.y.desc = some meth.sig := by
  obtain ⟨y, cc, nl, ret, tb⟩ := M
  cases tb with
  | nil =>
    obtain ⟨meth, c, h1, h2, h3, h4, h5, h6, h7, h8⟩ := Cond.code_spec hn (show (Cond.code y cc nl ret).before A s = true from h)
    have h0 : c.exceptionTable.size = 0 := by simpa [Array.isEmpty] using h7
    exact ⟨meth, c, h1, h2, h3, h4, h5, h6, List.eq_nil_of_length_eq_zero (by simpa using h0), h8⟩
  | cons q r =>
    obtain ⟨m', meth, c, h0, h1, h2, h3, h4, h7, h5, h6, h8⟩ := Cond.codeWith_spec (show (Cond.codeWith y cc nl ret (q :: r)).before A s = true from h)
    cases hn.symm.trans h0
    exact ⟨meth, c, h1, h2, h3, h4, h5, h6, by show c.exceptionTable.toList = tableOf (q :: r); rw [← h7, table_eq], h8⟩
theorem g_entry (m : MethodId) (vs : List Value) (n : Nat) (hv : ∀ v ∈ vs, v.category = 1) (hn : vs.length ≤ n) : ∃ ls, entryFrame m vs.toArray n = F0 m 0 ls [] ∧ g_L ls n (vs.map some ++ List.replicate (n - vs.length) none) := by
  have hsl : ∀ ws : List Value, (∀ v ∈ ws, v.category = 1) → lg_sl ws = ws.map Slot.val := by
    intro ws
    induction ws with
    | nil => intro _; rfl
    | cons a r ih =>
      intro h
      have ha : ¬ a.category = 2 := by rw [h a List.mem_cons_self]; decide
      show (if a.category = 2 then [Slot.val a, .second] else [.val a]) ++ lg_sl r = _
      rw [if_neg ha, ih fun v hv => h v (List.mem_cons_of_mem _ hv)]
      rfl
  have e1 := hsl vs hv
  have hl : (lg_sl vs).length ≤ n := by rw [e1, List.length_map]; exact hn
  have h2 := lv_entry vs hl
  refine ⟨_, lg_entry_eq m vs n, h2.1, h2.2.1, fun i v hi => ?_⟩
  have hlt : i < vs.length := by
    apply Classical.byContradiction
    intro hge
    rw [List.getElem?_append_right (by rw [List.length_map]; omega), List.getElem?_replicate] at hi
    split at hi
    · cases hi
    · cases hi
  rw [List.getElem?_append_left (by rw [List.length_map]; exact hlt), List.getElem?_map] at hi
  cases hq : vs[i]? with
  | none => rw [hq] at hi; cases hi
  | some w =>
    rw [hq] at hi
    have hw : w = v := Option.some.inj (Option.some.inj hi)
    subst hw
    refine ⟨?_, hv w (List.mem_of_getElem? hq)⟩
    rw [e1, List.getElem?_toArray, List.getElem?_append_left (by rw [List.length_map]; exact hlt), List.getElem?_map, hq]
    rfl
theorem g_Ct.of {l : Launch} {M : g_M} {fr lo mc ms : Nat} {as : List Value} {E : g_E} {h : g_H} {P : g_P} (hl : l.stackTraces = false) (hy : plainName M.y.cls = true) (hv : ∀ v ∈ as, v.category = 1) (hn : as.length ≤ M.nl)
    (body : ∀ X : g_X, g_ok E X M → X.l = l → X.R = { frames := fr, cells := mc, slots := ms, locals := lo } → g_Go E X P h true 0 0 0 (as.map some ++ List.replicate (M.nl - as.length) none) []) : g_Ct l M fr lo mc ms as E h P := by
  refine MetFree.of_bodyS (code := M.cc) (maxLocals := M.nl) (ret := M.ret) hy ?_ ?_
  · intro args s m h hn
    obtain ⟨meth, c, h1, h2, h3, h4, h5, h6, -, -⟩ := g_cw_spec hn (atoms_spec (ws := [g_cw M]) h _ List.mem_cons_self)
    exact ⟨meth, c, h1, h2, h3, h4, h5, h6⟩
  · intro p e s m args below meth c s₁ B hml hP _
    obtain ⟨rfl, hK, hV, hB⟩ := hP
    have hpre := atoms_spec (ws := [g_cw M]) B.pre _ List.mem_cons_self
    obtain ⟨meth', c', h1, h2, h3, h4, h5, h6, h7, -⟩ := g_cw_spec B.named hpre
    have X₀ := Stand.of_body B
    cases B.method.symm.trans h1
    cases X₀.code.symm.trans h2
    have hown : s.vm.findClass M.y.cls = some m.cls := findClass_of_methodNamed B.named
    have hnm : meth.name = M.y.name := (name_of_methodNamed B.named B.method).1
    obtain ⟨ls, he, hL⟩ := g_entry m as M.nl hv hn
    have hok : g_ok E (p, l, e, { frames := fr, cells := mc, slots := ms, locals := lo }, s, m, as.toArray, below, meth, c) M :=
      ⟨B.exec, h3, h5, h4, hown, hK, hl, h6, hB, hnm, h7⟩
    have hgo := body (p, l, e, { frames := fr, cells := mc, slots := ms, locals := lo }, s, m, as.toArray, below, meth, c) hok rfl rfl
    have hh0 : s₁.heap = s.heap := by rw [B.state]; rfl
    rw [he]
    obtain ⟨t, a1, o, b1, b2, b3⟩ := hgo s₁.heap [] ls (by rw [hh0]; exact hV) (by rw [hh0]; exact hB) (fun q hq => by cases hq) (by show g_L ls c.maxLocals _; rw [h4]; exact hL) (fun _ => ⟨rfl, hh0, rfl, rfl⟩) s₁ rfl X₀
    exact ⟨t, o, a1, b1, b2, b3⟩
theorem g_pu {P : g_P} {z : Bool} {locs : List Loc} {H : Heap} {cs ss : Nat} {s T : State} (hpu : (!P.1 || z) = true) (h1 : P.1 = true) (hz : z = true → locs = [] ∧ H = s.heap ∧ cs = 0 ∧ ss = 0) (hT : T.heap = H) : locs = [] ∧ T.heap = s.heap := by
  rw [h1] at hpu
  have h2 : z = true := by simpa using hpu
  obtain ⟨q1, q2, -, -⟩ := hz h2
  exact ⟨q1, hT.trans q2⟩
end
section
section GROWS
variable {E : g_E} {X : g_X} {M : g_M} {P : g_P} {h : g_H} {z : Bool} {cs ss pc : Nat} {L : List (Option Value)} {rest : List Value}
theorem g_iconst (hX : g_ok E X M) {n : Int} {v : Int32} (hdg : decode M.cc pc = .ok (.iconst n, 1)) (hv : Int32.ofInt n = v) (pn : Nat) (hpn : pc + 1 = pn)
    (k : g_Go E X P h z cs ss pn L (.int v :: rest)) : g_Go E X P h z cs ss pc L rest := by
  subst hpn
  exact fun H locs ls hV hB hl hL hz => lv_iconst hX.exec hX.code hdg hv (k H locs ls hV hB hl hL hz)
theorem g_bipush (hX : g_ok E X M) {n : Int} {v : Int32} (hdg : decode M.cc pc = .ok (.bipush n, 2)) (hv : (Int8.ofInt n).toInt32 = v) (pn : Nat) (hpn : pc + 2 = pn)
    (k : g_Go E X P h z cs ss pn L (.int v :: rest)) : g_Go E X P h z cs ss pc L rest := by
  subst hpn
  exact fun H locs ls hV hB hl hL hz => lv_bipush hX.exec hX.code hdg hv (k H locs ls hV hB hl hL hz)
theorem g_sipush (hX : g_ok E X M) {n : Int} {v : Int32} (hdg : decode M.cc pc = .ok (.sipush n, 3)) (hv : (Int16.ofInt n).toInt32 = v) (pn : Nat) (hpn : pc + 3 = pn)
    (k : g_Go E X P h z cs ss pn L (.int v :: rest)) : g_Go E X P h z cs ss pc L rest := by
  subst hpn
  exact fun H locs ls hV hB hl hL hz => lv_sipush hX.exec hX.code hdg hv (k H locs ls hV hB hl hL hz)
theorem g_lconst (hX : g_ok E X M) {n : Fin 2} {v : Int64} (hdg : decode M.cc pc = .ok (.lconst n, 1)) (hv : Int64.ofNat (n : Nat) = v) (pn : Nat) (hpn : pc + 1 = pn)
    (k : g_Go E X P h z cs ss pn L (.long v :: rest)) : g_Go E X P h z cs ss pc L rest := by
  subst hpn
  exact fun H locs ls hV hB hl hL hz => lv_lconst hX.exec hX.code hdg hv (k H locs ls hV hB hl hL hz)
theorem g_null (hX : g_ok E X M)  (hdg : decode M.cc pc = .ok (.aconst_null, 1))  (pn : Nat) (hpn : pc + 1 = pn)
    (k : g_Go E X P h z cs ss pn L (.null :: rest)) : g_Go E X P h z cs ss pc L rest := by
  subst hpn
  exact fun H locs ls hV hB hl hL hz => lv_null hX.exec hX.code hdg (k H locs ls hV hB hl hL hz)
theorem g_ldc (hX : g_ok E X M) {index : Nat} {v : Int32} (hdg : decode M.cc pc = .ok (.ldc index, 2)) (hw : Cond.constant M.y.cls index v ∈ g_wl) (pn : Nat) (hpn : pc + 2 = pn)
    (k : g_Go E X P h z cs ss pn L (.int v :: rest)) : g_Go E X P h z cs ss pc L rest := by
  subst hpn
  exact fun H locs ls hV hB hl hL hz => lv_ldc hX.exec hX.code hX.own (hX.w hw) hdg (k H locs ls hV hB hl hL hz)
theorem g_iload_n (hX : g_ok E X M) {k : Fin 4} {i : Nat} {x : Int32} (hdg : decode M.cc pc = .ok (.iload_n k, 1)) (hi : (k : Nat) = i) (hl : L[i]? = some (some (.int x))) (pn : Nat) (hpn : pc + 1 = pn)
    (k : g_Go E X P h z cs ss pn L (.int x :: rest)) : g_Go E X P h z cs ss pc L rest := by
  subst hpn
  exact fun H locs ls hV hB hlo hL hz => lv_iload_n hX.exec hX.code hdg hi (hL.get hl) (k H locs ls hV hB hlo hL hz)
theorem g_iload (hX : g_ok E X M) {i : Nat} {x : Int32} (hdg : decode M.cc pc = .ok (.iload i, 2)) (hl : L[i]? = some (some (.int x))) (pn : Nat) (hpn : pc + 2 = pn)
    (k : g_Go E X P h z cs ss pn L (.int x :: rest)) : g_Go E X P h z cs ss pc L rest := by
  subst hpn
  exact fun H locs ls hV hB hlo hL hz => lv_iload hX.exec hX.code hdg (hL.get hl) (k H locs ls hV hB hlo hL hz)
theorem g_aload_n (hX : g_ok E X M) {k : Fin 4} {i : Nat} {v : Value} (hdg : decode M.cc pc = .ok (.aload_n k, 1)) (hi : (k : Nat) = i) (hl : L[i]? = some (some v)) (hr : v.isRef = true) (pn : Nat) (hpn : pc + 1 = pn)
    (kk : g_Go E X P h z cs ss pn L (v :: rest)) : g_Go E X P h z cs ss pc L rest := by
  subst hpn
  intro H locs ls hV hB hlo hL hz
  cases v with
  | ref a => exact lv_aload_n hX.exec hX.code hdg hi (hL.get hl) (kk H locs ls hV hB hlo hL hz)
  | null => exact lv_aload_nN hX.exec hX.code hdg hi (hL.get hl) (kk H locs ls hV hB hlo hL hz)
  | int _ => cases hr
  | long _ => cases hr
  | float _ => cases hr
  | double _ => cases hr
  | retAddr _ => cases hr
theorem g_aload (hX : g_ok E X M) {i : Nat} {v : Value} (hdg : decode M.cc pc = .ok (.aload i, 2)) (hl : L[i]? = some (some v)) (hr : v.isRef = true) (pn : Nat) (hpn : pc + 2 = pn)
    (kk : g_Go E X P h z cs ss pn L (v :: rest)) : g_Go E X P h z cs ss pc L rest := by
  subst hpn
  intro H locs ls hV hB hlo hL hz
  cases v with
  | ref a => exact lv_aload hX.exec hX.code hdg (hL.get hl) (kk H locs ls hV hB hlo hL hz)
  | null => exact lv_aloadN hX.exec hX.code hdg (hL.get hl) (kk H locs ls hV hB hlo hL hz)
  | int _ => cases hr
  | long _ => cases hr
  | float _ => cases hr
  | double _ => cases hr
  | retAddr _ => cases hr
theorem g_istore_n (hX : g_ok E X M) {k : Fin 4} {i : Nat} {x : Int32} {L' : List (Option Value)} (hdg : decode M.cc pc = .ok (.istore_n k, 1)) (hi : (k : Nat) = i) (hn : i < M.nl) (hs : L.set i (some (.int x)) = L') (pn : Nat) (hpn : pc + 1 = pn)
    (kk : g_Go E X P h z cs ss pn L' rest) : g_Go E X P h z cs ss pc L (.int x :: rest) := by
  subst hpn
  subst hi
  subst hs
  intro H locs ls hV hB hlo hL hz
  have hexec := hX.exec
  have hb := hX.code
  obtain ⟨ls', e', h'⟩ := hL.store (v := .int x) (by rw [hX.nl]; exact hn) rfl
  intro T hT X'
  obtain ⟨t, a, b⟩ := kk H locs ls' hV hB hlo h' hz T hT X'
  refine ⟨t, ?_, b⟩
  jvm_step X'.here [X'.here.top, ↓top_set X'.here.top, hexec, hb, hdg, e']
  exact a
theorem g_istore (hX : g_ok E X M) {i : Nat} {x : Int32} {L' : List (Option Value)} (hdg : decode M.cc pc = .ok (.istore i, 2))  (hn : i < M.nl) (hs : L.set i (some (.int x)) = L') (pn : Nat) (hpn : pc + 2 = pn)
    (kk : g_Go E X P h z cs ss pn L' rest) : g_Go E X P h z cs ss pc L (.int x :: rest) := by
  subst hpn
  subst hs
  intro H locs ls hV hB hlo hL hz
  have hexec := hX.exec
  have hb := hX.code
  obtain ⟨ls', e', h'⟩ := hL.store (v := .int x) (by rw [hX.nl]; exact hn) rfl
  intro T hT X'
  obtain ⟨t, a, b⟩ := kk H locs ls' hV hB hlo h' hz T hT X'
  refine ⟨t, ?_, b⟩
  jvm_step X'.here [X'.here.top, ↓top_set X'.here.top, hexec, hb, hdg, e']
  exact a
theorem g_astore_n (hX : g_ok E X M) {k : Fin 4} {i : Nat} {v : Value} {L' : List (Option Value)} (hdg : decode M.cc pc = .ok (.astore_n k, 1)) (hi : (k : Nat) = i) (hn : i < M.nl) (hr : v.isRef = true) (hs : L.set i (some v) = L') (pn : Nat) (hpn : pc + 1 = pn)
    (kk : g_Go E X P h z cs ss pn L' rest) : g_Go E X P h z cs ss pc L (v :: rest) := by
  subst hpn
  subst hi
  subst hs
  intro H locs ls hV hB hlo hL hz
  have hexec := hX.exec
  have hb := hX.code
  cases v with
  | ref x => 
    obtain ⟨ls', e', h'⟩ := hL.store (v := .ref x) (by rw [hX.nl]; exact hn) rfl
    intro T hT X'
    obtain ⟨t, a, b⟩ := kk H locs ls' hV hB hlo h' hz T hT X'
    refine ⟨t, ?_, b⟩
    jvm_step X'.here [X'.here.top, ↓top_set X'.here.top, hexec, hb, hdg, e', Value.isRef]
    exact a
  | null => 
    obtain ⟨ls', e', h'⟩ := hL.store (v := .null) (by rw [hX.nl]; exact hn) rfl
    intro T hT X'
    obtain ⟨t, a, b⟩ := kk H locs ls' hV hB hlo h' hz T hT X'
    refine ⟨t, ?_, b⟩
    jvm_step X'.here [X'.here.top, ↓top_set X'.here.top, hexec, hb, hdg, e', Value.isRef]
    exact a
  | int _ => cases hr
  | long _ => cases hr
  | float _ => cases hr
  | double _ => cases hr
  | retAddr _ => cases hr
theorem g_astore (hX : g_ok E X M) {i : Nat} {v : Value} {L' : List (Option Value)} (hdg : decode M.cc pc = .ok (.astore i, 2))  (hn : i < M.nl) (hr : v.isRef = true) (hs : L.set i (some v) = L') (pn : Nat) (hpn : pc + 2 = pn)
    (kk : g_Go E X P h z cs ss pn L' rest) : g_Go E X P h z cs ss pc L (v :: rest) := by
  subst hpn
  subst hs
  intro H locs ls hV hB hlo hL hz
  have hexec := hX.exec
  have hb := hX.code
  cases v with
  | ref x => 
    obtain ⟨ls', e', h'⟩ := hL.store (v := .ref x) (by rw [hX.nl]; exact hn) rfl
    intro T hT X'
    obtain ⟨t, a, b⟩ := kk H locs ls' hV hB hlo h' hz T hT X'
    refine ⟨t, ?_, b⟩
    jvm_step X'.here [X'.here.top, ↓top_set X'.here.top, hexec, hb, hdg, e', Value.isRef]
    exact a
  | null => 
    obtain ⟨ls', e', h'⟩ := hL.store (v := .null) (by rw [hX.nl]; exact hn) rfl
    intro T hT X'
    obtain ⟨t, a, b⟩ := kk H locs ls' hV hB hlo h' hz T hT X'
    refine ⟨t, ?_, b⟩
    jvm_step X'.here [X'.here.top, ↓top_set X'.here.top, hexec, hb, hdg, e', Value.isRef]
    exact a
  | int _ => cases hr
  | long _ => cases hr
  | float _ => cases hr
  | double _ => cases hr
  | retAddr _ => cases hr
theorem g_iinc (hX : g_ok E X M) {i : Nat} {n : Int} {x v : Int32} {L' : List (Option Value)} (hdg : decode M.cc pc = .ok (.iinc i n, 3)) (hl : L[i]? = some (some (.int x))) (hv : x + Int32.ofInt n = v) (hs : L.set i (some (.int v)) = L') (pn : Nat) (hpn : pc + 3 = pn)
    (kk : g_Go E X P h z cs ss pn L' rest) : g_Go E X P h z cs ss pc L rest := by
  subst hpn
  subst hs
  intro H locs ls hV hB hlo hL hz
  subst hv
  have hi : i < X.c.maxLocals := hL.lt hl
  have hg := hL.get hl
  have hexec := hX.exec
  have hb := hX.code
  obtain ⟨ls', e', h'⟩ := hL.store (v := .int (x + Int32.ofInt n)) hi rfl
  intro T hT X'
  obtain ⟨t, a, b⟩ := kk H locs ls' hV hB hlo h' hz T hT X'
  refine ⟨t, ?_, b⟩
  jvm_step X'.here [X'.here.top, ↓top_set X'.here.top, hexec, hb, hdg, hg, e']
  exact a
theorem g_iadd (hX : g_ok E X M) {x y : Int32} (hdg : decode M.cc pc = .ok (.iadd, 1))  (pn : Nat) (hpn : pc + 1 = pn)
    (k : g_Go E X P h z cs ss pn L (.int (x + y) :: rest)) : g_Go E X P h z cs ss pc L (.int y :: .int x :: rest) := by
  subst hpn
  exact fun H locs ls hV hB hl hL hz => lv_iadd hX.exec hX.code hdg (k H locs ls hV hB hl hL hz)
theorem g_isub (hX : g_ok E X M) {x y : Int32} (hdg : decode M.cc pc = .ok (.isub, 1))  (pn : Nat) (hpn : pc + 1 = pn)
    (k : g_Go E X P h z cs ss pn L (.int (x - y) :: rest)) : g_Go E X P h z cs ss pc L (.int y :: .int x :: rest) := by
  subst hpn
  exact fun H locs ls hV hB hl hL hz => lv_isub hX.exec hX.code hdg (k H locs ls hV hB hl hL hz)
theorem g_imul (hX : g_ok E X M) {x y : Int32} (hdg : decode M.cc pc = .ok (.imul, 1))  (pn : Nat) (hpn : pc + 1 = pn)
    (k : g_Go E X P h z cs ss pn L (.int (x * y) :: rest)) : g_Go E X P h z cs ss pc L (.int y :: .int x :: rest) := by
  subst hpn
  exact fun H locs ls hV hB hl hL hz => lv_imul hX.exec hX.code hdg (k H locs ls hV hB hl hL hz)
theorem g_iand (hX : g_ok E X M) {x y : Int32} (hdg : decode M.cc pc = .ok (.iand, 1))  (pn : Nat) (hpn : pc + 1 = pn)
    (k : g_Go E X P h z cs ss pn L (.int (x &&& y) :: rest)) : g_Go E X P h z cs ss pc L (.int y :: .int x :: rest) := by
  subst hpn
  exact fun H locs ls hV hB hl hL hz => lv_iand hX.exec hX.code hdg (k H locs ls hV hB hl hL hz)
theorem g_ior (hX : g_ok E X M) {x y : Int32} (hdg : decode M.cc pc = .ok (.ior, 1))  (pn : Nat) (hpn : pc + 1 = pn)
    (k : g_Go E X P h z cs ss pn L (.int (x ||| y) :: rest)) : g_Go E X P h z cs ss pc L (.int y :: .int x :: rest) := by
  subst hpn
  exact fun H locs ls hV hB hl hL hz => lv_ior hX.exec hX.code hdg (k H locs ls hV hB hl hL hz)
theorem g_ishl (hX : g_ok E X M) {x y : Int32} (hdg : decode M.cc pc = .ok (.ishl, 1))  (pn : Nat) (hpn : pc + 1 = pn)
    (k : g_Go E X P h z cs ss pn L (.int (x <<< (y &&& 31)) :: rest)) : g_Go E X P h z cs ss pc L (.int y :: .int x :: rest) := by
  subst hpn
  exact fun H locs ls hV hB hl hL hz => lv_ishl hX.exec hX.code hdg (k H locs ls hV hB hl hL hz)
theorem g_ishr (hX : g_ok E X M) {x y : Int32} (hdg : decode M.cc pc = .ok (.ishr, 1))  (pn : Nat) (hpn : pc + 1 = pn)
    (k : g_Go E X P h z cs ss pn L (.int (x >>> (y &&& 31)) :: rest)) : g_Go E X P h z cs ss pc L (.int y :: .int x :: rest) := by
  subst hpn
  exact fun H locs ls hV hB hl hL hz => lv_ishr hX.exec hX.code hdg (k H locs ls hV hB hl hL hz)
theorem g_iushr (hX : g_ok E X M) {x y v : Int32} (hdg : decode M.cc pc = .ok (.iushr, 1)) (hv : (x.toUInt32 >>> (y.toUInt32 &&& Int32.toUInt32 31)).toInt32 = v) (pn : Nat) (hpn : pc + 1 = pn)
    (k : g_Go E X P h z cs ss pn L (.int v :: rest)) : g_Go E X P h z cs ss pc L (.int y :: .int x :: rest) := by
  subst hpn
  exact fun H locs ls hV hB hl hL hz => lv_iushr hX.exec hX.code hdg hv (k H locs ls hV hB hl hL hz)
theorem g_idiv (hX : g_ok E X M) {x y : Int32} (hdg : decode M.cc pc = .ok (.idiv, 1)) (hne : ¬ y = 0) (pn : Nat) (hpn : pc + 1 = pn)
    (k : g_Go E X P h z cs ss pn L (.int (x / y) :: rest)) : g_Go E X P h z cs ss pc L (.int y :: .int x :: rest) := by
  subst hpn
  exact fun H locs ls hV hB hl hL hz => lv_idiv hX.exec hX.code hdg hne (k H locs ls hV hB hl hL hz)
theorem g_ineg (hX : g_ok E X M) {x : Int32} (hdg : decode M.cc pc = .ok (.ineg, 1))  (pn : Nat) (hpn : pc + 1 = pn)
    (k : g_Go E X P h z cs ss pn L (.int (-x) :: rest)) : g_Go E X P h z cs ss pc L (.int x :: rest) := by
  subst hpn
  exact fun H locs ls hV hB hl hL hz => lv_ineg hX.exec hX.code hdg (k H locs ls hV hB hl hL hz)
theorem g_i2l (hX : g_ok E X M) {x : Int32} {v : Int64} (hdg : decode M.cc pc = .ok (.i2l, 1)) (hv : x.toInt64 = v) (pn : Nat) (hpn : pc + 1 = pn)
    (k : g_Go E X P h z cs ss pn L (.long v :: rest)) : g_Go E X P h z cs ss pc L (.int x :: rest) := by
  subst hpn
  exact fun H locs ls hV hB hl hL hz => lv_i2l hX.exec hX.code hdg hv (k H locs ls hV hB hl hL hz)
theorem g_lcmp (hX : g_ok E X M) {x y : Int64} (hdg : decode M.cc pc = .ok (.lcmp, 1))  (pn : Nat) (hpn : pc + 1 = pn)
    (k : g_Go E X P h z cs ss pn L (.int (lg_cmp x y) :: rest)) : g_Go E X P h z cs ss pc L (.long y :: .long x :: rest) := by
  subst hpn
  exact fun H locs ls hV hB hl hL hz => W.lcmp hX.exec hX.code hdg (k H locs ls hV hB hl hL hz)
theorem g_dup (hX : g_ok E X M) {va : Value} (hdg : decode M.cc pc = .ok (.dup, 1)) (hva : va.category = 1) (pn : Nat) (hpn : pc + 1 = pn)
    (k : g_Go E X P h z cs ss pn L (va :: va :: rest)) : g_Go E X P h z cs ss pc L (va :: rest) := by
  subst hpn
  exact fun H locs ls hV hB hl hL hz => lv_dup hX.exec hX.code hdg hva (k H locs ls hV hB hl hL hz)
theorem g_pop (hX : g_ok E X M) {va : Value} (hdg : decode M.cc pc = .ok (.pop, 1)) (hva : va.category = 1) (pn : Nat) (hpn : pc + 1 = pn)
    (k : g_Go E X P h z cs ss pn L rest) : g_Go E X P h z cs ss pc L (va :: rest) := by
  subst hpn
  exact fun H locs ls hV hB hl hL hz => lv_pop hX.exec hX.code hdg hva (k H locs ls hV hB hl hL hz)
theorem g_dup_x1 (hX : g_ok E X M) {va vb : Value} (hdg : decode M.cc pc = .ok (.dup_x1, 1)) (hva : va.category = 1) (hvb : vb.category = 1) (pn : Nat) (hpn : pc + 1 = pn)
    (k : g_Go E X P h z cs ss pn L (va :: vb :: va :: rest)) : g_Go E X P h z cs ss pc L (va :: vb :: rest) := by
  subst hpn
  exact fun H locs ls hV hB hl hL hz => lv_dup_x1 hX.exec hX.code hdg hva hvb (k H locs ls hV hB hl hL hz)
theorem g_dup2 (hX : g_ok E X M) {va vb : Value} (hdg : decode M.cc pc = .ok (.dup2, 1)) (hva : va.category = 1) (hvb : vb.category = 1) (pn : Nat) (hpn : pc + 1 = pn)
    (k : g_Go E X P h z cs ss pn L (va :: vb :: va :: vb :: rest)) : g_Go E X P h z cs ss pc L (va :: vb :: rest) := by
  subst hpn
  exact fun H locs ls hV hB hl hL hz => lv_dup2_11 hX.exec hX.code hdg hva hvb (k H locs ls hV hB hl hL hz)
theorem g_if_eq (hX : g_ok E X M) {x : Int32} {off : Int} (hdg : decode M.cc pc = .ok (.ifCond .eq off, 3)) (tgt pn : Nat) (ht : (pc : Int) + off = (tgt : Int)) (hpn : pc + 3 = pn)
    (kt : x = 0 → g_Go E X P h z cs ss tgt L rest) (kf : ¬ x = 0 → g_Go E X P h z cs ss pn L rest) : g_Go E X P h z cs ss pc L (.int x :: rest) := by
  subst hpn
  exact fun H locs ls hV hB hl hL hz => lv_if_eq hX.exec hX.code hdg ht (fun q => kt q H locs ls hV hB hl hL hz) (fun q => kf q H locs ls hV hB hl hL hz)
theorem g_icmp_eq (hX : g_ok E X M) {x y : Int32} {off : Int} (hdg : decode M.cc pc = .ok (.if_icmp .eq off, 3)) (tgt pn : Nat) (ht : (pc : Int) + off = (tgt : Int)) (hpn : pc + 3 = pn)
    (kt : x = y → g_Go E X P h z cs ss tgt L rest) (kf : ¬ x = y → g_Go E X P h z cs ss pn L rest) : g_Go E X P h z cs ss pc L (.int y :: .int x :: rest) := by
  subst hpn
  exact fun H locs ls hV hB hl hL hz => lv_icmp_eq hX.exec hX.code hdg ht (fun q => kt q H locs ls hV hB hl hL hz) (fun q => kf q H locs ls hV hB hl hL hz)
theorem g_if_ne (hX : g_ok E X M) {x : Int32} {off : Int} (hdg : decode M.cc pc = .ok (.ifCond .ne off, 3)) (tgt pn : Nat) (ht : (pc : Int) + off = (tgt : Int)) (hpn : pc + 3 = pn)
    (kt : ¬ x = 0 → g_Go E X P h z cs ss tgt L rest) (kf : x = 0 → g_Go E X P h z cs ss pn L rest) : g_Go E X P h z cs ss pc L (.int x :: rest) := by
  subst hpn
  exact fun H locs ls hV hB hl hL hz => lv_if_ne hX.exec hX.code hdg ht (fun q => kt q H locs ls hV hB hl hL hz) (fun q => kf q H locs ls hV hB hl hL hz)
theorem g_icmp_ne (hX : g_ok E X M) {x y : Int32} {off : Int} (hdg : decode M.cc pc = .ok (.if_icmp .ne off, 3)) (tgt pn : Nat) (ht : (pc : Int) + off = (tgt : Int)) (hpn : pc + 3 = pn)
    (kt : ¬ x = y → g_Go E X P h z cs ss tgt L rest) (kf : x = y → g_Go E X P h z cs ss pn L rest) : g_Go E X P h z cs ss pc L (.int y :: .int x :: rest) := by
  subst hpn
  exact fun H locs ls hV hB hl hL hz => lv_icmp_ne hX.exec hX.code hdg ht (fun q => kt q H locs ls hV hB hl hL hz) (fun q => kf q H locs ls hV hB hl hL hz)
theorem g_if_lt (hX : g_ok E X M) {x : Int32} {off : Int} (hdg : decode M.cc pc = .ok (.ifCond .lt off, 3)) (tgt pn : Nat) (ht : (pc : Int) + off = (tgt : Int)) (hpn : pc + 3 = pn)
    (kt : x < 0 → g_Go E X P h z cs ss tgt L rest) (kf : ¬ x < 0 → g_Go E X P h z cs ss pn L rest) : g_Go E X P h z cs ss pc L (.int x :: rest) := by
  subst hpn
  exact fun H locs ls hV hB hl hL hz => lv_if_lt hX.exec hX.code hdg ht (fun q => kt q H locs ls hV hB hl hL hz) (fun q => kf q H locs ls hV hB hl hL hz)
theorem g_icmp_lt (hX : g_ok E X M) {x y : Int32} {off : Int} (hdg : decode M.cc pc = .ok (.if_icmp .lt off, 3)) (tgt pn : Nat) (ht : (pc : Int) + off = (tgt : Int)) (hpn : pc + 3 = pn)
    (kt : x < y → g_Go E X P h z cs ss tgt L rest) (kf : ¬ x < y → g_Go E X P h z cs ss pn L rest) : g_Go E X P h z cs ss pc L (.int y :: .int x :: rest) := by
  subst hpn
  exact fun H locs ls hV hB hl hL hz => lv_icmp_lt hX.exec hX.code hdg ht (fun q => kt q H locs ls hV hB hl hL hz) (fun q => kf q H locs ls hV hB hl hL hz)
theorem g_if_ge (hX : g_ok E X M) {x : Int32} {off : Int} (hdg : decode M.cc pc = .ok (.ifCond .ge off, 3)) (tgt pn : Nat) (ht : (pc : Int) + off = (tgt : Int)) (hpn : pc + 3 = pn)
    (kt : 0 ≤ x → g_Go E X P h z cs ss tgt L rest) (kf : ¬ 0 ≤ x → g_Go E X P h z cs ss pn L rest) : g_Go E X P h z cs ss pc L (.int x :: rest) := by
  subst hpn
  exact fun H locs ls hV hB hl hL hz => lv_if_ge hX.exec hX.code hdg ht (fun q => kt q H locs ls hV hB hl hL hz) (fun q => kf q H locs ls hV hB hl hL hz)
theorem g_icmp_ge (hX : g_ok E X M) {x y : Int32} {off : Int} (hdg : decode M.cc pc = .ok (.if_icmp .ge off, 3)) (tgt pn : Nat) (ht : (pc : Int) + off = (tgt : Int)) (hpn : pc + 3 = pn)
    (kt : y ≤ x → g_Go E X P h z cs ss tgt L rest) (kf : ¬ y ≤ x → g_Go E X P h z cs ss pn L rest) : g_Go E X P h z cs ss pc L (.int y :: .int x :: rest) := by
  subst hpn
  exact fun H locs ls hV hB hl hL hz => lv_icmp_ge hX.exec hX.code hdg ht (fun q => kt q H locs ls hV hB hl hL hz) (fun q => kf q H locs ls hV hB hl hL hz)
theorem g_if_gt (hX : g_ok E X M) {x : Int32} {off : Int} (hdg : decode M.cc pc = .ok (.ifCond .gt off, 3)) (tgt pn : Nat) (ht : (pc : Int) + off = (tgt : Int)) (hpn : pc + 3 = pn)
    (kt : 0 < x → g_Go E X P h z cs ss tgt L rest) (kf : ¬ 0 < x → g_Go E X P h z cs ss pn L rest) : g_Go E X P h z cs ss pc L (.int x :: rest) := by
  subst hpn
  exact fun H locs ls hV hB hl hL hz => lv_if_gt hX.exec hX.code hdg ht (fun q => kt q H locs ls hV hB hl hL hz) (fun q => kf q H locs ls hV hB hl hL hz)
theorem g_icmp_gt (hX : g_ok E X M) {x y : Int32} {off : Int} (hdg : decode M.cc pc = .ok (.if_icmp .gt off, 3)) (tgt pn : Nat) (ht : (pc : Int) + off = (tgt : Int)) (hpn : pc + 3 = pn)
    (kt : y < x → g_Go E X P h z cs ss tgt L rest) (kf : ¬ y < x → g_Go E X P h z cs ss pn L rest) : g_Go E X P h z cs ss pc L (.int y :: .int x :: rest) := by
  subst hpn
  exact fun H locs ls hV hB hl hL hz => lv_icmp_gt hX.exec hX.code hdg ht (fun q => kt q H locs ls hV hB hl hL hz) (fun q => kf q H locs ls hV hB hl hL hz)
theorem g_if_le (hX : g_ok E X M) {x : Int32} {off : Int} (hdg : decode M.cc pc = .ok (.ifCond .le off, 3)) (tgt pn : Nat) (ht : (pc : Int) + off = (tgt : Int)) (hpn : pc + 3 = pn)
    (kt : x ≤ 0 → g_Go E X P h z cs ss tgt L rest) (kf : ¬ x ≤ 0 → g_Go E X P h z cs ss pn L rest) : g_Go E X P h z cs ss pc L (.int x :: rest) := by
  subst hpn
  exact fun H locs ls hV hB hl hL hz => lv_if_le hX.exec hX.code hdg ht (fun q => kt q H locs ls hV hB hl hL hz) (fun q => kf q H locs ls hV hB hl hL hz)
theorem g_icmp_le (hX : g_ok E X M) {x y : Int32} {off : Int} (hdg : decode M.cc pc = .ok (.if_icmp .le off, 3)) (tgt pn : Nat) (ht : (pc : Int) + off = (tgt : Int)) (hpn : pc + 3 = pn)
    (kt : x ≤ y → g_Go E X P h z cs ss tgt L rest) (kf : ¬ x ≤ y → g_Go E X P h z cs ss pn L rest) : g_Go E X P h z cs ss pc L (.int y :: .int x :: rest) := by
  subst hpn
  exact fun H locs ls hV hB hl hL hz => lv_icmp_le hX.exec hX.code hdg ht (fun q => kt q H locs ls hV hB hl hL hz) (fun q => kf q H locs ls hV hB hl hL hz)
theorem g_goto (hX : g_ok E X M) {off : Int} (hdg : decode M.cc pc = .ok (.goto off, 3)) (tgt : Nat) (ht : (pc : Int) + off = (tgt : Int)) (k : g_Go E X P h z cs ss tgt L rest) : g_Go E X P h z cs ss pc L rest :=
  fun H locs ls hV hB hl hL hz => lv_goto hX.exec hX.code hdg ht (k H locs ls hV hB hl hL hz)
theorem g_ifnull (hX : g_ok E X M) {r : Option Nat} {off : Int} (hdg : decode M.cc pc = .ok (.ifnull off, 3)) (tgt pn : Nat) (ht : (pc : Int) + off = (tgt : Int)) (hpn : pc + 3 = pn)
    (kt : r = none → g_Go E X P h z cs ss tgt L rest) (kf : ∀ a, r = some a → g_Go E X P h z cs ss pn L rest) : g_Go E X P h z cs ss pc L (va_rf r :: rest) := by
  subst hpn
  intro H locs ls hV hB hl hL hz
  cases r with
  | none => exact lv_ifnullN hX.exec hX.code hdg ht (kt rfl H locs ls hV hB hl hL hz)
  | some a => exact lv_ifnull hX.exec hX.code hdg (kf a rfl H locs ls hV hB hl hL hz)
theorem g_ifnonnull (hX : g_ok E X M) {r : Option Nat} {off : Int} (hdg : decode M.cc pc = .ok (.ifnonnull off, 3)) (tgt pn : Nat) (ht : (pc : Int) + off = (tgt : Int)) (hpn : pc + 3 = pn)
    (kt : ∀ a, r = some a → g_Go E X P h z cs ss tgt L rest) (kf : r = none → g_Go E X P h z cs ss pn L rest) : g_Go E X P h z cs ss pc L (va_rf r :: rest) := by
  subst hpn
  intro H locs ls hV hB hl hL hz
  cases r with
  | none => exact lv_ifnonnullN hX.exec hX.code hdg (kf rfl H locs ls hV hB hl hL hz)
  | some a => exact lv_ifnonnull hX.exec hX.code hdg ht (kt a rfl H locs ls hV hB hl hL hz)
theorem g_acmp_eq (hX : g_ok E X M) {rx ry : Option Nat} {off : Int} (hdg : decode M.cc pc = .ok (.if_acmp .eq off, 3)) (tgt pn : Nat) (ht : (pc : Int) + off = (tgt : Int)) (hpn : pc + 3 = pn)
    (kt : rx = ry → g_Go E X P h z cs ss tgt L rest) (kf : ¬ rx = ry → g_Go E X P h z cs ss pn L rest) : g_Go E X P h z cs ss pc L (va_rf ry :: va_rf rx :: rest) := by
  subst hpn
  exact fun H locs ls hV hB hl hL hz => lv_acmp_eq hX.exec hX.code hdg ht (fun q => kt q H locs ls hV hB hl hL hz) (fun q => kf q H locs ls hV hB hl hL hz)
theorem g_acmp_ne (hX : g_ok E X M) {rx ry : Option Nat} {off : Int} (hdg : decode M.cc pc = .ok (.if_acmp .ne off, 3)) (tgt pn : Nat) (ht : (pc : Int) + off = (tgt : Int)) (hpn : pc + 3 = pn)
    (kt : ¬ rx = ry → g_Go E X P h z cs ss tgt L rest) (kf : rx = ry → g_Go E X P h z cs ss pn L rest) : g_Go E X P h z cs ss pc L (va_rf ry :: va_rf rx :: rest) := by
  subst hpn
  exact fun H locs ls hV hB hl hL hz => lv_acmp_ne hX.exec hX.code hdg ht (fun q => kt q H locs ls hV hB hl hL hz) (fun q => kf q H locs ls hV hB hl hL hz)
theorem g_tableOut (hX : g_ok E X M) {dflt lo hi : Int} {offs : Array Int} {len : Nat} {x : Int32} (tgt : Nat) (hdg : decode M.cc pc = .ok (.tableswitch dflt lo hi offs, len)) (hx : x.toInt < lo ∨ hi < x.toInt) (ht : (pc : Int) + dflt = (tgt : Int))
    (k : g_Go E X P h z cs ss tgt L rest) : g_Go E X P h z cs ss pc L (.int x :: rest) :=
  fun H locs ls hV hB hl hL hz => lv_tableOut hX.exec hX.code hdg hx ht (k H locs ls hV hB hl hL hz)
theorem g_tableIn (hX : g_ok E X M) {dflt lo hi : Int} {offs : Array Int} {len : Nat} {x : Int32} {off : Int} (tgt : Nat) (hdg : decode M.cc pc = .ok (.tableswitch dflt lo hi offs, len)) (h1 : ¬ x.toInt < lo) (h2 : ¬ hi < x.toInt) (ho : offs[(x.toInt - lo).toNat]? = some off) (ht : (pc : Int) + off = (tgt : Int))
    (k : g_Go E X P h z cs ss tgt L rest) : g_Go E X P h z cs ss pc L (.int x :: rest) :=
  fun H locs ls hV hB hl hL hz => lv_tableIn hX.exec hX.code hdg h1 h2 ho ht (k H locs ls hV hB hl hL hz)
theorem g_lookup (hX : g_ok E X M) {dflt : Int} {ps : Array (Int × Int)} {len : Nat} {x : Int32} {off : Int} (tgt : Nat) (hdg : decode M.cc pc = .ok (.lookupswitch dflt ps, len)) (hp : (ps.toList.zip (ps.toList.drop 1)).all (fun (a, next) => a.1 < next.1) = true) (ho : Op.lookupswitch.offset ps.toList dflt x.toInt = off) (ht : (pc : Int) + off = (tgt : Int))
    (k : g_Go E X P h z cs ss tgt L rest) : g_Go E X P h z cs ss pc L (.int x :: rest) :=
  fun H locs ls hV hB hl hL hz => lv_lookup hX.exec hX.code hdg hp ho ht (k H locs ls hV hB hl hL hz)
theorem g_iret (hX : g_ok E X M) {v : Int32} {ty : FieldType} (hrt : M.ret = some ty) (hn : narrow ty (.int v) = .int v) (hdg : decode M.cc pc = .ok (.ireturn, 1)) (hP : P.2 (.inr (some (.int v))) h) (hpu : (!P.1 || z) = true) (hc : cs ≤ X.R.cells) (hs : ss ≤ X.R.slots) : g_Go E X P h z cs ss pc L [.int v] := by
  intro H locs ls hV hB hlo hL hz
  refine W.widen hc hs ?_
  intro T hT X'
  have hlocks : X.meth.locks = false := hX.locks
  have hexec := hX.exec
  have hb := hX.code
  have hr : X.meth.sig.returnType = some ty := hX.ret.trans hrt
  obtain ⟨fs, hret, hrun, hended, hW, hframe⟩ := X'.leave (v := some (.int v)) (fun q => by rw [hr] at q; cases q)
  have hmeth' : T.vm.method? X.m = some X.meth := X'.method'
  refine ⟨T.setFrames fs, ?_, .returned (some (.int v)), hrun, hended, ⟨⟨.inr (some (.int v)), h, hP, rfl, by rw [← hT] at hV; exact hV, by rw [← hT] at hB; exact hB⟩, hW, locs, hframe, hlo, fun q => g_pu hpu q hz hT⟩⟩
  jvm_step X'.here [X'.here.top, hexec, hb, hdg, hmeth', hr, hn]
  (try refine ⟨rfl, ?_⟩); (try refine ⟨rfl, ?_⟩)
  first | (intro acts; rw [hret _ acts rfl rfl rfl]) | rw [hret _ _ rfl rfl rfl]
  exact Steps.refl _
theorem g_vret (hX : g_ok E X M) (hrt : M.ret = none) (hdg : decode M.cc pc = .ok (.return_, 1)) (hP : P.2 (.inr none) h) (hpu : (!P.1 || z) = true) (hc : cs ≤ X.R.cells) (hs : ss ≤ X.R.slots) : g_Go E X P h z cs ss pc L [] := by
  intro H locs ls hV hB hlo hL hz
  refine W.widen hc hs ?_
  intro T hT X'
  have hlocks : X.meth.locks = false := hX.locks
  have hexec := hX.exec
  have hb := hX.code
  have hr : X.meth.sig.returnType = none := hX.ret.trans hrt
  obtain ⟨fs, hret, hrun, hended, hW, hframe⟩ := X'.leave (v := none) (fun _ => rfl)
  have hmeth' : T.vm.method? X.m = some X.meth := X'.method'
  refine ⟨T.setFrames fs, ?_, .returned none, hrun, hended, ⟨⟨.inr none, h, hP, rfl, by rw [← hT] at hV; exact hV, by rw [← hT] at hB; exact hB⟩, hW, locs, hframe, hlo, fun q => g_pu hpu q hz hT⟩⟩
  jvm_step X'.here [X'.here.top, hexec, hb, hdg, hmeth', hr]
  (try refine ⟨rfl, ?_⟩); (try refine ⟨rfl, ?_⟩)
  first | (intro acts; rw [hret _ acts rfl rfl rfl]) | rw [hret _ _ rfl rfl rfl]
  exact Steps.refl _
theorem g_aret (hX : g_ok E X M) {v : Value} {rt : FieldType} (hrt : M.ret = some rt) (hrr : (∃ n, rt = .object n) ∨ ∃ t, rt = .array t) (hv : v.isRef = true) (hdg : decode M.cc pc = .ok (.areturn, 1)) (hP : P.2 (.inr (some v)) h) (hpu : (!P.1 || z) = true) (hc : cs ≤ X.R.cells) (hs : ss ≤ X.R.slots) : g_Go E X P h z cs ss pc L [v] := by
  intro H locs ls hV hB hlo hL hz
  refine W.widen hc hs ?_
  intro T hT X'
  have hlocks : X.meth.locks = false := hX.locks
  have hexec := hX.exec
  have hb := hX.code
  have hr : X.meth.sig.returnType = some rt := hX.ret.trans hrt
  obtain ⟨fs, hret, hrun, hended, hW, hframe⟩ := X'.leave (v := some v) (fun q => by rw [hr] at q; cases q)
  have hmeth' : T.vm.method? X.m = some X.meth := X'.method'
  refine ⟨T.setFrames fs, ?_, .returned (some v), hrun, hended, ⟨⟨.inr (some v), h, hP, rfl, by rw [← hT] at hV; exact hV, by rw [← hT] at hB; exact hB⟩, hW, locs, hframe, hlo, fun q => g_pu hpu q hz hT⟩⟩
  have hv2 : v = .null ∨ ∃ a, v = .ref a := by
    cases v with
    | ref a => exact Or.inr ⟨a, rfl⟩
    | null => exact Or.inl rfl
    | int _ => cases hv
    | long _ => cases hv
    | float _ => cases hv
    | double _ => cases hv
    | retAddr _ => cases hv
  rcases hrr with ⟨n, rfl⟩ | ⟨t, rfl⟩ <;> rcases hv2 with rfl | ⟨a, rfl⟩ <;>
    (jvm_step X'.here [X'.here.top, hexec, hb, hdg, hmeth', hr]
     (try refine ⟨rfl, ?_⟩); (try refine ⟨rfl, ?_⟩)
     first | (intro acts; rw [hret _ acts rfl rfl rfl]) | rw [hret _ _ rfl rfl rfl]
     exact Steps.refl _)
end GROWS
end
section
/-- a table's row: the fields of the view's kind ci -/
def g_cf (ci : Nat) (C : String) (T : u_T) (N : Nat) (ty : Nat → FieldType) : Prop :=
  g_cl[ci]? = some (C, T, N) ∧ (∀ w ∈ u_ws C T N, w ∈ g_wl) ∧ (∀ k, k < N → parseFieldDescriptor (T k).2.2.1 = some (ty k)) ∧ ∀ a, a < N → ∀ b, b < N → a ≠ b → (T a).2.1 ≠ (T b).2.1
/-- the pool's entry 'index' of 'own' is field k of kind ci, of this type, final or not, declared by dc -/
def g_fd (own : String) (index ci k : Nat) (ty : FieldType) (fin : Bool) (dc : String) : Prop :=
  ∃ (C : String) (T : u_T) (N : Nat) (ty0 : Nat → FieldType) (ref : String), g_cf ci C T N ty0 ∧ k < N ∧ Cond.fieldLink own index ref (T k).2.1 (T k).2.2.1 ∈ g_wl ∧
    (ref = (T k).1 ∨ Cond.sameField ref (T k).1 (T k).2.1 (T k).2.2.1 ∈ g_wl) ∧ ty0 k = ty ∧ (T k).2.2.2 = fin ∧ (T k).1 = dc
def g_nw (own : String) (index ci N : Nat) (fs : List Value) : Prop :=
  ∃ (C : String) (T : u_T) (ty : Nat → FieldType), g_cf ci C T N ty ∧ Cond.classLink own index C ∈ g_wl ∧ Cond.instantiable C N ∈ g_wl ∧ Cond.initialized C ∈ g_wl ∧ ∀ j, j < N → defaultValue (ty j) = vp_V fs j
/-- an int that is the index k of an array of n -/
def g_ix (i : Int32) (k n : Nat) : Prop := vp_in i n ∧ i.toNatClampNeg = k
theorem g_ix.nat {k n : Nat} (h : k < n) (hn : n < 2 ^ 31) : g_ix (nI k) k n := ⟨nI_in h hn, nI_clamp (by omega)⟩
theorem g_ix.lt {i : Int32} {k n : Nat} (h : g_ix i k n) : k < n := by
  obtain ⟨h1, h2⟩ := h
  subst h2
  exact Nat.not_le.mp fun q => h1 (Or.inr q)
section GHEAP
variable {E : g_E} {X : g_X} {M : g_M} {P : g_P} {h : g_H} {z : Bool} {cs ss pc : Nat} {L : List (Option Value)} {rest : List Value}
theorem g_same {own ref dc n d : String} {s : State} (hw : ∀ w ∈ g_wl, ∀ A : Array Value, w.before A s = true) (hs : ref = dc ∨ Cond.sameField ref dc n d ∈ g_wl) : ∀ x, s.fieldFound? dc n d = some x → s.fieldFound? ref n d = some x := by
  intro x hx
  rcases hs with rfl | hs
  · exact hx
  · exact u_same (hw _ hs #[]) x hx
theorem g_get (hX : g_ok E X M) {index ci k : Nat} {ty : FieldType} {fin : Bool} {dc : String} {a : Nat} {fs : List Value} {v : Value} (hdg : decode M.cc pc = .ok (.getfield index, 3)) (hf : g_fd M.y.cls index ci k ty fin dc) (ha : h a = some (.inr (ci, fs))) (hv : fs[k]? = some v) (pn : Nat) (hpn : pc + 3 = pn)
    (kk : g_Go E X P h z cs ss pn L (v :: rest)) : g_Go E X P h z cs ss pc L (.ref a :: rest) := by
  subst hpn
  intro H locs ls hV hB hlo hL hz
  obtain ⟨C, T, N, ty0, ref, ⟨hc, hin, -, -⟩, hk, hlink, hsame, -, -, -⟩ := hf
  exact va_get (C := C) (T := T) (N := N) (ref := ref) (index := index) (ws := [(a, .inr (ci, fs))]) (Ts := u_ws C T N) hX.exec hX.code (fun w hw => hX.w (hin w hw)) (fun w hw => hw) hX.own hX.K.1
    (fun q e hq => by
      cases q with
      | zero => cases hq; exact hV a _ ha
      | succ q => cases hq) 0 rfl hc k hk (hX.w hlink) (g_same (own := M.y.cls) hX.K.2.1 hsame) hv hdg (kk H locs ls hV hB hlo hL hz)
theorem g_put0 (hX : g_ok E X M) {index ci k : Nat} {ty : FieldType} {dc : String} {a : Nat} {fs : List Value} {v : Value} (hdg : decode M.cc pc = .ok (.putfield index, 3)) (hf : g_fd M.y.cls index ci k ty false dc) (ha : h a = some (.inr (ci, fs))) (hb0 : E.H0.size ≤ a) (hn : narrow ty v = v) (hfit : fits ty v = true) (hl : k < fs.length) (pn : Nat) (hpn : pc + 3 = pn)
    (kk : g_Go E X P (g_set h a (.inr (ci, fs.set k v))) false cs ss pn L rest) : g_Go E X P h z cs ss pc L (v :: .ref a :: rest) := by
  subst hpn
  intro H locs ls hV hB hlo hL hz
  obtain ⟨C, T, N, ty0, ref, ⟨hc, hin, hty, hnm⟩, hk, hlink, hsame, rfl, hfin, -⟩ := hf
  have hts : ∀ w ∈ u_ws C T N, w.before X.args X.s = true := fun w hw => hX.w (hin w hw)
  have hap := va_apart (own := M.y.cls) hts (fun w hw => hw) ty0 hty hnm hX.K.1 hc
  obtain ⟨r, h1, cell, q1, q2, q3, q4⟩ := hV a _ ha
  have hr : r = (C, T, N) := Option.some.inj (h1.symm.trans hc)
  subst hr
  obtain ⟨hS, hfc, kC, hkC, hkind⟩ := hX.K.1.1 ci _ hc
  obtain ⟨cf, kf, fi, f, hi, hsl⟩ := hS k hk
  have hlay := hts _ (u_in_lay hk)
  unfold u_lay at hlay
  rw [if_neg (by rw [hfin]; decide)] at hlay
  have hst := (u_facts hfc hkC (u_lays hts (fun w hw => hw) hk) hi).1
  have h6 := u_store hfc hkC hkind hlay hi (hty k hk) hn hfit
  refine W.putK hX.exec hX.code (f := f) ⟨hX.own, hX.w hlink, ⟨_, _, _, g_same (own := M.y.cls) hX.K.2.1 hsame _ hi⟩, hst⟩ (by rw [q2]; exact h6) q1 q3 (by rw [hsl]; exact k2_hasslot (q4 k hk)) rfl rfl hdg fun H' e1 e2 e3 => ?_
  rw [hsl] at e1 ⊢
  refine kk H' _ ls (hV.put ⟨_, hc, t_OB.to (V := updV (vp_V fs) k v) ⟨_, e1, q2, q3, t_set q4 hap hk v⟩ (fun j _ => vp_updV_set hl v j)⟩ e3) (hB.put e2 e3 hb0) (t_lc (free := fun q => E.H0.size ≤ q) hlo hb0) hL (fun q => by cases q)
theorem g_putF0 (hX : g_ok E X M) {index ci k : Nat} {ty : FieldType} {a : Nat} {fs : List Value} {v : Value} (hdg : decode M.cc pc = .ok (.putfield index, 3)) (hf : g_fd M.y.cls index ci k ty true M.y.cls) (hin2 : M.y.name = "<init>") (ha : h a = some (.inr (ci, fs))) (hb0 : E.H0.size ≤ a) (hn : narrow ty v = v) (hfit : fits ty v = true) (hl : k < fs.length) (pn : Nat) (hpn : pc + 3 = pn)
    (kk : g_Go E X P (g_set h a (.inr (ci, fs.set k v))) false cs ss pn L rest) : g_Go E X P h z cs ss pc L (v :: .ref a :: rest) := by
  subst hpn
  intro H locs ls hV hB hlo hL hz
  obtain ⟨C, T, N, ty0, ref, ⟨hc, hin, hty, hnm⟩, hk, hlink, hsame, rfl, hfin, hdecl⟩ := hf
  have hts : ∀ w ∈ u_ws C T N, w.before X.args X.s = true := fun w hw => hX.w (hin w hw)
  have hap := va_apart (own := M.y.cls) hts (fun w hw => hw) ty0 hty hnm hX.K.1 hc
  obtain ⟨r, h1, cell, q1, q2, q3, q4⟩ := hV a _ ha
  have hr : r = (C, T, N) := Option.some.inj (h1.symm.trans hc)
  subst hr
  obtain ⟨hS, hfc, kC, hkC, hkind⟩ := hX.K.1.1 ci _ hc
  obtain ⟨cf, kf, fi, f, hi, hsl⟩ := hS k hk
  have hlay := hts _ (u_in_lay hk)
  unfold u_lay at hlay
  rw [if_pos hfin] at hlay
  have hst := (u_facts hfc hkC (u_lays hts (fun w hw => hw) hk) hi).1
  have hcf : X.m.cls = cf := by
    obtain ⟨_, _, c', _, _, _, -, -, hf', -, -, -, hown2, -⟩ := Cond.laysFinal_spec hlay
    have e1 : c' = cf := by have := hi.symm.trans hf'; simp at this; exact this.1.symm
    rw [hdecl] at hown2
    rw [← e1]; exact Option.some.inj (hX.own.symm.trans hown2)
  have h6 := u_fits hfc hkC hkind (Or.inr hlay) hi (hty k hk) hn hfit
  refine W.putFinK hX.exec hX.code hX.own (hX.w hlink) (g_same (own := M.y.cls) hX.K.2.1 hsame _ hi) hst hcf (hX.name.trans hin2) (by rw [q2]; exact h6) q1 q3 (by rw [hsl]; exact k2_hasslot (q4 k hk)) rfl rfl hdg fun H' e1 e2 e3 => ?_
  rw [hsl] at e1 ⊢
  refine kk H' _ ls (hV.put ⟨_, hc, t_OB.to (V := updV (vp_V fs) k v) ⟨_, e1, q2, q3, t_set q4 hap hk v⟩ (fun j _ => vp_updV_set hl v j)⟩ e3) (hB.put e2 e3 hb0) (t_lc (free := fun q => E.H0.size ≤ q) hlo hb0) hL (fun q => by cases q)
theorem g_iald (hX : g_ok E X M) {a k n : Nat} {f : Nat → Int32} {i : Int32} (hdg : decode M.cc pc = .ok (.iaload, 1)) (ha : h a = some (.inl (E.D.1 100, n, .inl f))) (hi : g_ix i k n) (pn : Nat) (hpn : pc + 1 = pn)
    (kk : g_Go E X P h z cs ss pn L (.int (f k) :: rest)) : g_Go E X P h z cs ss pc L (.int i :: .ref a :: rest) := by
  subst hpn
  intro H locs ls hV hB hlo hL hz
  obtain ⟨h1, rfl⟩ := hi
  exact va_iald (ws := [(a, .inl (E.D.1 100, n, .inl f))]) hX.exec hX.code hX.K.1 (fun q e hq => by
      cases q with
      | zero => cases hq; exact hV a _ ha
      | succ q => cases hq) 0 0 rfl rfl h1 hdg (kk H locs ls hV hB hlo hL hz)
theorem g_zald (hX : g_ok E X M) {a k n : Nat} {f : Nat → Int32} {i : Int32} (hdg : decode M.cc pc = .ok (.baload, 1)) (ha : h a = some (.inl (E.D.1 101, n, .inl f))) (hi : g_ix i k n) (pn : Nat) (hpn : pc + 1 = pn)
    (kk : g_Go E X P h z cs ss pn L (.int (f k) :: rest)) : g_Go E X P h z cs ss pc L (.int i :: .ref a :: rest) := by
  subst hpn
  intro H locs ls hV hB hlo hL hz
  obtain ⟨h1, rfl⟩ := hi
  exact va_zald (ws := [(a, .inl (E.D.1 101, n, .inl f))]) hX.exec hX.code hX.K.1 (fun q e hq => by
      cases q with
      | zero => cases hq; exact hV a _ ha
      | succ q => cases hq) 0 1 rfl rfl h1 hdg (kk H locs ls hV hB hlo hL hz)
theorem g_lald (hX : g_ok E X M) {a k n : Nat} {f : Nat → Int64} {i : Int32} (hdg : decode M.cc pc = .ok (.laload, 1)) (ha : h a = some (.inl (E.D.1 102, n, .inr (.inl f)))) (hi : g_ix i k n) (pn : Nat) (hpn : pc + 1 = pn)
    (kk : g_Go E X P h z cs ss pn L (.long (f k) :: rest)) : g_Go E X P h z cs ss pc L (.int i :: .ref a :: rest) := by
  subst hpn
  intro H locs ls hV hB hlo hL hz
  obtain ⟨h1, rfl⟩ := hi
  exact va_lald (ws := [(a, .inl (E.D.1 102, n, .inr (.inl f)))]) hX.exec hX.code hX.K.1 (fun q e hq => by
      cases q with
      | zero => cases hq; exact hV a _ ha
      | succ q => cases hq) 0 2 rfl rfl h1 hdg (kk H locs ls hV hB hlo hL hz)
theorem g_iast (hX : g_ok E X M) {a k n : Nat} {f : Nat → Int32} {i x : Int32} (hdg : decode M.cc pc = .ok (.iastore, 1)) (ha : h a = some (.inl (E.D.1 100, n, .inl f))) (hb0 : E.H0.size ≤ a) (hi : g_ix i k n) (pn : Nat) (hpn : pc + 1 = pn)
    (kk : g_Go E X P (g_set h a (.inl (E.D.1 100, n, .inl (upd f k x)))) false cs ss pn L rest) : g_Go E X P h z cs ss pc L (.int x :: .int i :: .ref a :: rest) := by
  subst hpn
  intro H locs ls hV hB hlo hL hz
  obtain ⟨h1, rfl⟩ := hi
  refine W.iast hX.exec hX.code (hV a _ ha) ((hX.K.1.2 0 _ rfl).1 n (fun j => .int (f j))) (fun q => by cases q) (by show ¬ (i < 0 ∨ (arrV _ _ _).slots.size ≤ _); rw [arrV_size]; exact h1) rfl rfl hdg fun H1 e z oq => ?_
  refine kk H1 _ ls (hV.put ?_ oq) (hB.put z oq hb0) (t_lc (free := fun q => E.H0.size ≤ q) hlo hb0) hL (fun q => by cases q)
  show H1[a]? = some (vp_cell _ _)
  rw [e]
  rw [vp_cell_i, vp_cell_i, arrV_store]
  congr 2
  funext q
  by_cases hq : q = i.toNatClampNeg
  · subst hq
    simp [updV, upd]
  · simp [updV, upd, hq]
theorem g_zast (hX : g_ok E X M) {a k n : Nat} {f : Nat → Int32} {i x : Int32} (hdg : decode M.cc pc = .ok (.bastore, 1)) (ha : h a = some (.inl (E.D.1 101, n, .inl f))) (hb0 : E.H0.size ≤ a) (hi : g_ix i k n) (hx : narrow .boolean (.int x) = .int x) (pn : Nat) (hpn : pc + 1 = pn)
    (kk : g_Go E X P (g_set h a (.inl (E.D.1 101, n, .inl (upd f k x)))) false cs ss pn L rest) : g_Go E X P h z cs ss pc L (.int x :: .int i :: .ref a :: rest) := by
  subst hpn
  intro H locs ls hV hB hlo hL hz
  obtain ⟨h1, rfl⟩ := hi
  refine W.zast hX.exec hX.code (hV a _ ha) ((hX.K.1.2 1 _ rfl).1 n (fun j => .int (f j))) (fun q => by cases q) (by show ¬ (i < 0 ∨ (arrV _ _ _).slots.size ≤ _); rw [arrV_size]; exact h1) rfl rfl hdg fun H1 e z oq => ?_
  refine kk H1 _ ls (hV.put ?_ oq) (hB.put z oq hb0) (t_lc (free := fun q => E.H0.size ≤ q) hlo hb0) hL (fun q => by cases q)
  show H1[a]? = some (vp_cell _ _)
  rw [e, hx]
  rw [vp_cell_i, vp_cell_i, arrV_store]
  congr 2
  funext q
  by_cases hq : q = i.toNatClampNeg
  · subst hq
    simp [updV, upd]
  · simp [updV, upd, hq]
theorem g_last (hX : g_ok E X M) {a k n : Nat} {f : Nat → Int64} {i : Int32} {x : Int64} (hdg : decode M.cc pc = .ok (.lastore, 1)) (ha : h a = some (.inl (E.D.1 102, n, .inr (.inl f)))) (hb0 : E.H0.size ≤ a) (hi : g_ix i k n) (pn : Nat) (hpn : pc + 1 = pn)
    (kk : g_Go E X P (g_set h a (.inl (E.D.1 102, n, .inr (.inl (fun j => if j = k then x else f j))))) false cs ss pn L rest) : g_Go E X P h z cs ss pc L (.long x :: .int i :: .ref a :: rest) := by
  subst hpn
  intro H locs ls hV hB hlo hL hz
  obtain ⟨h1, rfl⟩ := hi
  refine W.last hX.exec hX.code (hV a _ ha) ((hX.K.1.2 2 _ rfl).1 n (fun j => .long (f j))) (fun q => by cases q) (by show ¬ (i < 0 ∨ (arrV _ _ _).slots.size ≤ _); rw [arrV_size]; exact h1) rfl rfl hdg fun H1 e z oq => ?_
  refine kk H1 _ ls (hV.put ?_ oq) (hB.put z oq hb0) (t_lc (free := fun q => E.H0.size ≤ q) hlo hb0) hL (fun q => by cases q)
  show H1[a]? = some (vp_cell _ _)
  rw [e]
  show some ((arrV (E.D.1 102) n (fun j => .long (f j))).setSlot i.toNatClampNeg (.long x)) = some (arrV (E.D.1 102) n (fun j => .long (if j = i.toNatClampNeg then x else f j)))
  rw [arrV_store]
  congr 2
  funext q
  by_cases hq : q = i.toNatClampNeg
  · subst hq
    simp [updV]
  · simp [updV, hq]
theorem g_alen (hX : g_ok E X M) {a t n : Nat} {ty : FieldType} {x : vp_A} {cA : ClassId} (hdg : decode M.cc pc = .ok (.arraylength, 1)) (ha : h a = some (.inl (cA, x))) (ht : (g_tys E.D)[t]? = some (cA, ty)) (hn : x.1 = n) (pn : Nat) (hpn : pc + 1 = pn)
    (kk : g_Go E X P h z cs ss pn L (.int (nI n) :: rest)) : g_Go E X P h z cs ss pc L (.ref a :: rest) := by
  subst hpn
  intro H locs ls hV hB hlo hL hz
  subst hn
  exact va_alen (ws := [(a, .inl (cA, x))]) hX.exec hX.code hX.K.1 (fun q e hq => by
      cases q with
      | zero => cases hq; exact hV a _ ha
      | succ q => cases hq) 0 t rfl ht rfl hdg (kk H locs ls hV hB hlo hL hz)
theorem g_new (hX : g_ok E X M) {index ci N : Nat} {fs : List Value} (hdg : decode M.cc pc = .ok (.new index, 3)) (hn : g_nw M.y.cls index ci N fs) (hc1 : cs + 1 ≤ X.R.cells) (hs1 : ss + N ≤ X.R.slots) (pn : Nat) (hpn : pc + 3 = pn)
    (kk : ∀ q : Nat, h q = none → E.H0.size ≤ q → g_Go E X P (g_set h q (.inr (ci, fs))) false (cs + 1) (ss + N) pn L (.ref q :: rest)) : g_Go E X P h z cs ss pc L rest := by
  subst hpn
  intro H locs ls hV hB hlo hL hz
  obtain ⟨C, T, ty, ⟨hc, hin, hty, -⟩, hlink, hins, hini, hfs⟩ := hn
  have hts : ∀ w ∈ u_ws C T N, w.before X.args X.s = true := fun w hw => hX.w (hin w hw)
  have hKn := hX.K.1.1 ci _ hc
  refine W.newcK hX.exec hX.code hX.own (hX.w hlink) (hX.w hins) (hX.w hini) rfl hdg hc1 hs1 hKn.2.1 rfl fun H1 kC hkC e1 z1 o1 => ?_
  exact kk H.size hV.fresh hB.1 H1 locs ls (hV.new ⟨_, hc, (u_born ty hts (fun w hw => hw) hKn hkC e1 hty).to hfs⟩ o1) (hB.grow (by omega) o1) hlo hL (fun q => by cases q)
theorem g_newa (hX : g_ok E X M) {atype : ArrayType} {t : Nat} {ty : FieldType} {n : Int32} {N : Nat} {a0 : vp_A} (hdg : decode M.cc pc = .ok (.newarray atype, 2)) (hw : Cond.arrayClass (newarray.typeOf atype) ∈ g_wl) (hty : newarray.typeOf atype = ty) (ht : (g_tys E.D)[t]? = some (E.D.1 (100 + t), ty)) (hobj : ∀ C, ty ≠ .object C)
    (hcell : ∀ cA : ClassId, vp_cell cA a0 = arrV cA N (fun _ => defaultValue ty)) (hn : ¬ n < 0) (hN : n.toNatClampNeg = N) (hbytes : N * componentBytes ty ≤ 536870912) (hc1 : cs + 1 ≤ X.R.cells) (hs1 : ss + N ≤ X.R.slots) (pn : Nat) (hpn : pc + 2 = pn)
    (kk : ∀ q : Nat, h q = none → E.H0.size ≤ q → g_Go E X P (g_set h q (.inl (E.D.1 (100 + t), a0))) false (cs + 1) (ss + N) pn L (.ref q :: rest)) : g_Go E X P h z cs ss pc L (.int n :: rest) := by
  subst hpn
  intro H locs ls hV hB hlo hL hz
  subst hty
  refine va_newaK hX.exec hX.code (hX.w hw) rfl hdg rfl hn hN hbytes hc1 hs1 rfl fun H1 cA e1 z1 o1 hAr hNm => ?_
  have hRA := (hX.K.1.2 t _ ht).2
  have hcA : cA = E.D.1 (100 + t) := by
    have h2 : X.s.vm.findClass ("[" ++ (newarray.typeOf atype).toString) = some (E.D.1 (100 + t)) := by
      generalize newarray.typeOf atype = ty at hRA hobj
      cases ty with
      | object C => exact absurd rfl (hobj C)
      | _ => exact hRA
    exact Option.some.inj (hNm.symm.trans h2)
  subst hcA
  refine kk H.size hV.fresh hB.1 H1 locs ls (hV.new ?_ o1) (hB.grow (by omega) o1) hlo hL (fun q => by cases q)
  show H1[H.size]? = some (vp_cell _ _)
  rw [hcell]
  exact e1
theorem g_castN (hX : g_ok E X M) {index : Nat} (hdg : decode M.cc pc = .ok (.checkcast index, 3)) (pn : Nat) (hpn : pc + 3 = pn) (kk : g_Go E X P h z cs ss pn L (.null :: rest)) : g_Go E X P h z cs ss pc L (.null :: rest) := by
  subst hpn
  exact fun H locs ls hV hB hlo hL hz => lv_castN hX.exec hX.code hdg (kk H locs ls hV hB hlo hL hz)
theorem g_recv {D : va_G} {s : State} {H : Heap} {ci a : Nat} {C : String} {T : u_T} {N : Nat} {fs : List Value} (hK : va_K D g_cl (g_tys D) s) (hV : g_V D h H) (hc : g_cl[ci]? = some (C, T, N)) (ha : h a = some (.inr (ci, fs))) : ∃ cell : Cell, H[a]? = some cell ∧ cell.vm.isStatics = false ∧ s.vm.findClass C = some cell.cls := by
  obtain ⟨r, h1, cell, q1, q2, q3, q4⟩ := hV a _ ha
  obtain ⟨-, hfc, -⟩ := hK.1 ci _ hc
  exact ⟨cell, q1, by rw [q3]; rfl, by rw [q2]; exact hfc⟩
theorem g_cast (hX : g_ok E X M) {index ci a N : Nat} {C : String} {T : u_T} {fs : List Value} (hdg : decode M.cc pc = .ok (.checkcast index, 3)) (hc : g_cl[ci]? = some (C, T, N)) (hlink : Cond.classLink M.y.cls index C ∈ g_wl) (ha : h a = some (.inr (ci, fs))) (pn : Nat) (hpn : pc + 3 = pn)
    (kk : g_Go E X P h z cs ss pn L (.ref a :: rest)) : g_Go E X P h z cs ss pc L (.ref a :: rest) := by
  subst hpn
  intro H locs ls hV hB hlo hL hz
  exact va_castS hX.exec hX.code hX.own (hX.w hlink) (hX.K.1.1 ci _ hc).2 (g_recv hX.K.1 hV hc ha) hdg (kk H locs ls hV hB hlo hL hz)
end GHEAP
end
section
/-! calls: the callee's contract, both ends -/
set_option maxHeartbeats 4000000 in
theorem g_enter {E : g_E} {l : Launch} {M' : g_M} {fr lo mc ms : Nat} {as : List Value} {h : g_H} {P' : g_P} (hct : g_Ct l M' fr lo mc ms as E h P')
    {p : Program} {e : Env} {R : Room} {s : State} {m : MethodId} {args : Array Value} {below : List Frame} {meth : Method} {c : Code} {U : State} {locs : List Loc} {cs ss : Nat} (X : Stand p l e R s m args below meth c U locs cs ss)
    (hfr : fr + 1 ≤ R.frames) {wt : Nat} (hlo : wt + (M'.nl + 11) + lo ≤ R.locals) (hc : cs + mc ≤ R.cells) (hs : ss + ms ≤ R.slots)
    (hK : g_K E U) (hcw : g_cw M' ∈ g_wl) (hini : Cond.initialized M'.y.cls ∈ g_wl) (hV : g_V E.D h U.heap) (hB : g_B E.H0 U.heap)
    {g : JFrame} (hg : g.method = m) (hsize : g.locals.size = c.maxLocals) {ig : Instr} {len : Nat} (hdg : decode c.code g.pc = .ok (ig, len)) (hW : 2 * g.monitorRoom + (g.stack.map fun v => v.category).sum ≤ wt) {mk : MethodId} (hn : U.methodNamed? M'.y = some mk) :
    ∃ (r : g_R) (h' : g_H) (T' : State) (L : List Loc), P'.2 r h' ∧ Stand p l e R s m args below meth c T' (locs ++ L) (cs + mc) (ss + ms) ∧ (∀ q ∈ L, E.H0.size ≤ q.base) ∧ (P'.1 = true → L = [] ∧ T'.heap = U.heap) ∧ g_V E.D h' T'.heap ∧ g_B E.H0 T'.heap ∧
      ((∃ v : Option Value, r = .inr v ∧ Steps p.tables e below (doInvoke e (U.setTop g) [] mk as.toArray).1 (T'.setTop { g with pc := g.pc + len, stack := v.toList ++ g.stack })) ∨
       (∃ (k : Nat) (a : Addr) (cell : Cell), r = .inl k ∧ T'.heap[a]? = some cell ∧ cell.vm = .none ∧ T'.vm.findClass (g_xn k) = some cell.cls ∧ Steps p.tables e below (doInvoke e (U.setTop g) [] mk as.toArray).1 ((T'.setTop g).pushFrame (.throwing a)))) := by
  have h2 : (g_cw M').before as.toArray U = true := hK.w hcw
  have h3 : (Cond.initialized M'.y.cls).before as.toArray U = true := hK.w hini
  obtain ⟨methY, cY, hmY, hcY, -, hlY, -, -, -, -⟩ := g_cw_spec hn h2
  obtain ⟨kY, hkY, -⟩ := className_of_methodNamed hn
  have hinitY : kY.init = .initialized := Cond.initialized_spec (findClass_of_methodNamed hn) hkY h3
  have hA : At U g.method c below := by rw [hg]; exact X.here
  have hpre : (headSpec [g_cw M'] { frames := fr, cells := mc, slots := ms, locals := lo }).pre.before as.toArray U = true := atoms_intro fun w hw => by
    rw [List.mem_singleton] at hw
    subst hw
    exact h2
  have happ : (headSpec [g_cw M'] { frames := fr, cells := mc, slots := ms, locals := lo }).appliesLoose M'.y e.platform (U.calling g mk as.toArray) = true :=
    Spec.appliesLoose_calling (g := g) hA hdg hn hkY hinitY
      (X.room_calling (g := g) (R' := { frames := fr, cells := mc, slots := ms, locals := lo }) hsize hmY hcY hfr (by rw [hlY]; show _ + _ + lo ≤ _; omega) hc hs) hpre
  obtain ⟨mid, hmid⟩ := hA.above
  have hfr2 : (U.setTop g).frames = (.java g :: mid) ++ below := by rw [State.frames_setTop' g hA.top, hmid]; rfl
  have hP : as.toArray = as.toArray ∧ g_K E (U.calling g mk as.toArray) ∧ g_V E.D h (U.calling g mk as.toArray).heap ∧ g_B E.H0 (U.calling g mk as.toArray).heap :=
    ⟨rfl, hK.warm (State.WarmedH.refl U), hV, hB⟩
  obtain ⟨o, s₂, hsteps, -, hend, hq⟩ := Steps.callFree hct p X.admits X.cas X.clock (acts := []) hfr2 happ hP trivial
  have hq' : g_Z E mc ms P' (U.calling g mk as.toArray) o s₂ := hq
  rw [State.frames_setTop' g hA.top] at hend
  obtain ⟨⟨r, h', hPr, ho, hV', hB'⟩, hW₂, L, ⟨e2, q2, q3, q4, q5, q6⟩, hL, hpu⟩ := hq'
  have e3 : s₂ = ({ (U.calling g mk as.toArray).setFrames s₂.frames with heap := s₂.heap, slotsUsed := s₂.slotsUsed } : State).setVm s₂.vm := by
    have : s₂ = ({ s₂ with vm := (U.calling g mk as.toArray).vm } : State).setVm s₂.vm := rfl
    rw [e2] at this
    exact this
  have hW' : U.WarmedH s₂.vm := hW₂
  obtain ⟨g₀, hg0⟩ := Option.isSome_iff_exists.mp hA.top
  obtain ⟨rr, hr⟩ := State.topJava?_eq_some.mp hg0
  have hsame : U.sameButNew ({ U with heap := s₂.heap, slotsUsed := s₂.slotsUsed } : State) L mc ms := by
    refine ⟨?_, q2, q3, q4, q5, q6⟩
    obtain ⟨t, ht, -⟩ := State.frames_cons hr
    show ({ U with heap := s₂.heap, slotsUsed := s₂.slotsUsed } : State) = { U.setFrames U.frames with heap := s₂.heap, slotsUsed := s₂.slotsUsed }
    rw [State.setFrames_self ht]
  have hst : Stand p l e R s m args below meth c (({ U with heap := s₂.heap, slotsUsed := s₂.slotsUsed } : State).setVm s₂.vm) (locs ++ L) (cs + mc) (ss + ms) :=
    ⟨X.admits, X.cas, X.clock, X.frames, X.room, X.hears, X.method, X.code, (X.here.setHeapUsed s₂.heap s₂.slotsUsed).setVm hW'.alike, X.tail, State.WarmedH.trans X.warmed hW', X.limits, X.bytes, X.same.trans (hsame.setVm s.vm)⟩
  have hr' : (({ U with heap := s₂.heap, slotsUsed := s₂.slotsUsed } : State).setVm s₂.vm).frames = .java g₀ :: rr := hr
  refine ⟨r, h', (({ U with heap := s₂.heap, slotsUsed := s₂.slotsUsed } : State).setVm s₂.vm), L, hPr, hst, hL, hpu, hV', hB', ?_⟩
  cases r with
  | inr v =>
    refine Or.inl ⟨v, rfl, ?_⟩
    have ho' : o = .returned v := ho
    subst ho'
    obtain ⟨c₂, i₂, len₂, hc₂, hd₂, hf₂⟩ := hend
    have hcc : c₂ = c := by
      have h1 : s₂.code? g.method = U.code? g.method := by
        rw [State.code?_eq, State.code?_eq, hW'.alike.method?]
      exact Option.some.inj (hc₂.symm.trans (h1.trans hA.code))
    subst hcc
    have hlen : len₂ = len := by rw [hdg] at hd₂; cases hd₂; rfl
    subst hlen
    have hs₂ : s₂ = (({ U with heap := s₂.heap, slotsUsed := s₂.slotsUsed } : State).setVm s₂.vm).setTop { g with pc := g.pc + len₂, stack := v.toList ++ g.stack } := by
      refine e3.trans ?_
      rw [hf₂, State.calling_eq hA.top, State.setFrames_setFrames, State.setTop_of_frames _ hr', hr]
      rfl
    rw [← hs₂]
    exact hsteps
  | inl k =>
    obtain ⟨a, cell, ho', hcell, hcv, hfc⟩ := ho
    subst ho'
    refine Or.inr ⟨k, a, cell, rfl, hcell, hcv, hfc, ?_⟩
    have hf₂ : s₂.frames = .throwing a :: .java g :: U.frames.tail := hend
    have hs₂ : s₂ = ((({ U with heap := s₂.heap, slotsUsed := s₂.slotsUsed } : State).setVm s₂.vm).setTop g).pushFrame (.throwing a) := by
      refine e3.trans ?_
      rw [hf₂, State.calling_eq hA.top, State.setFrames_setFrames, State.pushFrame, State.frames_setTop _ hr', State.setTop_of_frames _ hr', State.setFrames_setFrames, hr]
      rfl
    rw [← hs₂]
    exact hsteps
/-- an exception of number k is thrown at pc: what comes of it -/
def g_Th (E : g_E) (X : g_X) (P : g_P) (h : g_H) (cs ss pc : Nat) (L : List (Option Value)) (k : Nat) : Prop :=
  ∀ (T : State) (locs : List Loc) (ls : Array Slot) (st : List Value) (a : Addr) (cell : Cell), g_V E.D h T.heap → g_B E.H0 T.heap → (∀ q ∈ locs, E.H0.size ≤ q.base) → g_L ls X.c.maxLocals L → T.heap[a]? = some cell → cell.vm = .none → T.vm.findClass (g_xn k) = some cell.cls →
    Stand X.p X.l X.e X.R X.s X.m X.args X.below X.meth X.c T locs cs ss → ∃ t, Steps X.p.tables X.e X.below ((T.setTop (F0 X.m pc ls st)).pushFrame (.throwing a)) t ∧ g_Q E X P t
theorem g_Th.out {E : g_E} {X : g_X} {M : g_M} {P : g_P} {h : g_H} {cs ss pc : Nat} {L : List (Option Value)} {k : Nat} (hX : g_ok E X M) (hout : (tableOf M.tb).all (fun x => !covers x pc) = true) (hP : P.2 (.inl k) h) (hpu : P.1 = false) (hc : cs ≤ X.R.cells) (hs : ss ≤ X.R.slots) : g_Th E X P h cs ss pc L k := by
  intro T locs ls st a cell hV hB hlo hL hcell hcv hfc X'
  have X2 := stand_widen X' hc hs
  have hlocks : X.meth.locks = false := hX.locks
  obtain ⟨hst, hrun, hend, hW, hsame⟩ := X2.leaveThrown a (g := F0 X.m pc ls st) rfl rfl rfl (fun x hx => by
    rw [hX.tb] at hx
    have h9 := List.all_eq_true.mp hout x hx
    show covers x pc = false
    cases hq : covers x pc with
    | false => rfl
    | true => rw [hq] at h9; cases h9)
  exact ⟨_, hst, .threw a, hrun, hend, ⟨⟨.inl k, h, hP, ⟨a, cell, rfl, hcell, hcv, hfc⟩, hV, hB⟩, hW, locs, hsame, hlo, fun q => by rw [hpu] at q; cases q⟩⟩
theorem g_room {m : MethodId} {pc wt : Nat} {ls : Array Slot} {st : List Value} (h : (st.map fun v => v.category).sum ≤ wt) : 2 * (F0 m pc ls st).monitorRoom + (st.map fun v => v.category).sum ≤ wt := by
  have h0 : (F0 m pc ls st).monitorRoom = 0 := by first | rfl | simp [JFrame.monitorRoom]
  rw [h0]
  omega
section GCALL
variable {E : g_E} {X : g_X} {M M' : g_M} {P P' : g_P} {h : g_H} {z : Bool} {cs ss pc : Nat} {L : List (Option Value)} {rest : List Value} {fr lo mc ms index : Nat} {as : List Value}
theorem g_after {g : JFrame} {T U : State} {locs : List Loc} {ls : Array Slot} {len : Nat} {mk : MethodId} (hX : g_ok E X M) (hT : T.heap = U.heap)
    (kr : ∀ (v : Option Value) (h' : g_H), P'.2 (.inr v) h' → g_Go E X P h' (P'.1 && z) (cs + mc) (ss + ms) (pc + len) L (v.toList ++ rest)) (kt : ∀ (k : Nat) (h' : g_H), P'.2 (.inl k) h' → g_Th E X P h' (cs + mc) (ss + ms) pc L k)
    (hlo : ∀ q ∈ locs, E.H0.size ≤ q.base) (hL : g_L ls X.c.maxLocals L) (hz : z = true → locs = [] ∧ U.heap = X.s.heap ∧ cs = 0 ∧ ss = 0) (hmc : P'.1 = true → mc = 0 ∧ ms = 0)
    (hstep : ∀ target, (∀ acts, Steps X.p.tables X.e X.below (doInvoke X.e (U.setTop (F0 X.m pc ls rest)) acts mk as.toArray).1 target) → Steps X.p.tables X.e X.below (T.setTop g) target)
    (hen : ∃ (r : g_R) (h' : g_H) (T' : State) (L' : List Loc), P'.2 r h' ∧ Stand X.p X.l X.e X.R X.s X.m X.args X.below X.meth X.c T' (locs ++ L') (cs + mc) (ss + ms) ∧ (∀ q ∈ L', E.H0.size ≤ q.base) ∧ (P'.1 = true → L' = [] ∧ T'.heap = U.heap) ∧ g_V E.D h' T'.heap ∧ g_B E.H0 T'.heap ∧
      ((∃ v : Option Value, r = .inr v ∧ Steps X.p.tables X.e X.below (doInvoke X.e (U.setTop (F0 X.m pc ls rest)) [] mk as.toArray).1 (T'.setTop { F0 X.m pc ls rest with pc := pc + len, stack := v.toList ++ rest })) ∨
       (∃ (k : Nat) (a : Addr) (cell : Cell), r = .inl k ∧ T'.heap[a]? = some cell ∧ cell.vm = .none ∧ T'.vm.findClass (g_xn k) = some cell.cls ∧ Steps X.p.tables X.e X.below (doInvoke X.e (U.setTop (F0 X.m pc ls rest)) [] mk as.toArray).1 ((T'.setTop (F0 X.m pc ls rest)).pushFrame (.throwing a))))) :
    ∃ t, Steps X.p.tables X.e X.below (T.setTop g) t ∧ g_Q E X P t := by
  obtain ⟨r, h', T', L', hPr, hst, hL', hpu, hV', hB', hor⟩ := hen
  have hlo' : ∀ q ∈ locs ++ L', E.H0.size ≤ q.base := t_lL (free := fun q => E.H0.size ≤ q) hlo hL'
  rcases hor with ⟨v, rfl, hs⟩ | ⟨k, a, cell, rfl, hcell, hcv, hfc, hs⟩
  · obtain ⟨t, a1, b1⟩ := kr v h' hPr T'.heap (locs ++ L') ls hV' hB' hlo' hL (fun q => by
      rw [Bool.and_eq_true] at q
      obtain ⟨p1, p2⟩ := hpu q.1
      obtain ⟨z1, z2, z3, z4⟩ := hz q.2
      obtain ⟨m1, m2⟩ := hmc q.1
      exact ⟨by rw [z1, p1]; rfl, p2.trans z2, by omega, by omega⟩) T' rfl hst
    exact ⟨t, hstep _ fun acts => by rw [doInvoke_state]; exact hs.trans a1, b1⟩
  · obtain ⟨t, a1, b1⟩ := kt k h' hPr T' (locs ++ L') ls rest a cell hV' hB' hlo' hL hcell hcv hfc hst
    exact ⟨t, hstep _ fun acts => by rw [doInvoke_state]; exact hs.trans a1, b1⟩
def g_np (y : MethodName) (n : Nat) : Bool := y.cls != "java/lang/invoke/MethodHandle" && (y.cls != "java/lang/invoke/VarHandle" && decide ((parseMethodDescriptor y.desc).map (fun q => q.parameters.length) = some n))
theorem g_np_hy {y : MethodName} {n : Nat} (h : g_np y n = true) : y.cls ≠ "java/lang/invoke/MethodHandle" ∧ y.cls ≠ "java/lang/invoke/VarHandle" := by
  simp only [g_np, Bool.and_eq_true, bne_iff_ne] at h
  exact ⟨h.1, h.2.1⟩
theorem g_np_len {y : MethodName} {n : Nat} (h : g_np y n = true) (sig : MethodDescriptor) (hs : parseMethodDescriptor y.desc = some sig) : n = sig.parameters.length := by
  simp only [g_np, Bool.and_eq_true, decide_eq_true_eq] at h
  have h2 := h.2.2
  rw [hs] at h2
  exact (Option.some.inj h2).symm
theorem g_callS (hX : g_ok E X M) (hct : g_Ct X.l M' fr lo mc ms as E h P') (hdg : decode M.cc pc = .ok (.invokestatic index, 3)) (hlink : Cond.methodLink M.y.cls index M'.y ∈ g_wl) (hstat : Cond.static M'.y ∈ g_wl) (hini : Cond.initialized M'.y.cls ∈ g_wl) (hcw : g_cw M' ∈ g_wl) (hnp : g_np M'.y as.length = true)
    (hfr : fr + 1 ≤ X.R.frames) {wt : Nat} (hlo : wt + (M'.nl + 11) + lo ≤ X.R.locals) (hc : cs + mc ≤ X.R.cells) (hs : ss + ms ≤ X.R.slots) (hW : (rest.map fun v => v.category).sum ≤ wt) (hmc : P'.1 = true → mc = 0 ∧ ms = 0) (pn : Nat) (hpn : pc + 3 = pn)
    (kr : ∀ (v : Option Value) (h' : g_H), P'.2 (.inr v) h' → g_Go E X P h' (P'.1 && z) (cs + mc) (ss + ms) pn L (v.toList ++ rest)) (kt : ∀ (k : Nat) (h' : g_H), P'.2 (.inl k) h' → g_Th E X P h' (cs + mc) (ss + ms) pc L k) :
    g_Go E X P h z cs ss pc L (as.reverse ++ rest) := by
  subst hpn
  intro H locs ls hV hB hlc hL hz T hT X'
  have hcodeS : (g_cw M').before X.args X.s = true := hX.w hcw
  have hst0 : (Cond.static M'.y).before X.args X.s = true := hX.w hstat
  obtain ⟨mk, hnamed⟩ : ∃ mk, X.s.methodNamed? M'.y = some mk := by
    obtain ⟨y, cc, nl, rt, tb⟩ := M'
    cases tb with
    | nil => exact Cond.code_named (show (Cond.code y cc nl rt).before X.args X.s = true from hcodeS)
    | cons q r =>
      obtain ⟨m', meth, c, h0, -⟩ := Cond.codeWith_spec (show (Cond.codeWith y cc nl rt (q :: r)).before X.args X.s = true from hcodeS)
      exact ⟨m', h0⟩
  obtain ⟨methM, cM, hmethM, -, -, -, -, -, -, hsigM⟩ := g_cw_spec hnamed hcodeS
  have hstatic : methM.isStatic = true := Cond.static_spec hnamed hmethM hst0
  obtain ⟨kP, hkP, -⟩ := className_of_methodNamed hnamed
  have hinitP : kP.init = .initialized := Cond.initialized_spec (findClass_of_methodNamed hnamed) hkP (hX.w hini (A := X.args))
  obtain ⟨vm₁, X₁, hstep₁⟩ := X'.invokestatic hX.exec hX.own (hX.w hlink) hnamed hmethM hstatic hkP hinitP (g_np_hy hnp) (g := F0 X.m pc ls (as.reverse ++ rest)) rfl (argsL := as) (rest := rest) (g_np_len hnp _ hsigM) rfl (by rw [hX.code]; exact hdg)
  have hT1 : (T.setVm vm₁).heap = H := hT
  exact g_after (P' := P') (as := as) (mc := mc) (ms := ms) hX (U := T.setVm vm₁) rfl kr kt hlc hL (by rw [hT1]; exact hz) hmc hstep₁
    (g_enter hct X₁ hfr hlo hc hs (hX.K.warm X₁.warmed) hcw hini (by rw [hT1]; exact hV) (by rw [hT1]; exact hB) (g := F0 X.m pc ls rest) rfl hL.1 (by rw [hX.code]; exact hdg) (g_room hW) (X₁.named hnamed))
theorem g_callV (hX : g_ok E X M) {b ci N : Nat} {C : String} {T0 : u_T} {fs : List Value} (hct : g_Ct X.l M' fr lo mc ms (.ref b :: as) E h P') (hdg : decode M.cc pc = .ok (.invokevirtual index, 3)) (hb : h b = some (.inr (ci, fs))) (hcl : g_cl[ci]? = some (C, T0, N)) (hlink : Cond.methodLink M.y.cls index M'.y ∈ g_wl) (hinst : Cond.instanceMethod M'.y ∈ g_wl) (hsel : Cond.selects C M'.y M'.y ∈ g_wl) (hini : Cond.initialized M'.y.cls ∈ g_wl) (hcw : g_cw M' ∈ g_wl) (hnp : g_np M'.y as.length = true)
    (hfr : fr + 1 ≤ X.R.frames) {wt : Nat} (hlo : wt + (M'.nl + 11) + lo ≤ X.R.locals) (hc : cs + mc ≤ X.R.cells) (hs : ss + ms ≤ X.R.slots) (hW : (rest.map fun v => v.category).sum ≤ wt) (hmc : P'.1 = true → mc = 0 ∧ ms = 0) (pn : Nat) (hpn : pc + 3 = pn)
    (kr : ∀ (v : Option Value) (h' : g_H), P'.2 (.inr v) h' → g_Go E X P h' (P'.1 && z) (cs + mc) (ss + ms) pn L (v.toList ++ rest)) (kt : ∀ (k : Nat) (h' : g_H), P'.2 (.inl k) h' → g_Th E X P h' (cs + mc) (ss + ms) pc L k) :
    g_Go E X P h z cs ss pc L (as.reverse ++ .ref b :: rest) := by
  subst hpn
  intro H locs ls hV hB hlc hL hz T hT X'
  obtain ⟨cellB, hcell, hobj, hcls⟩ := g_recv hX.K.1 hV hcl hb
  obtain ⟨mk, methM, hnamed, hmethM, hstM, habM⟩ := Cond.instanceMethod_spec (hX.w hinst (A := X.args))
  obtain ⟨methM', cM, hmethM', -, -, -, -, -, -, hsigM⟩ := g_cw_spec hnamed (hX.w hcw (A := X.args))
  cases hmethM.symm.trans hmethM'
  obtain ⟨c2, r2, m2, q1, q2, q3, q4, kP, hkP, hkPi⟩ := Cond.selects_spec (hX.w hsel (A := X.args))
  cases hcls.symm.trans q1
  cases (State.methodFound?_of_named hnamed (g_np_hy hnp)).symm.trans q2
  cases hnamed.symm.trans q3
  have hselP : selectMethod X.e.platform X.s.vm cellB.cls mk = .method mk := by rw [Launch.admits_selectMethod X'.admits]; exact q4
  obtain ⟨vm₁, X₁, hstep₁⟩ := X'.invokevirtual hX.exec hX.own (hX.w hlink) hnamed hmethM hstM hkP hkPi (g_np_hy hnp) (a := b) (cell := cellB) (by rw [hT]; exact hcell)
    (fun z q => by rw [q] at hobj; cases hobj) hselP hmethM habM hkP hkPi (g := F0 X.m pc ls (as.reverse ++ .ref b :: rest)) rfl (argsL := as) (rest := rest) (g_np_len hnp _ hsigM) rfl (by rw [hX.code]; exact hdg)
  have hT1 : (T.setVm vm₁).heap = H := hT
  exact g_after (P' := P') (as := .ref b :: as) (mc := mc) (ms := ms) hX (U := T.setVm vm₁) rfl kr kt hlc hL (by rw [hT1]; exact hz) hmc hstep₁
    (g_enter hct X₁ hfr hlo hc hs (hX.K.warm X₁.warmed) hcw hini (by rw [hT1]; exact hV) (by rw [hT1]; exact hB) (g := F0 X.m pc ls rest) rfl hL.1 (by rw [hX.code]; exact hdg) (g_room hW) (X₁.named hnamed))
theorem g_callI (hX : g_ok E X M) {b : Nat} (htb : M'.tb = []) (hrn : M'.ret = none) (hy1 : M'.y.name = "<init>") (hct : g_Ct X.l M' fr lo mc ms (.ref b :: as) E h P') (hdg : decode M.cc pc = .ok (.invokespecial index, 3)) (hlink : Cond.methodLink M.y.cls index M'.y ∈ g_wl) (hinst : Cond.instanceMethod M'.y ∈ g_wl) (hini : Cond.initialized M'.y.cls ∈ g_wl) (hcw : g_cw M' ∈ g_wl) (hnp : g_np M'.y as.length = true)
    (hfr : fr + 1 ≤ X.R.frames) {wt : Nat} (hlo : wt + (M'.nl + 11) + lo ≤ X.R.locals) (hc : cs + mc ≤ X.R.cells) (hs : ss + ms ≤ X.R.slots) (hW : (rest.map fun v => v.category).sum ≤ wt) (hmc : P'.1 = true → mc = 0 ∧ ms = 0) (pn : Nat) (hpn : pc + 3 = pn)
    (kr : ∀ (v : Option Value) (h' : g_H), P'.2 (.inr v) h' → g_Go E X P h' (P'.1 && z) (cs + mc) (ss + ms) pn L (v.toList ++ rest)) (kt : ∀ (k : Nat) (h' : g_H), P'.2 (.inl k) h' → g_Th E X P h' (cs + mc) (ss + ms) pc L k) :
    g_Go E X P h z cs ss pc L (as.reverse ++ .ref b :: rest) := by
  subst hpn
  intro H locs ls hV hB hlc hL hz T hT X'
  have hpl : X.e.platform.magicAccessors = ({} : Platform).magicAccessors := by rw [X'.admits.platform]
  have hcode : (Cond.code M'.y M'.cc M'.nl none).before X.args X.s = true := by
    have h1 := hX.w hcw (A := X.args)
    obtain ⟨y, cc, nl, rt, tb⟩ := M'
    cases htb
    cases hrn
    exact h1
  obtain ⟨mk, methM, cM, kP, vm₁, hnamed, hmethM, hcodeM, -, hlocalsM, -, hkP, -, hW₁, hstep₁⟩ := Steps.initColdArgs (e := X.e) X'.here hX.exec X'.warmed hpl hX.own hy1 (g_np_hy hnp) (hX.w hlink (A := X.args)) (hX.w hinst (A := X.args)) hcode (f := F0 X.m pc ls (as.reverse ++ .ref b :: rest)) rfl (fun sig hsig => g_np_len hnp sig hsig) rfl (by rw [hX.code]; exact hdg)
  have X₁ := X'.noted hW₁
  have hT1 : (T.setVm vm₁).heap = H := hT
  exact g_after (P' := P') (as := .ref b :: as) (mc := mc) (ms := ms) hX (U := T.setVm vm₁) rfl kr kt hlc hL (by rw [hT1]; exact hz) hmc hstep₁
    (g_enter hct X₁ hfr hlo hc hs (hX.K.warm X₁.warmed) hcw hini (by rw [hT1]; exact hV) (by rw [hT1]; exact hB) (g := F0 X.m pc ls rest) rfl hL.1 (by rw [hX.code]; exact hdg) (g_room hW) (X₁.named hnamed))
/-- what an interface's call asks of the words -/
def g_fw (C : String) (x y : MethodName) : Prop := Cond.declares x ∈ g_wl ∧ Cond.and (.declares x) (.interfaceMethod x.cls x.cls x.name x.desc) ∈ g_wl ∧ Cond.publicMethod y ∈ g_wl ∧ Cond.unhidden C x.name x.desc ∈ g_wl ∧ Cond.castable C x.cls ∈ g_wl ∧ Cond.selects C x y ∈ g_wl ∧ Cond.instanceMethod y ∈ g_wl
theorem g_callF (hX : g_ok E X M) {x : MethodName} {b ci N count : Nat} {C : String} {T0 : u_T} {fs : List Value} (hct : g_Ct X.l M' fr lo mc ms (.ref b :: as) E h P') (hdg : decode M.cc pc = .ok (.invokeinterface index count, 5)) (hb : h b = some (.inr (ci, fs))) (hcl : g_cl[ci]? = some (C, T0, N)) (hlink : Cond.methodLink M.y.cls index x ∈ g_wl) (hfw : g_fw C x M'.y) (hini : Cond.initialized M'.y.cls ∈ g_wl) (hcw : g_cw M' ∈ g_wl) (hnp : g_np x as.length = true)
    (hfr : fr + 1 ≤ X.R.frames) {wt : Nat} (hlo : wt + (M'.nl + 11) + lo ≤ X.R.locals) (hc : cs + mc ≤ X.R.cells) (hs : ss + ms ≤ X.R.slots) (hW : (rest.map fun v => v.category).sum ≤ wt) (hmc : P'.1 = true → mc = 0 ∧ ms = 0) (pn : Nat) (hpn : pc + 5 = pn)
    (kr : ∀ (v : Option Value) (h' : g_H), P'.2 (.inr v) h' → g_Go E X P h' (P'.1 && z) (cs + mc) (ss + ms) pn L (v.toList ++ rest)) (kt : ∀ (k : Nat) (h' : g_H), P'.2 (.inl k) h' → g_Th E X P h' (cs + mc) (ss + ms) pc L k) :
    g_Go E X P h z cs ss pc L (as.reverse ++ .ref b :: rest) := by
  subst hpn
  intro H locs ls hV hB hlc hL hz T hT X'
  obtain ⟨w1, w2, w3, w4, w5, w6, w7⟩ := hfw
  obtain ⟨cellB, hcell, hobj, hcls⟩ := g_recv hX.K.1 hV hcl hb
  obtain ⟨-, -, kB, hkB, -⟩ := hX.K.1.1 ci _ hcl
  have hkB' : X.s.vm.classes[cellB.cls]? = some kB := by
    obtain ⟨-, hfc, -⟩ := hX.K.1.1 ci _ hcl
    have h9 : E.D.1 ci = cellB.cls := Option.some.inj (hfc.symm.trans hcls)
    rw [← h9]
    exact hkB
  obtain ⟨r0, r, hn, hrm, hstR, hsigR⟩ := Cond.declares_spec (hX.w w1 (A := X.args))
  have hface : (Cond.interfaceMethod x.cls x.cls x.name x.desc).before X.args X.s = true := by
    have h1 := hX.w w2 (A := X.args)
    rw [Cond.before_and, Bool.and_eq_true] at h1
    exact h1.2
  obtain ⟨cL, kL, r1, hcL, hkL, hiL, hfoundL, hn1⟩ := Cond.interfaceMethod_spec hface
  cases hn.symm.trans hn1
  have hr0cls : r0.cls = cL := Option.some.inj ((findClass_of_methodNamed hn).symm.trans hcL)
  obtain ⟨hnameR, hdescR⟩ := name_of_methodNamed hn hrm
  obtain ⟨mk, methM, hnamed, hmethM, -, habM⟩ := Cond.instanceMethod_spec (hX.w w7 (A := X.args))
  obtain ⟨c2, r2, m2, q1, q2, q3, q4, -⟩ := Cond.selects_spec (hX.w w6 (A := X.args))
  cases hcls.symm.trans q1
  cases hfoundL.symm.trans q2
  cases hnamed.symm.trans q3
  have hselP : selectMethod X.e.platform X.s.vm cellB.cls r0 = .method mk := by rw [Launch.admits_selectMethod X'.admits]; exact q4
  have hpubM : hasFlag methM.accessFlags Acc.public_ = true := Cond.publicMethod_spec hnamed hmethM (hX.w w3 (A := X.args))
  have hway : ((cellB.cls :: X.s.vm.superclasses cellB.cls).any fun k => (declaredIn X.s.vm r.name r.desc k).any fun (_, z) => z.isPrivate || z.isStatic) = false := by
    rw [hnameR, hdescR]; exact Cond.unhidden_spec hcls (hX.w w4 (A := X.args))
  obtain ⟨c3, t3, u1, u2, u3⟩ := Cond.castable_spec (hX.w w5 (A := X.args))
  cases hcls.symm.trans u1
  cases hcL.symm.trans u2
  obtain ⟨vm₁, X₁, hstep₁⟩ := X'.invokeinterface hX.exec hX.own (hX.w hlink) hn hrm hstR (by rw [hr0cls]; exact hkL) hiL (g_np_hy hnp) (a := b) (cell := cellB) (kcell := kB) (by rw [hT]; exact hcell)
    (fun z q => by rw [q] at hobj; cases hobj) hkB' (by rw [hr0cls]; exact u3) hselP hmethM hway hpubM habM (g := F0 X.m pc ls (as.reverse ++ .ref b :: rest)) rfl (argsL := as) (rest := rest) (g_np_len hnp _ hsigR) rfl (by rw [hX.code]; exact hdg)
  have hT1 : (T.setVm vm₁).heap = H := hT
  exact g_after (P' := P') (as := .ref b :: as) (mc := mc) (ms := ms) hX (U := T.setVm vm₁) rfl kr kt hlc hL (by rw [hT1]; exact hz) hmc hstep₁
    (g_enter hct X₁ hfr hlo hc hs (hX.K.warm X₁.warmed) hcw hini (by rw [hT1]; exact hV) (by rw [hT1]; exact hB) (g := F0 X.m pc ls rest) rfl hL.1 (by rw [hX.code]; exact hdg) (g_room hW) (X₁.named hnamed))
end GCALL
end
section
/-! a catch type that isn't resolved yet: the search resolves it, and goes on -/
def g_Sr (e : Env) (f : JFrame) (a : Addr) (tb : List ExceptionTableEntry) (r : Handler) (u u' : State) : Prop :=
  ∀ (Q : Handler → Pre) (Z : CtlPost) (d : Bool) (acts : List Action), wp (findHandler.go f a tb) Q Z e d acts u ↔ Q r d acts u'
theorem g_go_cold {e : Env} {s : State} {f : JFrame} {a : Addr} {Q : Handler → Pre} {Z : CtlPost} {d : Bool} {acts : List Action} {x : ExceptionTableEntry} {t : List ExceptionTableEntry} {c : ClassId} {cell : Cell} {vm' : Vm}
    (hx : covers x f.pc = true) (h0 : x.catchType ≠ 0) (hg : (Jvm.resolveClass f.method.cls x.catchType).Gives e.toSetting s.vm (.ok c) vm') (hcell : s.heap[a]? = some cell) (hobj : ∀ k, cell.vm ≠ .statics k)
    (hk : ∃ k, vm'.classes[cell.cls]? = some k) (hc : ∃ k, vm'.classes[c]? = some k) (hsz : vm'.classes.size ≤ s.vm.classes.size) :
    wp (findHandler.go f a (x :: t)) Q Z e d acts s ↔ if vm'.assignable cell.cls c = true then Q (.found x.handlerPc) d acts (s.setVm vm') else wp (findHandler.go f a t) Q Z e d acts (s.setVm vm') := by
  simp only [covers] at hx
  have hop : (VmOp.resolveClass f.method.cls x.catchType).answer e s.vm = .ok c ∧ (VmOp.resolveClass f.method.cls x.catchType).tables e s.vm = vm' := hg.op rfl
  have hla : (VmOp.resolveClass f.method.cls x.catchType).lands e s = .done (s.setVm vm') := VmOp.lands_eq hop.2 hsz
  cases hfit : vm'.assignable cell.cls c <;>
    simp [findHandler.go, hx, h0, hop, hla, hcell, hobj, hk, hc, hfit, VmOp.dirties, VmOp.acts]
theorem g_stepCatch {e : Env} {s : State} {a : Addr} {f : JFrame} {r : List Frame} {pc : Nat} {vm' : Vm} (hfind : ∀ (Q : Handler → Pre) (Z : CtlPost) (d : Bool) (acts : List Action), wp (findHandler f a) Q Z e d acts s ↔ Q (.found pc) d acts (s.setVm vm')) :
    (stepThrowing e s a (.java f :: r)).Is ((s.setVm vm').setFrames (.java { f with pc := pc, stack := [.ref a] } :: r)) [] := by
  simp only [stepThrowing, searchFrame, vmDo]
  generalize hr : Sem.go _ e false [] s = res
  obtain ⟨as, rfl, ha⟩ := Sem.eq_ok_of hr (a := Handler.found pc) (s' := s.setVm vm') (acts' := []) (by simp [hfind _ _ _ _])
  exact ⟨rfl, ha⟩
theorem g_caught {tb : Tables} {e : Env} {s target : State} {g : JFrame} {c : Code} {below : List Frame} {a : Addr} (h : At s g.method c below) {pc : Nat} {vm' : Vm}
    (hfind : ∀ (Q : Handler → Pre) (Z : CtlPost) (d : Bool) (acts : List Action), wp (findHandler g a) Q Z e d acts ((s.setTop g).pushFrame (.throwing a)) ↔ Q (.found pc) d acts (((s.setTop g).pushFrame (.throwing a)).setVm vm'))
    (hrest : Steps tb e below ((s.setVm vm').setTop { g with pc := pc, stack := [.ref a] }) target) :
    Steps tb e below ((s.setTop g).pushFrame (.throwing a)) target := by
  obtain ⟨hgo, hw⟩ := h.throwing a
  refine Steps.head hgo hw ?_
  rw [stepThread_throwing (frames_entered h.top _), (g_stepCatch (s := (s.setTop g).pushFrame (.throwing a)) hfind).1]
  obtain ⟨g₀, hg⟩ := Option.isSome_iff_exists.mp h.top
  obtain ⟨r, hr⟩ := State.topJava?_eq_some.mp hg
  have hr' : (s.setVm vm').frames = .java g₀ :: r := hr
  rw [State.setTop_of_frames _ hr'] at hrest
  rw [State.pushFrame, State.setTop_of_frames _ hr, State.setFrames_setFrames, hr]
  have he : ∀ fs fs' : List Frame, ((s.setFrames fs).setVm vm').setFrames fs' = (s.setVm vm').setFrames fs' := fun fs fs' => by
    show ((s.setVm vm').setFrames fs).setFrames fs' = _
    rw [State.setFrames_setFrames]
  rw [he]
  exact hrest
/-- how the search goes through a method's own table: the entries' names, and whether each takes the exception of number k -/
def g_hit (own : String) (k : Nat) (x : ExceptionTableEntry) (nm : String) (b : Bool) : Prop :=
  x.catchType ≠ 0 ∧ Cond.classLink own x.catchType nm ∈ g_wl ∧ ((b = true ∧ nm = g_xn k) ∨ (b = false ∧ Cond.not (.castable (g_xn k) nm) ∈ g_wl))
theorem g_Sr.step {E : g_E} {X : g_X} {M : g_M} (hX : g_ok E X M) {u : State} {g : JFrame} {a : Addr} {cell : Cell} {k : Nat} {x : ExceptionTableEntry} {t : List ExceptionTableEntry} {nm : String} {b : Bool} (hg : g.method = X.m) (hpl : X.e.platform.magicAccessors = ({} : Platform).magicAccessors) (hW : X.s.WarmedH u.vm)
    (hx : covers x g.pc = true) (hh : g_hit M.y.cls k x nm b) (hcell : u.heap[a]? = some cell) (hcv : cell.vm = .none) (hfc : u.vm.findClass (g_xn k) = some cell.cls) :
    ∃ vm' : Vm, X.s.WarmedH vm' ∧ ∀ (Q : Handler → Pre) (Z : CtlPost) (d : Bool) (acts : List Action), wp (findHandler.go g a (x :: t)) Q Z X.e d acts u ↔ if b = true then Q (.found x.handlerPc) d acts (u.setVm vm') else wp (findHandler.go g a t) Q Z X.e d acts (u.setVm vm') := by
  obtain ⟨h0, hlink, hb⟩ := hh
  obtain ⟨cC, hfcC, hcl⟩ := Cond.classLink_spec hX.own (hX.w hlink (A := X.args)) X.e.platform hpl
  obtain ⟨hg₁, hwarm₁, hready₁⟩ := State.classEntry (e := X.e) hW hcl
  have hal : u.vm.Alike (u.vm.noted X.m.cls x.catchType (.cls cC)) := hW.alike.symm.trans hwarm₁.alike
  have hfcC' : (u.vm.noted X.m.cls x.catchType (.cls cC)).findClass nm = some cC := by rw [hwarm₁.alike.findClass]; exact hfcC
  have hfc' : (u.vm.noted X.m.cls x.catchType (.cls cC)).findClass (g_xn k) = some cell.cls := by rw [hal.findClass]; exact hfc
  refine ⟨_, hwarm₁, fun Q Z d acts => ?_⟩
  rw [g_go_cold (vm' := u.vm.noted X.m.cls x.catchType (.cls cC)) hx h0 (by rw [hg]; exact hg₁) hcell (fun k q => by rw [hcv] at q; cases q) (Vm.classAt_of_findClass hfc') (Vm.classAt_of_findClass hfcC') (by no_record)]
  rcases hb with ⟨rfl, rfl⟩ | ⟨rfl, hno⟩
  · have : cell.cls = cC := Option.some.inj (hfc'.symm.trans hfcC')
    subst this
    rw [va_asg]
  · obtain ⟨c1, t1, e1, e2, e3⟩ := va_Nc.of (hX.w hno (A := X.args))
    have hfcs : X.s.vm.findClass (g_xn k) = some cell.cls := by rw [← hW.alike.findClass]; exact hfc
    cases hfcs.symm.trans e1
    cases hfcC.symm.trans e2
    have hno' : (u.vm.noted X.m.cls x.catchType (.cls cC)).assignable cell.cls cC = false := by rw [hwarm₁.alike.assignable]; exact e3
    rw [hno']
end
section
/-! packaged words of a call site; rows by the number of arguments -/
def g_kS (own : String) (idx : Nat) (M' : g_M) (n : Nat) : Prop := Cond.methodLink own idx M'.y ∈ g_wl ∧ Cond.static M'.y ∈ g_wl ∧ Cond.initialized M'.y.cls ∈ g_wl ∧ g_cw M' ∈ g_wl ∧ g_np M'.y n = true
def g_kV (own : String) (idx : Nat) (M' : g_M) (n ci : Nat) : Prop := ∃ (C : String) (T0 : u_T) (N : Nat), g_cl[ci]? = some (C, T0, N) ∧ Cond.methodLink own idx M'.y ∈ g_wl ∧ Cond.instanceMethod M'.y ∈ g_wl ∧ Cond.selects C M'.y M'.y ∈ g_wl ∧ Cond.initialized M'.y.cls ∈ g_wl ∧ g_cw M' ∈ g_wl ∧ g_np M'.y n = true
def g_kI (own : String) (idx : Nat) (M' : g_M) (n : Nat) : Prop := (M'.tb = [] ∧ M'.ret = none ∧ M'.y.name = "<init>") ∧ Cond.methodLink own idx M'.y ∈ g_wl ∧ Cond.instanceMethod M'.y ∈ g_wl ∧ Cond.initialized M'.y.cls ∈ g_wl ∧ g_cw M' ∈ g_wl ∧ g_np M'.y n = true
def g_kF (own : String) (idx : Nat) (x : MethodName) (M' : g_M) (n ci : Nat) : Prop := ∃ (C : String) (T0 : u_T) (N : Nat), g_cl[ci]? = some (C, T0, N) ∧ Cond.methodLink own idx x ∈ g_wl ∧ g_fw C x M'.y ∧ Cond.initialized M'.y.cls ∈ g_wl ∧ g_cw M' ∈ g_wl ∧ g_np x n = true
def g_rm (X : g_X) (fr lo nl wt : Nat) : Prop := fr + 1 ≤ X.R.frames ∧ wt + (nl + 11) + lo ≤ X.R.locals
theorem g_rm.of {X : g_X} {F G mc ms fr lo nl wt : Nat} (hR : X.R = { frames := F, cells := mc, slots := ms, locals := G }) (hd : fr + 1 ≤ F) (hn : wt + (nl + 11) + lo ≤ G) : g_rm X fr lo nl wt := by
  unfold g_rm
  rw [hR]
  exact ⟨hd, hn⟩
/-- it answers v, and changes and makes nothing -/
def g_Rd (l : Launch) (M : g_M) (fr lo : Nat) (as : List Value) (E : g_E) (h : g_H) (v : Option Value) : Prop := g_Ct l M fr lo 0 0 as E h (true, fun r h' => r = .inr v ∧ h' = h)
theorem g_Rd.of {l : Launch} {M : g_M} {fr lo : Nat} {as : List Value} {E : g_E} {h : g_H} {v : Option Value} (hl : l.stackTraces = false) (hy : plainName M.y.cls = true) (hv : ∀ v ∈ as, v.category = 1) (hn : as.length ≤ M.nl)
    (body : ∀ X : g_X, g_ok E X M → X.l = l → X.R = { frames := fr, cells := 0, slots := 0, locals := lo } → g_Go E X (true, fun r h' => r = .inr v ∧ h' = h) h true 0 0 0 (as.map some ++ List.replicate (M.nl - as.length) none) []) : g_Rd l M fr lo as E h v := g_Ct.of hl hy hv hn body
section GCALLR
variable {E : g_E} {X : g_X} {M M' : g_M} {P P' : g_P} {h : g_H} {z : Bool} {cs ss pc : Nat} {L : List (Option Value)} {rest : List Value} {fr lo mc ms index wt : Nat}
theorem g_cS0 (hX : g_ok E X M) (hct : g_Ct X.l M' fr lo mc ms [] E h P') (hdg : decode M.cc pc = .ok (.invokestatic index, 3)) (hk : g_kS M.y.cls index M' 0) (hrm : g_rm X fr lo M'.nl wt) (hc : cs + mc ≤ X.R.cells) (hs : ss + ms ≤ X.R.slots) (hW : (rest.map fun v => v.category).sum ≤ wt) (hmc : P'.1 = true → mc = 0 ∧ ms = 0) (pn : Nat) (hpn : pc + 3 = pn)
    (kr : ∀ (v : Option Value) (h' : g_H), P'.2 (.inr v) h' → g_Go E X P h' (P'.1 && z) (cs + mc) (ss + ms) pn L (v.toList ++ rest)) (kt : ∀ (k : Nat) (h' : g_H), P'.2 (.inl k) h' → g_Th E X P h' (cs + mc) (ss + ms) pc L k) : g_Go E X P h z cs ss pc L (rest) :=
  g_callS (as := []) hX hct hdg hk.1 hk.2.1 hk.2.2.1 hk.2.2.2.1 hk.2.2.2.2 hrm.1 hrm.2 hc hs hW hmc pn hpn kr kt
theorem g_cS0r (hX : g_ok E X M) {v : Value} (hct : g_Rd X.l M' fr lo [] E h (some v)) (hdg : decode M.cc pc = .ok (.invokestatic index, 3)) (hk : g_kS M.y.cls index M' 0) (hrm : g_rm X fr lo M'.nl wt) (hc : cs ≤ X.R.cells) (hs : ss ≤ X.R.slots) (hW : (rest.map fun v => v.category).sum ≤ wt) (pn : Nat) (hpn : pc + 3 = pn)
    (kr : g_Go E X P h z cs ss pn L (v :: rest)) : g_Go E X P h z cs ss pc L (rest) :=
  g_cS0 (mc := 0) (ms := 0) hX hct hdg hk hrm hc hs hW (fun _ => ⟨rfl, rfl⟩) pn hpn (fun v' h' q => by
    obtain ⟨q1, q2⟩ := q
    cases q1
    subst q2
    exact kr) (fun k h' q => by cases q.1)
theorem g_cS0v (hX : g_ok E X M) (hct : g_Rd X.l M' fr lo [] E h none) (hdg : decode M.cc pc = .ok (.invokestatic index, 3)) (hk : g_kS M.y.cls index M' 0) (hrm : g_rm X fr lo M'.nl wt) (hc : cs ≤ X.R.cells) (hs : ss ≤ X.R.slots) (hW : (rest.map fun v => v.category).sum ≤ wt) (pn : Nat) (hpn : pc + 3 = pn)
    (kr : g_Go E X P h z cs ss pn L (rest)) : g_Go E X P h z cs ss pc L (rest) :=
  g_cS0 (mc := 0) (ms := 0) hX hct hdg hk hrm hc hs hW (fun _ => ⟨rfl, rfl⟩) pn hpn (fun v' h' q => by
    obtain ⟨q1, q2⟩ := q
    cases q1
    subst q2
    exact kr) (fun k h' q => by cases q.1)
theorem g_cV0 (hX : g_ok E X M) {b ci : Nat} {fs : List Value} (hct : g_Ct X.l M' fr lo mc ms (.ref b :: []) E h P') (hdg : decode M.cc pc = .ok (.invokevirtual index, 3)) (hb : h b = some (.inr (ci, fs))) (hk : g_kV M.y.cls index M' 0 ci) (hrm : g_rm X fr lo M'.nl wt) (hc : cs + mc ≤ X.R.cells) (hs : ss + ms ≤ X.R.slots) (hW : (rest.map fun v => v.category).sum ≤ wt) (hmc : P'.1 = true → mc = 0 ∧ ms = 0) (pn : Nat) (hpn : pc + 3 = pn)
    (kr : ∀ (v : Option Value) (h' : g_H), P'.2 (.inr v) h' → g_Go E X P h' (P'.1 && z) (cs + mc) (ss + ms) pn L (v.toList ++ rest)) (kt : ∀ (k : Nat) (h' : g_H), P'.2 (.inl k) h' → g_Th E X P h' (cs + mc) (ss + ms) pc L k) : g_Go E X P h z cs ss pc L (.ref b :: rest) :=
  by
  obtain ⟨C, T0, N, k1, k2, k3, k4, k5, k6, k7⟩ := hk
  exact g_callV (as := []) hX hct hdg hb k1 k2 k3 k4 k5 k6 k7 hrm.1 hrm.2 hc hs hW hmc pn hpn kr kt
theorem g_cV0r (hX : g_ok E X M) {b ci : Nat} {fs : List Value} {v : Value} (hct : g_Rd X.l M' fr lo (.ref b :: []) E h (some v)) (hdg : decode M.cc pc = .ok (.invokevirtual index, 3)) (hb : h b = some (.inr (ci, fs))) (hk : g_kV M.y.cls index M' 0 ci) (hrm : g_rm X fr lo M'.nl wt) (hc : cs ≤ X.R.cells) (hs : ss ≤ X.R.slots) (hW : (rest.map fun v => v.category).sum ≤ wt) (pn : Nat) (hpn : pc + 3 = pn)
    (kr : g_Go E X P h z cs ss pn L (v :: rest)) : g_Go E X P h z cs ss pc L (.ref b :: rest) :=
  g_cV0 (mc := 0) (ms := 0) hX hct hdg hb hk hrm hc hs hW (fun _ => ⟨rfl, rfl⟩) pn hpn (fun v' h' q => by
    obtain ⟨q1, q2⟩ := q
    cases q1
    subst q2
    exact kr) (fun k h' q => by cases q.1)
theorem g_cV0v (hX : g_ok E X M) {b ci : Nat} {fs : List Value} (hct : g_Rd X.l M' fr lo (.ref b :: []) E h none) (hdg : decode M.cc pc = .ok (.invokevirtual index, 3)) (hb : h b = some (.inr (ci, fs))) (hk : g_kV M.y.cls index M' 0 ci) (hrm : g_rm X fr lo M'.nl wt) (hc : cs ≤ X.R.cells) (hs : ss ≤ X.R.slots) (hW : (rest.map fun v => v.category).sum ≤ wt) (pn : Nat) (hpn : pc + 3 = pn)
    (kr : g_Go E X P h z cs ss pn L (rest)) : g_Go E X P h z cs ss pc L (.ref b :: rest) :=
  g_cV0 (mc := 0) (ms := 0) hX hct hdg hb hk hrm hc hs hW (fun _ => ⟨rfl, rfl⟩) pn hpn (fun v' h' q => by
    obtain ⟨q1, q2⟩ := q
    cases q1
    subst q2
    exact kr) (fun k h' q => by cases q.1)
theorem g_cI0 (hX : g_ok E X M) {b : Nat} (hct : g_Ct X.l M' fr lo mc ms (.ref b :: []) E h P') (hdg : decode M.cc pc = .ok (.invokespecial index, 3)) (hk : g_kI M.y.cls index M' 0) (hrm : g_rm X fr lo M'.nl wt) (hc : cs + mc ≤ X.R.cells) (hs : ss + ms ≤ X.R.slots) (hW : (rest.map fun v => v.category).sum ≤ wt) (hmc : P'.1 = true → mc = 0 ∧ ms = 0) (pn : Nat) (hpn : pc + 3 = pn)
    (kr : ∀ (v : Option Value) (h' : g_H), P'.2 (.inr v) h' → g_Go E X P h' (P'.1 && z) (cs + mc) (ss + ms) pn L (v.toList ++ rest)) (kt : ∀ (k : Nat) (h' : g_H), P'.2 (.inl k) h' → g_Th E X P h' (cs + mc) (ss + ms) pc L k) : g_Go E X P h z cs ss pc L (.ref b :: rest) :=
  g_callI (as := []) hX hk.1.1 hk.1.2.1 hk.1.2.2 hct hdg hk.2.1 hk.2.2.1 hk.2.2.2.1 hk.2.2.2.2.1 hk.2.2.2.2.2 hrm.1 hrm.2 hc hs hW hmc pn hpn kr kt
theorem g_cI0r (hX : g_ok E X M) {b : Nat} {v : Value} (hct : g_Rd X.l M' fr lo (.ref b :: []) E h (some v)) (hdg : decode M.cc pc = .ok (.invokespecial index, 3)) (hk : g_kI M.y.cls index M' 0) (hrm : g_rm X fr lo M'.nl wt) (hc : cs ≤ X.R.cells) (hs : ss ≤ X.R.slots) (hW : (rest.map fun v => v.category).sum ≤ wt) (pn : Nat) (hpn : pc + 3 = pn)
    (kr : g_Go E X P h z cs ss pn L (v :: rest)) : g_Go E X P h z cs ss pc L (.ref b :: rest) :=
  g_cI0 (mc := 0) (ms := 0) hX hct hdg hk hrm hc hs hW (fun _ => ⟨rfl, rfl⟩) pn hpn (fun v' h' q => by
    obtain ⟨q1, q2⟩ := q
    cases q1
    subst q2
    exact kr) (fun k h' q => by cases q.1)
theorem g_cI0v (hX : g_ok E X M) {b : Nat} (hct : g_Rd X.l M' fr lo (.ref b :: []) E h none) (hdg : decode M.cc pc = .ok (.invokespecial index, 3)) (hk : g_kI M.y.cls index M' 0) (hrm : g_rm X fr lo M'.nl wt) (hc : cs ≤ X.R.cells) (hs : ss ≤ X.R.slots) (hW : (rest.map fun v => v.category).sum ≤ wt) (pn : Nat) (hpn : pc + 3 = pn)
    (kr : g_Go E X P h z cs ss pn L (rest)) : g_Go E X P h z cs ss pc L (.ref b :: rest) :=
  g_cI0 (mc := 0) (ms := 0) hX hct hdg hk hrm hc hs hW (fun _ => ⟨rfl, rfl⟩) pn hpn (fun v' h' q => by
    obtain ⟨q1, q2⟩ := q
    cases q1
    subst q2
    exact kr) (fun k h' q => by cases q.1)
theorem g_cF0 (hX : g_ok E X M) {b ci count : Nat} {x : MethodName} {fs : List Value} (hct : g_Ct X.l M' fr lo mc ms (.ref b :: []) E h P') (hdg : decode M.cc pc = .ok (.invokeinterface index count, 5)) (hb : h b = some (.inr (ci, fs))) (hk : g_kF M.y.cls index x M' 0 ci) (hrm : g_rm X fr lo M'.nl wt) (hc : cs + mc ≤ X.R.cells) (hs : ss + ms ≤ X.R.slots) (hW : (rest.map fun v => v.category).sum ≤ wt) (hmc : P'.1 = true → mc = 0 ∧ ms = 0) (pn : Nat) (hpn : pc + 5 = pn)
    (kr : ∀ (v : Option Value) (h' : g_H), P'.2 (.inr v) h' → g_Go E X P h' (P'.1 && z) (cs + mc) (ss + ms) pn L (v.toList ++ rest)) (kt : ∀ (k : Nat) (h' : g_H), P'.2 (.inl k) h' → g_Th E X P h' (cs + mc) (ss + ms) pc L k) : g_Go E X P h z cs ss pc L (.ref b :: rest) :=
  by
  obtain ⟨C, T0, N, k1, k2, k3, k4, k5, k6⟩ := hk
  exact g_callF (as := []) hX hct hdg hb k1 k2 k3 k4 k5 k6 hrm.1 hrm.2 hc hs hW hmc pn hpn kr kt
theorem g_cF0r (hX : g_ok E X M) {b ci count : Nat} {x : MethodName} {fs : List Value} {v : Value} (hct : g_Rd X.l M' fr lo (.ref b :: []) E h (some v)) (hdg : decode M.cc pc = .ok (.invokeinterface index count, 5)) (hb : h b = some (.inr (ci, fs))) (hk : g_kF M.y.cls index x M' 0 ci) (hrm : g_rm X fr lo M'.nl wt) (hc : cs ≤ X.R.cells) (hs : ss ≤ X.R.slots) (hW : (rest.map fun v => v.category).sum ≤ wt) (pn : Nat) (hpn : pc + 5 = pn)
    (kr : g_Go E X P h z cs ss pn L (v :: rest)) : g_Go E X P h z cs ss pc L (.ref b :: rest) :=
  g_cF0 (mc := 0) (ms := 0) hX hct hdg hb hk hrm hc hs hW (fun _ => ⟨rfl, rfl⟩) pn hpn (fun v' h' q => by
    obtain ⟨q1, q2⟩ := q
    cases q1
    subst q2
    exact kr) (fun k h' q => by cases q.1)
theorem g_cF0v (hX : g_ok E X M) {b ci count : Nat} {x : MethodName} {fs : List Value} (hct : g_Rd X.l M' fr lo (.ref b :: []) E h none) (hdg : decode M.cc pc = .ok (.invokeinterface index count, 5)) (hb : h b = some (.inr (ci, fs))) (hk : g_kF M.y.cls index x M' 0 ci) (hrm : g_rm X fr lo M'.nl wt) (hc : cs ≤ X.R.cells) (hs : ss ≤ X.R.slots) (hW : (rest.map fun v => v.category).sum ≤ wt) (pn : Nat) (hpn : pc + 5 = pn)
    (kr : g_Go E X P h z cs ss pn L (rest)) : g_Go E X P h z cs ss pc L (.ref b :: rest) :=
  g_cF0 (mc := 0) (ms := 0) hX hct hdg hb hk hrm hc hs hW (fun _ => ⟨rfl, rfl⟩) pn hpn (fun v' h' q => by
    obtain ⟨q1, q2⟩ := q
    cases q1
    subst q2
    exact kr) (fun k h' q => by cases q.1)
theorem g_cS1 (hX : g_ok E X M) {a1 : Value} (hct : g_Ct X.l M' fr lo mc ms [a1] E h P') (hdg : decode M.cc pc = .ok (.invokestatic index, 3)) (hk : g_kS M.y.cls index M' 1) (hrm : g_rm X fr lo M'.nl wt) (hc : cs + mc ≤ X.R.cells) (hs : ss + ms ≤ X.R.slots) (hW : (rest.map fun v => v.category).sum ≤ wt) (hmc : P'.1 = true → mc = 0 ∧ ms = 0) (pn : Nat) (hpn : pc + 3 = pn)
    (kr : ∀ (v : Option Value) (h' : g_H), P'.2 (.inr v) h' → g_Go E X P h' (P'.1 && z) (cs + mc) (ss + ms) pn L (v.toList ++ rest)) (kt : ∀ (k : Nat) (h' : g_H), P'.2 (.inl k) h' → g_Th E X P h' (cs + mc) (ss + ms) pc L k) : g_Go E X P h z cs ss pc L (a1 :: rest) :=
  g_callS (as := [a1]) hX hct hdg hk.1 hk.2.1 hk.2.2.1 hk.2.2.2.1 hk.2.2.2.2 hrm.1 hrm.2 hc hs hW hmc pn hpn kr kt
theorem g_cS1r (hX : g_ok E X M) {a1 : Value} {v : Value} (hct : g_Rd X.l M' fr lo [a1] E h (some v)) (hdg : decode M.cc pc = .ok (.invokestatic index, 3)) (hk : g_kS M.y.cls index M' 1) (hrm : g_rm X fr lo M'.nl wt) (hc : cs ≤ X.R.cells) (hs : ss ≤ X.R.slots) (hW : (rest.map fun v => v.category).sum ≤ wt) (pn : Nat) (hpn : pc + 3 = pn)
    (kr : g_Go E X P h z cs ss pn L (v :: rest)) : g_Go E X P h z cs ss pc L (a1 :: rest) :=
  g_cS1 (mc := 0) (ms := 0) hX hct hdg hk hrm hc hs hW (fun _ => ⟨rfl, rfl⟩) pn hpn (fun v' h' q => by
    obtain ⟨q1, q2⟩ := q
    cases q1
    subst q2
    exact kr) (fun k h' q => by cases q.1)
theorem g_cS1v (hX : g_ok E X M) {a1 : Value} (hct : g_Rd X.l M' fr lo [a1] E h none) (hdg : decode M.cc pc = .ok (.invokestatic index, 3)) (hk : g_kS M.y.cls index M' 1) (hrm : g_rm X fr lo M'.nl wt) (hc : cs ≤ X.R.cells) (hs : ss ≤ X.R.slots) (hW : (rest.map fun v => v.category).sum ≤ wt) (pn : Nat) (hpn : pc + 3 = pn)
    (kr : g_Go E X P h z cs ss pn L (rest)) : g_Go E X P h z cs ss pc L (a1 :: rest) :=
  g_cS1 (mc := 0) (ms := 0) hX hct hdg hk hrm hc hs hW (fun _ => ⟨rfl, rfl⟩) pn hpn (fun v' h' q => by
    obtain ⟨q1, q2⟩ := q
    cases q1
    subst q2
    exact kr) (fun k h' q => by cases q.1)
theorem g_cV1 (hX : g_ok E X M) {a1 : Value} {b ci : Nat} {fs : List Value} (hct : g_Ct X.l M' fr lo mc ms (.ref b :: [a1]) E h P') (hdg : decode M.cc pc = .ok (.invokevirtual index, 3)) (hb : h b = some (.inr (ci, fs))) (hk : g_kV M.y.cls index M' 1 ci) (hrm : g_rm X fr lo M'.nl wt) (hc : cs + mc ≤ X.R.cells) (hs : ss + ms ≤ X.R.slots) (hW : (rest.map fun v => v.category).sum ≤ wt) (hmc : P'.1 = true → mc = 0 ∧ ms = 0) (pn : Nat) (hpn : pc + 3 = pn)
    (kr : ∀ (v : Option Value) (h' : g_H), P'.2 (.inr v) h' → g_Go E X P h' (P'.1 && z) (cs + mc) (ss + ms) pn L (v.toList ++ rest)) (kt : ∀ (k : Nat) (h' : g_H), P'.2 (.inl k) h' → g_Th E X P h' (cs + mc) (ss + ms) pc L k) : g_Go E X P h z cs ss pc L (a1 :: .ref b :: rest) :=
  by
  obtain ⟨C, T0, N, k1, k2, k3, k4, k5, k6, k7⟩ := hk
  exact g_callV (as := [a1]) hX hct hdg hb k1 k2 k3 k4 k5 k6 k7 hrm.1 hrm.2 hc hs hW hmc pn hpn kr kt
theorem g_cV1r (hX : g_ok E X M) {a1 : Value} {b ci : Nat} {fs : List Value} {v : Value} (hct : g_Rd X.l M' fr lo (.ref b :: [a1]) E h (some v)) (hdg : decode M.cc pc = .ok (.invokevirtual index, 3)) (hb : h b = some (.inr (ci, fs))) (hk : g_kV M.y.cls index M' 1 ci) (hrm : g_rm X fr lo M'.nl wt) (hc : cs ≤ X.R.cells) (hs : ss ≤ X.R.slots) (hW : (rest.map fun v => v.category).sum ≤ wt) (pn : Nat) (hpn : pc + 3 = pn)
    (kr : g_Go E X P h z cs ss pn L (v :: rest)) : g_Go E X P h z cs ss pc L (a1 :: .ref b :: rest) :=
  g_cV1 (mc := 0) (ms := 0) hX hct hdg hb hk hrm hc hs hW (fun _ => ⟨rfl, rfl⟩) pn hpn (fun v' h' q => by
    obtain ⟨q1, q2⟩ := q
    cases q1
    subst q2
    exact kr) (fun k h' q => by cases q.1)
theorem g_cV1v (hX : g_ok E X M) {a1 : Value} {b ci : Nat} {fs : List Value} (hct : g_Rd X.l M' fr lo (.ref b :: [a1]) E h none) (hdg : decode M.cc pc = .ok (.invokevirtual index, 3)) (hb : h b = some (.inr (ci, fs))) (hk : g_kV M.y.cls index M' 1 ci) (hrm : g_rm X fr lo M'.nl wt) (hc : cs ≤ X.R.cells) (hs : ss ≤ X.R.slots) (hW : (rest.map fun v => v.category).sum ≤ wt) (pn : Nat) (hpn : pc + 3 = pn)
    (kr : g_Go E X P h z cs ss pn L (rest)) : g_Go E X P h z cs ss pc L (a1 :: .ref b :: rest) :=
  g_cV1 (mc := 0) (ms := 0) hX hct hdg hb hk hrm hc hs hW (fun _ => ⟨rfl, rfl⟩) pn hpn (fun v' h' q => by
    obtain ⟨q1, q2⟩ := q
    cases q1
    subst q2
    exact kr) (fun k h' q => by cases q.1)
theorem g_cI1 (hX : g_ok E X M) {a1 : Value} {b : Nat} (hct : g_Ct X.l M' fr lo mc ms (.ref b :: [a1]) E h P') (hdg : decode M.cc pc = .ok (.invokespecial index, 3)) (hk : g_kI M.y.cls index M' 1) (hrm : g_rm X fr lo M'.nl wt) (hc : cs + mc ≤ X.R.cells) (hs : ss + ms ≤ X.R.slots) (hW : (rest.map fun v => v.category).sum ≤ wt) (hmc : P'.1 = true → mc = 0 ∧ ms = 0) (pn : Nat) (hpn : pc + 3 = pn)
    (kr : ∀ (v : Option Value) (h' : g_H), P'.2 (.inr v) h' → g_Go E X P h' (P'.1 && z) (cs + mc) (ss + ms) pn L (v.toList ++ rest)) (kt : ∀ (k : Nat) (h' : g_H), P'.2 (.inl k) h' → g_Th E X P h' (cs + mc) (ss + ms) pc L k) : g_Go E X P h z cs ss pc L (a1 :: .ref b :: rest) :=
  g_callI (as := [a1]) hX hk.1.1 hk.1.2.1 hk.1.2.2 hct hdg hk.2.1 hk.2.2.1 hk.2.2.2.1 hk.2.2.2.2.1 hk.2.2.2.2.2 hrm.1 hrm.2 hc hs hW hmc pn hpn kr kt
theorem g_cI1r (hX : g_ok E X M) {a1 : Value} {b : Nat} {v : Value} (hct : g_Rd X.l M' fr lo (.ref b :: [a1]) E h (some v)) (hdg : decode M.cc pc = .ok (.invokespecial index, 3)) (hk : g_kI M.y.cls index M' 1) (hrm : g_rm X fr lo M'.nl wt) (hc : cs ≤ X.R.cells) (hs : ss ≤ X.R.slots) (hW : (rest.map fun v => v.category).sum ≤ wt) (pn : Nat) (hpn : pc + 3 = pn)
    (kr : g_Go E X P h z cs ss pn L (v :: rest)) : g_Go E X P h z cs ss pc L (a1 :: .ref b :: rest) :=
  g_cI1 (mc := 0) (ms := 0) hX hct hdg hk hrm hc hs hW (fun _ => ⟨rfl, rfl⟩) pn hpn (fun v' h' q => by
    obtain ⟨q1, q2⟩ := q
    cases q1
    subst q2
    exact kr) (fun k h' q => by cases q.1)
theorem g_cI1v (hX : g_ok E X M) {a1 : Value} {b : Nat} (hct : g_Rd X.l M' fr lo (.ref b :: [a1]) E h none) (hdg : decode M.cc pc = .ok (.invokespecial index, 3)) (hk : g_kI M.y.cls index M' 1) (hrm : g_rm X fr lo M'.nl wt) (hc : cs ≤ X.R.cells) (hs : ss ≤ X.R.slots) (hW : (rest.map fun v => v.category).sum ≤ wt) (pn : Nat) (hpn : pc + 3 = pn)
    (kr : g_Go E X P h z cs ss pn L (rest)) : g_Go E X P h z cs ss pc L (a1 :: .ref b :: rest) :=
  g_cI1 (mc := 0) (ms := 0) hX hct hdg hk hrm hc hs hW (fun _ => ⟨rfl, rfl⟩) pn hpn (fun v' h' q => by
    obtain ⟨q1, q2⟩ := q
    cases q1
    subst q2
    exact kr) (fun k h' q => by cases q.1)
theorem g_cF1 (hX : g_ok E X M) {a1 : Value} {b ci count : Nat} {x : MethodName} {fs : List Value} (hct : g_Ct X.l M' fr lo mc ms (.ref b :: [a1]) E h P') (hdg : decode M.cc pc = .ok (.invokeinterface index count, 5)) (hb : h b = some (.inr (ci, fs))) (hk : g_kF M.y.cls index x M' 1 ci) (hrm : g_rm X fr lo M'.nl wt) (hc : cs + mc ≤ X.R.cells) (hs : ss + ms ≤ X.R.slots) (hW : (rest.map fun v => v.category).sum ≤ wt) (hmc : P'.1 = true → mc = 0 ∧ ms = 0) (pn : Nat) (hpn : pc + 5 = pn)
    (kr : ∀ (v : Option Value) (h' : g_H), P'.2 (.inr v) h' → g_Go E X P h' (P'.1 && z) (cs + mc) (ss + ms) pn L (v.toList ++ rest)) (kt : ∀ (k : Nat) (h' : g_H), P'.2 (.inl k) h' → g_Th E X P h' (cs + mc) (ss + ms) pc L k) : g_Go E X P h z cs ss pc L (a1 :: .ref b :: rest) :=
  by
  obtain ⟨C, T0, N, k1, k2, k3, k4, k5, k6⟩ := hk
  exact g_callF (as := [a1]) hX hct hdg hb k1 k2 k3 k4 k5 k6 hrm.1 hrm.2 hc hs hW hmc pn hpn kr kt
theorem g_cF1r (hX : g_ok E X M) {a1 : Value} {b ci count : Nat} {x : MethodName} {fs : List Value} {v : Value} (hct : g_Rd X.l M' fr lo (.ref b :: [a1]) E h (some v)) (hdg : decode M.cc pc = .ok (.invokeinterface index count, 5)) (hb : h b = some (.inr (ci, fs))) (hk : g_kF M.y.cls index x M' 1 ci) (hrm : g_rm X fr lo M'.nl wt) (hc : cs ≤ X.R.cells) (hs : ss ≤ X.R.slots) (hW : (rest.map fun v => v.category).sum ≤ wt) (pn : Nat) (hpn : pc + 5 = pn)
    (kr : g_Go E X P h z cs ss pn L (v :: rest)) : g_Go E X P h z cs ss pc L (a1 :: .ref b :: rest) :=
  g_cF1 (mc := 0) (ms := 0) hX hct hdg hb hk hrm hc hs hW (fun _ => ⟨rfl, rfl⟩) pn hpn (fun v' h' q => by
    obtain ⟨q1, q2⟩ := q
    cases q1
    subst q2
    exact kr) (fun k h' q => by cases q.1)
theorem g_cF1v (hX : g_ok E X M) {a1 : Value} {b ci count : Nat} {x : MethodName} {fs : List Value} (hct : g_Rd X.l M' fr lo (.ref b :: [a1]) E h none) (hdg : decode M.cc pc = .ok (.invokeinterface index count, 5)) (hb : h b = some (.inr (ci, fs))) (hk : g_kF M.y.cls index x M' 1 ci) (hrm : g_rm X fr lo M'.nl wt) (hc : cs ≤ X.R.cells) (hs : ss ≤ X.R.slots) (hW : (rest.map fun v => v.category).sum ≤ wt) (pn : Nat) (hpn : pc + 5 = pn)
    (kr : g_Go E X P h z cs ss pn L (rest)) : g_Go E X P h z cs ss pc L (a1 :: .ref b :: rest) :=
  g_cF1 (mc := 0) (ms := 0) hX hct hdg hb hk hrm hc hs hW (fun _ => ⟨rfl, rfl⟩) pn hpn (fun v' h' q => by
    obtain ⟨q1, q2⟩ := q
    cases q1
    subst q2
    exact kr) (fun k h' q => by cases q.1)
theorem g_cS2 (hX : g_ok E X M) {a1 a2 : Value} (hct : g_Ct X.l M' fr lo mc ms [a1, a2] E h P') (hdg : decode M.cc pc = .ok (.invokestatic index, 3)) (hk : g_kS M.y.cls index M' 2) (hrm : g_rm X fr lo M'.nl wt) (hc : cs + mc ≤ X.R.cells) (hs : ss + ms ≤ X.R.slots) (hW : (rest.map fun v => v.category).sum ≤ wt) (hmc : P'.1 = true → mc = 0 ∧ ms = 0) (pn : Nat) (hpn : pc + 3 = pn)
    (kr : ∀ (v : Option Value) (h' : g_H), P'.2 (.inr v) h' → g_Go E X P h' (P'.1 && z) (cs + mc) (ss + ms) pn L (v.toList ++ rest)) (kt : ∀ (k : Nat) (h' : g_H), P'.2 (.inl k) h' → g_Th E X P h' (cs + mc) (ss + ms) pc L k) : g_Go E X P h z cs ss pc L (a2 :: a1 :: rest) :=
  g_callS (as := [a1, a2]) hX hct hdg hk.1 hk.2.1 hk.2.2.1 hk.2.2.2.1 hk.2.2.2.2 hrm.1 hrm.2 hc hs hW hmc pn hpn kr kt
theorem g_cS2r (hX : g_ok E X M) {a1 a2 : Value} {v : Value} (hct : g_Rd X.l M' fr lo [a1, a2] E h (some v)) (hdg : decode M.cc pc = .ok (.invokestatic index, 3)) (hk : g_kS M.y.cls index M' 2) (hrm : g_rm X fr lo M'.nl wt) (hc : cs ≤ X.R.cells) (hs : ss ≤ X.R.slots) (hW : (rest.map fun v => v.category).sum ≤ wt) (pn : Nat) (hpn : pc + 3 = pn)
    (kr : g_Go E X P h z cs ss pn L (v :: rest)) : g_Go E X P h z cs ss pc L (a2 :: a1 :: rest) :=
  g_cS2 (mc := 0) (ms := 0) hX hct hdg hk hrm hc hs hW (fun _ => ⟨rfl, rfl⟩) pn hpn (fun v' h' q => by
    obtain ⟨q1, q2⟩ := q
    cases q1
    subst q2
    exact kr) (fun k h' q => by cases q.1)
theorem g_cS2v (hX : g_ok E X M) {a1 a2 : Value} (hct : g_Rd X.l M' fr lo [a1, a2] E h none) (hdg : decode M.cc pc = .ok (.invokestatic index, 3)) (hk : g_kS M.y.cls index M' 2) (hrm : g_rm X fr lo M'.nl wt) (hc : cs ≤ X.R.cells) (hs : ss ≤ X.R.slots) (hW : (rest.map fun v => v.category).sum ≤ wt) (pn : Nat) (hpn : pc + 3 = pn)
    (kr : g_Go E X P h z cs ss pn L (rest)) : g_Go E X P h z cs ss pc L (a2 :: a1 :: rest) :=
  g_cS2 (mc := 0) (ms := 0) hX hct hdg hk hrm hc hs hW (fun _ => ⟨rfl, rfl⟩) pn hpn (fun v' h' q => by
    obtain ⟨q1, q2⟩ := q
    cases q1
    subst q2
    exact kr) (fun k h' q => by cases q.1)
theorem g_cV2 (hX : g_ok E X M) {a1 a2 : Value} {b ci : Nat} {fs : List Value} (hct : g_Ct X.l M' fr lo mc ms (.ref b :: [a1, a2]) E h P') (hdg : decode M.cc pc = .ok (.invokevirtual index, 3)) (hb : h b = some (.inr (ci, fs))) (hk : g_kV M.y.cls index M' 2 ci) (hrm : g_rm X fr lo M'.nl wt) (hc : cs + mc ≤ X.R.cells) (hs : ss + ms ≤ X.R.slots) (hW : (rest.map fun v => v.category).sum ≤ wt) (hmc : P'.1 = true → mc = 0 ∧ ms = 0) (pn : Nat) (hpn : pc + 3 = pn)
    (kr : ∀ (v : Option Value) (h' : g_H), P'.2 (.inr v) h' → g_Go E X P h' (P'.1 && z) (cs + mc) (ss + ms) pn L (v.toList ++ rest)) (kt : ∀ (k : Nat) (h' : g_H), P'.2 (.inl k) h' → g_Th E X P h' (cs + mc) (ss + ms) pc L k) : g_Go E X P h z cs ss pc L (a2 :: a1 :: .ref b :: rest) :=
  by
  obtain ⟨C, T0, N, k1, k2, k3, k4, k5, k6, k7⟩ := hk
  exact g_callV (as := [a1, a2]) hX hct hdg hb k1 k2 k3 k4 k5 k6 k7 hrm.1 hrm.2 hc hs hW hmc pn hpn kr kt
theorem g_cV2r (hX : g_ok E X M) {a1 a2 : Value} {b ci : Nat} {fs : List Value} {v : Value} (hct : g_Rd X.l M' fr lo (.ref b :: [a1, a2]) E h (some v)) (hdg : decode M.cc pc = .ok (.invokevirtual index, 3)) (hb : h b = some (.inr (ci, fs))) (hk : g_kV M.y.cls index M' 2 ci) (hrm : g_rm X fr lo M'.nl wt) (hc : cs ≤ X.R.cells) (hs : ss ≤ X.R.slots) (hW : (rest.map fun v => v.category).sum ≤ wt) (pn : Nat) (hpn : pc + 3 = pn)
    (kr : g_Go E X P h z cs ss pn L (v :: rest)) : g_Go E X P h z cs ss pc L (a2 :: a1 :: .ref b :: rest) :=
  g_cV2 (mc := 0) (ms := 0) hX hct hdg hb hk hrm hc hs hW (fun _ => ⟨rfl, rfl⟩) pn hpn (fun v' h' q => by
    obtain ⟨q1, q2⟩ := q
    cases q1
    subst q2
    exact kr) (fun k h' q => by cases q.1)
theorem g_cV2v (hX : g_ok E X M) {a1 a2 : Value} {b ci : Nat} {fs : List Value} (hct : g_Rd X.l M' fr lo (.ref b :: [a1, a2]) E h none) (hdg : decode M.cc pc = .ok (.invokevirtual index, 3)) (hb : h b = some (.inr (ci, fs))) (hk : g_kV M.y.cls index M' 2 ci) (hrm : g_rm X fr lo M'.nl wt) (hc : cs ≤ X.R.cells) (hs : ss ≤ X.R.slots) (hW : (rest.map fun v => v.category).sum ≤ wt) (pn : Nat) (hpn : pc + 3 = pn)
    (kr : g_Go E X P h z cs ss pn L (rest)) : g_Go E X P h z cs ss pc L (a2 :: a1 :: .ref b :: rest) :=
  g_cV2 (mc := 0) (ms := 0) hX hct hdg hb hk hrm hc hs hW (fun _ => ⟨rfl, rfl⟩) pn hpn (fun v' h' q => by
    obtain ⟨q1, q2⟩ := q
    cases q1
    subst q2
    exact kr) (fun k h' q => by cases q.1)
theorem g_cI2 (hX : g_ok E X M) {a1 a2 : Value} {b : Nat} (hct : g_Ct X.l M' fr lo mc ms (.ref b :: [a1, a2]) E h P') (hdg : decode M.cc pc = .ok (.invokespecial index, 3)) (hk : g_kI M.y.cls index M' 2) (hrm : g_rm X fr lo M'.nl wt) (hc : cs + mc ≤ X.R.cells) (hs : ss + ms ≤ X.R.slots) (hW : (rest.map fun v => v.category).sum ≤ wt) (hmc : P'.1 = true → mc = 0 ∧ ms = 0) (pn : Nat) (hpn : pc + 3 = pn)
    (kr : ∀ (v : Option Value) (h' : g_H), P'.2 (.inr v) h' → g_Go E X P h' (P'.1 && z) (cs + mc) (ss + ms) pn L (v.toList ++ rest)) (kt : ∀ (k : Nat) (h' : g_H), P'.2 (.inl k) h' → g_Th E X P h' (cs + mc) (ss + ms) pc L k) : g_Go E X P h z cs ss pc L (a2 :: a1 :: .ref b :: rest) :=
  g_callI (as := [a1, a2]) hX hk.1.1 hk.1.2.1 hk.1.2.2 hct hdg hk.2.1 hk.2.2.1 hk.2.2.2.1 hk.2.2.2.2.1 hk.2.2.2.2.2 hrm.1 hrm.2 hc hs hW hmc pn hpn kr kt
theorem g_cI2r (hX : g_ok E X M) {a1 a2 : Value} {b : Nat} {v : Value} (hct : g_Rd X.l M' fr lo (.ref b :: [a1, a2]) E h (some v)) (hdg : decode M.cc pc = .ok (.invokespecial index, 3)) (hk : g_kI M.y.cls index M' 2) (hrm : g_rm X fr lo M'.nl wt) (hc : cs ≤ X.R.cells) (hs : ss ≤ X.R.slots) (hW : (rest.map fun v => v.category).sum ≤ wt) (pn : Nat) (hpn : pc + 3 = pn)
    (kr : g_Go E X P h z cs ss pn L (v :: rest)) : g_Go E X P h z cs ss pc L (a2 :: a1 :: .ref b :: rest) :=
  g_cI2 (mc := 0) (ms := 0) hX hct hdg hk hrm hc hs hW (fun _ => ⟨rfl, rfl⟩) pn hpn (fun v' h' q => by
    obtain ⟨q1, q2⟩ := q
    cases q1
    subst q2
    exact kr) (fun k h' q => by cases q.1)
theorem g_cI2v (hX : g_ok E X M) {a1 a2 : Value} {b : Nat} (hct : g_Rd X.l M' fr lo (.ref b :: [a1, a2]) E h none) (hdg : decode M.cc pc = .ok (.invokespecial index, 3)) (hk : g_kI M.y.cls index M' 2) (hrm : g_rm X fr lo M'.nl wt) (hc : cs ≤ X.R.cells) (hs : ss ≤ X.R.slots) (hW : (rest.map fun v => v.category).sum ≤ wt) (pn : Nat) (hpn : pc + 3 = pn)
    (kr : g_Go E X P h z cs ss pn L (rest)) : g_Go E X P h z cs ss pc L (a2 :: a1 :: .ref b :: rest) :=
  g_cI2 (mc := 0) (ms := 0) hX hct hdg hk hrm hc hs hW (fun _ => ⟨rfl, rfl⟩) pn hpn (fun v' h' q => by
    obtain ⟨q1, q2⟩ := q
    cases q1
    subst q2
    exact kr) (fun k h' q => by cases q.1)
theorem g_cF2 (hX : g_ok E X M) {a1 a2 : Value} {b ci count : Nat} {x : MethodName} {fs : List Value} (hct : g_Ct X.l M' fr lo mc ms (.ref b :: [a1, a2]) E h P') (hdg : decode M.cc pc = .ok (.invokeinterface index count, 5)) (hb : h b = some (.inr (ci, fs))) (hk : g_kF M.y.cls index x M' 2 ci) (hrm : g_rm X fr lo M'.nl wt) (hc : cs + mc ≤ X.R.cells) (hs : ss + ms ≤ X.R.slots) (hW : (rest.map fun v => v.category).sum ≤ wt) (hmc : P'.1 = true → mc = 0 ∧ ms = 0) (pn : Nat) (hpn : pc + 5 = pn)
    (kr : ∀ (v : Option Value) (h' : g_H), P'.2 (.inr v) h' → g_Go E X P h' (P'.1 && z) (cs + mc) (ss + ms) pn L (v.toList ++ rest)) (kt : ∀ (k : Nat) (h' : g_H), P'.2 (.inl k) h' → g_Th E X P h' (cs + mc) (ss + ms) pc L k) : g_Go E X P h z cs ss pc L (a2 :: a1 :: .ref b :: rest) :=
  by
  obtain ⟨C, T0, N, k1, k2, k3, k4, k5, k6⟩ := hk
  exact g_callF (as := [a1, a2]) hX hct hdg hb k1 k2 k3 k4 k5 k6 hrm.1 hrm.2 hc hs hW hmc pn hpn kr kt
theorem g_cF2r (hX : g_ok E X M) {a1 a2 : Value} {b ci count : Nat} {x : MethodName} {fs : List Value} {v : Value} (hct : g_Rd X.l M' fr lo (.ref b :: [a1, a2]) E h (some v)) (hdg : decode M.cc pc = .ok (.invokeinterface index count, 5)) (hb : h b = some (.inr (ci, fs))) (hk : g_kF M.y.cls index x M' 2 ci) (hrm : g_rm X fr lo M'.nl wt) (hc : cs ≤ X.R.cells) (hs : ss ≤ X.R.slots) (hW : (rest.map fun v => v.category).sum ≤ wt) (pn : Nat) (hpn : pc + 5 = pn)
    (kr : g_Go E X P h z cs ss pn L (v :: rest)) : g_Go E X P h z cs ss pc L (a2 :: a1 :: .ref b :: rest) :=
  g_cF2 (mc := 0) (ms := 0) hX hct hdg hb hk hrm hc hs hW (fun _ => ⟨rfl, rfl⟩) pn hpn (fun v' h' q => by
    obtain ⟨q1, q2⟩ := q
    cases q1
    subst q2
    exact kr) (fun k h' q => by cases q.1)
theorem g_cF2v (hX : g_ok E X M) {a1 a2 : Value} {b ci count : Nat} {x : MethodName} {fs : List Value} (hct : g_Rd X.l M' fr lo (.ref b :: [a1, a2]) E h none) (hdg : decode M.cc pc = .ok (.invokeinterface index count, 5)) (hb : h b = some (.inr (ci, fs))) (hk : g_kF M.y.cls index x M' 2 ci) (hrm : g_rm X fr lo M'.nl wt) (hc : cs ≤ X.R.cells) (hs : ss ≤ X.R.slots) (hW : (rest.map fun v => v.category).sum ≤ wt) (pn : Nat) (hpn : pc + 5 = pn)
    (kr : g_Go E X P h z cs ss pn L (rest)) : g_Go E X P h z cs ss pc L (a2 :: a1 :: .ref b :: rest) :=
  g_cF2 (mc := 0) (ms := 0) hX hct hdg hb hk hrm hc hs hW (fun _ => ⟨rfl, rfl⟩) pn hpn (fun v' h' q => by
    obtain ⟨q1, q2⟩ := q
    cases q1
    subst q2
    exact kr) (fun k h' q => by cases q.1)
theorem g_cS3 (hX : g_ok E X M) {a1 a2 a3 : Value} (hct : g_Ct X.l M' fr lo mc ms [a1, a2, a3] E h P') (hdg : decode M.cc pc = .ok (.invokestatic index, 3)) (hk : g_kS M.y.cls index M' 3) (hrm : g_rm X fr lo M'.nl wt) (hc : cs + mc ≤ X.R.cells) (hs : ss + ms ≤ X.R.slots) (hW : (rest.map fun v => v.category).sum ≤ wt) (hmc : P'.1 = true → mc = 0 ∧ ms = 0) (pn : Nat) (hpn : pc + 3 = pn)
    (kr : ∀ (v : Option Value) (h' : g_H), P'.2 (.inr v) h' → g_Go E X P h' (P'.1 && z) (cs + mc) (ss + ms) pn L (v.toList ++ rest)) (kt : ∀ (k : Nat) (h' : g_H), P'.2 (.inl k) h' → g_Th E X P h' (cs + mc) (ss + ms) pc L k) : g_Go E X P h z cs ss pc L (a3 :: a2 :: a1 :: rest) :=
  g_callS (as := [a1, a2, a3]) hX hct hdg hk.1 hk.2.1 hk.2.2.1 hk.2.2.2.1 hk.2.2.2.2 hrm.1 hrm.2 hc hs hW hmc pn hpn kr kt
theorem g_cS3r (hX : g_ok E X M) {a1 a2 a3 : Value} {v : Value} (hct : g_Rd X.l M' fr lo [a1, a2, a3] E h (some v)) (hdg : decode M.cc pc = .ok (.invokestatic index, 3)) (hk : g_kS M.y.cls index M' 3) (hrm : g_rm X fr lo M'.nl wt) (hc : cs ≤ X.R.cells) (hs : ss ≤ X.R.slots) (hW : (rest.map fun v => v.category).sum ≤ wt) (pn : Nat) (hpn : pc + 3 = pn)
    (kr : g_Go E X P h z cs ss pn L (v :: rest)) : g_Go E X P h z cs ss pc L (a3 :: a2 :: a1 :: rest) :=
  g_cS3 (mc := 0) (ms := 0) hX hct hdg hk hrm hc hs hW (fun _ => ⟨rfl, rfl⟩) pn hpn (fun v' h' q => by
    obtain ⟨q1, q2⟩ := q
    cases q1
    subst q2
    exact kr) (fun k h' q => by cases q.1)
theorem g_cS3v (hX : g_ok E X M) {a1 a2 a3 : Value} (hct : g_Rd X.l M' fr lo [a1, a2, a3] E h none) (hdg : decode M.cc pc = .ok (.invokestatic index, 3)) (hk : g_kS M.y.cls index M' 3) (hrm : g_rm X fr lo M'.nl wt) (hc : cs ≤ X.R.cells) (hs : ss ≤ X.R.slots) (hW : (rest.map fun v => v.category).sum ≤ wt) (pn : Nat) (hpn : pc + 3 = pn)
    (kr : g_Go E X P h z cs ss pn L (rest)) : g_Go E X P h z cs ss pc L (a3 :: a2 :: a1 :: rest) :=
  g_cS3 (mc := 0) (ms := 0) hX hct hdg hk hrm hc hs hW (fun _ => ⟨rfl, rfl⟩) pn hpn (fun v' h' q => by
    obtain ⟨q1, q2⟩ := q
    cases q1
    subst q2
    exact kr) (fun k h' q => by cases q.1)
theorem g_cV3 (hX : g_ok E X M) {a1 a2 a3 : Value} {b ci : Nat} {fs : List Value} (hct : g_Ct X.l M' fr lo mc ms (.ref b :: [a1, a2, a3]) E h P') (hdg : decode M.cc pc = .ok (.invokevirtual index, 3)) (hb : h b = some (.inr (ci, fs))) (hk : g_kV M.y.cls index M' 3 ci) (hrm : g_rm X fr lo M'.nl wt) (hc : cs + mc ≤ X.R.cells) (hs : ss + ms ≤ X.R.slots) (hW : (rest.map fun v => v.category).sum ≤ wt) (hmc : P'.1 = true → mc = 0 ∧ ms = 0) (pn : Nat) (hpn : pc + 3 = pn)
    (kr : ∀ (v : Option Value) (h' : g_H), P'.2 (.inr v) h' → g_Go E X P h' (P'.1 && z) (cs + mc) (ss + ms) pn L (v.toList ++ rest)) (kt : ∀ (k : Nat) (h' : g_H), P'.2 (.inl k) h' → g_Th E X P h' (cs + mc) (ss + ms) pc L k) : g_Go E X P h z cs ss pc L (a3 :: a2 :: a1 :: .ref b :: rest) :=
  by
  obtain ⟨C, T0, N, k1, k2, k3, k4, k5, k6, k7⟩ := hk
  exact g_callV (as := [a1, a2, a3]) hX hct hdg hb k1 k2 k3 k4 k5 k6 k7 hrm.1 hrm.2 hc hs hW hmc pn hpn kr kt
theorem g_cV3r (hX : g_ok E X M) {a1 a2 a3 : Value} {b ci : Nat} {fs : List Value} {v : Value} (hct : g_Rd X.l M' fr lo (.ref b :: [a1, a2, a3]) E h (some v)) (hdg : decode M.cc pc = .ok (.invokevirtual index, 3)) (hb : h b = some (.inr (ci, fs))) (hk : g_kV M.y.cls index M' 3 ci) (hrm : g_rm X fr lo M'.nl wt) (hc : cs ≤ X.R.cells) (hs : ss ≤ X.R.slots) (hW : (rest.map fun v => v.category).sum ≤ wt) (pn : Nat) (hpn : pc + 3 = pn)
    (kr : g_Go E X P h z cs ss pn L (v :: rest)) : g_Go E X P h z cs ss pc L (a3 :: a2 :: a1 :: .ref b :: rest) :=
  g_cV3 (mc := 0) (ms := 0) hX hct hdg hb hk hrm hc hs hW (fun _ => ⟨rfl, rfl⟩) pn hpn (fun v' h' q => by
    obtain ⟨q1, q2⟩ := q
    cases q1
    subst q2
    exact kr) (fun k h' q => by cases q.1)
theorem g_cV3v (hX : g_ok E X M) {a1 a2 a3 : Value} {b ci : Nat} {fs : List Value} (hct : g_Rd X.l M' fr lo (.ref b :: [a1, a2, a3]) E h none) (hdg : decode M.cc pc = .ok (.invokevirtual index, 3)) (hb : h b = some (.inr (ci, fs))) (hk : g_kV M.y.cls index M' 3 ci) (hrm : g_rm X fr lo M'.nl wt) (hc : cs ≤ X.R.cells) (hs : ss ≤ X.R.slots) (hW : (rest.map fun v => v.category).sum ≤ wt) (pn : Nat) (hpn : pc + 3 = pn)
    (kr : g_Go E X P h z cs ss pn L (rest)) : g_Go E X P h z cs ss pc L (a3 :: a2 :: a1 :: .ref b :: rest) :=
  g_cV3 (mc := 0) (ms := 0) hX hct hdg hb hk hrm hc hs hW (fun _ => ⟨rfl, rfl⟩) pn hpn (fun v' h' q => by
    obtain ⟨q1, q2⟩ := q
    cases q1
    subst q2
    exact kr) (fun k h' q => by cases q.1)
theorem g_cI3 (hX : g_ok E X M) {a1 a2 a3 : Value} {b : Nat} (hct : g_Ct X.l M' fr lo mc ms (.ref b :: [a1, a2, a3]) E h P') (hdg : decode M.cc pc = .ok (.invokespecial index, 3)) (hk : g_kI M.y.cls index M' 3) (hrm : g_rm X fr lo M'.nl wt) (hc : cs + mc ≤ X.R.cells) (hs : ss + ms ≤ X.R.slots) (hW : (rest.map fun v => v.category).sum ≤ wt) (hmc : P'.1 = true → mc = 0 ∧ ms = 0) (pn : Nat) (hpn : pc + 3 = pn)
    (kr : ∀ (v : Option Value) (h' : g_H), P'.2 (.inr v) h' → g_Go E X P h' (P'.1 && z) (cs + mc) (ss + ms) pn L (v.toList ++ rest)) (kt : ∀ (k : Nat) (h' : g_H), P'.2 (.inl k) h' → g_Th E X P h' (cs + mc) (ss + ms) pc L k) : g_Go E X P h z cs ss pc L (a3 :: a2 :: a1 :: .ref b :: rest) :=
  g_callI (as := [a1, a2, a3]) hX hk.1.1 hk.1.2.1 hk.1.2.2 hct hdg hk.2.1 hk.2.2.1 hk.2.2.2.1 hk.2.2.2.2.1 hk.2.2.2.2.2 hrm.1 hrm.2 hc hs hW hmc pn hpn kr kt
theorem g_cI3r (hX : g_ok E X M) {a1 a2 a3 : Value} {b : Nat} {v : Value} (hct : g_Rd X.l M' fr lo (.ref b :: [a1, a2, a3]) E h (some v)) (hdg : decode M.cc pc = .ok (.invokespecial index, 3)) (hk : g_kI M.y.cls index M' 3) (hrm : g_rm X fr lo M'.nl wt) (hc : cs ≤ X.R.cells) (hs : ss ≤ X.R.slots) (hW : (rest.map fun v => v.category).sum ≤ wt) (pn : Nat) (hpn : pc + 3 = pn)
    (kr : g_Go E X P h z cs ss pn L (v :: rest)) : g_Go E X P h z cs ss pc L (a3 :: a2 :: a1 :: .ref b :: rest) :=
  g_cI3 (mc := 0) (ms := 0) hX hct hdg hk hrm hc hs hW (fun _ => ⟨rfl, rfl⟩) pn hpn (fun v' h' q => by
    obtain ⟨q1, q2⟩ := q
    cases q1
    subst q2
    exact kr) (fun k h' q => by cases q.1)
theorem g_cI3v (hX : g_ok E X M) {a1 a2 a3 : Value} {b : Nat} (hct : g_Rd X.l M' fr lo (.ref b :: [a1, a2, a3]) E h none) (hdg : decode M.cc pc = .ok (.invokespecial index, 3)) (hk : g_kI M.y.cls index M' 3) (hrm : g_rm X fr lo M'.nl wt) (hc : cs ≤ X.R.cells) (hs : ss ≤ X.R.slots) (hW : (rest.map fun v => v.category).sum ≤ wt) (pn : Nat) (hpn : pc + 3 = pn)
    (kr : g_Go E X P h z cs ss pn L (rest)) : g_Go E X P h z cs ss pc L (a3 :: a2 :: a1 :: .ref b :: rest) :=
  g_cI3 (mc := 0) (ms := 0) hX hct hdg hk hrm hc hs hW (fun _ => ⟨rfl, rfl⟩) pn hpn (fun v' h' q => by
    obtain ⟨q1, q2⟩ := q
    cases q1
    subst q2
    exact kr) (fun k h' q => by cases q.1)
theorem g_cS4 (hX : g_ok E X M) {a1 a2 a3 a4 : Value} (hct : g_Ct X.l M' fr lo mc ms [a1, a2, a3, a4] E h P') (hdg : decode M.cc pc = .ok (.invokestatic index, 3)) (hk : g_kS M.y.cls index M' 4) (hrm : g_rm X fr lo M'.nl wt) (hc : cs + mc ≤ X.R.cells) (hs : ss + ms ≤ X.R.slots) (hW : (rest.map fun v => v.category).sum ≤ wt) (hmc : P'.1 = true → mc = 0 ∧ ms = 0) (pn : Nat) (hpn : pc + 3 = pn)
    (kr : ∀ (v : Option Value) (h' : g_H), P'.2 (.inr v) h' → g_Go E X P h' (P'.1 && z) (cs + mc) (ss + ms) pn L (v.toList ++ rest)) (kt : ∀ (k : Nat) (h' : g_H), P'.2 (.inl k) h' → g_Th E X P h' (cs + mc) (ss + ms) pc L k) : g_Go E X P h z cs ss pc L (a4 :: a3 :: a2 :: a1 :: rest) :=
  g_callS (as := [a1, a2, a3, a4]) hX hct hdg hk.1 hk.2.1 hk.2.2.1 hk.2.2.2.1 hk.2.2.2.2 hrm.1 hrm.2 hc hs hW hmc pn hpn kr kt
theorem g_cS4r (hX : g_ok E X M) {a1 a2 a3 a4 : Value} {v : Value} (hct : g_Rd X.l M' fr lo [a1, a2, a3, a4] E h (some v)) (hdg : decode M.cc pc = .ok (.invokestatic index, 3)) (hk : g_kS M.y.cls index M' 4) (hrm : g_rm X fr lo M'.nl wt) (hc : cs ≤ X.R.cells) (hs : ss ≤ X.R.slots) (hW : (rest.map fun v => v.category).sum ≤ wt) (pn : Nat) (hpn : pc + 3 = pn)
    (kr : g_Go E X P h z cs ss pn L (v :: rest)) : g_Go E X P h z cs ss pc L (a4 :: a3 :: a2 :: a1 :: rest) :=
  g_cS4 (mc := 0) (ms := 0) hX hct hdg hk hrm hc hs hW (fun _ => ⟨rfl, rfl⟩) pn hpn (fun v' h' q => by
    obtain ⟨q1, q2⟩ := q
    cases q1
    subst q2
    exact kr) (fun k h' q => by cases q.1)
theorem g_cS4v (hX : g_ok E X M) {a1 a2 a3 a4 : Value} (hct : g_Rd X.l M' fr lo [a1, a2, a3, a4] E h none) (hdg : decode M.cc pc = .ok (.invokestatic index, 3)) (hk : g_kS M.y.cls index M' 4) (hrm : g_rm X fr lo M'.nl wt) (hc : cs ≤ X.R.cells) (hs : ss ≤ X.R.slots) (hW : (rest.map fun v => v.category).sum ≤ wt) (pn : Nat) (hpn : pc + 3 = pn)
    (kr : g_Go E X P h z cs ss pn L (rest)) : g_Go E X P h z cs ss pc L (a4 :: a3 :: a2 :: a1 :: rest) :=
  g_cS4 (mc := 0) (ms := 0) hX hct hdg hk hrm hc hs hW (fun _ => ⟨rfl, rfl⟩) pn hpn (fun v' h' q => by
    obtain ⟨q1, q2⟩ := q
    cases q1
    subst q2
    exact kr) (fun k h' q => by cases q.1)
theorem g_cV4 (hX : g_ok E X M) {a1 a2 a3 a4 : Value} {b ci : Nat} {fs : List Value} (hct : g_Ct X.l M' fr lo mc ms (.ref b :: [a1, a2, a3, a4]) E h P') (hdg : decode M.cc pc = .ok (.invokevirtual index, 3)) (hb : h b = some (.inr (ci, fs))) (hk : g_kV M.y.cls index M' 4 ci) (hrm : g_rm X fr lo M'.nl wt) (hc : cs + mc ≤ X.R.cells) (hs : ss + ms ≤ X.R.slots) (hW : (rest.map fun v => v.category).sum ≤ wt) (hmc : P'.1 = true → mc = 0 ∧ ms = 0) (pn : Nat) (hpn : pc + 3 = pn)
    (kr : ∀ (v : Option Value) (h' : g_H), P'.2 (.inr v) h' → g_Go E X P h' (P'.1 && z) (cs + mc) (ss + ms) pn L (v.toList ++ rest)) (kt : ∀ (k : Nat) (h' : g_H), P'.2 (.inl k) h' → g_Th E X P h' (cs + mc) (ss + ms) pc L k) : g_Go E X P h z cs ss pc L (a4 :: a3 :: a2 :: a1 :: .ref b :: rest) :=
  by
  obtain ⟨C, T0, N, k1, k2, k3, k4, k5, k6, k7⟩ := hk
  exact g_callV (as := [a1, a2, a3, a4]) hX hct hdg hb k1 k2 k3 k4 k5 k6 k7 hrm.1 hrm.2 hc hs hW hmc pn hpn kr kt
theorem g_cV4r (hX : g_ok E X M) {a1 a2 a3 a4 : Value} {b ci : Nat} {fs : List Value} {v : Value} (hct : g_Rd X.l M' fr lo (.ref b :: [a1, a2, a3, a4]) E h (some v)) (hdg : decode M.cc pc = .ok (.invokevirtual index, 3)) (hb : h b = some (.inr (ci, fs))) (hk : g_kV M.y.cls index M' 4 ci) (hrm : g_rm X fr lo M'.nl wt) (hc : cs ≤ X.R.cells) (hs : ss ≤ X.R.slots) (hW : (rest.map fun v => v.category).sum ≤ wt) (pn : Nat) (hpn : pc + 3 = pn)
    (kr : g_Go E X P h z cs ss pn L (v :: rest)) : g_Go E X P h z cs ss pc L (a4 :: a3 :: a2 :: a1 :: .ref b :: rest) :=
  g_cV4 (mc := 0) (ms := 0) hX hct hdg hb hk hrm hc hs hW (fun _ => ⟨rfl, rfl⟩) pn hpn (fun v' h' q => by
    obtain ⟨q1, q2⟩ := q
    cases q1
    subst q2
    exact kr) (fun k h' q => by cases q.1)
theorem g_cV4v (hX : g_ok E X M) {a1 a2 a3 a4 : Value} {b ci : Nat} {fs : List Value} (hct : g_Rd X.l M' fr lo (.ref b :: [a1, a2, a3, a4]) E h none) (hdg : decode M.cc pc = .ok (.invokevirtual index, 3)) (hb : h b = some (.inr (ci, fs))) (hk : g_kV M.y.cls index M' 4 ci) (hrm : g_rm X fr lo M'.nl wt) (hc : cs ≤ X.R.cells) (hs : ss ≤ X.R.slots) (hW : (rest.map fun v => v.category).sum ≤ wt) (pn : Nat) (hpn : pc + 3 = pn)
    (kr : g_Go E X P h z cs ss pn L (rest)) : g_Go E X P h z cs ss pc L (a4 :: a3 :: a2 :: a1 :: .ref b :: rest) :=
  g_cV4 (mc := 0) (ms := 0) hX hct hdg hb hk hrm hc hs hW (fun _ => ⟨rfl, rfl⟩) pn hpn (fun v' h' q => by
    obtain ⟨q1, q2⟩ := q
    cases q1
    subst q2
    exact kr) (fun k h' q => by cases q.1)
theorem g_cI4 (hX : g_ok E X M) {a1 a2 a3 a4 : Value} {b : Nat} (hct : g_Ct X.l M' fr lo mc ms (.ref b :: [a1, a2, a3, a4]) E h P') (hdg : decode M.cc pc = .ok (.invokespecial index, 3)) (hk : g_kI M.y.cls index M' 4) (hrm : g_rm X fr lo M'.nl wt) (hc : cs + mc ≤ X.R.cells) (hs : ss + ms ≤ X.R.slots) (hW : (rest.map fun v => v.category).sum ≤ wt) (hmc : P'.1 = true → mc = 0 ∧ ms = 0) (pn : Nat) (hpn : pc + 3 = pn)
    (kr : ∀ (v : Option Value) (h' : g_H), P'.2 (.inr v) h' → g_Go E X P h' (P'.1 && z) (cs + mc) (ss + ms) pn L (v.toList ++ rest)) (kt : ∀ (k : Nat) (h' : g_H), P'.2 (.inl k) h' → g_Th E X P h' (cs + mc) (ss + ms) pc L k) : g_Go E X P h z cs ss pc L (a4 :: a3 :: a2 :: a1 :: .ref b :: rest) :=
  g_callI (as := [a1, a2, a3, a4]) hX hk.1.1 hk.1.2.1 hk.1.2.2 hct hdg hk.2.1 hk.2.2.1 hk.2.2.2.1 hk.2.2.2.2.1 hk.2.2.2.2.2 hrm.1 hrm.2 hc hs hW hmc pn hpn kr kt
theorem g_cI4r (hX : g_ok E X M) {a1 a2 a3 a4 : Value} {b : Nat} {v : Value} (hct : g_Rd X.l M' fr lo (.ref b :: [a1, a2, a3, a4]) E h (some v)) (hdg : decode M.cc pc = .ok (.invokespecial index, 3)) (hk : g_kI M.y.cls index M' 4) (hrm : g_rm X fr lo M'.nl wt) (hc : cs ≤ X.R.cells) (hs : ss ≤ X.R.slots) (hW : (rest.map fun v => v.category).sum ≤ wt) (pn : Nat) (hpn : pc + 3 = pn)
    (kr : g_Go E X P h z cs ss pn L (v :: rest)) : g_Go E X P h z cs ss pc L (a4 :: a3 :: a2 :: a1 :: .ref b :: rest) :=
  g_cI4 (mc := 0) (ms := 0) hX hct hdg hk hrm hc hs hW (fun _ => ⟨rfl, rfl⟩) pn hpn (fun v' h' q => by
    obtain ⟨q1, q2⟩ := q
    cases q1
    subst q2
    exact kr) (fun k h' q => by cases q.1)
theorem g_cI4v (hX : g_ok E X M) {a1 a2 a3 a4 : Value} {b : Nat} (hct : g_Rd X.l M' fr lo (.ref b :: [a1, a2, a3, a4]) E h none) (hdg : decode M.cc pc = .ok (.invokespecial index, 3)) (hk : g_kI M.y.cls index M' 4) (hrm : g_rm X fr lo M'.nl wt) (hc : cs ≤ X.R.cells) (hs : ss ≤ X.R.slots) (hW : (rest.map fun v => v.category).sum ≤ wt) (pn : Nat) (hpn : pc + 3 = pn)
    (kr : g_Go E X P h z cs ss pn L (rest)) : g_Go E X P h z cs ss pc L (a4 :: a3 :: a2 :: a1 :: .ref b :: rest) :=
  g_cI4 (mc := 0) (ms := 0) hX hct hdg hk hrm hc hs hW (fun _ => ⟨rfl, rfl⟩) pn hpn (fun v' h' q => by
    obtain ⟨q1, q2⟩ := q
    cases q1
    subst q2
    exact kr) (fun k h' q => by cases q.1)
theorem g_cS5 (hX : g_ok E X M) {a1 a2 a3 a4 a5 : Value} (hct : g_Ct X.l M' fr lo mc ms [a1, a2, a3, a4, a5] E h P') (hdg : decode M.cc pc = .ok (.invokestatic index, 3)) (hk : g_kS M.y.cls index M' 5) (hrm : g_rm X fr lo M'.nl wt) (hc : cs + mc ≤ X.R.cells) (hs : ss + ms ≤ X.R.slots) (hW : (rest.map fun v => v.category).sum ≤ wt) (hmc : P'.1 = true → mc = 0 ∧ ms = 0) (pn : Nat) (hpn : pc + 3 = pn)
    (kr : ∀ (v : Option Value) (h' : g_H), P'.2 (.inr v) h' → g_Go E X P h' (P'.1 && z) (cs + mc) (ss + ms) pn L (v.toList ++ rest)) (kt : ∀ (k : Nat) (h' : g_H), P'.2 (.inl k) h' → g_Th E X P h' (cs + mc) (ss + ms) pc L k) : g_Go E X P h z cs ss pc L (a5 :: a4 :: a3 :: a2 :: a1 :: rest) :=
  g_callS (as := [a1, a2, a3, a4, a5]) hX hct hdg hk.1 hk.2.1 hk.2.2.1 hk.2.2.2.1 hk.2.2.2.2 hrm.1 hrm.2 hc hs hW hmc pn hpn kr kt
theorem g_cS5r (hX : g_ok E X M) {a1 a2 a3 a4 a5 : Value} {v : Value} (hct : g_Rd X.l M' fr lo [a1, a2, a3, a4, a5] E h (some v)) (hdg : decode M.cc pc = .ok (.invokestatic index, 3)) (hk : g_kS M.y.cls index M' 5) (hrm : g_rm X fr lo M'.nl wt) (hc : cs ≤ X.R.cells) (hs : ss ≤ X.R.slots) (hW : (rest.map fun v => v.category).sum ≤ wt) (pn : Nat) (hpn : pc + 3 = pn)
    (kr : g_Go E X P h z cs ss pn L (v :: rest)) : g_Go E X P h z cs ss pc L (a5 :: a4 :: a3 :: a2 :: a1 :: rest) :=
  g_cS5 (mc := 0) (ms := 0) hX hct hdg hk hrm hc hs hW (fun _ => ⟨rfl, rfl⟩) pn hpn (fun v' h' q => by
    obtain ⟨q1, q2⟩ := q
    cases q1
    subst q2
    exact kr) (fun k h' q => by cases q.1)
theorem g_cS5v (hX : g_ok E X M) {a1 a2 a3 a4 a5 : Value} (hct : g_Rd X.l M' fr lo [a1, a2, a3, a4, a5] E h none) (hdg : decode M.cc pc = .ok (.invokestatic index, 3)) (hk : g_kS M.y.cls index M' 5) (hrm : g_rm X fr lo M'.nl wt) (hc : cs ≤ X.R.cells) (hs : ss ≤ X.R.slots) (hW : (rest.map fun v => v.category).sum ≤ wt) (pn : Nat) (hpn : pc + 3 = pn)
    (kr : g_Go E X P h z cs ss pn L (rest)) : g_Go E X P h z cs ss pc L (a5 :: a4 :: a3 :: a2 :: a1 :: rest) :=
  g_cS5 (mc := 0) (ms := 0) hX hct hdg hk hrm hc hs hW (fun _ => ⟨rfl, rfl⟩) pn hpn (fun v' h' q => by
    obtain ⟨q1, q2⟩ := q
    cases q1
    subst q2
    exact kr) (fun k h' q => by cases q.1)
theorem g_cV5 (hX : g_ok E X M) {a1 a2 a3 a4 a5 : Value} {b ci : Nat} {fs : List Value} (hct : g_Ct X.l M' fr lo mc ms (.ref b :: [a1, a2, a3, a4, a5]) E h P') (hdg : decode M.cc pc = .ok (.invokevirtual index, 3)) (hb : h b = some (.inr (ci, fs))) (hk : g_kV M.y.cls index M' 5 ci) (hrm : g_rm X fr lo M'.nl wt) (hc : cs + mc ≤ X.R.cells) (hs : ss + ms ≤ X.R.slots) (hW : (rest.map fun v => v.category).sum ≤ wt) (hmc : P'.1 = true → mc = 0 ∧ ms = 0) (pn : Nat) (hpn : pc + 3 = pn)
    (kr : ∀ (v : Option Value) (h' : g_H), P'.2 (.inr v) h' → g_Go E X P h' (P'.1 && z) (cs + mc) (ss + ms) pn L (v.toList ++ rest)) (kt : ∀ (k : Nat) (h' : g_H), P'.2 (.inl k) h' → g_Th E X P h' (cs + mc) (ss + ms) pc L k) : g_Go E X P h z cs ss pc L (a5 :: a4 :: a3 :: a2 :: a1 :: .ref b :: rest) :=
  by
  obtain ⟨C, T0, N, k1, k2, k3, k4, k5, k6, k7⟩ := hk
  exact g_callV (as := [a1, a2, a3, a4, a5]) hX hct hdg hb k1 k2 k3 k4 k5 k6 k7 hrm.1 hrm.2 hc hs hW hmc pn hpn kr kt
theorem g_cV5r (hX : g_ok E X M) {a1 a2 a3 a4 a5 : Value} {b ci : Nat} {fs : List Value} {v : Value} (hct : g_Rd X.l M' fr lo (.ref b :: [a1, a2, a3, a4, a5]) E h (some v)) (hdg : decode M.cc pc = .ok (.invokevirtual index, 3)) (hb : h b = some (.inr (ci, fs))) (hk : g_kV M.y.cls index M' 5 ci) (hrm : g_rm X fr lo M'.nl wt) (hc : cs ≤ X.R.cells) (hs : ss ≤ X.R.slots) (hW : (rest.map fun v => v.category).sum ≤ wt) (pn : Nat) (hpn : pc + 3 = pn)
    (kr : g_Go E X P h z cs ss pn L (v :: rest)) : g_Go E X P h z cs ss pc L (a5 :: a4 :: a3 :: a2 :: a1 :: .ref b :: rest) :=
  g_cV5 (mc := 0) (ms := 0) hX hct hdg hb hk hrm hc hs hW (fun _ => ⟨rfl, rfl⟩) pn hpn (fun v' h' q => by
    obtain ⟨q1, q2⟩ := q
    cases q1
    subst q2
    exact kr) (fun k h' q => by cases q.1)
theorem g_cV5v (hX : g_ok E X M) {a1 a2 a3 a4 a5 : Value} {b ci : Nat} {fs : List Value} (hct : g_Rd X.l M' fr lo (.ref b :: [a1, a2, a3, a4, a5]) E h none) (hdg : decode M.cc pc = .ok (.invokevirtual index, 3)) (hb : h b = some (.inr (ci, fs))) (hk : g_kV M.y.cls index M' 5 ci) (hrm : g_rm X fr lo M'.nl wt) (hc : cs ≤ X.R.cells) (hs : ss ≤ X.R.slots) (hW : (rest.map fun v => v.category).sum ≤ wt) (pn : Nat) (hpn : pc + 3 = pn)
    (kr : g_Go E X P h z cs ss pn L (rest)) : g_Go E X P h z cs ss pc L (a5 :: a4 :: a3 :: a2 :: a1 :: .ref b :: rest) :=
  g_cV5 (mc := 0) (ms := 0) hX hct hdg hb hk hrm hc hs hW (fun _ => ⟨rfl, rfl⟩) pn hpn (fun v' h' q => by
    obtain ⟨q1, q2⟩ := q
    cases q1
    subst q2
    exact kr) (fun k h' q => by cases q.1)
theorem g_cI5 (hX : g_ok E X M) {a1 a2 a3 a4 a5 : Value} {b : Nat} (hct : g_Ct X.l M' fr lo mc ms (.ref b :: [a1, a2, a3, a4, a5]) E h P') (hdg : decode M.cc pc = .ok (.invokespecial index, 3)) (hk : g_kI M.y.cls index M' 5) (hrm : g_rm X fr lo M'.nl wt) (hc : cs + mc ≤ X.R.cells) (hs : ss + ms ≤ X.R.slots) (hW : (rest.map fun v => v.category).sum ≤ wt) (hmc : P'.1 = true → mc = 0 ∧ ms = 0) (pn : Nat) (hpn : pc + 3 = pn)
    (kr : ∀ (v : Option Value) (h' : g_H), P'.2 (.inr v) h' → g_Go E X P h' (P'.1 && z) (cs + mc) (ss + ms) pn L (v.toList ++ rest)) (kt : ∀ (k : Nat) (h' : g_H), P'.2 (.inl k) h' → g_Th E X P h' (cs + mc) (ss + ms) pc L k) : g_Go E X P h z cs ss pc L (a5 :: a4 :: a3 :: a2 :: a1 :: .ref b :: rest) :=
  g_callI (as := [a1, a2, a3, a4, a5]) hX hk.1.1 hk.1.2.1 hk.1.2.2 hct hdg hk.2.1 hk.2.2.1 hk.2.2.2.1 hk.2.2.2.2.1 hk.2.2.2.2.2 hrm.1 hrm.2 hc hs hW hmc pn hpn kr kt
theorem g_cI5r (hX : g_ok E X M) {a1 a2 a3 a4 a5 : Value} {b : Nat} {v : Value} (hct : g_Rd X.l M' fr lo (.ref b :: [a1, a2, a3, a4, a5]) E h (some v)) (hdg : decode M.cc pc = .ok (.invokespecial index, 3)) (hk : g_kI M.y.cls index M' 5) (hrm : g_rm X fr lo M'.nl wt) (hc : cs ≤ X.R.cells) (hs : ss ≤ X.R.slots) (hW : (rest.map fun v => v.category).sum ≤ wt) (pn : Nat) (hpn : pc + 3 = pn)
    (kr : g_Go E X P h z cs ss pn L (v :: rest)) : g_Go E X P h z cs ss pc L (a5 :: a4 :: a3 :: a2 :: a1 :: .ref b :: rest) :=
  g_cI5 (mc := 0) (ms := 0) hX hct hdg hk hrm hc hs hW (fun _ => ⟨rfl, rfl⟩) pn hpn (fun v' h' q => by
    obtain ⟨q1, q2⟩ := q
    cases q1
    subst q2
    exact kr) (fun k h' q => by cases q.1)
theorem g_cI5v (hX : g_ok E X M) {a1 a2 a3 a4 a5 : Value} {b : Nat} (hct : g_Rd X.l M' fr lo (.ref b :: [a1, a2, a3, a4, a5]) E h none) (hdg : decode M.cc pc = .ok (.invokespecial index, 3)) (hk : g_kI M.y.cls index M' 5) (hrm : g_rm X fr lo M'.nl wt) (hc : cs ≤ X.R.cells) (hs : ss ≤ X.R.slots) (hW : (rest.map fun v => v.category).sum ≤ wt) (pn : Nat) (hpn : pc + 3 = pn)
    (kr : g_Go E X P h z cs ss pn L (rest)) : g_Go E X P h z cs ss pc L (a5 :: a4 :: a3 :: a2 :: a1 :: .ref b :: rest) :=
  g_cI5 (mc := 0) (ms := 0) hX hct hdg hk hrm hc hs hW (fun _ => ⟨rfl, rfl⟩) pn hpn (fun v' h' q => by
    obtain ⟨q1, q2⟩ := q
    cases q1
    subst q2
    exact kr) (fun k h' q => by cases q.1)
theorem g_cS6 (hX : g_ok E X M) {a1 a2 a3 a4 a5 a6 : Value} (hct : g_Ct X.l M' fr lo mc ms [a1, a2, a3, a4, a5, a6] E h P') (hdg : decode M.cc pc = .ok (.invokestatic index, 3)) (hk : g_kS M.y.cls index M' 6) (hrm : g_rm X fr lo M'.nl wt) (hc : cs + mc ≤ X.R.cells) (hs : ss + ms ≤ X.R.slots) (hW : (rest.map fun v => v.category).sum ≤ wt) (hmc : P'.1 = true → mc = 0 ∧ ms = 0) (pn : Nat) (hpn : pc + 3 = pn)
    (kr : ∀ (v : Option Value) (h' : g_H), P'.2 (.inr v) h' → g_Go E X P h' (P'.1 && z) (cs + mc) (ss + ms) pn L (v.toList ++ rest)) (kt : ∀ (k : Nat) (h' : g_H), P'.2 (.inl k) h' → g_Th E X P h' (cs + mc) (ss + ms) pc L k) : g_Go E X P h z cs ss pc L (a6 :: a5 :: a4 :: a3 :: a2 :: a1 :: rest) :=
  g_callS (as := [a1, a2, a3, a4, a5, a6]) hX hct hdg hk.1 hk.2.1 hk.2.2.1 hk.2.2.2.1 hk.2.2.2.2 hrm.1 hrm.2 hc hs hW hmc pn hpn kr kt
theorem g_cS6r (hX : g_ok E X M) {a1 a2 a3 a4 a5 a6 : Value} {v : Value} (hct : g_Rd X.l M' fr lo [a1, a2, a3, a4, a5, a6] E h (some v)) (hdg : decode M.cc pc = .ok (.invokestatic index, 3)) (hk : g_kS M.y.cls index M' 6) (hrm : g_rm X fr lo M'.nl wt) (hc : cs ≤ X.R.cells) (hs : ss ≤ X.R.slots) (hW : (rest.map fun v => v.category).sum ≤ wt) (pn : Nat) (hpn : pc + 3 = pn)
    (kr : g_Go E X P h z cs ss pn L (v :: rest)) : g_Go E X P h z cs ss pc L (a6 :: a5 :: a4 :: a3 :: a2 :: a1 :: rest) :=
  g_cS6 (mc := 0) (ms := 0) hX hct hdg hk hrm hc hs hW (fun _ => ⟨rfl, rfl⟩) pn hpn (fun v' h' q => by
    obtain ⟨q1, q2⟩ := q
    cases q1
    subst q2
    exact kr) (fun k h' q => by cases q.1)
theorem g_cS6v (hX : g_ok E X M) {a1 a2 a3 a4 a5 a6 : Value} (hct : g_Rd X.l M' fr lo [a1, a2, a3, a4, a5, a6] E h none) (hdg : decode M.cc pc = .ok (.invokestatic index, 3)) (hk : g_kS M.y.cls index M' 6) (hrm : g_rm X fr lo M'.nl wt) (hc : cs ≤ X.R.cells) (hs : ss ≤ X.R.slots) (hW : (rest.map fun v => v.category).sum ≤ wt) (pn : Nat) (hpn : pc + 3 = pn)
    (kr : g_Go E X P h z cs ss pn L (rest)) : g_Go E X P h z cs ss pc L (a6 :: a5 :: a4 :: a3 :: a2 :: a1 :: rest) :=
  g_cS6 (mc := 0) (ms := 0) hX hct hdg hk hrm hc hs hW (fun _ => ⟨rfl, rfl⟩) pn hpn (fun v' h' q => by
    obtain ⟨q1, q2⟩ := q
    cases q1
    subst q2
    exact kr) (fun k h' q => by cases q.1)
theorem g_cV6 (hX : g_ok E X M) {a1 a2 a3 a4 a5 a6 : Value} {b ci : Nat} {fs : List Value} (hct : g_Ct X.l M' fr lo mc ms (.ref b :: [a1, a2, a3, a4, a5, a6]) E h P') (hdg : decode M.cc pc = .ok (.invokevirtual index, 3)) (hb : h b = some (.inr (ci, fs))) (hk : g_kV M.y.cls index M' 6 ci) (hrm : g_rm X fr lo M'.nl wt) (hc : cs + mc ≤ X.R.cells) (hs : ss + ms ≤ X.R.slots) (hW : (rest.map fun v => v.category).sum ≤ wt) (hmc : P'.1 = true → mc = 0 ∧ ms = 0) (pn : Nat) (hpn : pc + 3 = pn)
    (kr : ∀ (v : Option Value) (h' : g_H), P'.2 (.inr v) h' → g_Go E X P h' (P'.1 && z) (cs + mc) (ss + ms) pn L (v.toList ++ rest)) (kt : ∀ (k : Nat) (h' : g_H), P'.2 (.inl k) h' → g_Th E X P h' (cs + mc) (ss + ms) pc L k) : g_Go E X P h z cs ss pc L (a6 :: a5 :: a4 :: a3 :: a2 :: a1 :: .ref b :: rest) :=
  by
  obtain ⟨C, T0, N, k1, k2, k3, k4, k5, k6, k7⟩ := hk
  exact g_callV (as := [a1, a2, a3, a4, a5, a6]) hX hct hdg hb k1 k2 k3 k4 k5 k6 k7 hrm.1 hrm.2 hc hs hW hmc pn hpn kr kt
theorem g_cV6r (hX : g_ok E X M) {a1 a2 a3 a4 a5 a6 : Value} {b ci : Nat} {fs : List Value} {v : Value} (hct : g_Rd X.l M' fr lo (.ref b :: [a1, a2, a3, a4, a5, a6]) E h (some v)) (hdg : decode M.cc pc = .ok (.invokevirtual index, 3)) (hb : h b = some (.inr (ci, fs))) (hk : g_kV M.y.cls index M' 6 ci) (hrm : g_rm X fr lo M'.nl wt) (hc : cs ≤ X.R.cells) (hs : ss ≤ X.R.slots) (hW : (rest.map fun v => v.category).sum ≤ wt) (pn : Nat) (hpn : pc + 3 = pn)
    (kr : g_Go E X P h z cs ss pn L (v :: rest)) : g_Go E X P h z cs ss pc L (a6 :: a5 :: a4 :: a3 :: a2 :: a1 :: .ref b :: rest) :=
  g_cV6 (mc := 0) (ms := 0) hX hct hdg hb hk hrm hc hs hW (fun _ => ⟨rfl, rfl⟩) pn hpn (fun v' h' q => by
    obtain ⟨q1, q2⟩ := q
    cases q1
    subst q2
    exact kr) (fun k h' q => by cases q.1)
theorem g_cV6v (hX : g_ok E X M) {a1 a2 a3 a4 a5 a6 : Value} {b ci : Nat} {fs : List Value} (hct : g_Rd X.l M' fr lo (.ref b :: [a1, a2, a3, a4, a5, a6]) E h none) (hdg : decode M.cc pc = .ok (.invokevirtual index, 3)) (hb : h b = some (.inr (ci, fs))) (hk : g_kV M.y.cls index M' 6 ci) (hrm : g_rm X fr lo M'.nl wt) (hc : cs ≤ X.R.cells) (hs : ss ≤ X.R.slots) (hW : (rest.map fun v => v.category).sum ≤ wt) (pn : Nat) (hpn : pc + 3 = pn)
    (kr : g_Go E X P h z cs ss pn L (rest)) : g_Go E X P h z cs ss pc L (a6 :: a5 :: a4 :: a3 :: a2 :: a1 :: .ref b :: rest) :=
  g_cV6 (mc := 0) (ms := 0) hX hct hdg hb hk hrm hc hs hW (fun _ => ⟨rfl, rfl⟩) pn hpn (fun v' h' q => by
    obtain ⟨q1, q2⟩ := q
    cases q1
    subst q2
    exact kr) (fun k h' q => by cases q.1)
theorem g_cI6 (hX : g_ok E X M) {a1 a2 a3 a4 a5 a6 : Value} {b : Nat} (hct : g_Ct X.l M' fr lo mc ms (.ref b :: [a1, a2, a3, a4, a5, a6]) E h P') (hdg : decode M.cc pc = .ok (.invokespecial index, 3)) (hk : g_kI M.y.cls index M' 6) (hrm : g_rm X fr lo M'.nl wt) (hc : cs + mc ≤ X.R.cells) (hs : ss + ms ≤ X.R.slots) (hW : (rest.map fun v => v.category).sum ≤ wt) (hmc : P'.1 = true → mc = 0 ∧ ms = 0) (pn : Nat) (hpn : pc + 3 = pn)
    (kr : ∀ (v : Option Value) (h' : g_H), P'.2 (.inr v) h' → g_Go E X P h' (P'.1 && z) (cs + mc) (ss + ms) pn L (v.toList ++ rest)) (kt : ∀ (k : Nat) (h' : g_H), P'.2 (.inl k) h' → g_Th E X P h' (cs + mc) (ss + ms) pc L k) : g_Go E X P h z cs ss pc L (a6 :: a5 :: a4 :: a3 :: a2 :: a1 :: .ref b :: rest) :=
  g_callI (as := [a1, a2, a3, a4, a5, a6]) hX hk.1.1 hk.1.2.1 hk.1.2.2 hct hdg hk.2.1 hk.2.2.1 hk.2.2.2.1 hk.2.2.2.2.1 hk.2.2.2.2.2 hrm.1 hrm.2 hc hs hW hmc pn hpn kr kt
theorem g_cI6r (hX : g_ok E X M) {a1 a2 a3 a4 a5 a6 : Value} {b : Nat} {v : Value} (hct : g_Rd X.l M' fr lo (.ref b :: [a1, a2, a3, a4, a5, a6]) E h (some v)) (hdg : decode M.cc pc = .ok (.invokespecial index, 3)) (hk : g_kI M.y.cls index M' 6) (hrm : g_rm X fr lo M'.nl wt) (hc : cs ≤ X.R.cells) (hs : ss ≤ X.R.slots) (hW : (rest.map fun v => v.category).sum ≤ wt) (pn : Nat) (hpn : pc + 3 = pn)
    (kr : g_Go E X P h z cs ss pn L (v :: rest)) : g_Go E X P h z cs ss pc L (a6 :: a5 :: a4 :: a3 :: a2 :: a1 :: .ref b :: rest) :=
  g_cI6 (mc := 0) (ms := 0) hX hct hdg hk hrm hc hs hW (fun _ => ⟨rfl, rfl⟩) pn hpn (fun v' h' q => by
    obtain ⟨q1, q2⟩ := q
    cases q1
    subst q2
    exact kr) (fun k h' q => by cases q.1)
theorem g_cI6v (hX : g_ok E X M) {a1 a2 a3 a4 a5 a6 : Value} {b : Nat} (hct : g_Rd X.l M' fr lo (.ref b :: [a1, a2, a3, a4, a5, a6]) E h none) (hdg : decode M.cc pc = .ok (.invokespecial index, 3)) (hk : g_kI M.y.cls index M' 6) (hrm : g_rm X fr lo M'.nl wt) (hc : cs ≤ X.R.cells) (hs : ss ≤ X.R.slots) (hW : (rest.map fun v => v.category).sum ≤ wt) (pn : Nat) (hpn : pc + 3 = pn)
    (kr : g_Go E X P h z cs ss pn L (rest)) : g_Go E X P h z cs ss pc L (a6 :: a5 :: a4 :: a3 :: a2 :: a1 :: .ref b :: rest) :=
  g_cI6 (mc := 0) (ms := 0) hX hct hdg hk hrm hc hs hW (fun _ => ⟨rfl, rfl⟩) pn hpn (fun v' h' q => by
    obtain ⟨q1, q2⟩ := q
    cases q1
    subst q2
    exact kr) (fun k h' q => by cases q.1)
end GCALLR
end
section
/-! statics, strings, Object's constructor, nest mates, a throw, a catch -/
section GSPEC
variable {E : g_E} {X : g_X} {M M' : g_M} {P P' : g_P} {h : g_H} {z : Bool} {cs ss pc : Nat} {L : List (Option Value)} {rest : List Value} {fr lo mc ms index : Nat} {as : List Value}
theorem g_gets (hX : g_ok E X M) {C n d : String} {v : Value} (hdg : decode M.cc pc = .ok (.getstatic index, 3)) (hlink : Cond.fieldLink M.y.cls index C n d ∈ g_wl) (hsz : g_SZ C n d v E.H0 X.s) (pn : Nat) (hpn : pc + 3 = pn)
    (kk : g_Go E X P h z cs ss pn L (v :: rest)) : g_Go E X P h z cs ss pc L rest := by
  subst hpn
  intro H locs ls hV hB hlo hL hz
  obtain ⟨c, k, i, f, a, cell, h1, h2, h3, h4, h5, h6, h7, h8, h9, h10, h11⟩ := hsz
  exact W.gets hX.exec hX.code hX.own (hX.w hlink) h2 h3 h10 h4 (by rw [hB.2 a (Array.getElem?_eq_some_iff.mp h5).1]; exact h5) (fun q => by rw [q] at h6; cases h6) h11 rfl hdg (kk H locs ls hV hB hlo hL hz)
theorem g_ldcs (hX : g_ok E X M) (hcls : M.y.cls = "SlideStage") {tx : String} (hdg : decode M.cc pc = .ok (.ldc index, 2)) (hs : (index, tx) ∈ g_strs) (pn : Nat) (hpn : pc + 2 = pn)
    (kk : g_Go E X P h z cs ss pn L (.ref (E.ad (100 + index)) :: rest)) : g_Go E X P h z cs ss pc L rest := by
  subst hpn
  intro H locs ls hV hB hlo hL hz
  have hown := hX.own
  rw [hcls] at hown
  exact va_ldcS hX.exec hX.code hown (hX.K.2.2.2.2.2.2.2 _ hs) hdg (kk H locs ls hV hB hlo hL hz)
theorem g_ldcw (hX : g_ok E X M) {v : Int32} (hdg : decode M.cc pc = .ok (.ldc_w index, 3)) (hw : Cond.constant M.y.cls index v ∈ g_wl) (pn : Nat) (hpn : pc + 3 = pn)
    (kk : g_Go E X P h z cs ss pn L (.int v :: rest)) : g_Go E X P h z cs ss pc L rest := by
  subst hpn
  exact fun H locs ls hV hB hlo hL hz => lv_ldcw hX.exec hX.code hX.own (hX.w hw) hdg (kk H locs ls hV hB hlo hL hz)
def g_oi (own : String) (idx : Nat) : Prop := Cond.methodLink own idx Lib.objectInit ∈ g_wl ∧ Cond.instanceMethod Lib.objectInit ∈ g_wl ∧ Cond.code Lib.objectInit ⟨#[0xb1]⟩ 1 none ∈ g_wl
theorem g_objInit (hX : g_ok E X M) {a wt : Nat} (hdg : decode M.cc pc = .ok (.invokespecial index, 3)) (hk : g_oi M.y.cls index) (hW : (rest.map fun v => v.category).sum ≤ wt) (hfr : 1 ≤ X.R.frames) (hlc : wt + 12 ≤ X.R.locals) (pn : Nat) (hpn : pc + 3 = pn)
    (kk : g_Go E X P h z cs ss pn L rest) : g_Go E X P h z cs ss pc L (.ref a :: rest) := by
  subst hpn
  intro H locs ls hV hB hlo hL hz
  exact W.objInit hX.exec hX.code hX.own (hX.w hk.1) (hX.w hk.2.1) (hX.w hk.2.2) (g := F0 X.m pc ls (.ref a :: rest)) rfl hL.1 rfl hdg hfr (by
    have h9 := g_room (m := X.m) (pc := pc) (ls := ls) hW
    have h8 : (F0 X.m pc ls (.ref a :: rest)).monitorRoom = (F0 X.m pc ls rest).monitorRoom := by first | rfl | simp [JFrame.monitorRoom]
    rw [h8]
    omega) (kk H locs ls hV hB hlo hL hz)
theorem g_callSN (hX : g_ok E X M) {host : String} (hct : g_Ct X.l M' fr lo mc ms as E h P') (hdg : decode M.cc pc = .ok (.invokestatic index, 3)) (hlink : Cond.methodLinkNest M.y.cls index M'.y host ∈ g_wl) (hstat : Cond.static M'.y ∈ g_wl) (hini : Cond.initialized M'.y.cls ∈ g_wl) (hcw : g_cw M' ∈ g_wl) (hcn : ∃ mk, X.s.methodNamed? M'.y = some mk) (hnp : g_np M'.y as.length = true)
    (hfr : fr + 1 ≤ X.R.frames) {wt : Nat} (hlo : wt + (M'.nl + 11) + lo ≤ X.R.locals) (hc : cs + mc ≤ X.R.cells) (hs : ss + ms ≤ X.R.slots) (hW : (rest.map fun v => v.category).sum ≤ wt) (hmc : P'.1 = true → mc = 0 ∧ ms = 0) (pn : Nat) (hpn : pc + 3 = pn)
    (kr : ∀ (v : Option Value) (h' : g_H), P'.2 (.inr v) h' → g_Go E X P h' (P'.1 && z) (cs + mc) (ss + ms) pn L (v.toList ++ rest)) (kt : ∀ (k : Nat) (h' : g_H), P'.2 (.inl k) h' → g_Th E X P h' (cs + mc) (ss + ms) pc L k) :
    g_Go E X P h z cs ss pc L (as.reverse ++ rest) := by
  subst hpn
  intro H locs ls hV hB hlc hL hz T hT X'
  obtain ⟨mk, hnamed⟩ := hcn
  obtain ⟨methM, cM, hmethM, -, -, -, -, -, -, hsigM⟩ := g_cw_spec hnamed (hX.w hcw (A := X.args))
  have hstatic : methM.isStatic = true := Cond.static_spec hnamed hmethM (hX.w hstat (A := X.args))
  obtain ⟨kP, hkP, -⟩ := className_of_methodNamed hnamed
  have hinitP : kP.init = .initialized := Cond.initialized_spec (findClass_of_methodNamed hnamed) hkP (hX.w hini (A := X.args))
  obtain ⟨vm₁, X₁, hstep₁⟩ := X'.invokestaticNest hX.exec hX.own (hX.w hlink) hnamed hmethM hstatic hkP hinitP (g_np_hy hnp) (g := F0 X.m pc ls (as.reverse ++ rest)) rfl (argsL := as) (rest := rest) (g_np_len hnp _ hsigM) rfl (by rw [hX.code]; exact hdg)
  have hT1 : (T.setVm vm₁).heap = H := hT
  exact g_after (P' := P') (as := as) (mc := mc) (ms := ms) hX (U := T.setVm vm₁) rfl kr kt hlc hL (by rw [hT1]; exact hz) hmc hstep₁
    (g_enter hct X₁ hfr hlo hc hs (hX.K.warm X₁.warmed) hcw hini (by rw [hT1]; exact hV) (by rw [hT1]; exact hB) (g := F0 X.m pc ls rest) rfl hL.1 (by rw [hX.code]; exact hdg) (g_room hW) (X₁.named hnamed))
theorem g_callIN (hX : g_ok E X M) {b : Nat} {host : String} (htb : M'.tb = []) (hrn : M'.ret = none) (hy1 : M'.y.name = "<init>") (hct : g_Ct X.l M' fr lo mc ms (.ref b :: as) E h P') (hdg : decode M.cc pc = .ok (.invokespecial index, 3)) (hlink : Cond.methodLinkNest M.y.cls index M'.y host ∈ g_wl) (hinst : Cond.instanceMethod M'.y ∈ g_wl) (hini : Cond.initialized M'.y.cls ∈ g_wl) (hcw : g_cw M' ∈ g_wl) (hnp : g_np M'.y as.length = true)
    (hfr : fr + 1 ≤ X.R.frames) {wt : Nat} (hlo : wt + (M'.nl + 11) + lo ≤ X.R.locals) (hc : cs + mc ≤ X.R.cells) (hs : ss + ms ≤ X.R.slots) (hW : (rest.map fun v => v.category).sum ≤ wt) (hmc : P'.1 = true → mc = 0 ∧ ms = 0) (pn : Nat) (hpn : pc + 3 = pn)
    (kr : ∀ (v : Option Value) (h' : g_H), P'.2 (.inr v) h' → g_Go E X P h' (P'.1 && z) (cs + mc) (ss + ms) pn L (v.toList ++ rest)) (kt : ∀ (k : Nat) (h' : g_H), P'.2 (.inl k) h' → g_Th E X P h' (cs + mc) (ss + ms) pc L k) :
    g_Go E X P h z cs ss pc L (as.reverse ++ .ref b :: rest) := by
  subst hpn
  intro H locs ls hV hB hlc hL hz T hT X'
  have hpl : X.e.platform.magicAccessors = ({} : Platform).magicAccessors := by rw [X'.admits.platform]
  have hcode : (Cond.code M'.y M'.cc M'.nl none).before X.args X.s = true := by
    have h1 := hX.w hcw (A := X.args)
    obtain ⟨y, cc, nl, rt, tb⟩ := M'
    cases htb
    cases hrn
    exact h1
  obtain ⟨mk, methM, cM, kP, vm₁, hnamed, hmethM, hcodeM, -, hlocalsM, -, hkP, -, hW₁, hstep₁⟩ := Steps.initColdArgsNest (e := X.e) X'.here hX.exec X'.warmed hpl hX.own hy1 (g_np_hy hnp) (hX.w hlink (A := X.args)) (hX.w hinst (A := X.args)) hcode (f := F0 X.m pc ls (as.reverse ++ .ref b :: rest)) rfl (fun sig hsig => g_np_len hnp sig hsig) rfl (by rw [hX.code]; exact hdg)
  have X₁ := X'.noted hW₁
  have hT1 : (T.setVm vm₁).heap = H := hT
  exact g_after (P' := P') (as := .ref b :: as) (mc := mc) (ms := ms) hX (U := T.setVm vm₁) rfl kr kt hlc hL (by rw [hT1]; exact hz) hmc hstep₁
    (g_enter hct X₁ hfr hlo hc hs (hX.K.warm X₁.warmed) hcw hini (by rw [hT1]; exact hV) (by rw [hT1]; exact hB) (g := F0 X.m pc ls rest) rfl hL.1 (by rw [hX.code]; exact hdg) (g_room hW) (X₁.named hnamed))
end GSPEC
theorem g_SZ.cell {C n d : String} {v : Value} {H0 : Heap} {U : State} (h : g_SZ C n d v H0 U) (hB : g_B H0 U.heap) (A : Array Value) : (Cond.laysStatic C n d).before A U = true ∧ (v.isRef = true → (Cond.isRef (.static C n d)).before A U = true) := by
  obtain ⟨c, k, i, f, a, cell, h1, h2, h3, h4, h5, h6, h7, h8, h9, h10, h11⟩ := h
  have h5' : U.heap[a]? = some cell := by rw [hB.2 a (Array.getElem?_eq_some_iff.mp h5).1]; exact h5
  refine ⟨Cond.laysStatic_of h1 h2 h3 h4 h5' h6 h7 h8 h9, fun hv => ?_⟩
  have ev : (Term.static C n d).eval A U none [] U = some v := by
    simp [Term.eval, State.fieldNamed?, h2, h3, h4, h5', h6, h11]
  cases v <;> first | (simp [Cond.before, Cond.holds, Cond.value, ev]; done) | cases hv
theorem g_hw_ok {E : g_E} {U : State} (hK : g_K E U) (hB : g_B E.H0 U.heap) (A : Array Value) : ∀ w ∈ g_hw, w.before A U = true := by
  obtain ⟨-, -, -, -, -, ⟨v4, r4, h4⟩, ⟨v5, r5, h5⟩, -⟩ := hK
  intro w hw
  simp only [g_hw, List.mem_cons, List.not_mem_nil, or_false] at hw
  rcases hw with rfl | rfl | rfl | rfl
  · exact (h4.cell hB A).1
  · exact (h5.cell hB A).1
  · exact (h4.cell hB A).2 r4
  · exact (h5.cell hB A).2 r5
/-- what a throw of number k, by the constructor at the pool's entry ic, asks of the words -/
def g_tw (k i1 ic : Nat) : Prop := Cond.classLink "SlideStage" i1 (g_xn k) ∈ g_wl ∧ Cond.instantiable (g_xn k) 6 ∈ g_wl ∧ Cond.initialized (g_xn k) ∈ g_wl ∧ Jvm.Bundle.fit (g_xn k) = true ∧ ∀ w ∈ Jvm.Bundle.ownAtoms "SlideStage" ic (g_xn k) ["java/lang/RuntimeException", "java/lang/Exception"], w ∈ g_wl ∨ w ∈ g_hw
set_option maxHeartbeats 4000000 in
theorem g_throw {E : g_E} {X : g_X} {M : g_M} {P : g_P} {h : g_H} {pc p3 p4 p6 p9 : Nat} {L : List (Option Value)} {rest : List Value} (hX : g_ok E X M) (hcls : M.y.cls = "SlideStage") {k i1 i2 ic wt : Nat} {tx : String} (h0 : decode M.cc pc = .ok (.new i1, 3)) (h3 : decode M.cc p3 = .ok (.dup, 1)) (h4 : decode M.cc p4 = .ok (.ldc i2, 2)) (h6 : decode M.cc p6 = .ok (.invokespecial ic, 3)) (h9 : decode M.cc p9 = .ok (.athrow, 1))
    (e3 : pc + 3 = p3) (e4 : p3 + 1 = p4) (e6 : p4 + 2 = p6) (e9 : p6 + 3 = p9) (hs : (i2, tx) ∈ g_strs) (ht : g_tw k i1 ic) (hout : M.tb = []) (hP : P.2 (.inl k) h) (hpu : P.1 = false) (hc : 1 ≤ X.R.cells) (hss : 6 ≤ X.R.slots)
    (hRf : 5 < X.R.frames) (hW : (rest.map fun v => v.category).sum ≤ wt) (hRl : wt + 82 ≤ X.R.locals) : g_Go E X P h true 0 0 pc L rest := by
  subst e3
  subst e4
  subst e6
  subst e9
  intro H locs ls hV hB hlo hL hz
  obtain ⟨rfl, rfl, -, -⟩ := hz rfl
  obtain ⟨w1, w2, w3, w4, w5⟩ := ht
  have hown := hX.own
  rw [hcls] at hown
  obtain ⟨cX, kX, hfX, hkX, hordX, hszX⟩ : ∃ cX kX, X.s.vm.findClass (g_xn k) = some cX ∧ X.s.vm.classes[cX]? = some kX ∧ kX.kind = .ordinary ∧ kX.instanceTypes.size = 6 := by
    obtain ⟨c1, k1, q1, q2, q3, -, -, q6⟩ := Cond.instantiable_spec (hX.w w2 (A := X.args))
    exact ⟨c1, k1, q1, q2, q3, q6⟩
  refine W.newcK hX.exec hX.code hown (hX.w w1) (hX.w w2) (hX.w w3) rfl h0 (by omega) (by omega) hfX rfl fun H1 kC hkC c1 z1 o1 => ?_
  have hkk : kX = kC := Option.some.inj (hkX.symm.trans hkC)
  subst hkk
  refine lv_dup hX.exec hX.code h3 rfl ?_
  refine va_ldcS hX.exec hX.code hown (hX.K.2.2.2.2.2.2.2 _ hs) h4 ?_
  intro T hT X'
  have htr : X.e.platform.stackTraces = false := by rw [X'.admits.platform]; exact hX.tr
  have hlocks : X.meth.locks = false := hX.locks
  have hout2 : ∀ x ∈ X.c.exceptionTable.toList, covers x (pc + 3 + 1 + 2 + 3) = false := by
    rw [hX.tb, hout]
    intro x hx
    cases hx
  obtain ⟨U, hst, hrun, hend, hWU, hsame, ce, hce, hoc⟩ := X'.ctorThrowS hX.exec htr hown w4 (names := ["java/lang/RuntimeException", "java/lang/Exception"]) (ic := ic) (by
      intro n hn
      simp only [List.mem_cons, List.not_mem_nil, or_false] at hn
      rcases hn with rfl | rfl <;> decide +kernel)
    (fun w hw => (w5 w hw).elim (fun q => hX.w q) (fun q => g_hw_ok hX.K hX.base X.args w q)) (fun x hx => by cases hx) hfX hkX (a := X.s.heap.size) (by rw [hT]; exact c1) (Nat.le_refl _) (msg := .ref (E.ad (100 + i2))) rfl
    (g := F0 X.m (pc + 3 + 1 + 2) ls (.ref (E.ad (100 + i2)) :: .ref X.s.heap.size :: .ref X.s.heap.size :: rest)) rfl hL.1 rfl rfl rfl (by rw [hX.code]; exact h6) (by rw [hX.code]; exact h9) hout2 (by show 2 + 3 < _; omega)
    (by
      have h7 : (F0 X.m (pc + 3 + 1 + 2) ls (.ref (E.ad (100 + i2)) :: .ref X.s.heap.size :: .ref X.s.heap.size :: rest)).monitorRoom = 0 := by first | rfl | simp [JFrame.monitorRoom]
      rw [h7, List.map_cons, List.sum_cons]
      show 2 * 0 + (1 + _) + (13 * (2 + 1) + 42) ≤ _
      omega) hlocks
  have hold : ∀ q : Nat, q < X.s.heap.size → U.heap[q]? = X.s.heap[q]? := fun q hq => by
    have h1 : X.s.heap[q]? = some X.s.heap[q] := Array.getElem?_eq_getElem hq
    rw [h1]
    exact hsame.old_cell h1
  refine ⟨U, hst, .threw X.s.heap.size, hrun, hend, ⟨⟨.inl k, h, hP, ⟨_, ce, rfl, hce, hoc.vm, by rw [hWU.alike.findClass]; exact hoc.cls⟩, hV.grow hold, hB.grow hsame.2.1 hold⟩, hWU, [], hsame.mono (by omega) (by omega), (fun q hq => by cases hq), (fun q => by rw [hpu] at q; cases q)⟩⟩
/-- the search through a method's own table of handlers: the names of its types; it ends at hp -/
def g_tbw (own : String) (k pc : Nat) : List ExceptionTableEntry → List String → Nat → Prop
  | x :: t, nm :: r, hp => covers x pc = true ∧ ((g_hit own k x nm true ∧ hp = x.handlerPc) ∨ (g_hit own k x nm false ∧ g_tbw own k pc t r hp))
  | _, _, _ => False
theorem g_tbw.finds {E : g_E} {X : g_X} {M : g_M} (hX : g_ok E X M) {k hp : Nat} {g : JFrame} (hg : g.method = X.m) (hpl : X.e.platform.magicAccessors = ({} : Platform).magicAccessors) {a : Addr} {cell : Cell} (hcv : cell.vm = .none) : ∀ (tb : List ExceptionTableEntry) (nms : List String) (u : State), X.s.WarmedH u.vm → u.heap[a]? = some cell → u.vm.findClass (g_xn k) = some cell.cls → g_tbw M.y.cls k g.pc tb nms hp →
    ∃ vm' : Vm, X.s.WarmedH vm' ∧ ∀ (Q : Handler → Pre) (Z : CtlPost) (d : Bool) (acts : List Action), wp (findHandler.go g a tb) Q Z X.e d acts u ↔ Q (.found hp) d acts (u.setVm vm') := by
  intro tb
  induction tb with
  | nil => intro nms u _ _ _ h; cases h
  | cons x t ih =>
    intro nms u hW hcell hfc h
    cases nms with
    | nil => cases h
    | cons nm r =>
      obtain ⟨hx, hor⟩ := h
      rcases hor with ⟨hh, rfl⟩ | ⟨hh, h2⟩
      · obtain ⟨vm', hw', hs⟩ := g_Sr.step (t := t) hX hg hpl hW hx hh hcell hcv hfc
        exact ⟨vm', hw', fun Q Z d acts => by rw [hs]; rfl⟩
      · obtain ⟨vm', hw', hs⟩ := g_Sr.step (t := t) hX hg hpl hW hx hh hcell hcv hfc
        obtain ⟨vm2, hw2, hs2⟩ := ih r (u.setVm vm') hw' hcell (by
          show vm'.findClass (g_xn k) = some cell.cls
          rw [hw'.alike.findClass, ← hW.alike.findClass]
          exact hfc) h2
        exact ⟨vm2, hw2, fun Q Z d acts => by
          rw [hs]
          exact hs2 Q Z d acts⟩
theorem g_Th.caught {E : g_E} {X : g_X} {M : g_M} {P : g_P} {h : g_H} {cs ss pc hp : Nat} {L : List (Option Value)} {k : Nat} {nms : List String} (hX : g_ok E X M) (ht : g_tbw M.y.cls k pc (tableOf M.tb) nms hp) (kk : ∀ a : Nat, g_Go E X P h false cs ss hp L [.ref a]) : g_Th E X P h cs ss pc L k := by
  intro T locs ls st a cell hV hB hlo hL hcell hcv hfc X'
  have hpl : X.e.platform.magicAccessors = ({} : Platform).magicAccessors := by rw [X'.admits.platform]
  obtain ⟨vm', hw', hs⟩ := g_tbw.finds (M := M) (k := k) (hp := hp) (g := F0 X.m pc ls st) (a := a) (cell := cell) hX rfl hpl hcv (tableOf M.tb) nms ((T.setTop (F0 X.m pc ls st)).pushFrame (.throwing a))
    (by rw [Stand.throwing_vm]; exact X'.warmed) (by rw [Stand.throwing_heap]; exact hcell) (by rw [Stand.throwing_vm]; exact hfc) ht
  obtain ⟨t, a1, b1⟩ := kk a T.heap locs ls hV hB hlo hL (fun q => by cases q) (T.setVm vm') rfl (X'.noted hw')
  refine ⟨t, g_caught (g := F0 X.m pc ls st) (pc := hp) (vm' := vm') X'.here (fun Q Z d acts => ?_) a1, b1⟩
  rw [Jvm.W.findHandler_eq (meth := X.meth) (code := X.c) (by rw [Stand.throwing_vm]; exact X'.method') X'.code, hX.tb]
  exact hs Q Z d acts
end
