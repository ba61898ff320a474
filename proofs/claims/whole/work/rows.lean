section
/-- a private method of a class that the tables say can be made, by its rows of tables_1 -/
def lw_okq (q : MethodName × Nat) : Prop := (q.1.cls ≠ "java/lang/invoke/MethodHandle" ∧ q.1.cls ≠ "java/lang/invoke/VarHandle") ∧ Cond.instantiable q.1.cls q.2 ∈ tables_1 ∧ Cond.privateMethod q.1 ∈ tables_1 ∧ Cond.instanceMethod q.1 ∈ tables_1
theorem lw_p0 : lw_okq (⟨"SlideStage", "slideShown", "()LSlideStage$Page;"⟩, 9) := ⟨⟨by decide +kernel, by decide +kernel⟩, List.mem_of_getElem? (i := 25) (by decide +kernel), List.mem_of_getElem? (i := 120) (by decide +kernel), List.mem_of_getElem? (i := 121) (by decide +kernel)⟩
theorem lw_p1 : lw_okq (⟨"SlideStage", "findSlide", "(I)LSlideStage$Page;"⟩, 9) := ⟨⟨by decide +kernel, by decide +kernel⟩, List.mem_of_getElem? (i := 25) (by decide +kernel), List.mem_of_getElem? (i := 124) (by decide +kernel), List.mem_of_getElem? (i := 125) (by decide +kernel)⟩
theorem lw_p2 : lw_okq (⟨"SlideStage", "show", "(III)V"⟩, 9) := ⟨⟨by decide +kernel, by decide +kernel⟩, List.mem_of_getElem? (i := 25) (by decide +kernel), List.mem_of_getElem? (i := 174) (by decide +kernel), List.mem_of_getElem? (i := 175) (by decide +kernel)⟩
theorem lw_p3 : lw_okq (⟨"SlideStage", "showEnd", "(II)V"⟩, 9) := ⟨⟨by decide +kernel, by decide +kernel⟩, List.mem_of_getElem? (i := 25) (by decide +kernel), List.mem_of_getElem? (i := 182) (by decide +kernel), List.mem_of_getElem? (i := 183) (by decide +kernel)⟩
theorem lw_p4 : lw_okq (⟨"SlideStage", "paintPage", "(LSlideStage$Page;III)I"⟩, 9) := ⟨⟨by decide +kernel, by decide +kernel⟩, List.mem_of_getElem? (i := 25) (by decide +kernel), List.mem_of_getElem? (i := 207) (by decide +kernel), List.mem_of_getElem? (i := 208) (by decide +kernel)⟩
theorem lw_p5 : lw_okq (⟨"SlideStage", "valueNow", "(LSlideStage$Shape;I)I"⟩, 9) := ⟨⟨by decide +kernel, by decide +kernel⟩, List.mem_of_getElem? (i := 25) (by decide +kernel), List.mem_of_getElem? (i := 212) (by decide +kernel), List.mem_of_getElem? (i := 213) (by decide +kernel)⟩
theorem lw_p6 : lw_okq (⟨"SlideStage", "resolve", "(LSlideStage$Shape;I)I"⟩, 9) := ⟨⟨by decide +kernel, by decide +kernel⟩, List.mem_of_getElem? (i := 25) (by decide +kernel), List.mem_of_getElem? (i := 216) (by decide +kernel), List.mem_of_getElem? (i := 217) (by decide +kernel)⟩
theorem lw_p7 : lw_okq (⟨"SlideStage", "moved", "(LSlideStage$Shape;I)I"⟩, 9) := ⟨⟨by decide +kernel, by decide +kernel⟩, List.mem_of_getElem? (i := 25) (by decide +kernel), List.mem_of_getElem? (i := 226) (by decide +kernel), List.mem_of_getElem? (i := 227) (by decide +kernel)⟩
theorem lw_p8 : lw_okq (⟨"SlideStage", "part", "(LSlideStage$Effect;I)I"⟩, 9) := ⟨⟨by decide +kernel, by decide +kernel⟩, List.mem_of_getElem? (i := 25) (by decide +kernel), List.mem_of_getElem? (i := 230) (by decide +kernel), List.mem_of_getElem? (i := 231) (by decide +kernel)⟩
theorem lw_p9 : lw_okq (⟨"SlideStage", "progress", "(LSlideStage$Effect;)I"⟩, 9) := ⟨⟨by decide +kernel, by decide +kernel⟩, List.mem_of_getElem? (i := 25) (by decide +kernel), List.mem_of_getElem? (i := 234) (by decide +kernel), List.mem_of_getElem? (i := 235) (by decide +kernel)⟩
theorem lw_p10 : lw_okq (⟨"SlideStage", "alphaNow", "(LSlideStage$Shape;I)I"⟩, 9) := ⟨⟨by decide +kernel, by decide +kernel⟩, List.mem_of_getElem? (i := 25) (by decide +kernel), List.mem_of_getElem? (i := 238) (by decide +kernel), List.mem_of_getElem? (i := 239) (by decide +kernel)⟩
theorem lw_p11 : lw_okq (⟨"java/lang/Throwable", "fillInStackTrace", "(I)Ljava/lang/Throwable;"⟩, 6) := ⟨⟨by decide +kernel, by decide +kernel⟩, List.mem_of_getElem? (i := 300) (by decide +kernel), List.mem_of_getElem? (i := 298) (by decide +kernel), List.mem_of_getElem? (i := 299) (by decide +kernel)⟩
theorem lw_p12 : lw_okq (⟨"SlideStage", "findPage", "(I)LSlideStage$Page;"⟩, 9) := ⟨⟨by decide +kernel, by decide +kernel⟩, List.mem_of_getElem? (i := 25) (by decide +kernel), List.mem_of_getElem? (i := 330) (by decide +kernel), List.mem_of_getElem? (i := 331) (by decide +kernel)⟩
theorem lw_p13 : lw_okq (⟨"java/util/ArrayList", "add", "(Ljava/lang/Object;[Ljava/lang/Object;I)V"⟩, 3) := ⟨⟨by decide +kernel, by decide +kernel⟩, List.mem_of_getElem? (i := 34) (by decide +kernel), List.mem_of_getElem? (i := 402) (by decide +kernel), List.mem_of_getElem? (i := 403) (by decide +kernel)⟩
theorem lw_p14 : lw_okq (⟨"java/util/ArrayList", "grow", "()[Ljava/lang/Object;"⟩, 3) := ⟨⟨by decide +kernel, by decide +kernel⟩, List.mem_of_getElem? (i := 34) (by decide +kernel), List.mem_of_getElem? (i := 406) (by decide +kernel), List.mem_of_getElem? (i := 407) (by decide +kernel)⟩
theorem lw_p15 : lw_okq (⟨"java/util/ArrayList", "grow", "(I)[Ljava/lang/Object;"⟩, 3) := ⟨⟨by decide +kernel, by decide +kernel⟩, List.mem_of_getElem? (i := 34) (by decide +kernel), List.mem_of_getElem? (i := 410) (by decide +kernel), List.mem_of_getElem? (i := 411) (by decide +kernel)⟩
def lw_privs_1 : List (MethodName × Nat) := [(⟨"SlideStage", "slideShown", "()LSlideStage$Page;"⟩, 9), (⟨"SlideStage", "findSlide", "(I)LSlideStage$Page;"⟩, 9), (⟨"SlideStage", "show", "(III)V"⟩, 9), (⟨"SlideStage", "showEnd", "(II)V"⟩, 9), (⟨"SlideStage", "paintPage", "(LSlideStage$Page;III)I"⟩, 9), (⟨"SlideStage", "valueNow", "(LSlideStage$Shape;I)I"⟩, 9), (⟨"SlideStage", "resolve", "(LSlideStage$Shape;I)I"⟩, 9), (⟨"SlideStage", "moved", "(LSlideStage$Shape;I)I"⟩, 9), (⟨"SlideStage", "part", "(LSlideStage$Effect;I)I"⟩, 9), (⟨"SlideStage", "progress", "(LSlideStage$Effect;)I"⟩, 9), (⟨"SlideStage", "alphaNow", "(LSlideStage$Shape;I)I"⟩, 9), (⟨"java/lang/Throwable", "fillInStackTrace", "(I)Ljava/lang/Throwable;"⟩, 6), (⟨"SlideStage", "findPage", "(I)LSlideStage$Page;"⟩, 9), (⟨"java/util/ArrayList", "add", "(Ljava/lang/Object;[Ljava/lang/Object;I)V"⟩, 3), (⟨"java/util/ArrayList", "grow", "()[Ljava/lang/Object;"⟩, 3), (⟨"java/util/ArrayList", "grow", "(I)[Ljava/lang/Object;"⟩, 3)]
theorem lw_r1 : ∀ q ∈ lw_privs_1, lw_okq q := List.forall_mem_cons.mpr ⟨lw_p0, List.forall_mem_cons.mpr ⟨lw_p1, List.forall_mem_cons.mpr ⟨lw_p2, List.forall_mem_cons.mpr ⟨lw_p3, List.forall_mem_cons.mpr ⟨lw_p4, List.forall_mem_cons.mpr ⟨lw_p5, List.forall_mem_cons.mpr ⟨lw_p6, List.forall_mem_cons.mpr ⟨lw_p7, List.forall_mem_cons.mpr ⟨lw_p8, List.forall_mem_cons.mpr ⟨lw_p9, List.forall_mem_cons.mpr ⟨lw_p10, List.forall_mem_cons.mpr ⟨lw_p11, List.forall_mem_cons.mpr ⟨lw_p12, List.forall_mem_cons.mpr ⟨lw_p13, List.forall_mem_cons.mpr ⟨lw_p14, List.forall_mem_cons.mpr ⟨lw_p15, fun _ h => absurd h List.not_mem_nil⟩⟩⟩⟩⟩⟩⟩⟩⟩⟩⟩⟩⟩⟩⟩⟩
theorem lw_p16 : lw_okq (⟨"SlideStage", "addSlide", "(LSlideStage$Page;)V"⟩, 9) := ⟨⟨by decide +kernel, by decide +kernel⟩, List.mem_of_getElem? (i := 25) (by decide +kernel), List.mem_of_getElem? (i := 455) (by decide +kernel), List.mem_of_getElem? (i := 456) (by decide +kernel)⟩
theorem lw_p17 : lw_okq (⟨"SlideStage", "findShape", "(I)LSlideStage$Shape;"⟩, 9) := ⟨⟨by decide +kernel, by decide +kernel⟩, List.mem_of_getElem? (i := 25) (by decide +kernel), List.mem_of_getElem? (i := 549) (by decide +kernel), List.mem_of_getElem? (i := 550) (by decide +kernel)⟩
theorem lw_p18 : lw_okq (⟨"SlideStage", "fitText", "(LSlideStage$Shape;)I"⟩, 9) := ⟨⟨by decide +kernel, by decide +kernel⟩, List.mem_of_getElem? (i := 25) (by decide +kernel), List.mem_of_getElem? (i := 624) (by decide +kernel), List.mem_of_getElem? (i := 625) (by decide +kernel)⟩
theorem lw_p19 : lw_okq (⟨"SlideStage$LineRows", "addParagraph", "(IIII)V"⟩, 5) := ⟨⟨by decide +kernel, by decide +kernel⟩, List.mem_of_getElem? (i := 61) (by decide +kernel), List.mem_of_getElem? (i := 637) (by decide +kernel), List.mem_of_getElem? (i := 638) (by decide +kernel)⟩
theorem lw_p20 : lw_okq (⟨"SlideStage$LineRows", "extendLine", "(II)Z"⟩, 5) := ⟨⟨by decide +kernel, by decide +kernel⟩, List.mem_of_getElem? (i := 61) (by decide +kernel), List.mem_of_getElem? (i := 642) (by decide +kernel), List.mem_of_getElem? (i := 643) (by decide +kernel)⟩
theorem lw_p21 : lw_okq (⟨"SlideStage$LineRows", "beginLine", "(III)V"⟩, 5) := ⟨⟨by decide +kernel, by decide +kernel⟩, List.mem_of_getElem? (i := 61) (by decide +kernel), List.mem_of_getElem? (i := 646) (by decide +kernel), List.mem_of_getElem? (i := 647) (by decide +kernel)⟩
theorem lw_p22 : lw_okq (⟨"SlideStage", "findEffect", "(I)LSlideStage$Effect;"⟩, 9) := ⟨⟨by decide +kernel, by decide +kernel⟩, List.mem_of_getElem? (i := 25) (by decide +kernel), List.mem_of_getElem? (i := 733) (by decide +kernel), List.mem_of_getElem? (i := 734) (by decide +kernel)⟩
theorem lw_p23 : lw_okq (⟨"SlideStageModel", "noPage", "(I)Z"⟩, 29) := ⟨⟨by decide +kernel, by decide +kernel⟩, List.mem_of_getElem? (i := 771) (by decide +kernel), List.mem_of_getElem? (i := 874) (by decide +kernel), List.mem_of_getElem? (i := 875) (by decide +kernel)⟩
theorem lw_p24 : lw_okq (⟨"SlideStageModel", "slotted", "(II)I"⟩, 29) := ⟨⟨by decide +kernel, by decide +kernel⟩, List.mem_of_getElem? (i := 771) (by decide +kernel), List.mem_of_getElem? (i := 882) (by decide +kernel), List.mem_of_getElem? (i := 883) (by decide +kernel)⟩
theorem lw_p25 : lw_okq (⟨"SlideStageModel", "noShape", "(I)Z"⟩, 29) := ⟨⟨by decide +kernel, by decide +kernel⟩, List.mem_of_getElem? (i := 771) (by decide +kernel), List.mem_of_getElem? (i := 898) (by decide +kernel), List.mem_of_getElem? (i := 899) (by decide +kernel)⟩
theorem lw_p26 : lw_okq (⟨"SlideStageModel", "value", "(II)I"⟩, 29) := ⟨⟨by decide +kernel, by decide +kernel⟩, List.mem_of_getElem? (i := 771) (by decide +kernel), List.mem_of_getElem? (i := 913) (by decide +kernel), List.mem_of_getElem? (i := 914) (by decide +kernel)⟩
theorem lw_p27 : lw_okq (⟨"SlideStageModel", "source", "(II)I"⟩, 29) := ⟨⟨by decide +kernel, by decide +kernel⟩, List.mem_of_getElem? (i := 771) (by decide +kernel), List.mem_of_getElem? (i := 917) (by decide +kernel), List.mem_of_getElem? (i := 918) (by decide +kernel)⟩
theorem lw_p28 : lw_okq (⟨"SlideStageModel", "fit", "(I)I"⟩, 29) := ⟨⟨by decide +kernel, by decide +kernel⟩, List.mem_of_getElem? (i := 771) (by decide +kernel), List.mem_of_getElem? (i := 937) (by decide +kernel), List.mem_of_getElem? (i := 938) (by decide +kernel)⟩
theorem lw_p29 : lw_okq (⟨"SlideStageModel", "breakText", "(II)V"⟩, 29) := ⟨⟨by decide +kernel, by decide +kernel⟩, List.mem_of_getElem? (i := 771) (by decide +kernel), List.mem_of_getElem? (i := 941) (by decide +kernel), List.mem_of_getElem? (i := 942) (by decide +kernel)⟩
theorem lw_p30 : lw_okq (⟨"SlideStageModel", "noEffect", "(I)Z"⟩, 29) := ⟨⟨by decide +kernel, by decide +kernel⟩, List.mem_of_getElem? (i := 771) (by decide +kernel), List.mem_of_getElem? (i := 965) (by decide +kernel), List.mem_of_getElem? (i := 966) (by decide +kernel)⟩
theorem lw_p31 : lw_okq (⟨"SlideStageModel", "start", "(I)I"⟩, 29) := ⟨⟨by decide +kernel, by decide +kernel⟩, List.mem_of_getElem? (i := 771) (by decide +kernel), List.mem_of_getElem? (i := 973) (by decide +kernel), List.mem_of_getElem? (i := 974) (by decide +kernel)⟩
def lw_privs_2 : List (MethodName × Nat) := [(⟨"SlideStage", "addSlide", "(LSlideStage$Page;)V"⟩, 9), (⟨"SlideStage", "findShape", "(I)LSlideStage$Shape;"⟩, 9), (⟨"SlideStage", "fitText", "(LSlideStage$Shape;)I"⟩, 9), (⟨"SlideStage$LineRows", "addParagraph", "(IIII)V"⟩, 5), (⟨"SlideStage$LineRows", "extendLine", "(II)Z"⟩, 5), (⟨"SlideStage$LineRows", "beginLine", "(III)V"⟩, 5), (⟨"SlideStage", "findEffect", "(I)LSlideStage$Effect;"⟩, 9), (⟨"SlideStageModel", "noPage", "(I)Z"⟩, 29), (⟨"SlideStageModel", "slotted", "(II)I"⟩, 29), (⟨"SlideStageModel", "noShape", "(I)Z"⟩, 29), (⟨"SlideStageModel", "value", "(II)I"⟩, 29), (⟨"SlideStageModel", "source", "(II)I"⟩, 29), (⟨"SlideStageModel", "fit", "(I)I"⟩, 29), (⟨"SlideStageModel", "breakText", "(II)V"⟩, 29), (⟨"SlideStageModel", "noEffect", "(I)Z"⟩, 29), (⟨"SlideStageModel", "start", "(I)I"⟩, 29)]
theorem lw_r2 : ∀ q ∈ lw_privs_2, lw_okq q := List.forall_mem_cons.mpr ⟨lw_p16, List.forall_mem_cons.mpr ⟨lw_p17, List.forall_mem_cons.mpr ⟨lw_p18, List.forall_mem_cons.mpr ⟨lw_p19, List.forall_mem_cons.mpr ⟨lw_p20, List.forall_mem_cons.mpr ⟨lw_p21, List.forall_mem_cons.mpr ⟨lw_p22, List.forall_mem_cons.mpr ⟨lw_p23, List.forall_mem_cons.mpr ⟨lw_p24, List.forall_mem_cons.mpr ⟨lw_p25, List.forall_mem_cons.mpr ⟨lw_p26, List.forall_mem_cons.mpr ⟨lw_p27, List.forall_mem_cons.mpr ⟨lw_p28, List.forall_mem_cons.mpr ⟨lw_p29, List.forall_mem_cons.mpr ⟨lw_p30, List.forall_mem_cons.mpr ⟨lw_p31, fun _ h => absurd h List.not_mem_nil⟩⟩⟩⟩⟩⟩⟩⟩⟩⟩⟩⟩⟩⟩⟩⟩
theorem lw_p32 : lw_okq (⟨"SlideStageModel", "end", "(I)I"⟩, 29) := ⟨⟨by decide +kernel, by decide +kernel⟩, List.mem_of_getElem? (i := 771) (by decide +kernel), List.mem_of_getElem? (i := 977) (by decide +kernel), List.mem_of_getElem? (i := 978) (by decide +kernel)⟩
theorem lw_p33 : lw_okq (⟨"SlideStageModel", "build", "(I)I"⟩, 29) := ⟨⟨by decide +kernel, by decide +kernel⟩, List.mem_of_getElem? (i := 771) (by decide +kernel), List.mem_of_getElem? (i := 981) (by decide +kernel), List.mem_of_getElem? (i := 982) (by decide +kernel)⟩
theorem lw_p34 : lw_okq (⟨"SlideStageModel", "slide", "(I)I"⟩, 29) := ⟨⟨by decide +kernel, by decide +kernel⟩, List.mem_of_getElem? (i := 771) (by decide +kernel), List.mem_of_getElem? (i := 985) (by decide +kernel), List.mem_of_getElem? (i := 986) (by decide +kernel)⟩
theorem lw_p35 : lw_okq (⟨"SlideStageModel", "stage", "(I)I"⟩, 29) := ⟨⟨by decide +kernel, by decide +kernel⟩, List.mem_of_getElem? (i := 771) (by decide +kernel), List.mem_of_getElem? (i := 989) (by decide +kernel), List.mem_of_getElem? (i := 990) (by decide +kernel)⟩
theorem lw_p36 : lw_okq (⟨"SlideStageModel", "lastBuild", "(I)I"⟩, 29) := ⟨⟨by decide +kernel, by decide +kernel⟩, List.mem_of_getElem? (i := 771) (by decide +kernel), List.mem_of_getElem? (i := 997) (by decide +kernel), List.mem_of_getElem? (i := 998) (by decide +kernel)⟩
theorem lw_p37 : lw_okq (⟨"SlideStageModel", "length", "(II)I"⟩, 29) := ⟨⟨by decide +kernel, by decide +kernel⟩, List.mem_of_getElem? (i := 771) (by decide +kernel), List.mem_of_getElem? (i := 1005) (by decide +kernel), List.mem_of_getElem? (i := 1006) (by decide +kernel)⟩
theorem lw_p38 : lw_okq (⟨"SlideStageModel", "valueNow", "(II)I"⟩, 29) := ⟨⟨by decide +kernel, by decide +kernel⟩, List.mem_of_getElem? (i := 771) (by decide +kernel), List.mem_of_getElem? (i := 1026) (by decide +kernel), List.mem_of_getElem? (i := 1027) (by decide +kernel)⟩
theorem lw_p39 : lw_okq (⟨"SlideStageModel", "moved", "(II)I"⟩, 29) := ⟨⟨by decide +kernel, by decide +kernel⟩, List.mem_of_getElem? (i := 771) (by decide +kernel), List.mem_of_getElem? (i := 1030) (by decide +kernel), List.mem_of_getElem? (i := 1031) (by decide +kernel)⟩
theorem lw_p40 : lw_okq (⟨"SlideStageModel", "part", "(II)I"⟩, 29) := ⟨⟨by decide +kernel, by decide +kernel⟩, List.mem_of_getElem? (i := 771) (by decide +kernel), List.mem_of_getElem? (i := 1034) (by decide +kernel), List.mem_of_getElem? (i := 1035) (by decide +kernel)⟩
theorem lw_p41 : lw_okq (⟨"SlideStageModel", "shown", "(II)I"⟩, 29) := ⟨⟨by decide +kernel, by decide +kernel⟩, List.mem_of_getElem? (i := 771) (by decide +kernel), List.mem_of_getElem? (i := 1038) (by decide +kernel), List.mem_of_getElem? (i := 1039) (by decide +kernel)⟩
theorem lw_p42 : lw_okq (⟨"SlideStageModel", "painted", "(IZIII)I"⟩, 29) := ⟨⟨by decide +kernel, by decide +kernel⟩, List.mem_of_getElem? (i := 771) (by decide +kernel), List.mem_of_getElem? (i := 1046) (by decide +kernel), List.mem_of_getElem? (i := 1047) (by decide +kernel)⟩
theorem lw_p43 : lw_okq (⟨"SlideStageModel", "covers", "(III)Z"⟩, 29) := ⟨⟨by decide +kernel, by decide +kernel⟩, List.mem_of_getElem? (i := 771) (by decide +kernel), List.mem_of_getElem? (i := 1050) (by decide +kernel), List.mem_of_getElem? (i := 1051) (by decide +kernel)⟩
theorem lw_p44 : lw_okq (⟨"SlideStageModel", "over", "(II)I"⟩, 29) := ⟨⟨by decide +kernel, by decide +kernel⟩, List.mem_of_getElem? (i := 771) (by decide +kernel), List.mem_of_getElem? (i := 1054) (by decide +kernel), List.mem_of_getElem? (i := 1055) (by decide +kernel)⟩
def lw_privs_3 : List (MethodName × Nat) := [(⟨"SlideStageModel", "end", "(I)I"⟩, 29), (⟨"SlideStageModel", "build", "(I)I"⟩, 29), (⟨"SlideStageModel", "slide", "(I)I"⟩, 29), (⟨"SlideStageModel", "stage", "(I)I"⟩, 29), (⟨"SlideStageModel", "lastBuild", "(I)I"⟩, 29), (⟨"SlideStageModel", "length", "(II)I"⟩, 29), (⟨"SlideStageModel", "valueNow", "(II)I"⟩, 29), (⟨"SlideStageModel", "moved", "(II)I"⟩, 29), (⟨"SlideStageModel", "part", "(II)I"⟩, 29), (⟨"SlideStageModel", "shown", "(II)I"⟩, 29), (⟨"SlideStageModel", "painted", "(IZIII)I"⟩, 29), (⟨"SlideStageModel", "covers", "(III)Z"⟩, 29), (⟨"SlideStageModel", "over", "(II)I"⟩, 29)]
theorem lw_r3 : ∀ q ∈ lw_privs_3, lw_okq q := List.forall_mem_cons.mpr ⟨lw_p32, List.forall_mem_cons.mpr ⟨lw_p33, List.forall_mem_cons.mpr ⟨lw_p34, List.forall_mem_cons.mpr ⟨lw_p35, List.forall_mem_cons.mpr ⟨lw_p36, List.forall_mem_cons.mpr ⟨lw_p37, List.forall_mem_cons.mpr ⟨lw_p38, List.forall_mem_cons.mpr ⟨lw_p39, List.forall_mem_cons.mpr ⟨lw_p40, List.forall_mem_cons.mpr ⟨lw_p41, List.forall_mem_cons.mpr ⟨lw_p42, List.forall_mem_cons.mpr ⟨lw_p43, List.forall_mem_cons.mpr ⟨lw_p44, fun _ h => absurd h List.not_mem_nil⟩⟩⟩⟩⟩⟩⟩⟩⟩⟩⟩⟩⟩
def lw_privs : List (MethodName × Nat) := lw_privs_1 ++ (lw_privs_2 ++ (lw_privs_3))
def lw_tbl : List Cond := k2_sels lw_privs ++ tables_1
theorem lw_privs_ok : ∀ q ∈ lw_privs, lw_okq q := by
  show ∀ q ∈ lw_privs_1 ++ (lw_privs_2 ++ (lw_privs_3)), lw_okq q
  exact List.forall_mem_append.mpr ⟨lw_r1, List.forall_mem_append.mpr ⟨lw_r2, lw_r3⟩⟩
end
section
theorem dS_init_0 : decode prog_1_method_1_code 0 = .ok (.aload_n 0, 1) := by decide +kernel
theorem dS_init_1 : decode prog_1_method_1_code 1 = .ok (.invokespecial 3, 3) := by decide +kernel
theorem dS_init_4 : decode prog_1_method_1_code 4 = .ok (.aload_n 0, 1) := by decide +kernel
theorem dS_init_5 : decode prog_1_method_1_code 5 = .ok (.bipush 7, 2) := by decide +kernel
theorem dS_init_7 : decode prog_1_method_1_code 7 = .ok (.newarray .int, 2) := by decide +kernel
theorem dS_init_9 : decode prog_1_method_1_code 9 = .ok (.dup, 1) := by decide +kernel
theorem dS_init_10 : decode prog_1_method_1_code 10 = .ok (.iconst 0, 1) := by decide +kernel
theorem dS_init_11 : decode prog_1_method_1_code 11 = .ok (.iconst 0, 1) := by decide +kernel
theorem dS_init_12 : decode prog_1_method_1_code 12 = .ok (.iastore, 1) := by decide +kernel
theorem dS_init_13 : decode prog_1_method_1_code 13 = .ok (.dup, 1) := by decide +kernel
theorem dS_init_14 : decode prog_1_method_1_code 14 = .ok (.iconst 1, 1) := by decide +kernel
theorem dS_init_15 : decode prog_1_method_1_code 15 = .ok (.iconst 0, 1) := by decide +kernel
theorem dS_init_16 : decode prog_1_method_1_code 16 = .ok (.iastore, 1) := by decide +kernel
theorem dS_init_17 : decode prog_1_method_1_code 17 = .ok (.dup, 1) := by decide +kernel
theorem dS_init_18 : decode prog_1_method_1_code 18 = .ok (.iconst 2, 1) := by decide +kernel
theorem dS_init_19 : decode prog_1_method_1_code 19 = .ok (.bipush 8, 2) := by decide +kernel
theorem dS_init_21 : decode prog_1_method_1_code 21 = .ok (.iastore, 1) := by decide +kernel
theorem dS_init_22 : decode prog_1_method_1_code 22 = .ok (.dup, 1) := by decide +kernel
theorem dS_init_23 : decode prog_1_method_1_code 23 = .ok (.iconst 3, 1) := by decide +kernel
theorem dS_init_24 : decode prog_1_method_1_code 24 = .ok (.iconst 4, 1) := by decide +kernel
theorem dS_init_25 : decode prog_1_method_1_code 25 = .ok (.iastore, 1) := by decide +kernel
theorem dS_init_26 : decode prog_1_method_1_code 26 = .ok (.dup, 1) := by decide +kernel
theorem dS_init_27 : decode prog_1_method_1_code 27 = .ok (.iconst 4, 1) := by decide +kernel
theorem dS_init_28 : decode prog_1_method_1_code 28 = .ok (.ldc 9, 2) := by decide +kernel
theorem dS_init_30 : decode prog_1_method_1_code 30 = .ok (.iastore, 1) := by decide +kernel
theorem dS_init_31 : decode prog_1_method_1_code 31 = .ok (.dup, 1) := by decide +kernel
theorem dS_init_32 : decode prog_1_method_1_code 32 = .ok (.iconst 5, 1) := by decide +kernel
theorem dS_init_33 : decode prog_1_method_1_code 33 = .ok (.sipush 255, 3) := by decide +kernel
theorem dS_init_36 : decode prog_1_method_1_code 36 = .ok (.iastore, 1) := by decide +kernel
theorem dS_init_37 : decode prog_1_method_1_code 37 = .ok (.dup, 1) := by decide +kernel
theorem dS_init_38 : decode prog_1_method_1_code 38 = .ok (.bipush 6, 2) := by decide +kernel
theorem dS_init_40 : decode prog_1_method_1_code 40 = .ok (.iconst 4, 1) := by decide +kernel
theorem dS_init_41 : decode prog_1_method_1_code 41 = .ok (.iastore, 1) := by decide +kernel
theorem dS_init_42 : decode prog_1_method_1_code 42 = .ok (.putfield 10, 3) := by decide +kernel
theorem dS_init_45 : decode prog_1_method_1_code 45 = .ok (.aload_n 0, 1) := by decide +kernel
theorem dS_init_46 : decode prog_1_method_1_code 46 = .ok (.new 14, 3) := by decide +kernel
theorem dS_init_49 : decode prog_1_method_1_code 49 = .ok (.dup, 1) := by decide +kernel
theorem dS_init_50 : decode prog_1_method_1_code 50 = .ok (.invokespecial 16, 3) := by decide +kernel
theorem dS_init_53 : decode prog_1_method_1_code 53 = .ok (.putfield 17, 3) := by decide +kernel
theorem dS_init_56 : decode prog_1_method_1_code 56 = .ok (.aload_n 0, 1) := by decide +kernel
theorem dS_init_57 : decode prog_1_method_1_code 57 = .ok (.new 14, 3) := by decide +kernel
theorem dS_init_60 : decode prog_1_method_1_code 60 = .ok (.dup, 1) := by decide +kernel
theorem dS_init_61 : decode prog_1_method_1_code 61 = .ok (.invokespecial 16, 3) := by decide +kernel
theorem dS_init_64 : decode prog_1_method_1_code 64 = .ok (.putfield 21, 3) := by decide +kernel
theorem dS_init_67 : decode prog_1_method_1_code 67 = .ok (.aload_n 0, 1) := by decide +kernel
theorem dS_init_68 : decode prog_1_method_1_code 68 = .ok (.new 14, 3) := by decide +kernel
theorem dS_init_71 : decode prog_1_method_1_code 71 = .ok (.dup, 1) := by decide +kernel
theorem dS_init_72 : decode prog_1_method_1_code 72 = .ok (.invokespecial 16, 3) := by decide +kernel
theorem dS_init_75 : decode prog_1_method_1_code 75 = .ok (.putfield 24, 3) := by decide +kernel
theorem dS_init_78 : decode prog_1_method_1_code 78 = .ok (.aload_n 0, 1) := by decide +kernel
theorem dS_init_79 : decode prog_1_method_1_code 79 = .ok (.new 14, 3) := by decide +kernel
theorem dS_init_82 : decode prog_1_method_1_code 82 = .ok (.dup, 1) := by decide +kernel
theorem dS_init_83 : decode prog_1_method_1_code 83 = .ok (.invokespecial 16, 3) := by decide +kernel
theorem dS_init_86 : decode prog_1_method_1_code 86 = .ok (.putfield 27, 3) := by decide +kernel
theorem dS_init_89 : decode prog_1_method_1_code 89 = .ok (.aload_n 0, 1) := by decide +kernel
theorem dS_init_90 : decode prog_1_method_1_code 90 = .ok (.new 30, 3) := by decide +kernel
theorem dS_init_93 : decode prog_1_method_1_code 93 = .ok (.dup, 1) := by decide +kernel
theorem dS_init_94 : decode prog_1_method_1_code 94 = .ok (.invokespecial 32, 3) := by decide +kernel
theorem dS_init_97 : decode prog_1_method_1_code 97 = .ok (.putfield 33, 3) := by decide +kernel
theorem dS_init_100 : decode prog_1_method_1_code 100 = .ok (.aload_n 0, 1) := by decide +kernel
theorem dS_init_101 : decode prog_1_method_1_code 101 = .ok (.iconst (-1), 1) := by decide +kernel
theorem dS_init_102 : decode prog_1_method_1_code 102 = .ok (.putfield 37, 3) := by decide +kernel
theorem dS_init_105 : decode prog_1_method_1_code 105 = .ok (.aload_n 0, 1) := by decide +kernel
theorem dS_init_106 : decode prog_1_method_1_code 106 = .ok (.iconst 0, 1) := by decide +kernel
theorem dS_init_107 : decode prog_1_method_1_code 107 = .ok (.putfield 41, 3) := by decide +kernel
theorem dS_init_110 : decode prog_1_method_1_code 110 = .ok (.aload_n 0, 1) := by decide +kernel
theorem dS_init_111 : decode prog_1_method_1_code 111 = .ok (.iconst 0, 1) := by decide +kernel
theorem dS_init_112 : decode prog_1_method_1_code 112 = .ok (.putfield 44, 3) := by decide +kernel
theorem dS_init_115 : decode prog_1_method_1_code 115 = .ok (.return_, 1) := by decide +kernel
theorem dR_init_0 : decode prog_3_method_1_code 0 = .ok (.aload_n 0, 1) := by decide +kernel
theorem dR_init_1 : decode prog_3_method_1_code 1 = .ok (.invokespecial 3, 3) := by decide +kernel
theorem dR_init_4 : decode prog_3_method_1_code 4 = .ok (.aload_n 0, 1) := by decide +kernel
theorem dR_init_5 : decode prog_3_method_1_code 5 = .ok (.bipush 16, 2) := by decide +kernel
theorem dR_init_7 : decode prog_3_method_1_code 7 = .ok (.newarray .int, 2) := by decide +kernel
theorem dR_init_9 : decode prog_3_method_1_code 9 = .ok (.putfield 9, 3) := by decide +kernel
theorem dR_init_12 : decode prog_3_method_1_code 12 = .ok (.aload_n 0, 1) := by decide +kernel
theorem dR_init_13 : decode prog_3_method_1_code 13 = .ok (.bipush 16, 2) := by decide +kernel
theorem dR_init_15 : decode prog_3_method_1_code 15 = .ok (.newarray .int, 2) := by decide +kernel
theorem dR_init_17 : decode prog_3_method_1_code 17 = .ok (.putfield 15, 3) := by decide +kernel
theorem dR_init_20 : decode prog_3_method_1_code 20 = .ok (.aload_n 0, 1) := by decide +kernel
theorem dR_init_21 : decode prog_3_method_1_code 21 = .ok (.bipush 16, 2) := by decide +kernel
theorem dR_init_23 : decode prog_3_method_1_code 23 = .ok (.newarray .int, 2) := by decide +kernel
theorem dR_init_25 : decode prog_3_method_1_code 25 = .ok (.putfield 18, 3) := by decide +kernel
theorem dR_init_28 : decode prog_3_method_1_code 28 = .ok (.aload_n 0, 1) := by decide +kernel
theorem dR_init_29 : decode prog_3_method_1_code 29 = .ok (.bipush 16, 2) := by decide +kernel
theorem dR_init_31 : decode prog_3_method_1_code 31 = .ok (.newarray .int, 2) := by decide +kernel
theorem dR_init_33 : decode prog_3_method_1_code 33 = .ok (.putfield 21, 3) := by decide +kernel
theorem dR_init_36 : decode prog_3_method_1_code 36 = .ok (.aload_n 0, 1) := by decide +kernel
theorem dR_init_37 : decode prog_3_method_1_code 37 = .ok (.iconst 0, 1) := by decide +kernel
theorem dR_init_38 : decode prog_3_method_1_code 38 = .ok (.putfield 24, 3) := by decide +kernel
theorem dR_init_41 : decode prog_3_method_1_code 41 = .ok (.return_, 1) := by decide +kernel
theorem dS_click_0 : decode prog_1_method_18_code 0 = .ok (.aload_n 0, 1) := by decide +kernel
theorem dS_click_1 : decode prog_1_method_18_code 1 = .ok (.getfield 41, 3) := by decide +kernel
theorem dS_click_4 : decode prog_1_method_18_code 4 = .ok (.aload_n 0, 1) := by decide +kernel
theorem dS_click_5 : decode prog_1_method_18_code 5 = .ok (.invokevirtual 252, 3) := by decide +kernel
theorem dS_click_8 : decode prog_1_method_18_code 8 = .ok (.invokestatic 260, 3) := by decide +kernel
theorem dS_click_11 : decode prog_1_method_18_code 11 = .ok (.if_icmp .ge 20, 3) := by decide +kernel
theorem dS_click_14 : decode prog_1_method_18_code 14 = .ok (.aload_n 0, 1) := by decide +kernel
theorem dS_click_15 : decode prog_1_method_18_code 15 = .ok (.aload_n 0, 1) := by decide +kernel
theorem dS_click_16 : decode prog_1_method_18_code 16 = .ok (.getfield 37, 3) := by decide +kernel
theorem dS_click_19 : decode prog_1_method_18_code 19 = .ok (.aload_n 0, 1) := by decide +kernel
theorem dS_click_20 : decode prog_1_method_18_code 20 = .ok (.getfield 41, 3) := by decide +kernel
theorem dS_click_23 : decode prog_1_method_18_code 23 = .ok (.iconst 1, 1) := by decide +kernel
theorem dS_click_24 : decode prog_1_method_18_code 24 = .ok (.iadd, 1) := by decide +kernel
theorem dS_click_25 : decode prog_1_method_18_code 25 = .ok (.iconst 0, 1) := by decide +kernel
theorem dS_click_26 : decode prog_1_method_18_code 26 = .ok (.invokevirtual 264, 3) := by decide +kernel
theorem dS_click_29 : decode prog_1_method_18_code 29 = .ok (.iconst 1, 1) := by decide +kernel
theorem dS_click_30 : decode prog_1_method_18_code 30 = .ok (.ireturn, 1) := by decide +kernel
theorem dS_click_31 : decode prog_1_method_18_code 31 = .ok (.aload_n 0, 1) := by decide +kernel
theorem dS_click_32 : decode prog_1_method_18_code 32 = .ok (.aload_n 0, 1) := by decide +kernel
theorem dS_click_33 : decode prog_1_method_18_code 33 = .ok (.getfield 37, 3) := by decide +kernel
theorem dS_click_36 : decode prog_1_method_18_code 36 = .ok (.iconst 1, 1) := by decide +kernel
theorem dS_click_37 : decode prog_1_method_18_code 37 = .ok (.iadd, 1) := by decide +kernel
theorem dS_click_38 : decode prog_1_method_18_code 38 = .ok (.invokevirtual 268, 3) := by decide +kernel
theorem dS_click_41 : decode prog_1_method_18_code 41 = .ok (.ifnonnull 5, 3) := by decide +kernel
theorem dS_click_44 : decode prog_1_method_18_code 44 = .ok (.iconst 0, 1) := by decide +kernel
theorem dS_click_45 : decode prog_1_method_18_code 45 = .ok (.ireturn, 1) := by decide +kernel
theorem dS_click_46 : decode prog_1_method_18_code 46 = .ok (.aload_n 0, 1) := by decide +kernel
theorem dS_click_47 : decode prog_1_method_18_code 47 = .ok (.aload_n 0, 1) := by decide +kernel
theorem dS_click_48 : decode prog_1_method_18_code 48 = .ok (.getfield 37, 3) := by decide +kernel
theorem dS_click_51 : decode prog_1_method_18_code 51 = .ok (.iconst 1, 1) := by decide +kernel
theorem dS_click_52 : decode prog_1_method_18_code 52 = .ok (.iadd, 1) := by decide +kernel
theorem dS_click_53 : decode prog_1_method_18_code 53 = .ok (.iconst 0, 1) := by decide +kernel
theorem dS_click_54 : decode prog_1_method_18_code 54 = .ok (.iconst 0, 1) := by decide +kernel
theorem dS_click_55 : decode prog_1_method_18_code 55 = .ok (.invokevirtual 264, 3) := by decide +kernel
theorem dS_click_58 : decode prog_1_method_18_code 58 = .ok (.iconst 1, 1) := by decide +kernel
theorem dS_click_59 : decode prog_1_method_18_code 59 = .ok (.ireturn, 1) := by decide +kernel
theorem dS_slideShown_0 : decode prog_1_method_46_code 0 = .ok (.aload_n 0, 1) := by decide +kernel
theorem dS_slideShown_1 : decode prog_1_method_46_code 1 = .ok (.aload_n 0, 1) := by decide +kernel
theorem dS_slideShown_2 : decode prog_1_method_46_code 2 = .ok (.getfield 37, 3) := by decide +kernel
theorem dS_slideShown_5 : decode prog_1_method_46_code 5 = .ok (.invokevirtual 268, 3) := by decide +kernel
theorem dS_slideShown_8 : decode prog_1_method_46_code 8 = .ok (.areturn, 1) := by decide +kernel
theorem dS_findSlide_0 : decode prog_1_method_45_code 0 = .ok (.iload_n 1, 1) := by decide +kernel
theorem dS_findSlide_1 : decode prog_1_method_45_code 1 = .ok (.ifCond .lt 32, 3) := by decide +kernel
theorem dS_findSlide_4 : decode prog_1_method_45_code 4 = .ok (.iload_n 1, 1) := by decide +kernel
theorem dS_findSlide_5 : decode prog_1_method_45_code 5 = .ok (.aload_n 0, 1) := by decide +kernel
theorem dS_findSlide_6 : decode prog_1_method_45_code 6 = .ok (.getfield 21, 3) := by decide +kernel
theorem dS_findSlide_9 : decode prog_1_method_45_code 9 = .ok (.invokeinterface 71 1, 5) := by decide +kernel
theorem dS_findSlide_14 : decode prog_1_method_45_code 14 = .ok (.if_icmp .ge 19, 3) := by decide +kernel
theorem dS_findSlide_17 : decode prog_1_method_45_code 17 = .ok (.aload_n 0, 1) := by decide +kernel
theorem dS_findSlide_18 : decode prog_1_method_45_code 18 = .ok (.getfield 21, 3) := by decide +kernel
theorem dS_findSlide_21 : decode prog_1_method_45_code 21 = .ok (.iload_n 1, 1) := by decide +kernel
theorem dS_findSlide_22 : decode prog_1_method_45_code 22 = .ok (.invokeinterface 195 2, 5) := by decide +kernel
theorem dS_findSlide_27 : decode prog_1_method_45_code 27 = .ok (.checkcast 82, 3) := by decide +kernel
theorem dS_findSlide_30 : decode prog_1_method_45_code 30 = .ok (.goto 4, 3) := by decide +kernel
theorem dS_findSlide_33 : decode prog_1_method_45_code 33 = .ok (.aconst_null, 1) := by decide +kernel
theorem dS_findSlide_34 : decode prog_1_method_45_code 34 = .ok (.areturn, 1) := by decide +kernel
theorem dS_lastBuild_0 : decode prog_1_method_41_code 0 = .ok (.aload_n 0, 1) := by decide +kernel
theorem dS_lastBuild_1 : decode prog_1_method_41_code 1 = .ok (.invokestatic 213, 3) := by decide +kernel
theorem dS_lastBuild_4 : decode prog_1_method_41_code 4 = .ok (.astore_n 1, 1) := by decide +kernel
theorem dS_lastBuild_5 : decode prog_1_method_41_code 5 = .ok (.aload_n 1, 1) := by decide +kernel
theorem dS_lastBuild_6 : decode prog_1_method_41_code 6 = .ok (.ifnonnull 7, 3) := by decide +kernel
theorem dS_lastBuild_9 : decode prog_1_method_41_code 9 = .ok (.iconst 0, 1) := by decide +kernel
theorem dS_lastBuild_10 : decode prog_1_method_41_code 10 = .ok (.goto 7, 3) := by decide +kernel
theorem dS_lastBuild_13 : decode prog_1_method_41_code 13 = .ok (.aload_n 1, 1) := by decide +kernel
theorem dS_lastBuild_14 : decode prog_1_method_41_code 14 = .ok (.getfield 246, 3) := by decide +kernel
theorem dS_lastBuild_17 : decode prog_1_method_41_code 17 = .ok (.ireturn, 1) := by decide +kernel
theorem dS_lastEffect_0 : decode prog_1_method_40_code 0 = .ok (.aload_n 0, 1) := by decide +kernel
theorem dS_lastEffect_1 : decode prog_1_method_40_code 1 = .ok (.ifnull 15, 3) := by decide +kernel
theorem dS_lastEffect_4 : decode prog_1_method_40_code 4 = .ok (.aload_n 0, 1) := by decide +kernel
theorem dS_lastEffect_5 : decode prog_1_method_40_code 5 = .ok (.getfield 229, 3) := by decide +kernel
theorem dS_lastEffect_8 : decode prog_1_method_40_code 8 = .ok (.invokeinterface 322 1, 5) := by decide +kernel
theorem dS_lastEffect_13 : decode prog_1_method_40_code 13 = .ok (.ifCond .eq 5, 3) := by decide +kernel
theorem dS_lastEffect_16 : decode prog_1_method_40_code 16 = .ok (.aconst_null, 1) := by decide +kernel
theorem dS_lastEffect_17 : decode prog_1_method_40_code 17 = .ok (.areturn, 1) := by decide +kernel
theorem dS_lastEffect_18 : decode prog_1_method_40_code 18 = .ok (.aload_n 0, 1) := by decide +kernel
theorem dS_lastEffect_19 : decode prog_1_method_40_code 19 = .ok (.getfield 229, 3) := by decide +kernel
theorem dS_lastEffect_22 : decode prog_1_method_40_code 22 = .ok (.aload_n 0, 1) := by decide +kernel
theorem dS_lastEffect_23 : decode prog_1_method_40_code 23 = .ok (.getfield 229, 3) := by decide +kernel
theorem dS_lastEffect_26 : decode prog_1_method_40_code 26 = .ok (.invokeinterface 71 1, 5) := by decide +kernel
theorem dS_lastEffect_31 : decode prog_1_method_40_code 31 = .ok (.iconst 1, 1) := by decide +kernel
theorem dS_lastEffect_32 : decode prog_1_method_40_code 32 = .ok (.isub, 1) := by decide +kernel
theorem dS_lastEffect_33 : decode prog_1_method_40_code 33 = .ok (.invokeinterface 195 2, 5) := by decide +kernel
theorem dS_lastEffect_38 : decode prog_1_method_40_code 38 = .ok (.checkcast 224, 3) := by decide +kernel
theorem dS_lastEffect_41 : decode prog_1_method_40_code 41 = .ok (.areturn, 1) := by decide +kernel
theorem dS_show_0 : decode prog_1_method_47_code 0 = .ok (.aload_n 0, 1) := by decide +kernel
theorem dS_show_1 : decode prog_1_method_47_code 1 = .ok (.iload_n 1, 1) := by decide +kernel
theorem dS_show_2 : decode prog_1_method_47_code 2 = .ok (.putfield 37, 3) := by decide +kernel
theorem dS_show_5 : decode prog_1_method_47_code 5 = .ok (.aload_n 0, 1) := by decide +kernel
theorem dS_show_6 : decode prog_1_method_47_code 6 = .ok (.iload_n 2, 1) := by decide +kernel
theorem dS_show_7 : decode prog_1_method_47_code 7 = .ok (.putfield 41, 3) := by decide +kernel
theorem dS_show_10 : decode prog_1_method_47_code 10 = .ok (.aload_n 0, 1) := by decide +kernel
theorem dS_show_11 : decode prog_1_method_47_code 11 = .ok (.iload_n 3, 1) := by decide +kernel
theorem dS_show_12 : decode prog_1_method_47_code 12 = .ok (.putfield 44, 3) := by decide +kernel
theorem dS_show_15 : decode prog_1_method_47_code 15 = .ok (.return_, 1) := by decide +kernel
theorem dS_back_0 : decode prog_1_method_19_code 0 = .ok (.aload_n 0, 1) := by decide +kernel
theorem dS_back_1 : decode prog_1_method_19_code 1 = .ok (.getfield 41, 3) := by decide +kernel
theorem dS_back_4 : decode prog_1_method_19_code 4 = .ok (.ifCond .le 19, 3) := by decide +kernel
theorem dS_back_7 : decode prog_1_method_19_code 7 = .ok (.aload_n 0, 1) := by decide +kernel
theorem dS_back_8 : decode prog_1_method_19_code 8 = .ok (.aload_n 0, 1) := by decide +kernel
theorem dS_back_9 : decode prog_1_method_19_code 9 = .ok (.getfield 37, 3) := by decide +kernel
theorem dS_back_12 : decode prog_1_method_19_code 12 = .ok (.aload_n 0, 1) := by decide +kernel
theorem dS_back_13 : decode prog_1_method_19_code 13 = .ok (.getfield 41, 3) := by decide +kernel
theorem dS_back_16 : decode prog_1_method_19_code 16 = .ok (.iconst 1, 1) := by decide +kernel
theorem dS_back_17 : decode prog_1_method_19_code 17 = .ok (.isub, 1) := by decide +kernel
theorem dS_back_18 : decode prog_1_method_19_code 18 = .ok (.invokevirtual 271, 3) := by decide +kernel
theorem dS_back_21 : decode prog_1_method_19_code 21 = .ok (.iconst 1, 1) := by decide +kernel
theorem dS_back_22 : decode prog_1_method_19_code 22 = .ok (.ireturn, 1) := by decide +kernel
theorem dS_back_23 : decode prog_1_method_19_code 23 = .ok (.aload_n 0, 1) := by decide +kernel
theorem dS_back_24 : decode prog_1_method_19_code 24 = .ok (.aload_n 0, 1) := by decide +kernel
theorem dS_back_25 : decode prog_1_method_19_code 25 = .ok (.getfield 37, 3) := by decide +kernel
theorem dS_back_28 : decode prog_1_method_19_code 28 = .ok (.iconst 1, 1) := by decide +kernel
theorem dS_back_29 : decode prog_1_method_19_code 29 = .ok (.isub, 1) := by decide +kernel
theorem dS_back_30 : decode prog_1_method_19_code 30 = .ok (.invokevirtual 268, 3) := by decide +kernel
theorem dS_back_33 : decode prog_1_method_19_code 33 = .ok (.astore_n 1, 1) := by decide +kernel
theorem dS_back_34 : decode prog_1_method_19_code 34 = .ok (.aload_n 1, 1) := by decide +kernel
theorem dS_back_35 : decode prog_1_method_19_code 35 = .ok (.ifnonnull 5, 3) := by decide +kernel
theorem dS_back_38 : decode prog_1_method_19_code 38 = .ok (.iconst 0, 1) := by decide +kernel
theorem dS_back_39 : decode prog_1_method_19_code 39 = .ok (.ireturn, 1) := by decide +kernel
theorem dS_back_40 : decode prog_1_method_19_code 40 = .ok (.aload_n 0, 1) := by decide +kernel
theorem dS_back_41 : decode prog_1_method_19_code 41 = .ok (.aload_n 0, 1) := by decide +kernel
theorem dS_back_42 : decode prog_1_method_19_code 42 = .ok (.getfield 37, 3) := by decide +kernel
theorem dS_back_45 : decode prog_1_method_19_code 45 = .ok (.iconst 1, 1) := by decide +kernel
theorem dS_back_46 : decode prog_1_method_19_code 46 = .ok (.isub, 1) := by decide +kernel
theorem dS_back_47 : decode prog_1_method_19_code 47 = .ok (.aload_n 1, 1) := by decide +kernel
theorem dS_back_48 : decode prog_1_method_19_code 48 = .ok (.invokestatic 260, 3) := by decide +kernel
theorem dS_back_51 : decode prog_1_method_19_code 51 = .ok (.invokevirtual 271, 3) := by decide +kernel
theorem dS_back_54 : decode prog_1_method_19_code 54 = .ok (.iconst 1, 1) := by decide +kernel
theorem dS_back_55 : decode prog_1_method_19_code 55 = .ok (.ireturn, 1) := by decide +kernel
theorem dS_showEnd_0 : decode prog_1_method_48_code 0 = .ok (.aload_n 0, 1) := by decide +kernel
theorem dS_showEnd_1 : decode prog_1_method_48_code 1 = .ok (.iload_n 1, 1) := by decide +kernel
theorem dS_showEnd_2 : decode prog_1_method_48_code 2 = .ok (.iload_n 2, 1) := by decide +kernel
theorem dS_showEnd_3 : decode prog_1_method_48_code 3 = .ok (.aload_n 0, 1) := by decide +kernel
theorem dS_showEnd_4 : decode prog_1_method_48_code 4 = .ok (.iload_n 1, 1) := by decide +kernel
theorem dS_showEnd_5 : decode prog_1_method_48_code 5 = .ok (.invokevirtual 268, 3) := by decide +kernel
theorem dS_showEnd_8 : decode prog_1_method_48_code 8 = .ok (.iload_n 2, 1) := by decide +kernel
theorem dS_showEnd_9 : decode prog_1_method_48_code 9 = .ok (.invokestatic 285, 3) := by decide +kernel
theorem dS_showEnd_12 : decode prog_1_method_48_code 12 = .ok (.invokevirtual 264, 3) := by decide +kernel
theorem dS_showEnd_15 : decode prog_1_method_48_code 15 = .ok (.return_, 1) := by decide +kernel
theorem dS_lengthOfBuild_0 : decode prog_1_method_44_code 0 = .ok (.aload_n 0, 1) := by decide +kernel
theorem dS_lengthOfBuild_1 : decode prog_1_method_44_code 1 = .ok (.ifnonnull 5, 3) := by decide +kernel
theorem dS_lengthOfBuild_4 : decode prog_1_method_44_code 4 = .ok (.iconst 0, 1) := by decide +kernel
theorem dS_lengthOfBuild_5 : decode prog_1_method_44_code 5 = .ok (.ireturn, 1) := by decide +kernel
theorem dS_lengthOfBuild_6 : decode prog_1_method_44_code 6 = .ok (.iconst 0, 1) := by decide +kernel
theorem dS_lengthOfBuild_7 : decode prog_1_method_44_code 7 = .ok (.istore_n 2, 1) := by decide +kernel
theorem dS_lengthOfBuild_8 : decode prog_1_method_44_code 8 = .ok (.iconst 0, 1) := by decide +kernel
theorem dS_lengthOfBuild_9 : decode prog_1_method_44_code 9 = .ok (.istore_n 3, 1) := by decide +kernel
theorem dS_lengthOfBuild_10 : decode prog_1_method_44_code 10 = .ok (.iload_n 3, 1) := by decide +kernel
theorem dS_lengthOfBuild_11 : decode prog_1_method_44_code 11 = .ok (.aload_n 0, 1) := by decide +kernel
theorem dS_lengthOfBuild_12 : decode prog_1_method_44_code 12 = .ok (.getfield 229, 3) := by decide +kernel
theorem dS_lengthOfBuild_15 : decode prog_1_method_44_code 15 = .ok (.invokeinterface 71 1, 5) := by decide +kernel
theorem dS_lengthOfBuild_20 : decode prog_1_method_44_code 20 = .ok (.if_icmp .ge 43, 3) := by decide +kernel
theorem dS_lengthOfBuild_23 : decode prog_1_method_44_code 23 = .ok (.aload_n 0, 1) := by decide +kernel
theorem dS_lengthOfBuild_24 : decode prog_1_method_44_code 24 = .ok (.getfield 229, 3) := by decide +kernel
theorem dS_lengthOfBuild_27 : decode prog_1_method_44_code 27 = .ok (.iload_n 3, 1) := by decide +kernel
theorem dS_lengthOfBuild_28 : decode prog_1_method_44_code 28 = .ok (.invokeinterface 195 2, 5) := by decide +kernel
theorem dS_lengthOfBuild_33 : decode prog_1_method_44_code 33 = .ok (.checkcast 224, 3) := by decide +kernel
theorem dS_lengthOfBuild_36 : decode prog_1_method_44_code 36 = .ok (.astore 4, 2) := by decide +kernel
theorem dS_lengthOfBuild_38 : decode prog_1_method_44_code 38 = .ok (.aload 4, 2) := by decide +kernel
theorem dS_lengthOfBuild_40 : decode prog_1_method_44_code 40 = .ok (.getfield 246, 3) := by decide +kernel
theorem dS_lengthOfBuild_43 : decode prog_1_method_44_code 43 = .ok (.iload_n 1, 1) := by decide +kernel
theorem dS_lengthOfBuild_44 : decode prog_1_method_44_code 44 = .ok (.if_icmp .ne 13, 3) := by decide +kernel
theorem dS_lengthOfBuild_47 : decode prog_1_method_44_code 47 = .ok (.iload_n 2, 1) := by decide +kernel
theorem dS_lengthOfBuild_48 : decode prog_1_method_44_code 48 = .ok (.aload 4, 2) := by decide +kernel
theorem dS_lengthOfBuild_50 : decode prog_1_method_44_code 50 = .ok (.getfield 243, 3) := by decide +kernel
theorem dS_lengthOfBuild_53 : decode prog_1_method_44_code 53 = .ok (.invokestatic 329, 3) := by decide +kernel
theorem dS_lengthOfBuild_56 : decode prog_1_method_44_code 56 = .ok (.istore_n 2, 1) := by decide +kernel
theorem dS_lengthOfBuild_57 : decode prog_1_method_44_code 57 = .ok (.iinc 3 1, 3) := by decide +kernel
theorem dS_lengthOfBuild_60 : decode prog_1_method_44_code 60 = .ok (.goto (-50), 3) := by decide +kernel
theorem dS_lengthOfBuild_63 : decode prog_1_method_44_code 63 = .ok (.iload_n 2, 1) := by decide +kernel
theorem dS_lengthOfBuild_64 : decode prog_1_method_44_code 64 = .ok (.ireturn, 1) := by decide +kernel
theorem dS_state_0 : decode prog_1_method_22_code 0 = .ok (.iload_n 1, 1) := by decide +kernel
theorem dS_state_1 : decode prog_1_method_22_code 1 = .ok (.tableswitch 70 0 4 #[35, 40, 45, 50, 58], 35) := by decide +kernel
theorem dS_state_36 : decode prog_1_method_22_code 36 = .ok (.aload_n 0, 1) := by decide +kernel
theorem dS_state_37 : decode prog_1_method_22_code 37 = .ok (.getfield 37, 3) := by decide +kernel
theorem dS_state_40 : decode prog_1_method_22_code 40 = .ok (.ireturn, 1) := by decide +kernel
theorem dS_state_41 : decode prog_1_method_22_code 41 = .ok (.aload_n 0, 1) := by decide +kernel
theorem dS_state_42 : decode prog_1_method_22_code 42 = .ok (.getfield 41, 3) := by decide +kernel
theorem dS_state_45 : decode prog_1_method_22_code 45 = .ok (.ireturn, 1) := by decide +kernel
theorem dS_state_46 : decode prog_1_method_22_code 46 = .ok (.aload_n 0, 1) := by decide +kernel
theorem dS_state_47 : decode prog_1_method_22_code 47 = .ok (.getfield 44, 3) := by decide +kernel
theorem dS_state_50 : decode prog_1_method_22_code 50 = .ok (.ireturn, 1) := by decide +kernel
theorem dS_state_51 : decode prog_1_method_22_code 51 = .ok (.aload_n 0, 1) := by decide +kernel
theorem dS_state_52 : decode prog_1_method_22_code 52 = .ok (.invokevirtual 252, 3) := by decide +kernel
theorem dS_state_55 : decode prog_1_method_22_code 55 = .ok (.invokestatic 260, 3) := by decide +kernel
theorem dS_state_58 : decode prog_1_method_22_code 58 = .ok (.ireturn, 1) := by decide +kernel
theorem dS_state_59 : decode prog_1_method_22_code 59 = .ok (.aload_n 0, 1) := by decide +kernel
theorem dS_state_60 : decode prog_1_method_22_code 60 = .ok (.invokevirtual 252, 3) := by decide +kernel
theorem dS_state_63 : decode prog_1_method_22_code 63 = .ok (.aload_n 0, 1) := by decide +kernel
theorem dS_state_64 : decode prog_1_method_22_code 64 = .ok (.getfield 41, 3) := by decide +kernel
theorem dS_state_67 : decode prog_1_method_22_code 67 = .ok (.invokestatic 285, 3) := by decide +kernel
theorem dS_state_70 : decode prog_1_method_22_code 70 = .ok (.ireturn, 1) := by decide +kernel
theorem dS_state_71 : decode prog_1_method_22_code 71 = .ok (.iconst (-1), 1) := by decide +kernel
theorem dS_state_72 : decode prog_1_method_22_code 72 = .ok (.ireturn, 1) := by decide +kernel
theorem dS_pixel_0 : decode prog_1_method_24_code 0 = .ok (.iload_n 1, 1) := by decide +kernel
theorem dS_pixel_1 : decode prog_1_method_24_code 1 = .ok (.iconst 0, 1) := by decide +kernel
theorem dS_pixel_2 : decode prog_1_method_24_code 2 = .ok (.bipush 23, 2) := by decide +kernel
theorem dS_pixel_4 : decode prog_1_method_24_code 4 = .ok (.invokestatic 47, 3) := by decide +kernel
theorem dS_pixel_7 : decode prog_1_method_24_code 7 = .ok (.ifCond .eq 13, 3) := by decide +kernel
theorem dS_pixel_10 : decode prog_1_method_24_code 10 = .ok (.iload_n 2, 1) := by decide +kernel
theorem dS_pixel_11 : decode prog_1_method_24_code 11 = .ok (.iconst 0, 1) := by decide +kernel
theorem dS_pixel_12 : decode prog_1_method_24_code 12 = .ok (.bipush 15, 2) := by decide +kernel
theorem dS_pixel_14 : decode prog_1_method_24_code 14 = .ok (.invokestatic 47, 3) := by decide +kernel
theorem dS_pixel_17 : decode prog_1_method_24_code 17 = .ok (.ifCond .ne 5, 3) := by decide +kernel
theorem dS_pixel_20 : decode prog_1_method_24_code 20 = .ok (.iconst (-1), 1) := by decide +kernel
theorem dS_pixel_21 : decode prog_1_method_24_code 21 = .ok (.ireturn, 1) := by decide +kernel
theorem dS_pixel_22 : decode prog_1_method_24_code 22 = .ok (.ldc_w 292, 3) := by decide +kernel
theorem dS_pixel_25 : decode prog_1_method_24_code 25 = .ok (.istore_n 3, 1) := by decide +kernel
theorem dS_pixel_26 : decode prog_1_method_24_code 26 = .ok (.iconst 0, 1) := by decide +kernel
theorem dS_pixel_27 : decode prog_1_method_24_code 27 = .ok (.istore 4, 2) := by decide +kernel
theorem dS_pixel_29 : decode prog_1_method_24_code 29 = .ok (.iload 4, 2) := by decide +kernel
theorem dS_pixel_31 : decode prog_1_method_24_code 31 = .ok (.iconst 2, 1) := by decide +kernel
theorem dS_pixel_32 : decode prog_1_method_24_code 32 = .ok (.if_icmp .gt 26, 3) := by decide +kernel
theorem dS_pixel_35 : decode prog_1_method_24_code 35 = .ok (.aload_n 0, 1) := by decide +kernel
theorem dS_pixel_36 : decode prog_1_method_24_code 36 = .ok (.aload_n 0, 1) := by decide +kernel
theorem dS_pixel_37 : decode prog_1_method_24_code 37 = .ok (.invokevirtual 252, 3) := by decide +kernel
theorem dS_pixel_40 : decode prog_1_method_24_code 40 = .ok (.iload 4, 2) := by decide +kernel
theorem dS_pixel_42 : decode prog_1_method_24_code 42 = .ok (.invokestatic 293, 3) := by decide +kernel
theorem dS_pixel_45 : decode prog_1_method_24_code 45 = .ok (.iload_n 1, 1) := by decide +kernel
theorem dS_pixel_46 : decode prog_1_method_24_code 46 = .ok (.iload_n 2, 1) := by decide +kernel
theorem dS_pixel_47 : decode prog_1_method_24_code 47 = .ok (.iload_n 3, 1) := by decide +kernel
theorem dS_pixel_48 : decode prog_1_method_24_code 48 = .ok (.invokevirtual 297, 3) := by decide +kernel
theorem dS_pixel_51 : decode prog_1_method_24_code 51 = .ok (.istore_n 3, 1) := by decide +kernel
theorem dS_pixel_52 : decode prog_1_method_24_code 52 = .ok (.iinc 4 1, 3) := by decide +kernel
theorem dS_pixel_55 : decode prog_1_method_24_code 55 = .ok (.goto (-26), 3) := by decide +kernel
theorem dS_pixel_58 : decode prog_1_method_24_code 58 = .ok (.iload_n 3, 1) := by decide +kernel
theorem dS_pixel_59 : decode prog_1_method_24_code 59 = .ok (.ireturn, 1) := by decide +kernel
theorem dS_isWithin_0 : decode prog_1_method_25_code 0 = .ok (.iload_n 0, 1) := by decide +kernel
theorem dS_isWithin_1 : decode prog_1_method_25_code 1 = .ok (.iload_n 1, 1) := by decide +kernel
theorem dS_isWithin_2 : decode prog_1_method_25_code 2 = .ok (.if_icmp .lt 12, 3) := by decide +kernel
theorem dS_isWithin_5 : decode prog_1_method_25_code 5 = .ok (.iload_n 0, 1) := by decide +kernel
theorem dS_isWithin_6 : decode prog_1_method_25_code 6 = .ok (.iload_n 2, 1) := by decide +kernel
theorem dS_isWithin_7 : decode prog_1_method_25_code 7 = .ok (.if_icmp .gt 7, 3) := by decide +kernel
theorem dS_isWithin_10 : decode prog_1_method_25_code 10 = .ok (.iconst 1, 1) := by decide +kernel
theorem dS_isWithin_11 : decode prog_1_method_25_code 11 = .ok (.goto 4, 3) := by decide +kernel
theorem dS_isWithin_14 : decode prog_1_method_25_code 14 = .ok (.iconst 0, 1) := by decide +kernel
theorem dS_isWithin_15 : decode prog_1_method_25_code 15 = .ok (.ireturn, 1) := by decide +kernel
theorem dS_pageUnder_0 : decode prog_1_method_55_code 0 = .ok (.aload_n 0, 1) := by decide +kernel
theorem dS_pageUnder_1 : decode prog_1_method_55_code 1 = .ok (.astore_n 2, 1) := by decide +kernel
theorem dS_pageUnder_2 : decode prog_1_method_55_code 2 = .ok (.aload_n 2, 1) := by decide +kernel
theorem dS_pageUnder_3 : decode prog_1_method_55_code 3 = .ok (.ifnull 19, 3) := by decide +kernel
theorem dS_pageUnder_6 : decode prog_1_method_55_code 6 = .ok (.aload_n 2, 1) := by decide +kernel
theorem dS_pageUnder_7 : decode prog_1_method_55_code 7 = .ok (.getfield 206, 3) := by decide +kernel
theorem dS_pageUnder_10 : decode prog_1_method_55_code 10 = .ok (.iload_n 1, 1) := by decide +kernel
theorem dS_pageUnder_11 : decode prog_1_method_55_code 11 = .ok (.if_icmp .le 11, 3) := by decide +kernel
theorem dS_pageUnder_14 : decode prog_1_method_55_code 14 = .ok (.aload_n 2, 1) := by decide +kernel
theorem dS_pageUnder_15 : decode prog_1_method_55_code 15 = .ok (.getfield 154, 3) := by decide +kernel
theorem dS_pageUnder_18 : decode prog_1_method_55_code 18 = .ok (.astore_n 2, 1) := by decide +kernel
theorem dS_pageUnder_19 : decode prog_1_method_55_code 19 = .ok (.goto (-17), 3) := by decide +kernel
theorem dS_pageUnder_22 : decode prog_1_method_55_code 22 = .ok (.aload_n 2, 1) := by decide +kernel
theorem dS_pageUnder_23 : decode prog_1_method_55_code 23 = .ok (.areturn, 1) := by decide +kernel
theorem dS_paintPage_0 : decode prog_1_method_56_code 0 = .ok (.aload_n 1, 1) := by decide +kernel
theorem dS_paintPage_1 : decode prog_1_method_56_code 1 = .ok (.ifnonnull 6, 3) := by decide +kernel
theorem dS_paintPage_4 : decode prog_1_method_56_code 4 = .ok (.iload 4, 2) := by decide +kernel
theorem dS_paintPage_6 : decode prog_1_method_56_code 6 = .ok (.ireturn, 1) := by decide +kernel
theorem dS_paintPage_7 : decode prog_1_method_56_code 7 = .ok (.iload 4, 2) := by decide +kernel
theorem dS_paintPage_9 : decode prog_1_method_56_code 9 = .ok (.istore 5, 2) := by decide +kernel
theorem dS_paintPage_11 : decode prog_1_method_56_code 11 = .ok (.iconst 0, 1) := by decide +kernel
theorem dS_paintPage_12 : decode prog_1_method_56_code 12 = .ok (.istore 6, 2) := by decide +kernel
theorem dS_paintPage_14 : decode prog_1_method_56_code 14 = .ok (.iload 6, 2) := by decide +kernel
theorem dS_paintPage_16 : decode prog_1_method_56_code 16 = .ok (.aload_n 1, 1) := by decide +kernel
theorem dS_paintPage_17 : decode prog_1_method_56_code 17 = .ok (.getfield 115, 3) := by decide +kernel
theorem dS_paintPage_20 : decode prog_1_method_56_code 20 = .ok (.invokeinterface 71 1, 5) := by decide +kernel
theorem dS_paintPage_25 : decode prog_1_method_56_code 25 = .ok (.if_icmp .ge 117, 3) := by decide +kernel
theorem dS_paintPage_28 : decode prog_1_method_56_code 28 = .ok (.aload_n 1, 1) := by decide +kernel
theorem dS_paintPage_29 : decode prog_1_method_56_code 29 = .ok (.getfield 115, 3) := by decide +kernel
theorem dS_paintPage_32 : decode prog_1_method_56_code 32 = .ok (.iload 6, 2) := by decide +kernel
theorem dS_paintPage_34 : decode prog_1_method_56_code 34 = .ok (.invokeinterface 195 2, 5) := by decide +kernel
theorem dS_paintPage_39 : decode prog_1_method_56_code 39 = .ok (.checkcast 110, 3) := by decide +kernel
theorem dS_paintPage_42 : decode prog_1_method_56_code 42 = .ok (.astore 7, 2) := by decide +kernel
theorem dS_paintPage_44 : decode prog_1_method_56_code 44 = .ok (.aload_n 1, 1) := by decide +kernel
theorem dS_paintPage_45 : decode prog_1_method_56_code 45 = .ok (.getfield 206, 3) := by decide +kernel
theorem dS_paintPage_48 : decode prog_1_method_56_code 48 = .ok (.iconst 2, 1) := by decide +kernel
theorem dS_paintPage_49 : decode prog_1_method_56_code 49 = .ok (.if_icmp .eq 12, 3) := by decide +kernel
theorem dS_paintPage_52 : decode prog_1_method_56_code 52 = .ok (.aload 7, 2) := by decide +kernel
theorem dS_paintPage_54 : decode prog_1_method_56_code 54 = .ok (.getfield 157, 3) := by decide +kernel
theorem dS_paintPage_57 : decode prog_1_method_56_code 57 = .ok (.iconst (-1), 1) := by decide +kernel
theorem dS_paintPage_58 : decode prog_1_method_56_code 58 = .ok (.if_icmp .ne 7, 3) := by decide +kernel
theorem dS_paintPage_61 : decode prog_1_method_56_code 61 = .ok (.iconst 1, 1) := by decide +kernel
theorem dS_paintPage_62 : decode prog_1_method_56_code 62 = .ok (.goto 4, 3) := by decide +kernel
theorem dS_paintPage_65 : decode prog_1_method_56_code 65 = .ok (.iconst 0, 1) := by decide +kernel
theorem dS_paintPage_66 : decode prog_1_method_56_code 66 = .ok (.istore 8, 2) := by decide +kernel
theorem dS_paintPage_68 : decode prog_1_method_56_code 68 = .ok (.iload 8, 2) := by decide +kernel
theorem dS_paintPage_70 : decode prog_1_method_56_code 70 = .ok (.ifCond .eq 66, 3) := by decide +kernel
theorem dS_paintPage_73 : decode prog_1_method_56_code 73 = .ok (.aload_n 0, 1) := by decide +kernel
theorem dS_paintPage_74 : decode prog_1_method_56_code 74 = .ok (.aload 7, 2) := by decide +kernel
theorem dS_paintPage_76 : decode prog_1_method_56_code 76 = .ok (.iconst 0, 1) := by decide +kernel
theorem dS_paintPage_77 : decode prog_1_method_56_code 77 = .ok (.invokevirtual 289, 3) := by decide +kernel
theorem dS_paintPage_80 : decode prog_1_method_56_code 80 = .ok (.aload_n 0, 1) := by decide +kernel
theorem dS_paintPage_81 : decode prog_1_method_56_code 81 = .ok (.aload 7, 2) := by decide +kernel
theorem dS_paintPage_83 : decode prog_1_method_56_code 83 = .ok (.iconst 2, 1) := by decide +kernel
theorem dS_paintPage_84 : decode prog_1_method_56_code 84 = .ok (.invokevirtual 138, 3) := by decide +kernel
theorem dS_paintPage_87 : decode prog_1_method_56_code 87 = .ok (.iload_n 2, 1) := by decide +kernel
theorem dS_paintPage_88 : decode prog_1_method_56_code 88 = .ok (.invokestatic 349, 3) := by decide +kernel
theorem dS_paintPage_91 : decode prog_1_method_56_code 91 = .ok (.ifCond .eq 45, 3) := by decide +kernel
theorem dS_paintPage_94 : decode prog_1_method_56_code 94 = .ok (.aload_n 0, 1) := by decide +kernel
theorem dS_paintPage_95 : decode prog_1_method_56_code 95 = .ok (.aload 7, 2) := by decide +kernel
theorem dS_paintPage_97 : decode prog_1_method_56_code 97 = .ok (.iconst 1, 1) := by decide +kernel
theorem dS_paintPage_98 : decode prog_1_method_56_code 98 = .ok (.invokevirtual 289, 3) := by decide +kernel
theorem dS_paintPage_101 : decode prog_1_method_56_code 101 = .ok (.aload_n 0, 1) := by decide +kernel
theorem dS_paintPage_102 : decode prog_1_method_56_code 102 = .ok (.aload 7, 2) := by decide +kernel
theorem dS_paintPage_104 : decode prog_1_method_56_code 104 = .ok (.iconst 3, 1) := by decide +kernel
theorem dS_paintPage_105 : decode prog_1_method_56_code 105 = .ok (.invokevirtual 138, 3) := by decide +kernel
theorem dS_paintPage_108 : decode prog_1_method_56_code 108 = .ok (.iload_n 3, 1) := by decide +kernel
theorem dS_paintPage_109 : decode prog_1_method_56_code 109 = .ok (.invokestatic 349, 3) := by decide +kernel
theorem dS_paintPage_112 : decode prog_1_method_56_code 112 = .ok (.ifCond .eq 24, 3) := by decide +kernel
theorem dS_paintPage_115 : decode prog_1_method_56_code 115 = .ok (.aload_n 0, 1) := by decide +kernel
theorem dS_paintPage_116 : decode prog_1_method_56_code 116 = .ok (.aload 7, 2) := by decide +kernel
theorem dS_paintPage_118 : decode prog_1_method_56_code 118 = .ok (.iconst 4, 1) := by decide +kernel
theorem dS_paintPage_119 : decode prog_1_method_56_code 119 = .ok (.invokevirtual 138, 3) := by decide +kernel
theorem dS_paintPage_122 : decode prog_1_method_56_code 122 = .ok (.iload 5, 2) := by decide +kernel
theorem dS_paintPage_124 : decode prog_1_method_56_code 124 = .ok (.aload_n 0, 1) := by decide +kernel
theorem dS_paintPage_125 : decode prog_1_method_56_code 125 = .ok (.aload 7, 2) := by decide +kernel
theorem dS_paintPage_127 : decode prog_1_method_56_code 127 = .ok (.iconst 5, 1) := by decide +kernel
theorem dS_paintPage_128 : decode prog_1_method_56_code 128 = .ok (.invokevirtual 289, 3) := by decide +kernel
theorem dS_paintPage_131 : decode prog_1_method_56_code 131 = .ok (.invokestatic 352, 3) := by decide +kernel
theorem dS_paintPage_134 : decode prog_1_method_56_code 134 = .ok (.istore 5, 2) := by decide +kernel
theorem dS_paintPage_136 : decode prog_1_method_56_code 136 = .ok (.iinc 6 1, 3) := by decide +kernel
theorem dS_paintPage_139 : decode prog_1_method_56_code 139 = .ok (.goto (-125), 3) := by decide +kernel
theorem dS_paintPage_142 : decode prog_1_method_56_code 142 = .ok (.iload 5, 2) := by decide +kernel
theorem dS_paintPage_144 : decode prog_1_method_56_code 144 = .ok (.ireturn, 1) := by decide +kernel
theorem dS_valueNow_0 : decode prog_1_method_51_code 0 = .ok (.aload_n 0, 1) := by decide +kernel
theorem dS_valueNow_1 : decode prog_1_method_51_code 1 = .ok (.aload_n 1, 1) := by decide +kernel
theorem dS_valueNow_2 : decode prog_1_method_51_code 2 = .ok (.iload_n 2, 1) := by decide +kernel
theorem dS_valueNow_3 : decode prog_1_method_51_code 3 = .ok (.invokevirtual 138, 3) := by decide +kernel
theorem dS_valueNow_6 : decode prog_1_method_51_code 6 = .ok (.istore_n 3, 1) := by decide +kernel
theorem dS_valueNow_7 : decode prog_1_method_51_code 7 = .ok (.aload_n 1, 1) := by decide +kernel
theorem dS_valueNow_8 : decode prog_1_method_51_code 8 = .ok (.getfield 150, 3) := by decide +kernel
theorem dS_valueNow_11 : decode prog_1_method_51_code 11 = .ok (.aload_n 0, 1) := by decide +kernel
theorem dS_valueNow_12 : decode prog_1_method_51_code 12 = .ok (.invokevirtual 252, 3) := by decide +kernel
theorem dS_valueNow_15 : decode prog_1_method_51_code 15 = .ok (.if_acmp .eq 5, 3) := by decide +kernel
theorem dS_valueNow_18 : decode prog_1_method_51_code 18 = .ok (.iload_n 3, 1) := by decide +kernel
theorem dS_valueNow_19 : decode prog_1_method_51_code 19 = .ok (.ireturn, 1) := by decide +kernel
theorem dS_valueNow_20 : decode prog_1_method_51_code 20 = .ok (.iload_n 2, 1) := by decide +kernel
theorem dS_valueNow_21 : decode prog_1_method_51_code 21 = .ok (.lookupswitch 60 #[(0, 35), (1, 44), (5, 53)], 35) := by decide +kernel
theorem dS_valueNow_56 : decode prog_1_method_51_code 56 = .ok (.iload_n 3, 1) := by decide +kernel
theorem dS_valueNow_57 : decode prog_1_method_51_code 57 = .ok (.aload_n 0, 1) := by decide +kernel
theorem dS_valueNow_58 : decode prog_1_method_51_code 58 = .ok (.aload_n 1, 1) := by decide +kernel
theorem dS_valueNow_59 : decode prog_1_method_51_code 59 = .ok (.iconst 2, 1) := by decide +kernel
theorem dS_valueNow_60 : decode prog_1_method_51_code 60 = .ok (.invokevirtual 335, 3) := by decide +kernel
theorem dS_valueNow_63 : decode prog_1_method_51_code 63 = .ok (.iadd, 1) := by decide +kernel
theorem dS_valueNow_64 : decode prog_1_method_51_code 64 = .ok (.ireturn, 1) := by decide +kernel
theorem dS_valueNow_65 : decode prog_1_method_51_code 65 = .ok (.iload_n 3, 1) := by decide +kernel
theorem dS_valueNow_66 : decode prog_1_method_51_code 66 = .ok (.aload_n 0, 1) := by decide +kernel
theorem dS_valueNow_67 : decode prog_1_method_51_code 67 = .ok (.aload_n 1, 1) := by decide +kernel
theorem dS_valueNow_68 : decode prog_1_method_51_code 68 = .ok (.iconst 3, 1) := by decide +kernel
theorem dS_valueNow_69 : decode prog_1_method_51_code 69 = .ok (.invokevirtual 335, 3) := by decide +kernel
theorem dS_valueNow_72 : decode prog_1_method_51_code 72 = .ok (.iadd, 1) := by decide +kernel
theorem dS_valueNow_73 : decode prog_1_method_51_code 73 = .ok (.ireturn, 1) := by decide +kernel
theorem dS_valueNow_74 : decode prog_1_method_51_code 74 = .ok (.aload_n 0, 1) := by decide +kernel
theorem dS_valueNow_75 : decode prog_1_method_51_code 75 = .ok (.aload_n 1, 1) := by decide +kernel
theorem dS_valueNow_76 : decode prog_1_method_51_code 76 = .ok (.iload_n 3, 1) := by decide +kernel
theorem dS_valueNow_77 : decode prog_1_method_51_code 77 = .ok (.invokevirtual 338, 3) := by decide +kernel
theorem dS_valueNow_80 : decode prog_1_method_51_code 80 = .ok (.ireturn, 1) := by decide +kernel
theorem dS_valueNow_81 : decode prog_1_method_51_code 81 = .ok (.iload_n 3, 1) := by decide +kernel
theorem dS_valueNow_82 : decode prog_1_method_51_code 82 = .ok (.ireturn, 1) := by decide +kernel
theorem dS_resolve_0 : decode prog_1_method_36_code 0 = .ok (.aload_n 1, 1) := by decide +kernel
theorem dS_resolve_1 : decode prog_1_method_36_code 1 = .ok (.iload_n 2, 1) := by decide +kernel
theorem dS_resolve_2 : decode prog_1_method_36_code 2 = .ok (.invokestatic 142, 3) := by decide +kernel
theorem dS_resolve_5 : decode prog_1_method_36_code 5 = .ok (.astore_n 3, 1) := by decide +kernel
theorem dS_resolve_6 : decode prog_1_method_36_code 6 = .ok (.aload_n 3, 1) := by decide +kernel
theorem dS_resolve_7 : decode prog_1_method_36_code 7 = .ok (.ifnonnull 12, 3) := by decide +kernel
theorem dS_resolve_10 : decode prog_1_method_36_code 10 = .ok (.aload_n 0, 1) := by decide +kernel
theorem dS_resolve_11 : decode prog_1_method_36_code 11 = .ok (.getfield 10, 3) := by decide +kernel
theorem dS_resolve_14 : decode prog_1_method_36_code 14 = .ok (.iload_n 2, 1) := by decide +kernel
theorem dS_resolve_15 : decode prog_1_method_36_code 15 = .ok (.iaload, 1) := by decide +kernel
theorem dS_resolve_16 : decode prog_1_method_36_code 16 = .ok (.goto 9, 3) := by decide +kernel
theorem dS_resolve_19 : decode prog_1_method_36_code 19 = .ok (.aload_n 3, 1) := by decide +kernel
theorem dS_resolve_20 : decode prog_1_method_36_code 20 = .ok (.getfield 131, 3) := by decide +kernel
theorem dS_resolve_23 : decode prog_1_method_36_code 23 = .ok (.iload_n 2, 1) := by decide +kernel
theorem dS_resolve_24 : decode prog_1_method_36_code 24 = .ok (.iaload, 1) := by decide +kernel
theorem dS_resolve_25 : decode prog_1_method_36_code 25 = .ok (.ireturn, 1) := by decide +kernel
theorem dS_source_0 : decode prog_1_method_35_code 0 = .ok (.aload_n 0, 1) := by decide +kernel
theorem dS_source_1 : decode prog_1_method_35_code 1 = .ok (.getfield 127, 3) := by decide +kernel
theorem dS_source_4 : decode prog_1_method_35_code 4 = .ok (.iload_n 1, 1) := by decide +kernel
theorem dS_source_5 : decode prog_1_method_35_code 5 = .ok (.baload, 1) := by decide +kernel
theorem dS_source_6 : decode prog_1_method_35_code 6 = .ok (.ifCond .eq 5, 3) := by decide +kernel
theorem dS_source_9 : decode prog_1_method_35_code 9 = .ok (.aload_n 0, 1) := by decide +kernel
theorem dS_source_10 : decode prog_1_method_35_code 10 = .ok (.areturn, 1) := by decide +kernel
theorem dS_source_11 : decode prog_1_method_35_code 11 = .ok (.aload_n 0, 1) := by decide +kernel
theorem dS_source_12 : decode prog_1_method_35_code 12 = .ok (.getfield 150, 3) := by decide +kernel
theorem dS_source_15 : decode prog_1_method_35_code 15 = .ok (.getfield 154, 3) := by decide +kernel
theorem dS_source_18 : decode prog_1_method_35_code 18 = .ok (.astore_n 2, 1) := by decide +kernel
theorem dS_source_19 : decode prog_1_method_35_code 19 = .ok (.aload_n 2, 1) := by decide +kernel
theorem dS_source_20 : decode prog_1_method_35_code 20 = .ok (.ifnull 35, 3) := by decide +kernel
theorem dS_source_23 : decode prog_1_method_35_code 23 = .ok (.aload_n 2, 1) := by decide +kernel
theorem dS_source_24 : decode prog_1_method_35_code 24 = .ok (.aload_n 0, 1) := by decide +kernel
theorem dS_source_25 : decode prog_1_method_35_code 25 = .ok (.getfield 157, 3) := by decide +kernel
theorem dS_source_28 : decode prog_1_method_35_code 28 = .ok (.invokestatic 99, 3) := by decide +kernel
theorem dS_source_31 : decode prog_1_method_35_code 31 = .ok (.astore_n 3, 1) := by decide +kernel
theorem dS_source_32 : decode prog_1_method_35_code 32 = .ok (.aload_n 3, 1) := by decide +kernel
theorem dS_source_33 : decode prog_1_method_35_code 33 = .ok (.ifnull 14, 3) := by decide +kernel
theorem dS_source_36 : decode prog_1_method_35_code 36 = .ok (.aload_n 3, 1) := by decide +kernel
theorem dS_source_37 : decode prog_1_method_35_code 37 = .ok (.getfield 127, 3) := by decide +kernel
theorem dS_source_40 : decode prog_1_method_35_code 40 = .ok (.iload_n 1, 1) := by decide +kernel
theorem dS_source_41 : decode prog_1_method_35_code 41 = .ok (.baload, 1) := by decide +kernel
theorem dS_source_42 : decode prog_1_method_35_code 42 = .ok (.ifCond .eq 5, 3) := by decide +kernel
theorem dS_source_45 : decode prog_1_method_35_code 45 = .ok (.aload_n 3, 1) := by decide +kernel
theorem dS_source_46 : decode prog_1_method_35_code 46 = .ok (.areturn, 1) := by decide +kernel
theorem dS_source_47 : decode prog_1_method_35_code 47 = .ok (.aload_n 2, 1) := by decide +kernel
theorem dS_source_48 : decode prog_1_method_35_code 48 = .ok (.getfield 154, 3) := by decide +kernel
theorem dS_source_51 : decode prog_1_method_35_code 51 = .ok (.astore_n 2, 1) := by decide +kernel
theorem dS_source_52 : decode prog_1_method_35_code 52 = .ok (.goto (-33), 3) := by decide +kernel
theorem dS_source_55 : decode prog_1_method_35_code 55 = .ok (.aconst_null, 1) := by decide +kernel
theorem dS_source_56 : decode prog_1_method_35_code 56 = .ok (.areturn, 1) := by decide +kernel
theorem dS_shapeInSlot_0 : decode prog_1_method_33_code 0 = .ok (.aload_n 0, 1) := by decide +kernel
theorem dS_shapeInSlot_1 : decode prog_1_method_33_code 1 = .ok (.ifnull 8, 3) := by decide +kernel
theorem dS_shapeInSlot_4 : decode prog_1_method_33_code 4 = .ok (.iload_n 1, 1) := by decide +kernel
theorem dS_shapeInSlot_5 : decode prog_1_method_33_code 5 = .ok (.iconst (-1), 1) := by decide +kernel
theorem dS_shapeInSlot_6 : decode prog_1_method_33_code 6 = .ok (.if_icmp .ne 5, 3) := by decide +kernel
theorem dS_shapeInSlot_9 : decode prog_1_method_33_code 9 = .ok (.aconst_null, 1) := by decide +kernel
theorem dS_shapeInSlot_10 : decode prog_1_method_33_code 10 = .ok (.areturn, 1) := by decide +kernel
theorem dS_shapeInSlot_11 : decode prog_1_method_33_code 11 = .ok (.iconst 0, 1) := by decide +kernel
theorem dS_shapeInSlot_12 : decode prog_1_method_33_code 12 = .ok (.istore_n 2, 1) := by decide +kernel
theorem dS_shapeInSlot_13 : decode prog_1_method_33_code 13 = .ok (.iload_n 2, 1) := by decide +kernel
theorem dS_shapeInSlot_14 : decode prog_1_method_33_code 14 = .ok (.aload_n 0, 1) := by decide +kernel
theorem dS_shapeInSlot_15 : decode prog_1_method_33_code 15 = .ok (.getfield 115, 3) := by decide +kernel
theorem dS_shapeInSlot_18 : decode prog_1_method_33_code 18 = .ok (.invokeinterface 71 1, 5) := by decide +kernel
theorem dS_shapeInSlot_23 : decode prog_1_method_33_code 23 = .ok (.if_icmp .ge 43, 3) := by decide +kernel
theorem dS_shapeInSlot_26 : decode prog_1_method_33_code 26 = .ok (.aload_n 0, 1) := by decide +kernel
theorem dS_shapeInSlot_27 : decode prog_1_method_33_code 27 = .ok (.getfield 115, 3) := by decide +kernel
theorem dS_shapeInSlot_30 : decode prog_1_method_33_code 30 = .ok (.iload_n 2, 1) := by decide +kernel
theorem dS_shapeInSlot_31 : decode prog_1_method_33_code 31 = .ok (.invokeinterface 195 2, 5) := by decide +kernel
theorem dS_shapeInSlot_36 : decode prog_1_method_33_code 36 = .ok (.checkcast 110, 3) := by decide +kernel
theorem dS_shapeInSlot_39 : decode prog_1_method_33_code 39 = .ok (.getfield 157, 3) := by decide +kernel
theorem dS_shapeInSlot_42 : decode prog_1_method_33_code 42 = .ok (.iload_n 1, 1) := by decide +kernel
theorem dS_shapeInSlot_43 : decode prog_1_method_33_code 43 = .ok (.if_icmp .ne 17, 3) := by decide +kernel
theorem dS_shapeInSlot_46 : decode prog_1_method_33_code 46 = .ok (.aload_n 0, 1) := by decide +kernel
theorem dS_shapeInSlot_47 : decode prog_1_method_33_code 47 = .ok (.getfield 115, 3) := by decide +kernel
theorem dS_shapeInSlot_50 : decode prog_1_method_33_code 50 = .ok (.iload_n 2, 1) := by decide +kernel
theorem dS_shapeInSlot_51 : decode prog_1_method_33_code 51 = .ok (.invokeinterface 195 2, 5) := by decide +kernel
theorem dS_shapeInSlot_56 : decode prog_1_method_33_code 56 = .ok (.checkcast 110, 3) := by decide +kernel
theorem dS_shapeInSlot_59 : decode prog_1_method_33_code 59 = .ok (.areturn, 1) := by decide +kernel
theorem dS_shapeInSlot_60 : decode prog_1_method_33_code 60 = .ok (.iinc 2 1, 3) := by decide +kernel
theorem dS_shapeInSlot_63 : decode prog_1_method_33_code 63 = .ok (.goto (-50), 3) := by decide +kernel
theorem dS_shapeInSlot_66 : decode prog_1_method_33_code 66 = .ok (.aconst_null, 1) := by decide +kernel
theorem dS_shapeInSlot_67 : decode prog_1_method_33_code 67 = .ok (.areturn, 1) := by decide +kernel
theorem dS_moved_0 : decode prog_1_method_52_code 0 = .ok (.iconst 0, 1) := by decide +kernel
theorem dS_moved_1 : decode prog_1_method_52_code 1 = .ok (.istore_n 3, 1) := by decide +kernel
theorem dS_moved_2 : decode prog_1_method_52_code 2 = .ok (.iconst 0, 1) := by decide +kernel
theorem dS_moved_3 : decode prog_1_method_52_code 3 = .ok (.istore 4, 2) := by decide +kernel
theorem dS_moved_5 : decode prog_1_method_52_code 5 = .ok (.iload 4, 2) := by decide +kernel
theorem dS_moved_7 : decode prog_1_method_52_code 7 = .ok (.aload_n 1, 1) := by decide +kernel
theorem dS_moved_8 : decode prog_1_method_52_code 8 = .ok (.getfield 230, 3) := by decide +kernel
theorem dS_moved_11 : decode prog_1_method_52_code 11 = .ok (.invokeinterface 71 1, 5) := by decide +kernel
theorem dS_moved_16 : decode prog_1_method_52_code 16 = .ok (.if_icmp .ge 48, 3) := by decide +kernel
theorem dS_moved_19 : decode prog_1_method_52_code 19 = .ok (.aload_n 1, 1) := by decide +kernel
theorem dS_moved_20 : decode prog_1_method_52_code 20 = .ok (.getfield 230, 3) := by decide +kernel
theorem dS_moved_23 : decode prog_1_method_52_code 23 = .ok (.iload 4, 2) := by decide +kernel
theorem dS_moved_25 : decode prog_1_method_52_code 25 = .ok (.invokeinterface 195 2, 5) := by decide +kernel
theorem dS_moved_30 : decode prog_1_method_52_code 30 = .ok (.checkcast 224, 3) := by decide +kernel
theorem dS_moved_33 : decode prog_1_method_52_code 33 = .ok (.astore 5, 2) := by decide +kernel
theorem dS_moved_35 : decode prog_1_method_52_code 35 = .ok (.aload 5, 2) := by decide +kernel
theorem dS_moved_37 : decode prog_1_method_52_code 37 = .ok (.getfield 341, 3) := by decide +kernel
theorem dS_moved_40 : decode prog_1_method_52_code 40 = .ok (.iload_n 2, 1) := by decide +kernel
theorem dS_moved_41 : decode prog_1_method_52_code 41 = .ok (.if_icmp .ne 17, 3) := by decide +kernel
theorem dS_moved_44 : decode prog_1_method_52_code 44 = .ok (.iload_n 3, 1) := by decide +kernel
theorem dS_moved_45 : decode prog_1_method_52_code 45 = .ok (.aload_n 0, 1) := by decide +kernel
theorem dS_moved_46 : decode prog_1_method_52_code 46 = .ok (.aload 5, 2) := by decide +kernel
theorem dS_moved_48 : decode prog_1_method_52_code 48 = .ok (.aload 5, 2) := by decide +kernel
theorem dS_moved_50 : decode prog_1_method_52_code 50 = .ok (.getfield 237, 3) := by decide +kernel
theorem dS_moved_53 : decode prog_1_method_52_code 53 = .ok (.invokevirtual 342, 3) := by decide +kernel
theorem dS_moved_56 : decode prog_1_method_52_code 56 = .ok (.iadd, 1) := by decide +kernel
theorem dS_moved_57 : decode prog_1_method_52_code 57 = .ok (.istore_n 3, 1) := by decide +kernel
theorem dS_moved_58 : decode prog_1_method_52_code 58 = .ok (.iinc 4 1, 3) := by decide +kernel
theorem dS_moved_61 : decode prog_1_method_52_code 61 = .ok (.goto (-56), 3) := by decide +kernel
theorem dS_moved_64 : decode prog_1_method_52_code 64 = .ok (.iload_n 3, 1) := by decide +kernel
theorem dS_moved_65 : decode prog_1_method_52_code 65 = .ok (.ireturn, 1) := by decide +kernel
theorem dS_part_0 : decode prog_1_method_50_code 0 = .ok (.aload_n 0, 1) := by decide +kernel
theorem dS_part_1 : decode prog_1_method_50_code 1 = .ok (.aload_n 1, 1) := by decide +kernel
theorem dS_part_2 : decode prog_1_method_50_code 2 = .ok (.invokevirtual 256, 3) := by decide +kernel
theorem dS_part_5 : decode prog_1_method_50_code 5 = .ok (.istore_n 3, 1) := by decide +kernel
theorem dS_part_6 : decode prog_1_method_50_code 6 = .ok (.iload_n 3, 1) := by decide +kernel
theorem dS_part_7 : decode prog_1_method_50_code 7 = .ok (.iconst 1, 1) := by decide +kernel
theorem dS_part_8 : decode prog_1_method_50_code 8 = .ok (.if_icmp .ne 27, 3) := by decide +kernel
theorem dS_part_11 : decode prog_1_method_50_code 11 = .ok (.aload_n 1, 1) := by decide +kernel
theorem dS_part_12 : decode prog_1_method_50_code 12 = .ok (.getfield 332, 3) := by decide +kernel
theorem dS_part_15 : decode prog_1_method_50_code 15 = .ok (.ifCond .le 20, 3) := by decide +kernel
theorem dS_part_18 : decode prog_1_method_50_code 18 = .ok (.iload_n 2, 1) := by decide +kernel
theorem dS_part_19 : decode prog_1_method_50_code 19 = .ok (.aload_n 0, 1) := by decide +kernel
theorem dS_part_20 : decode prog_1_method_50_code 20 = .ok (.getfield 44, 3) := by decide +kernel
theorem dS_part_23 : decode prog_1_method_50_code 23 = .ok (.aload_n 1, 1) := by decide +kernel
theorem dS_part_24 : decode prog_1_method_50_code 24 = .ok (.getfield 240, 3) := by decide +kernel
theorem dS_part_27 : decode prog_1_method_50_code 27 = .ok (.isub, 1) := by decide +kernel
theorem dS_part_28 : decode prog_1_method_50_code 28 = .ok (.imul, 1) := by decide +kernel
theorem dS_part_29 : decode prog_1_method_50_code 29 = .ok (.aload_n 1, 1) := by decide +kernel
theorem dS_part_30 : decode prog_1_method_50_code 30 = .ok (.getfield 332, 3) := by decide +kernel
theorem dS_part_33 : decode prog_1_method_50_code 33 = .ok (.idiv, 1) := by decide +kernel
theorem dS_part_34 : decode prog_1_method_50_code 34 = .ok (.ireturn, 1) := by decide +kernel
theorem dS_part_35 : decode prog_1_method_50_code 35 = .ok (.iload_n 3, 1) := by decide +kernel
theorem dS_part_36 : decode prog_1_method_50_code 36 = .ok (.iconst 2, 1) := by decide +kernel
theorem dS_part_37 : decode prog_1_method_50_code 37 = .ok (.if_icmp .ne 7, 3) := by decide +kernel
theorem dS_part_40 : decode prog_1_method_50_code 40 = .ok (.iload_n 2, 1) := by decide +kernel
theorem dS_part_41 : decode prog_1_method_50_code 41 = .ok (.goto 4, 3) := by decide +kernel
theorem dS_part_44 : decode prog_1_method_50_code 44 = .ok (.iconst 0, 1) := by decide +kernel
theorem dS_part_45 : decode prog_1_method_50_code 45 = .ok (.ireturn, 1) := by decide +kernel
theorem dS_progress_0 : decode prog_1_method_49_code 0 = .ok (.aload_n 1, 1) := by decide +kernel
theorem dS_progress_1 : decode prog_1_method_49_code 1 = .ok (.getfield 246, 3) := by decide +kernel
theorem dS_progress_4 : decode prog_1_method_49_code 4 = .ok (.aload_n 0, 1) := by decide +kernel
theorem dS_progress_5 : decode prog_1_method_49_code 5 = .ok (.getfield 41, 3) := by decide +kernel
theorem dS_progress_8 : decode prog_1_method_49_code 8 = .ok (.if_icmp .lt 25, 3) := by decide +kernel
theorem dS_progress_11 : decode prog_1_method_49_code 11 = .ok (.aload_n 1, 1) := by decide +kernel
theorem dS_progress_12 : decode prog_1_method_49_code 12 = .ok (.getfield 246, 3) := by decide +kernel
theorem dS_progress_15 : decode prog_1_method_49_code 15 = .ok (.aload_n 0, 1) := by decide +kernel
theorem dS_progress_16 : decode prog_1_method_49_code 16 = .ok (.getfield 41, 3) := by decide +kernel
theorem dS_progress_19 : decode prog_1_method_49_code 19 = .ok (.if_icmp .ne 16, 3) := by decide +kernel
theorem dS_progress_22 : decode prog_1_method_49_code 22 = .ok (.aload_n 1, 1) := by decide +kernel
theorem dS_progress_23 : decode prog_1_method_49_code 23 = .ok (.getfield 243, 3) := by decide +kernel
theorem dS_progress_26 : decode prog_1_method_49_code 26 = .ok (.aload_n 0, 1) := by decide +kernel
theorem dS_progress_27 : decode prog_1_method_49_code 27 = .ok (.getfield 44, 3) := by decide +kernel
theorem dS_progress_30 : decode prog_1_method_49_code 30 = .ok (.if_icmp .gt 5, 3) := by decide +kernel
theorem dS_progress_33 : decode prog_1_method_49_code 33 = .ok (.iconst 2, 1) := by decide +kernel
theorem dS_progress_34 : decode prog_1_method_49_code 34 = .ok (.ireturn, 1) := by decide +kernel
theorem dS_progress_35 : decode prog_1_method_49_code 35 = .ok (.aload_n 1, 1) := by decide +kernel
theorem dS_progress_36 : decode prog_1_method_49_code 36 = .ok (.getfield 246, 3) := by decide +kernel
theorem dS_progress_39 : decode prog_1_method_49_code 39 = .ok (.aload_n 0, 1) := by decide +kernel
theorem dS_progress_40 : decode prog_1_method_49_code 40 = .ok (.getfield 41, 3) := by decide +kernel
theorem dS_progress_43 : decode prog_1_method_49_code 43 = .ok (.if_icmp .ne 18, 3) := by decide +kernel
theorem dS_progress_46 : decode prog_1_method_49_code 46 = .ok (.aload_n 1, 1) := by decide +kernel
theorem dS_progress_47 : decode prog_1_method_49_code 47 = .ok (.getfield 240, 3) := by decide +kernel
theorem dS_progress_50 : decode prog_1_method_49_code 50 = .ok (.aload_n 0, 1) := by decide +kernel
theorem dS_progress_51 : decode prog_1_method_49_code 51 = .ok (.getfield 44, 3) := by decide +kernel
theorem dS_progress_54 : decode prog_1_method_49_code 54 = .ok (.if_icmp .gt 7, 3) := by decide +kernel
theorem dS_progress_57 : decode prog_1_method_49_code 57 = .ok (.iconst 1, 1) := by decide +kernel
theorem dS_progress_58 : decode prog_1_method_49_code 58 = .ok (.goto 4, 3) := by decide +kernel
theorem dS_progress_61 : decode prog_1_method_49_code 61 = .ok (.iconst 0, 1) := by decide +kernel
theorem dS_progress_62 : decode prog_1_method_49_code 62 = .ok (.ireturn, 1) := by decide +kernel
theorem dS_alphaNow_0 : decode prog_1_method_53_code 0 = .ok (.aload_n 1, 1) := by decide +kernel
theorem dS_alphaNow_1 : decode prog_1_method_53_code 1 = .ok (.invokestatic 345, 3) := by decide +kernel
theorem dS_alphaNow_4 : decode prog_1_method_53_code 4 = .ok (.ifCond .eq 7, 3) := by decide +kernel
theorem dS_alphaNow_7 : decode prog_1_method_53_code 7 = .ok (.iconst 0, 1) := by decide +kernel
theorem dS_alphaNow_8 : decode prog_1_method_53_code 8 = .ok (.goto 4, 3) := by decide +kernel
theorem dS_alphaNow_11 : decode prog_1_method_53_code 11 = .ok (.iload_n 2, 1) := by decide +kernel
theorem dS_alphaNow_12 : decode prog_1_method_53_code 12 = .ok (.istore_n 3, 1) := by decide +kernel
theorem dS_alphaNow_13 : decode prog_1_method_53_code 13 = .ok (.iconst 0, 1) := by decide +kernel
theorem dS_alphaNow_14 : decode prog_1_method_53_code 14 = .ok (.istore 4, 2) := by decide +kernel
theorem dS_alphaNow_16 : decode prog_1_method_53_code 16 = .ok (.iload 4, 2) := by decide +kernel
theorem dS_alphaNow_18 : decode prog_1_method_53_code 18 = .ok (.aload_n 1, 1) := by decide +kernel
theorem dS_alphaNow_19 : decode prog_1_method_53_code 19 = .ok (.getfield 230, 3) := by decide +kernel
theorem dS_alphaNow_22 : decode prog_1_method_53_code 22 = .ok (.invokeinterface 71 1, 5) := by decide +kernel
theorem dS_alphaNow_27 : decode prog_1_method_53_code 27 = .ok (.if_icmp .ge 75, 3) := by decide +kernel
theorem dS_alphaNow_30 : decode prog_1_method_53_code 30 = .ok (.aload_n 1, 1) := by decide +kernel
theorem dS_alphaNow_31 : decode prog_1_method_53_code 31 = .ok (.getfield 230, 3) := by decide +kernel
theorem dS_alphaNow_34 : decode prog_1_method_53_code 34 = .ok (.iload 4, 2) := by decide +kernel
theorem dS_alphaNow_36 : decode prog_1_method_53_code 36 = .ok (.invokeinterface 195 2, 5) := by decide +kernel
theorem dS_alphaNow_41 : decode prog_1_method_53_code 41 = .ok (.checkcast 224, 3) := by decide +kernel
theorem dS_alphaNow_44 : decode prog_1_method_53_code 44 = .ok (.astore 5, 2) := by decide +kernel
theorem dS_alphaNow_46 : decode prog_1_method_53_code 46 = .ok (.aload_n 0, 1) := by decide +kernel
theorem dS_alphaNow_47 : decode prog_1_method_53_code 47 = .ok (.aload 5, 2) := by decide +kernel
theorem dS_alphaNow_49 : decode prog_1_method_53_code 49 = .ok (.invokevirtual 256, 3) := by decide +kernel
theorem dS_alphaNow_52 : decode prog_1_method_53_code 52 = .ok (.ifCond .ne 6, 3) := by decide +kernel
theorem dS_alphaNow_55 : decode prog_1_method_53_code 55 = .ok (.goto 41, 3) := by decide +kernel
theorem dS_alphaNow_58 : decode prog_1_method_53_code 58 = .ok (.aload 5, 2) := by decide +kernel
theorem dS_alphaNow_60 : decode prog_1_method_53_code 60 = .ok (.getfield 341, 3) := by decide +kernel
theorem dS_alphaNow_63 : decode prog_1_method_53_code 63 = .ok (.ifCond .ne 14, 3) := by decide +kernel
theorem dS_alphaNow_66 : decode prog_1_method_53_code 66 = .ok (.aload_n 0, 1) := by decide +kernel
theorem dS_alphaNow_67 : decode prog_1_method_53_code 67 = .ok (.aload 5, 2) := by decide +kernel
theorem dS_alphaNow_69 : decode prog_1_method_53_code 69 = .ok (.iload_n 2, 1) := by decide +kernel
theorem dS_alphaNow_70 : decode prog_1_method_53_code 70 = .ok (.invokevirtual 342, 3) := by decide +kernel
theorem dS_alphaNow_73 : decode prog_1_method_53_code 73 = .ok (.istore_n 3, 1) := by decide +kernel
theorem dS_alphaNow_74 : decode prog_1_method_53_code 74 = .ok (.goto 22, 3) := by decide +kernel
theorem dS_alphaNow_77 : decode prog_1_method_53_code 77 = .ok (.aload 5, 2) := by decide +kernel
theorem dS_alphaNow_79 : decode prog_1_method_53_code 79 = .ok (.getfield 341, 3) := by decide +kernel
theorem dS_alphaNow_82 : decode prog_1_method_53_code 82 = .ok (.iconst 1, 1) := by decide +kernel
theorem dS_alphaNow_83 : decode prog_1_method_53_code 83 = .ok (.if_icmp .ne 13, 3) := by decide +kernel
theorem dS_alphaNow_86 : decode prog_1_method_53_code 86 = .ok (.iload_n 2, 1) := by decide +kernel
theorem dS_alphaNow_87 : decode prog_1_method_53_code 87 = .ok (.aload_n 0, 1) := by decide +kernel
theorem dS_alphaNow_88 : decode prog_1_method_53_code 88 = .ok (.aload 5, 2) := by decide +kernel
theorem dS_alphaNow_90 : decode prog_1_method_53_code 90 = .ok (.iload_n 2, 1) := by decide +kernel
theorem dS_alphaNow_91 : decode prog_1_method_53_code 91 = .ok (.invokevirtual 342, 3) := by decide +kernel
theorem dS_alphaNow_94 : decode prog_1_method_53_code 94 = .ok (.isub, 1) := by decide +kernel
theorem dS_alphaNow_95 : decode prog_1_method_53_code 95 = .ok (.istore_n 3, 1) := by decide +kernel
theorem dS_alphaNow_96 : decode prog_1_method_53_code 96 = .ok (.iinc 4 1, 3) := by decide +kernel
theorem dS_alphaNow_99 : decode prog_1_method_53_code 99 = .ok (.goto (-83), 3) := by decide +kernel
theorem dS_alphaNow_102 : decode prog_1_method_53_code 102 = .ok (.iload_n 3, 1) := by decide +kernel
theorem dS_alphaNow_103 : decode prog_1_method_53_code 103 = .ok (.ireturn, 1) := by decide +kernel
theorem dS_entersFirst_0 : decode prog_1_method_54_code 0 = .ok (.iconst 0, 1) := by decide +kernel
theorem dS_entersFirst_1 : decode prog_1_method_54_code 1 = .ok (.istore_n 1, 1) := by decide +kernel
theorem dS_entersFirst_2 : decode prog_1_method_54_code 2 = .ok (.iload_n 1, 1) := by decide +kernel
theorem dS_entersFirst_3 : decode prog_1_method_54_code 3 = .ok (.aload_n 0, 1) := by decide +kernel
theorem dS_entersFirst_4 : decode prog_1_method_54_code 4 = .ok (.getfield 230, 3) := by decide +kernel
theorem dS_entersFirst_7 : decode prog_1_method_54_code 7 = .ok (.invokeinterface 71 1, 5) := by decide +kernel
theorem dS_entersFirst_12 : decode prog_1_method_54_code 12 = .ok (.if_icmp .ge 45, 3) := by decide +kernel
theorem dS_entersFirst_15 : decode prog_1_method_54_code 15 = .ok (.aload_n 0, 1) := by decide +kernel
theorem dS_entersFirst_16 : decode prog_1_method_54_code 16 = .ok (.getfield 230, 3) := by decide +kernel
theorem dS_entersFirst_19 : decode prog_1_method_54_code 19 = .ok (.iload_n 1, 1) := by decide +kernel
theorem dS_entersFirst_20 : decode prog_1_method_54_code 20 = .ok (.invokeinterface 195 2, 5) := by decide +kernel
theorem dS_entersFirst_25 : decode prog_1_method_54_code 25 = .ok (.checkcast 224, 3) := by decide +kernel
theorem dS_entersFirst_28 : decode prog_1_method_54_code 28 = .ok (.getfield 341, 3) := by decide +kernel
theorem dS_entersFirst_31 : decode prog_1_method_54_code 31 = .ok (.istore_n 2, 1) := by decide +kernel
theorem dS_entersFirst_32 : decode prog_1_method_54_code 32 = .ok (.iload_n 2, 1) := by decide +kernel
theorem dS_entersFirst_33 : decode prog_1_method_54_code 33 = .ok (.ifCond .eq 8, 3) := by decide +kernel
theorem dS_entersFirst_36 : decode prog_1_method_54_code 36 = .ok (.iload_n 2, 1) := by decide +kernel
theorem dS_entersFirst_37 : decode prog_1_method_54_code 37 = .ok (.iconst 1, 1) := by decide +kernel
theorem dS_entersFirst_38 : decode prog_1_method_54_code 38 = .ok (.if_icmp .ne 13, 3) := by decide +kernel
theorem dS_entersFirst_41 : decode prog_1_method_54_code 41 = .ok (.iload_n 2, 1) := by decide +kernel
theorem dS_entersFirst_42 : decode prog_1_method_54_code 42 = .ok (.ifCond .ne 7, 3) := by decide +kernel
theorem dS_entersFirst_45 : decode prog_1_method_54_code 45 = .ok (.iconst 1, 1) := by decide +kernel
theorem dS_entersFirst_46 : decode prog_1_method_54_code 46 = .ok (.goto 4, 3) := by decide +kernel
theorem dS_entersFirst_49 : decode prog_1_method_54_code 49 = .ok (.iconst 0, 1) := by decide +kernel
theorem dS_entersFirst_50 : decode prog_1_method_54_code 50 = .ok (.ireturn, 1) := by decide +kernel
theorem dS_entersFirst_51 : decode prog_1_method_54_code 51 = .ok (.iinc 1 1, 3) := by decide +kernel
theorem dS_entersFirst_54 : decode prog_1_method_54_code 54 = .ok (.goto (-52), 3) := by decide +kernel
theorem dS_entersFirst_57 : decode prog_1_method_54_code 57 = .ok (.iconst 0, 1) := by decide +kernel
theorem dS_entersFirst_58 : decode prog_1_method_54_code 58 = .ok (.ireturn, 1) := by decide +kernel
theorem dS_covers_0 : decode prog_1_method_57_code 0 = .ok (.iload_n 2, 1) := by decide +kernel
theorem dS_covers_1 : decode prog_1_method_57_code 1 = .ok (.iload_n 0, 1) := by decide +kernel
theorem dS_covers_2 : decode prog_1_method_57_code 2 = .ok (.if_icmp .lt 14, 3) := by decide +kernel
theorem dS_covers_5 : decode prog_1_method_57_code 5 = .ok (.iload_n 2, 1) := by decide +kernel
theorem dS_covers_6 : decode prog_1_method_57_code 6 = .ok (.iload_n 0, 1) := by decide +kernel
theorem dS_covers_7 : decode prog_1_method_57_code 7 = .ok (.iload_n 1, 1) := by decide +kernel
theorem dS_covers_8 : decode prog_1_method_57_code 8 = .ok (.iadd, 1) := by decide +kernel
theorem dS_covers_9 : decode prog_1_method_57_code 9 = .ok (.if_icmp .ge 7, 3) := by decide +kernel
theorem dS_covers_12 : decode prog_1_method_57_code 12 = .ok (.iconst 1, 1) := by decide +kernel
theorem dS_covers_13 : decode prog_1_method_57_code 13 = .ok (.goto 4, 3) := by decide +kernel
theorem dS_covers_16 : decode prog_1_method_57_code 16 = .ok (.iconst 0, 1) := by decide +kernel
theorem dS_covers_17 : decode prog_1_method_57_code 17 = .ok (.ireturn, 1) := by decide +kernel
theorem dS_blend_0 : decode prog_1_method_58_code 0 = .ok (.iconst 0, 1) := by decide +kernel
theorem dS_blend_1 : decode prog_1_method_58_code 1 = .ok (.istore_n 3, 1) := by decide +kernel
theorem dS_blend_2 : decode prog_1_method_58_code 2 = .ok (.bipush 16, 2) := by decide +kernel
theorem dS_blend_4 : decode prog_1_method_58_code 4 = .ok (.istore 4, 2) := by decide +kernel
theorem dS_blend_6 : decode prog_1_method_58_code 6 = .ok (.iload 4, 2) := by decide +kernel
theorem dS_blend_8 : decode prog_1_method_58_code 8 = .ok (.ifCond .lt 55, 3) := by decide +kernel
theorem dS_blend_11 : decode prog_1_method_58_code 11 = .ok (.iload_n 0, 1) := by decide +kernel
theorem dS_blend_12 : decode prog_1_method_58_code 12 = .ok (.iload 4, 2) := by decide +kernel
theorem dS_blend_14 : decode prog_1_method_58_code 14 = .ok (.ishr, 1) := by decide +kernel
theorem dS_blend_15 : decode prog_1_method_58_code 15 = .ok (.sipush 255, 3) := by decide +kernel
theorem dS_blend_18 : decode prog_1_method_58_code 18 = .ok (.iand, 1) := by decide +kernel
theorem dS_blend_19 : decode prog_1_method_58_code 19 = .ok (.istore 5, 2) := by decide +kernel
theorem dS_blend_21 : decode prog_1_method_58_code 21 = .ok (.iload_n 1, 1) := by decide +kernel
theorem dS_blend_22 : decode prog_1_method_58_code 22 = .ok (.iload 4, 2) := by decide +kernel
theorem dS_blend_24 : decode prog_1_method_58_code 24 = .ok (.ishr, 1) := by decide +kernel
theorem dS_blend_25 : decode prog_1_method_58_code 25 = .ok (.sipush 255, 3) := by decide +kernel
theorem dS_blend_28 : decode prog_1_method_58_code 28 = .ok (.iand, 1) := by decide +kernel
theorem dS_blend_29 : decode prog_1_method_58_code 29 = .ok (.istore 6, 2) := by decide +kernel
theorem dS_blend_31 : decode prog_1_method_58_code 31 = .ok (.iload_n 3, 1) := by decide +kernel
theorem dS_blend_32 : decode prog_1_method_58_code 32 = .ok (.iload 5, 2) := by decide +kernel
theorem dS_blend_34 : decode prog_1_method_58_code 34 = .ok (.iload_n 2, 1) := by decide +kernel
theorem dS_blend_35 : decode prog_1_method_58_code 35 = .ok (.imul, 1) := by decide +kernel
theorem dS_blend_36 : decode prog_1_method_58_code 36 = .ok (.iload 6, 2) := by decide +kernel
theorem dS_blend_38 : decode prog_1_method_58_code 38 = .ok (.sipush 255, 3) := by decide +kernel
theorem dS_blend_41 : decode prog_1_method_58_code 41 = .ok (.iload_n 2, 1) := by decide +kernel
theorem dS_blend_42 : decode prog_1_method_58_code 42 = .ok (.isub, 1) := by decide +kernel
theorem dS_blend_43 : decode prog_1_method_58_code 43 = .ok (.imul, 1) := by decide +kernel
theorem dS_blend_44 : decode prog_1_method_58_code 44 = .ok (.iadd, 1) := by decide +kernel
theorem dS_blend_45 : decode prog_1_method_58_code 45 = .ok (.bipush 127, 2) := by decide +kernel
theorem dS_blend_47 : decode prog_1_method_58_code 47 = .ok (.iadd, 1) := by decide +kernel
theorem dS_blend_48 : decode prog_1_method_58_code 48 = .ok (.sipush 255, 3) := by decide +kernel
theorem dS_blend_51 : decode prog_1_method_58_code 51 = .ok (.idiv, 1) := by decide +kernel
theorem dS_blend_52 : decode prog_1_method_58_code 52 = .ok (.iload 4, 2) := by decide +kernel
theorem dS_blend_54 : decode prog_1_method_58_code 54 = .ok (.ishl, 1) := by decide +kernel
theorem dS_blend_55 : decode prog_1_method_58_code 55 = .ok (.ior, 1) := by decide +kernel
theorem dS_blend_56 : decode prog_1_method_58_code 56 = .ok (.istore_n 3, 1) := by decide +kernel
theorem dS_blend_57 : decode prog_1_method_58_code 57 = .ok (.iinc 4 (-8), 3) := by decide +kernel
theorem dS_blend_60 : decode prog_1_method_58_code 60 = .ok (.goto (-54), 3) := by decide +kernel
theorem dS_blend_63 : decode prog_1_method_58_code 63 = .ok (.iload_n 3, 1) := by decide +kernel
theorem dS_blend_64 : decode prog_1_method_58_code 64 = .ok (.ireturn, 1) := by decide +kernel
theorem dS_page_0 : decode prog_1_method_2_code 0 = .ok (.iload_n 1, 1) := by decide +kernel
theorem dS_page_1 : decode prog_1_method_2_code 1 = .ok (.iconst 0, 1) := by decide +kernel
theorem dS_page_2 : decode prog_1_method_2_code 2 = .ok (.iconst 2, 1) := by decide +kernel
theorem dS_page_3 : decode prog_1_method_2_code 3 = .ok (.invokestatic 47, 3) := by decide +kernel
theorem dS_page_6 : decode prog_1_method_2_code 6 = .ok (.ifCond .ne 13, 3) := by decide +kernel
theorem dS_page_9 : decode prog_1_method_2_code 9 = .ok (.new 51, 3) := by decide +kernel
theorem dS_page_12 : decode prog_1_method_2_code 12 = .ok (.dup, 1) := by decide +kernel
theorem dS_page_13 : decode prog_1_method_2_code 13 = .ok (.ldc 53, 2) := by decide +kernel
theorem dS_page_15 : decode prog_1_method_2_code 15 = .ok (.invokespecial 55, 3) := by decide +kernel
theorem dS_page_18 : decode prog_1_method_2_code 18 = .ok (.athrow, 1) := by decide +kernel
theorem dS_page_19 : decode prog_1_method_2_code 19 = .ok (.aload_n 0, 1) := by decide +kernel
theorem dS_page_20 : decode prog_1_method_2_code 20 = .ok (.iload_n 2, 1) := by decide +kernel
theorem dS_page_21 : decode prog_1_method_2_code 21 = .ok (.invokevirtual 58, 3) := by decide +kernel
theorem dS_page_24 : decode prog_1_method_2_code 24 = .ok (.astore_n 3, 1) := by decide +kernel
theorem dS_page_25 : decode prog_1_method_2_code 25 = .ok (.iload_n 1, 1) := by decide +kernel
theorem dS_page_26 : decode prog_1_method_2_code 26 = .ok (.ifCond .ne 11, 3) := by decide +kernel
theorem dS_page_29 : decode prog_1_method_2_code 29 = .ok (.iload_n 2, 1) := by decide +kernel
theorem dS_page_30 : decode prog_1_method_2_code 30 = .ok (.iconst (-1), 1) := by decide +kernel
theorem dS_page_31 : decode prog_1_method_2_code 31 = .ok (.if_icmp .eq 26, 3) := by decide +kernel
theorem dS_page_34 : decode prog_1_method_2_code 34 = .ok (.goto 13, 3) := by decide +kernel
theorem dS_page_37 : decode prog_1_method_2_code 37 = .ok (.aload_n 3, 1) := by decide +kernel
theorem dS_page_38 : decode prog_1_method_2_code 38 = .ok (.iload_n 1, 1) := by decide +kernel
theorem dS_page_39 : decode prog_1_method_2_code 39 = .ok (.iconst 1, 1) := by decide +kernel
theorem dS_page_40 : decode prog_1_method_2_code 40 = .ok (.isub, 1) := by decide +kernel
theorem dS_page_41 : decode prog_1_method_2_code 41 = .ok (.invokestatic 62, 3) := by decide +kernel
theorem dS_page_44 : decode prog_1_method_2_code 44 = .ok (.ifCond .ne 13, 3) := by decide +kernel
theorem dS_page_47 : decode prog_1_method_2_code 47 = .ok (.new 66, 3) := by decide +kernel
theorem dS_page_50 : decode prog_1_method_2_code 50 = .ok (.dup, 1) := by decide +kernel
theorem dS_page_51 : decode prog_1_method_2_code 51 = .ok (.ldc 68, 2) := by decide +kernel
theorem dS_page_53 : decode prog_1_method_2_code 53 = .ok (.invokespecial 70, 3) := by decide +kernel
theorem dS_page_56 : decode prog_1_method_2_code 56 = .ok (.athrow, 1) := by decide +kernel
theorem dS_page_57 : decode prog_1_method_2_code 57 = .ok (.aload_n 0, 1) := by decide +kernel
theorem dS_page_58 : decode prog_1_method_2_code 58 = .ok (.getfield 17, 3) := by decide +kernel
theorem dS_page_61 : decode prog_1_method_2_code 61 = .ok (.invokeinterface 71 1, 5) := by decide +kernel
theorem dS_page_66 : decode prog_1_method_2_code 66 = .ok (.bipush 12, 2) := by decide +kernel
theorem dS_page_68 : decode prog_1_method_2_code 68 = .ok (.if_icmp .lt 13, 3) := by decide +kernel
theorem dS_page_71 : decode prog_1_method_2_code 71 = .ok (.new 77, 3) := by decide +kernel
theorem dS_page_74 : decode prog_1_method_2_code 74 = .ok (.dup, 1) := by decide +kernel
theorem dS_page_75 : decode prog_1_method_2_code 75 = .ok (.ldc 79, 2) := by decide +kernel
theorem dS_page_77 : decode prog_1_method_2_code 77 = .ok (.invokespecial 81, 3) := by decide +kernel
theorem dS_page_80 : decode prog_1_method_2_code 80 = .ok (.athrow, 1) := by decide +kernel
theorem dS_page_81 : decode prog_1_method_2_code 81 = .ok (.new 82, 3) := by decide +kernel
theorem dS_page_84 : decode prog_1_method_2_code 84 = .ok (.dup, 1) := by decide +kernel
theorem dS_page_85 : decode prog_1_method_2_code 85 = .ok (.iload_n 1, 1) := by decide +kernel
theorem dS_page_86 : decode prog_1_method_2_code 86 = .ok (.aload_n 3, 1) := by decide +kernel
theorem dS_page_87 : decode prog_1_method_2_code 87 = .ok (.invokespecial 84, 3) := by decide +kernel
theorem dS_page_90 : decode prog_1_method_2_code 90 = .ok (.astore 4, 2) := by decide +kernel
theorem dS_page_92 : decode prog_1_method_2_code 92 = .ok (.aload_n 0, 1) := by decide +kernel
theorem dS_page_93 : decode prog_1_method_2_code 93 = .ok (.getfield 17, 3) := by decide +kernel
theorem dS_page_96 : decode prog_1_method_2_code 96 = .ok (.aload 4, 2) := by decide +kernel
theorem dS_page_98 : decode prog_1_method_2_code 98 = .ok (.invokeinterface 87 2, 5) := by decide +kernel
theorem dS_page_103 : decode prog_1_method_2_code 103 = .ok (.pop, 1) := by decide +kernel
theorem dS_page_104 : decode prog_1_method_2_code 104 = .ok (.iload_n 1, 1) := by decide +kernel
theorem dS_page_105 : decode prog_1_method_2_code 105 = .ok (.iconst 2, 1) := by decide +kernel
theorem dS_page_106 : decode prog_1_method_2_code 106 = .ok (.if_icmp .ne 9, 3) := by decide +kernel
theorem dS_page_109 : decode prog_1_method_2_code 109 = .ok (.aload_n 0, 1) := by decide +kernel
theorem dS_page_110 : decode prog_1_method_2_code 110 = .ok (.aload 4, 2) := by decide +kernel
theorem dS_page_112 : decode prog_1_method_2_code 112 = .ok (.invokevirtual 91, 3) := by decide +kernel
theorem dS_page_115 : decode prog_1_method_2_code 115 = .ok (.aload_n 0, 1) := by decide +kernel
theorem dS_page_116 : decode prog_1_method_2_code 116 = .ok (.getfield 17, 3) := by decide +kernel
theorem dS_page_119 : decode prog_1_method_2_code 119 = .ok (.invokeinterface 71 1, 5) := by decide +kernel
theorem dS_page_124 : decode prog_1_method_2_code 124 = .ok (.iconst 1, 1) := by decide +kernel
theorem dS_page_125 : decode prog_1_method_2_code 125 = .ok (.isub, 1) := by decide +kernel
theorem dS_page_126 : decode prog_1_method_2_code 126 = .ok (.ireturn, 1) := by decide +kernel
theorem dS_findPage_0 : decode prog_1_method_30_code 0 = .ok (.iload_n 1, 1) := by decide +kernel
theorem dS_findPage_1 : decode prog_1_method_30_code 1 = .ok (.ifCond .lt 32, 3) := by decide +kernel
theorem dS_findPage_4 : decode prog_1_method_30_code 4 = .ok (.iload_n 1, 1) := by decide +kernel
theorem dS_findPage_5 : decode prog_1_method_30_code 5 = .ok (.aload_n 0, 1) := by decide +kernel
theorem dS_findPage_6 : decode prog_1_method_30_code 6 = .ok (.getfield 17, 3) := by decide +kernel
theorem dS_findPage_9 : decode prog_1_method_30_code 9 = .ok (.invokeinterface 71 1, 5) := by decide +kernel
theorem dS_findPage_14 : decode prog_1_method_30_code 14 = .ok (.if_icmp .ge 19, 3) := by decide +kernel
theorem dS_findPage_17 : decode prog_1_method_30_code 17 = .ok (.aload_n 0, 1) := by decide +kernel
theorem dS_findPage_18 : decode prog_1_method_30_code 18 = .ok (.getfield 17, 3) := by decide +kernel
theorem dS_findPage_21 : decode prog_1_method_30_code 21 = .ok (.iload_n 1, 1) := by decide +kernel
theorem dS_findPage_22 : decode prog_1_method_30_code 22 = .ok (.invokeinterface 195 2, 5) := by decide +kernel
theorem dS_findPage_27 : decode prog_1_method_30_code 27 = .ok (.checkcast 82, 3) := by decide +kernel
theorem dS_findPage_30 : decode prog_1_method_30_code 30 = .ok (.goto 4, 3) := by decide +kernel
theorem dS_findPage_33 : decode prog_1_method_30_code 33 = .ok (.aconst_null, 1) := by decide +kernel
theorem dS_findPage_34 : decode prog_1_method_30_code 34 = .ok (.areturn, 1) := by decide +kernel
theorem dS_isOfKind_0 : decode prog_1_method_31_code 0 = .ok (.aload_n 0, 1) := by decide +kernel
theorem dS_isOfKind_1 : decode prog_1_method_31_code 1 = .ok (.ifnull 15, 3) := by decide +kernel
theorem dS_isOfKind_4 : decode prog_1_method_31_code 4 = .ok (.aload_n 0, 1) := by decide +kernel
theorem dS_isOfKind_5 : decode prog_1_method_31_code 5 = .ok (.getfield 206, 3) := by decide +kernel
theorem dS_isOfKind_8 : decode prog_1_method_31_code 8 = .ok (.iload_n 1, 1) := by decide +kernel
theorem dS_isOfKind_9 : decode prog_1_method_31_code 9 = .ok (.if_icmp .ne 7, 3) := by decide +kernel
theorem dS_isOfKind_12 : decode prog_1_method_31_code 12 = .ok (.iconst 1, 1) := by decide +kernel
theorem dS_isOfKind_13 : decode prog_1_method_31_code 13 = .ok (.goto 4, 3) := by decide +kernel
theorem dS_isOfKind_16 : decode prog_1_method_31_code 16 = .ok (.iconst 0, 1) := by decide +kernel
theorem dS_isOfKind_17 : decode prog_1_method_31_code 17 = .ok (.ireturn, 1) := by decide +kernel
theorem dP_init_0 : decode prog_4_method_1_code 0 = .ok (.aload_n 0, 1) := by decide +kernel
theorem dP_init_1 : decode prog_4_method_1_code 1 = .ok (.invokespecial 1, 3) := by decide +kernel
theorem dP_init_4 : decode prog_4_method_1_code 4 = .ok (.aload_n 0, 1) := by decide +kernel
theorem dP_init_5 : decode prog_4_method_1_code 5 = .ok (.new 7, 3) := by decide +kernel
theorem dP_init_8 : decode prog_4_method_1_code 8 = .ok (.dup, 1) := by decide +kernel
theorem dP_init_9 : decode prog_4_method_1_code 9 = .ok (.invokespecial 9, 3) := by decide +kernel
theorem dP_init_12 : decode prog_4_method_1_code 12 = .ok (.putfield 10, 3) := by decide +kernel
theorem dP_init_15 : decode prog_4_method_1_code 15 = .ok (.aload_n 0, 1) := by decide +kernel
theorem dP_init_16 : decode prog_4_method_1_code 16 = .ok (.new 7, 3) := by decide +kernel
theorem dP_init_19 : decode prog_4_method_1_code 19 = .ok (.dup, 1) := by decide +kernel
theorem dP_init_20 : decode prog_4_method_1_code 20 = .ok (.invokespecial 9, 3) := by decide +kernel
theorem dP_init_23 : decode prog_4_method_1_code 23 = .ok (.putfield 16, 3) := by decide +kernel
theorem dP_init_26 : decode prog_4_method_1_code 26 = .ok (.aload_n 0, 1) := by decide +kernel
theorem dP_init_27 : decode prog_4_method_1_code 27 = .ok (.iload_n 1, 1) := by decide +kernel
theorem dP_init_28 : decode prog_4_method_1_code 28 = .ok (.putfield 19, 3) := by decide +kernel
theorem dP_init_31 : decode prog_4_method_1_code 31 = .ok (.aload_n 0, 1) := by decide +kernel
theorem dP_init_32 : decode prog_4_method_1_code 32 = .ok (.aload_n 2, 1) := by decide +kernel
theorem dP_init_33 : decode prog_4_method_1_code 33 = .ok (.putfield 23, 3) := by decide +kernel
theorem dP_init_36 : decode prog_4_method_1_code 36 = .ok (.return_, 1) := by decide +kernel
theorem dS_addSlide_0 : decode prog_1_method_32_code 0 = .ok (.aload_n 0, 1) := by decide +kernel
theorem dS_addSlide_1 : decode prog_1_method_32_code 1 = .ok (.getfield 21, 3) := by decide +kernel
theorem dS_addSlide_4 : decode prog_1_method_32_code 4 = .ok (.aload_n 1, 1) := by decide +kernel
theorem dS_addSlide_5 : decode prog_1_method_32_code 5 = .ok (.invokeinterface 87 2, 5) := by decide +kernel
theorem dS_addSlide_10 : decode prog_1_method_32_code 10 = .ok (.pop, 1) := by decide +kernel
theorem dS_addSlide_11 : decode prog_1_method_32_code 11 = .ok (.aload_n 0, 1) := by decide +kernel
theorem dS_addSlide_12 : decode prog_1_method_32_code 12 = .ok (.getfield 37, 3) := by decide +kernel
theorem dS_addSlide_15 : decode prog_1_method_32_code 15 = .ok (.iconst (-1), 1) := by decide +kernel
theorem dS_addSlide_16 : decode prog_1_method_32_code 16 = .ok (.if_icmp .ne 8, 3) := by decide +kernel
theorem dS_addSlide_19 : decode prog_1_method_32_code 19 = .ok (.aload_n 0, 1) := by decide +kernel
theorem dS_addSlide_20 : decode prog_1_method_32_code 20 = .ok (.iconst 0, 1) := by decide +kernel
theorem dS_addSlide_21 : decode prog_1_method_32_code 21 = .ok (.putfield 37, 3) := by decide +kernel
theorem dS_addSlide_24 : decode prog_1_method_32_code 24 = .ok (.return_, 1) := by decide +kernel
theorem dS_shape_0 : decode prog_1_method_3_code 0 = .ok (.aload_n 0, 1) := by decide +kernel
theorem dS_shape_1 : decode prog_1_method_3_code 1 = .ok (.iload_n 1, 1) := by decide +kernel
theorem dS_shape_2 : decode prog_1_method_3_code 2 = .ok (.invokevirtual 58, 3) := by decide +kernel
theorem dS_shape_5 : decode prog_1_method_3_code 5 = .ok (.astore_n 3, 1) := by decide +kernel
theorem dS_shape_6 : decode prog_1_method_3_code 6 = .ok (.aload_n 3, 1) := by decide +kernel
theorem dS_shape_7 : decode prog_1_method_3_code 7 = .ok (.ifnonnull 13, 3) := by decide +kernel
theorem dS_shape_10 : decode prog_1_method_3_code 10 = .ok (.new 66, 3) := by decide +kernel
theorem dS_shape_13 : decode prog_1_method_3_code 13 = .ok (.dup, 1) := by decide +kernel
theorem dS_shape_14 : decode prog_1_method_3_code 14 = .ok (.ldc 95, 2) := by decide +kernel
theorem dS_shape_16 : decode prog_1_method_3_code 16 = .ok (.invokespecial 70, 3) := by decide +kernel
theorem dS_shape_19 : decode prog_1_method_3_code 19 = .ok (.athrow, 1) := by decide +kernel
theorem dS_shape_20 : decode prog_1_method_3_code 20 = .ok (.iload_n 2, 1) := by decide +kernel
theorem dS_shape_21 : decode prog_1_method_3_code 21 = .ok (.iconst (-1), 1) := by decide +kernel
theorem dS_shape_22 : decode prog_1_method_3_code 22 = .ok (.bipush 7, 2) := by decide +kernel
theorem dS_shape_24 : decode prog_1_method_3_code 24 = .ok (.invokestatic 47, 3) := by decide +kernel
theorem dS_shape_27 : decode prog_1_method_3_code 27 = .ok (.ifCond .ne 13, 3) := by decide +kernel
theorem dS_shape_30 : decode prog_1_method_3_code 30 = .ok (.new 51, 3) := by decide +kernel
theorem dS_shape_33 : decode prog_1_method_3_code 33 = .ok (.dup, 1) := by decide +kernel
theorem dS_shape_34 : decode prog_1_method_3_code 34 = .ok (.ldc 97, 2) := by decide +kernel
theorem dS_shape_36 : decode prog_1_method_3_code 36 = .ok (.invokespecial 55, 3) := by decide +kernel
theorem dS_shape_39 : decode prog_1_method_3_code 39 = .ok (.athrow, 1) := by decide +kernel
theorem dS_shape_40 : decode prog_1_method_3_code 40 = .ok (.aload_n 3, 1) := by decide +kernel
theorem dS_shape_41 : decode prog_1_method_3_code 41 = .ok (.iload_n 2, 1) := by decide +kernel
theorem dS_shape_42 : decode prog_1_method_3_code 42 = .ok (.invokestatic 99, 3) := by decide +kernel
theorem dS_shape_45 : decode prog_1_method_3_code 45 = .ok (.ifnull 13, 3) := by decide +kernel
theorem dS_shape_48 : decode prog_1_method_3_code 48 = .ok (.new 77, 3) := by decide +kernel
theorem dS_shape_51 : decode prog_1_method_3_code 51 = .ok (.dup, 1) := by decide +kernel
theorem dS_shape_52 : decode prog_1_method_3_code 52 = .ok (.ldc 103, 2) := by decide +kernel
theorem dS_shape_54 : decode prog_1_method_3_code 54 = .ok (.invokespecial 81, 3) := by decide +kernel
theorem dS_shape_57 : decode prog_1_method_3_code 57 = .ok (.athrow, 1) := by decide +kernel
theorem dS_shape_58 : decode prog_1_method_3_code 58 = .ok (.aload_n 0, 1) := by decide +kernel
theorem dS_shape_59 : decode prog_1_method_3_code 59 = .ok (.getfield 24, 3) := by decide +kernel
theorem dS_shape_62 : decode prog_1_method_3_code 62 = .ok (.invokeinterface 71 1, 5) := by decide +kernel
theorem dS_shape_67 : decode prog_1_method_3_code 67 = .ok (.bipush 24, 2) := by decide +kernel
theorem dS_shape_69 : decode prog_1_method_3_code 69 = .ok (.if_icmp .lt 13, 3) := by decide +kernel
theorem dS_shape_72 : decode prog_1_method_3_code 72 = .ok (.new 105, 3) := by decide +kernel
theorem dS_shape_75 : decode prog_1_method_3_code 75 = .ok (.dup, 1) := by decide +kernel
theorem dS_shape_76 : decode prog_1_method_3_code 76 = .ok (.ldc 107, 2) := by decide +kernel
theorem dS_shape_78 : decode prog_1_method_3_code 78 = .ok (.invokespecial 109, 3) := by decide +kernel
theorem dS_shape_81 : decode prog_1_method_3_code 81 = .ok (.athrow, 1) := by decide +kernel
theorem dS_shape_82 : decode prog_1_method_3_code 82 = .ok (.new 110, 3) := by decide +kernel
theorem dS_shape_85 : decode prog_1_method_3_code 85 = .ok (.dup, 1) := by decide +kernel
theorem dS_shape_86 : decode prog_1_method_3_code 86 = .ok (.aload_n 0, 1) := by decide +kernel
theorem dS_shape_87 : decode prog_1_method_3_code 87 = .ok (.getfield 24, 3) := by decide +kernel
theorem dS_shape_90 : decode prog_1_method_3_code 90 = .ok (.invokeinterface 71 1, 5) := by decide +kernel
theorem dS_shape_95 : decode prog_1_method_3_code 95 = .ok (.aload_n 3, 1) := by decide +kernel
theorem dS_shape_96 : decode prog_1_method_3_code 96 = .ok (.iload_n 2, 1) := by decide +kernel
theorem dS_shape_97 : decode prog_1_method_3_code 97 = .ok (.invokespecial 112, 3) := by decide +kernel
theorem dS_shape_100 : decode prog_1_method_3_code 100 = .ok (.astore 4, 2) := by decide +kernel
theorem dS_shape_102 : decode prog_1_method_3_code 102 = .ok (.aload_n 0, 1) := by decide +kernel
theorem dS_shape_103 : decode prog_1_method_3_code 103 = .ok (.getfield 24, 3) := by decide +kernel
theorem dS_shape_106 : decode prog_1_method_3_code 106 = .ok (.aload 4, 2) := by decide +kernel
theorem dS_shape_108 : decode prog_1_method_3_code 108 = .ok (.invokeinterface 87 2, 5) := by decide +kernel
theorem dS_shape_113 : decode prog_1_method_3_code 113 = .ok (.pop, 1) := by decide +kernel
theorem dS_shape_114 : decode prog_1_method_3_code 114 = .ok (.aload_n 3, 1) := by decide +kernel
theorem dS_shape_115 : decode prog_1_method_3_code 115 = .ok (.getfield 115, 3) := by decide +kernel
theorem dS_shape_118 : decode prog_1_method_3_code 118 = .ok (.aload 4, 2) := by decide +kernel
theorem dS_shape_120 : decode prog_1_method_3_code 120 = .ok (.invokeinterface 87 2, 5) := by decide +kernel
theorem dS_shape_125 : decode prog_1_method_3_code 125 = .ok (.pop, 1) := by decide +kernel
theorem dS_shape_126 : decode prog_1_method_3_code 126 = .ok (.aload 4, 2) := by decide +kernel
theorem dS_shape_128 : decode prog_1_method_3_code 128 = .ok (.getfield 116, 3) := by decide +kernel
theorem dS_shape_131 : decode prog_1_method_3_code 131 = .ok (.ireturn, 1) := by decide +kernel
theorem dH_init_0 : decode prog_6_method_1_code 0 = .ok (.aload_n 0, 1) := by decide +kernel
theorem dH_init_1 : decode prog_6_method_1_code 1 = .ok (.invokespecial 3, 3) := by decide +kernel
theorem dH_init_4 : decode prog_6_method_1_code 4 = .ok (.aload_n 0, 1) := by decide +kernel
theorem dH_init_5 : decode prog_6_method_1_code 5 = .ok (.bipush 7, 2) := by decide +kernel
theorem dH_init_7 : decode prog_6_method_1_code 7 = .ok (.newarray .boolean, 2) := by decide +kernel
theorem dH_init_9 : decode prog_6_method_1_code 9 = .ok (.putfield 9, 3) := by decide +kernel
theorem dH_init_12 : decode prog_6_method_1_code 12 = .ok (.aload_n 0, 1) := by decide +kernel
theorem dH_init_13 : decode prog_6_method_1_code 13 = .ok (.bipush 7, 2) := by decide +kernel
theorem dH_init_15 : decode prog_6_method_1_code 15 = .ok (.newarray .int, 2) := by decide +kernel
theorem dH_init_17 : decode prog_6_method_1_code 17 = .ok (.putfield 15, 3) := by decide +kernel
theorem dH_init_20 : decode prog_6_method_1_code 20 = .ok (.aload_n 0, 1) := by decide +kernel
theorem dH_init_21 : decode prog_6_method_1_code 21 = .ok (.new 19, 3) := by decide +kernel
theorem dH_init_24 : decode prog_6_method_1_code 24 = .ok (.dup, 1) := by decide +kernel
theorem dH_init_25 : decode prog_6_method_1_code 25 = .ok (.invokespecial 21, 3) := by decide +kernel
theorem dH_init_28 : decode prog_6_method_1_code 28 = .ok (.putfield 22, 3) := by decide +kernel
theorem dH_init_31 : decode prog_6_method_1_code 31 = .ok (.aload_n 0, 1) := by decide +kernel
theorem dH_init_32 : decode prog_6_method_1_code 32 = .ok (.new 19, 3) := by decide +kernel
theorem dH_init_35 : decode prog_6_method_1_code 35 = .ok (.dup, 1) := by decide +kernel
theorem dH_init_36 : decode prog_6_method_1_code 36 = .ok (.invokespecial 21, 3) := by decide +kernel
theorem dH_init_39 : decode prog_6_method_1_code 39 = .ok (.putfield 26, 3) := by decide +kernel
theorem dH_init_42 : decode prog_6_method_1_code 42 = .ok (.aload_n 0, 1) := by decide +kernel
theorem dH_init_43 : decode prog_6_method_1_code 43 = .ok (.iload_n 1, 1) := by decide +kernel
theorem dH_init_44 : decode prog_6_method_1_code 44 = .ok (.putfield 29, 3) := by decide +kernel
theorem dH_init_47 : decode prog_6_method_1_code 47 = .ok (.aload_n 0, 1) := by decide +kernel
theorem dH_init_48 : decode prog_6_method_1_code 48 = .ok (.aload_n 2, 1) := by decide +kernel
theorem dH_init_49 : decode prog_6_method_1_code 49 = .ok (.putfield 33, 3) := by decide +kernel
theorem dH_init_52 : decode prog_6_method_1_code 52 = .ok (.aload_n 0, 1) := by decide +kernel
theorem dH_init_53 : decode prog_6_method_1_code 53 = .ok (.iload_n 3, 1) := by decide +kernel
theorem dH_init_54 : decode prog_6_method_1_code 54 = .ok (.putfield 37, 3) := by decide +kernel
theorem dH_init_57 : decode prog_6_method_1_code 57 = .ok (.return_, 1) := by decide +kernel
theorem dS_theme_0 : decode prog_1_method_4_code 0 = .ok (.iload_n 1, 1) := by decide +kernel
theorem dS_theme_1 : decode prog_1_method_4_code 1 = .ok (.iload_n 2, 1) := by decide +kernel
theorem dS_theme_2 : decode prog_1_method_4_code 2 = .ok (.invokestatic 119, 3) := by decide +kernel
theorem dS_theme_5 : decode prog_1_method_4_code 5 = .ok (.aload_n 0, 1) := by decide +kernel
theorem dS_theme_6 : decode prog_1_method_4_code 6 = .ok (.getfield 10, 3) := by decide +kernel
theorem dS_theme_9 : decode prog_1_method_4_code 9 = .ok (.iload_n 1, 1) := by decide +kernel
theorem dS_theme_10 : decode prog_1_method_4_code 10 = .ok (.iload_n 2, 1) := by decide +kernel
theorem dS_theme_11 : decode prog_1_method_4_code 11 = .ok (.iastore, 1) := by decide +kernel
theorem dS_theme_12 : decode prog_1_method_4_code 12 = .ok (.return_, 1) := by decide +kernel
theorem dS_checkValue_0 : decode prog_1_method_27_code 0 = .ok (.iload_n 0, 1) := by decide +kernel
theorem dS_checkValue_1 : decode prog_1_method_27_code 1 = .ok (.invokestatic 134, 3) := by decide +kernel
theorem dS_checkValue_4 : decode prog_1_method_27_code 4 = .ok (.iload_n 1, 1) := by decide +kernel
theorem dS_checkValue_5 : decode prog_1_method_27_code 5 = .ok (.getstatic 303, 3) := by decide +kernel
theorem dS_checkValue_8 : decode prog_1_method_27_code 8 = .ok (.iload_n 0, 1) := by decide +kernel
theorem dS_checkValue_9 : decode prog_1_method_27_code 9 = .ok (.iaload, 1) := by decide +kernel
theorem dS_checkValue_10 : decode prog_1_method_27_code 10 = .ok (.getstatic 306, 3) := by decide +kernel
theorem dS_checkValue_13 : decode prog_1_method_27_code 13 = .ok (.iload_n 0, 1) := by decide +kernel
theorem dS_checkValue_14 : decode prog_1_method_27_code 14 = .ok (.iaload, 1) := by decide +kernel
theorem dS_checkValue_15 : decode prog_1_method_27_code 15 = .ok (.invokestatic 47, 3) := by decide +kernel
theorem dS_checkValue_18 : decode prog_1_method_27_code 18 = .ok (.ifCond .ne 14, 3) := by decide +kernel
theorem dS_checkValue_21 : decode prog_1_method_27_code 21 = .ok (.new 51, 3) := by decide +kernel
theorem dS_checkValue_24 : decode prog_1_method_27_code 24 = .ok (.dup, 1) := by decide +kernel
theorem dS_checkValue_25 : decode prog_1_method_27_code 25 = .ok (.ldc_w 309, 3) := by decide +kernel
theorem dS_checkValue_28 : decode prog_1_method_27_code 28 = .ok (.invokespecial 55, 3) := by decide +kernel
theorem dS_checkValue_31 : decode prog_1_method_27_code 31 = .ok (.athrow, 1) := by decide +kernel
theorem dS_checkValue_32 : decode prog_1_method_27_code 32 = .ok (.return_, 1) := by decide +kernel
theorem dS_checkProperty_0 : decode prog_1_method_26_code 0 = .ok (.iload_n 0, 1) := by decide +kernel
theorem dS_checkProperty_1 : decode prog_1_method_26_code 1 = .ok (.iconst 0, 1) := by decide +kernel
theorem dS_checkProperty_2 : decode prog_1_method_26_code 2 = .ok (.bipush 6, 2) := by decide +kernel
theorem dS_checkProperty_4 : decode prog_1_method_26_code 4 = .ok (.invokestatic 47, 3) := by decide +kernel
theorem dS_checkProperty_7 : decode prog_1_method_26_code 7 = .ok (.ifCond .ne 14, 3) := by decide +kernel
theorem dS_checkProperty_10 : decode prog_1_method_26_code 10 = .ok (.new 51, 3) := by decide +kernel
theorem dS_checkProperty_13 : decode prog_1_method_26_code 13 = .ok (.dup, 1) := by decide +kernel
theorem dS_checkProperty_14 : decode prog_1_method_26_code 14 = .ok (.ldc_w 301, 3) := by decide +kernel
theorem dS_checkProperty_17 : decode prog_1_method_26_code 17 = .ok (.invokespecial 55, 3) := by decide +kernel
theorem dS_checkProperty_20 : decode prog_1_method_26_code 20 = .ok (.athrow, 1) := by decide +kernel
theorem dS_checkProperty_21 : decode prog_1_method_26_code 21 = .ok (.return_, 1) := by decide +kernel
theorem dS_set_0 : decode prog_1_method_5_code 0 = .ok (.aload_n 0, 1) := by decide +kernel
theorem dS_set_1 : decode prog_1_method_5_code 1 = .ok (.iload_n 1, 1) := by decide +kernel
theorem dS_set_2 : decode prog_1_method_5_code 2 = .ok (.invokevirtual 123, 3) := by decide +kernel
theorem dS_set_5 : decode prog_1_method_5_code 5 = .ok (.astore 4, 2) := by decide +kernel
theorem dS_set_7 : decode prog_1_method_5_code 7 = .ok (.iload_n 2, 1) := by decide +kernel
theorem dS_set_8 : decode prog_1_method_5_code 8 = .ok (.iload_n 3, 1) := by decide +kernel
theorem dS_set_9 : decode prog_1_method_5_code 9 = .ok (.invokestatic 119, 3) := by decide +kernel
theorem dS_set_12 : decode prog_1_method_5_code 12 = .ok (.aload 4, 2) := by decide +kernel
theorem dS_set_14 : decode prog_1_method_5_code 14 = .ok (.getfield 127, 3) := by decide +kernel
theorem dS_set_17 : decode prog_1_method_5_code 17 = .ok (.iload_n 2, 1) := by decide +kernel
theorem dS_set_18 : decode prog_1_method_5_code 18 = .ok (.iconst 1, 1) := by decide +kernel
theorem dS_set_19 : decode prog_1_method_5_code 19 = .ok (.bastore, 1) := by decide +kernel
theorem dS_set_20 : decode prog_1_method_5_code 20 = .ok (.aload 4, 2) := by decide +kernel
theorem dS_set_22 : decode prog_1_method_5_code 22 = .ok (.getfield 131, 3) := by decide +kernel
theorem dS_set_25 : decode prog_1_method_5_code 25 = .ok (.iload_n 2, 1) := by decide +kernel
theorem dS_set_26 : decode prog_1_method_5_code 26 = .ok (.iload_n 3, 1) := by decide +kernel
theorem dS_set_27 : decode prog_1_method_5_code 27 = .ok (.iastore, 1) := by decide +kernel
theorem dS_set_28 : decode prog_1_method_5_code 28 = .ok (.return_, 1) := by decide +kernel
theorem dS_findShape_0 : decode prog_1_method_28_code 0 = .ok (.iload_n 1, 1) := by decide +kernel
theorem dS_findShape_1 : decode prog_1_method_28_code 1 = .ok (.ifCond .lt 16, 3) := by decide +kernel
theorem dS_findShape_4 : decode prog_1_method_28_code 4 = .ok (.iload_n 1, 1) := by decide +kernel
theorem dS_findShape_5 : decode prog_1_method_28_code 5 = .ok (.aload_n 0, 1) := by decide +kernel
theorem dS_findShape_6 : decode prog_1_method_28_code 6 = .ok (.getfield 24, 3) := by decide +kernel
theorem dS_findShape_9 : decode prog_1_method_28_code 9 = .ok (.invokeinterface 71 1, 5) := by decide +kernel
theorem dS_findShape_14 : decode prog_1_method_28_code 14 = .ok (.if_icmp .lt 14, 3) := by decide +kernel
theorem dS_findShape_17 : decode prog_1_method_28_code 17 = .ok (.new 66, 3) := by decide +kernel
theorem dS_findShape_20 : decode prog_1_method_28_code 20 = .ok (.dup, 1) := by decide +kernel
theorem dS_findShape_21 : decode prog_1_method_28_code 21 = .ok (.ldc_w 311, 3) := by decide +kernel
theorem dS_findShape_24 : decode prog_1_method_28_code 24 = .ok (.invokespecial 70, 3) := by decide +kernel
theorem dS_findShape_27 : decode prog_1_method_28_code 27 = .ok (.athrow, 1) := by decide +kernel
theorem dS_findShape_28 : decode prog_1_method_28_code 28 = .ok (.aload_n 0, 1) := by decide +kernel
theorem dS_findShape_29 : decode prog_1_method_28_code 29 = .ok (.getfield 24, 3) := by decide +kernel
theorem dS_findShape_32 : decode prog_1_method_28_code 32 = .ok (.iload_n 1, 1) := by decide +kernel
theorem dS_findShape_33 : decode prog_1_method_28_code 33 = .ok (.invokeinterface 195 2, 5) := by decide +kernel
theorem dS_findShape_38 : decode prog_1_method_28_code 38 = .ok (.checkcast 110, 3) := by decide +kernel
theorem dS_findShape_41 : decode prog_1_method_28_code 41 = .ok (.areturn, 1) := by decide +kernel
theorem dS_unset_0 : decode prog_1_method_6_code 0 = .ok (.aload_n 0, 1) := by decide +kernel
theorem dS_unset_1 : decode prog_1_method_6_code 1 = .ok (.iload_n 1, 1) := by decide +kernel
theorem dS_unset_2 : decode prog_1_method_6_code 2 = .ok (.invokevirtual 123, 3) := by decide +kernel
theorem dS_unset_5 : decode prog_1_method_6_code 5 = .ok (.astore_n 3, 1) := by decide +kernel
theorem dS_unset_6 : decode prog_1_method_6_code 6 = .ok (.iload_n 2, 1) := by decide +kernel
theorem dS_unset_7 : decode prog_1_method_6_code 7 = .ok (.invokestatic 134, 3) := by decide +kernel
theorem dS_unset_10 : decode prog_1_method_6_code 10 = .ok (.aload_n 3, 1) := by decide +kernel
theorem dS_unset_11 : decode prog_1_method_6_code 11 = .ok (.getfield 127, 3) := by decide +kernel
theorem dS_unset_14 : decode prog_1_method_6_code 14 = .ok (.iload_n 2, 1) := by decide +kernel
theorem dS_unset_15 : decode prog_1_method_6_code 15 = .ok (.baload, 1) := by decide +kernel
theorem dS_unset_16 : decode prog_1_method_6_code 16 = .ok (.istore 4, 2) := by decide +kernel
theorem dS_unset_18 : decode prog_1_method_6_code 18 = .ok (.aload_n 3, 1) := by decide +kernel
theorem dS_unset_19 : decode prog_1_method_6_code 19 = .ok (.getfield 127, 3) := by decide +kernel
theorem dS_unset_22 : decode prog_1_method_6_code 22 = .ok (.iload_n 2, 1) := by decide +kernel
theorem dS_unset_23 : decode prog_1_method_6_code 23 = .ok (.iconst 0, 1) := by decide +kernel
theorem dS_unset_24 : decode prog_1_method_6_code 24 = .ok (.bastore, 1) := by decide +kernel
theorem dS_unset_25 : decode prog_1_method_6_code 25 = .ok (.iload 4, 2) := by decide +kernel
theorem dS_unset_27 : decode prog_1_method_6_code 27 = .ok (.ireturn, 1) := by decide +kernel
theorem dS_resolved_0 : decode prog_1_method_7_code 0 = .ok (.aload_n 0, 1) := by decide +kernel
theorem dS_resolved_1 : decode prog_1_method_7_code 1 = .ok (.iload_n 1, 1) := by decide +kernel
theorem dS_resolved_2 : decode prog_1_method_7_code 2 = .ok (.invokevirtual 123, 3) := by decide +kernel
theorem dS_resolved_5 : decode prog_1_method_7_code 5 = .ok (.astore_n 3, 1) := by decide +kernel
theorem dS_resolved_6 : decode prog_1_method_7_code 6 = .ok (.iload_n 2, 1) := by decide +kernel
theorem dS_resolved_7 : decode prog_1_method_7_code 7 = .ok (.invokestatic 134, 3) := by decide +kernel
theorem dS_resolved_10 : decode prog_1_method_7_code 10 = .ok (.aload_n 0, 1) := by decide +kernel
theorem dS_resolved_11 : decode prog_1_method_7_code 11 = .ok (.aload_n 3, 1) := by decide +kernel
theorem dS_resolved_12 : decode prog_1_method_7_code 12 = .ok (.iload_n 2, 1) := by decide +kernel
theorem dS_resolved_13 : decode prog_1_method_7_code 13 = .ok (.invokevirtual 138, 3) := by decide +kernel
theorem dS_resolved_16 : decode prog_1_method_7_code 16 = .ok (.ireturn, 1) := by decide +kernel
theorem dS_origin_0 : decode prog_1_method_8_code 0 = .ok (.aload_n 0, 1) := by decide +kernel
theorem dS_origin_1 : decode prog_1_method_8_code 1 = .ok (.iload_n 1, 1) := by decide +kernel
theorem dS_origin_2 : decode prog_1_method_8_code 2 = .ok (.invokevirtual 123, 3) := by decide +kernel
theorem dS_origin_5 : decode prog_1_method_8_code 5 = .ok (.astore_n 3, 1) := by decide +kernel
theorem dS_origin_6 : decode prog_1_method_8_code 6 = .ok (.iload_n 2, 1) := by decide +kernel
theorem dS_origin_7 : decode prog_1_method_8_code 7 = .ok (.invokestatic 134, 3) := by decide +kernel
theorem dS_origin_10 : decode prog_1_method_8_code 10 = .ok (.aload_n 3, 1) := by decide +kernel
theorem dS_origin_11 : decode prog_1_method_8_code 11 = .ok (.iload_n 2, 1) := by decide +kernel
theorem dS_origin_12 : decode prog_1_method_8_code 12 = .ok (.invokestatic 142, 3) := by decide +kernel
theorem dS_origin_15 : decode prog_1_method_8_code 15 = .ok (.invokestatic 146, 3) := by decide +kernel
theorem dS_origin_18 : decode prog_1_method_8_code 18 = .ok (.ireturn, 1) := by decide +kernel
theorem dS_indexOf_0 : decode prog_1_method_34_code 0 = .ok (.aload_n 0, 1) := by decide +kernel
theorem dS_indexOf_1 : decode prog_1_method_34_code 1 = .ok (.ifnonnull 7, 3) := by decide +kernel
theorem dS_indexOf_4 : decode prog_1_method_34_code 4 = .ok (.iconst (-1), 1) := by decide +kernel
theorem dS_indexOf_5 : decode prog_1_method_34_code 5 = .ok (.goto 7, 3) := by decide +kernel
theorem dS_indexOf_8 : decode prog_1_method_34_code 8 = .ok (.aload_n 0, 1) := by decide +kernel
theorem dS_indexOf_9 : decode prog_1_method_34_code 9 = .ok (.getfield 116, 3) := by decide +kernel
theorem dS_indexOf_12 : decode prog_1_method_34_code 12 = .ok (.ireturn, 1) := by decide +kernel
theorem dS_binding_0 : decode prog_1_method_9_code 0 = .ok (.aload_n 0, 1) := by decide +kernel
theorem dS_binding_1 : decode prog_1_method_9_code 1 = .ok (.iload_n 1, 1) := by decide +kernel
theorem dS_binding_2 : decode prog_1_method_9_code 2 = .ok (.invokevirtual 123, 3) := by decide +kernel
theorem dS_binding_5 : decode prog_1_method_9_code 5 = .ok (.astore_n 2, 1) := by decide +kernel
theorem dS_binding_6 : decode prog_1_method_9_code 6 = .ok (.aload_n 2, 1) := by decide +kernel
theorem dS_binding_7 : decode prog_1_method_9_code 7 = .ok (.getfield 150, 3) := by decide +kernel
theorem dS_binding_10 : decode prog_1_method_9_code 10 = .ok (.getfield 154, 3) := by decide +kernel
theorem dS_binding_13 : decode prog_1_method_9_code 13 = .ok (.aload_n 2, 1) := by decide +kernel
theorem dS_binding_14 : decode prog_1_method_9_code 14 = .ok (.getfield 157, 3) := by decide +kernel
theorem dS_binding_17 : decode prog_1_method_9_code 17 = .ok (.invokestatic 99, 3) := by decide +kernel
theorem dS_binding_20 : decode prog_1_method_9_code 20 = .ok (.invokestatic 146, 3) := by decide +kernel
theorem dS_binding_23 : decode prog_1_method_9_code 23 = .ok (.ireturn, 1) := by decide +kernel
theorem dS_write_0 : decode prog_1_method_10_code 0 = .ok (.aload_n 0, 1) := by decide +kernel
theorem dS_write_1 : decode prog_1_method_10_code 1 = .ok (.iload_n 1, 1) := by decide +kernel
theorem dS_write_2 : decode prog_1_method_10_code 2 = .ok (.invokevirtual 123, 3) := by decide +kernel
theorem dS_write_5 : decode prog_1_method_10_code 5 = .ok (.astore 4, 2) := by decide +kernel
theorem dS_write_7 : decode prog_1_method_10_code 7 = .ok (.iload_n 2, 1) := by decide +kernel
theorem dS_write_8 : decode prog_1_method_10_code 8 = .ok (.iconst 0, 1) := by decide +kernel
theorem dS_write_9 : decode prog_1_method_10_code 9 = .ok (.iconst 2, 1) := by decide +kernel
theorem dS_write_10 : decode prog_1_method_10_code 10 = .ok (.invokestatic 47, 3) := by decide +kernel
theorem dS_write_13 : decode prog_1_method_10_code 13 = .ok (.ifCond .ne 13, 3) := by decide +kernel
theorem dS_write_16 : decode prog_1_method_10_code 16 = .ok (.new 51, 3) := by decide +kernel
theorem dS_write_19 : decode prog_1_method_10_code 19 = .ok (.dup, 1) := by decide +kernel
theorem dS_write_20 : decode prog_1_method_10_code 20 = .ok (.ldc 160, 2) := by decide +kernel
theorem dS_write_22 : decode prog_1_method_10_code 22 = .ok (.invokespecial 55, 3) := by decide +kernel
theorem dS_write_25 : decode prog_1_method_10_code 25 = .ok (.athrow, 1) := by decide +kernel
theorem dS_write_26 : decode prog_1_method_10_code 26 = .ok (.iload_n 3, 1) := by decide +kernel
theorem dS_write_27 : decode prog_1_method_10_code 27 = .ok (.invokestatic 162, 3) := by decide +kernel
theorem dS_write_30 : decode prog_1_method_10_code 30 = .ok (.ifCond .ne 13, 3) := by decide +kernel
theorem dS_write_33 : decode prog_1_method_10_code 33 = .ok (.new 51, 3) := by decide +kernel
theorem dS_write_36 : decode prog_1_method_10_code 36 = .ok (.dup, 1) := by decide +kernel
theorem dS_write_37 : decode prog_1_method_10_code 37 = .ok (.ldc 166, 2) := by decide +kernel
theorem dS_write_39 : decode prog_1_method_10_code 39 = .ok (.invokespecial 55, 3) := by decide +kernel
theorem dS_write_42 : decode prog_1_method_10_code 42 = .ok (.athrow, 1) := by decide +kernel
theorem dS_write_43 : decode prog_1_method_10_code 43 = .ok (.aload 4, 2) := by decide +kernel
theorem dS_write_45 : decode prog_1_method_10_code 45 = .ok (.getfield 168, 3) := by decide +kernel
theorem dS_write_48 : decode prog_1_method_10_code 48 = .ok (.invokeinterface 71 1, 5) := by decide +kernel
theorem dS_write_53 : decode prog_1_method_10_code 53 = .ok (.iconst 4, 1) := by decide +kernel
theorem dS_write_54 : decode prog_1_method_10_code 54 = .ok (.if_icmp .lt 13, 3) := by decide +kernel
theorem dS_write_57 : decode prog_1_method_10_code 57 = .ok (.new 77, 3) := by decide +kernel
theorem dS_write_60 : decode prog_1_method_10_code 60 = .ok (.dup, 1) := by decide +kernel
theorem dS_write_61 : decode prog_1_method_10_code 61 = .ok (.ldc 171, 2) := by decide +kernel
theorem dS_write_63 : decode prog_1_method_10_code 63 = .ok (.invokespecial 81, 3) := by decide +kernel
theorem dS_write_66 : decode prog_1_method_10_code 66 = .ok (.athrow, 1) := by decide +kernel
theorem dS_write_67 : decode prog_1_method_10_code 67 = .ok (.aload 4, 2) := by decide +kernel
theorem dS_write_69 : decode prog_1_method_10_code 69 = .ok (.getfield 168, 3) := by decide +kernel
theorem dS_write_72 : decode prog_1_method_10_code 72 = .ok (.new 173, 3) := by decide +kernel
theorem dS_write_75 : decode prog_1_method_10_code 75 = .ok (.dup, 1) := by decide +kernel
theorem dS_write_76 : decode prog_1_method_10_code 76 = .ok (.iload_n 2, 1) := by decide +kernel
theorem dS_write_77 : decode prog_1_method_10_code 77 = .ok (.iload_n 3, 1) := by decide +kernel
theorem dS_write_78 : decode prog_1_method_10_code 78 = .ok (.invokespecial 175, 3) := by decide +kernel
theorem dS_write_81 : decode prog_1_method_10_code 81 = .ok (.invokeinterface 87 2, 5) := by decide +kernel
theorem dS_write_86 : decode prog_1_method_10_code 86 = .ok (.pop, 1) := by decide +kernel
theorem dS_write_87 : decode prog_1_method_10_code 87 = .ok (.aload 4, 2) := by decide +kernel
theorem dS_write_89 : decode prog_1_method_10_code 89 = .ok (.getfield 168, 3) := by decide +kernel
theorem dS_write_92 : decode prog_1_method_10_code 92 = .ok (.invokeinterface 71 1, 5) := by decide +kernel
theorem dS_write_97 : decode prog_1_method_10_code 97 = .ok (.iconst 1, 1) := by decide +kernel
theorem dS_write_98 : decode prog_1_method_10_code 98 = .ok (.isub, 1) := by decide +kernel
theorem dS_write_99 : decode prog_1_method_10_code 99 = .ok (.ireturn, 1) := by decide +kernel
theorem dS_areWords_0 : decode prog_1_method_38_code 0 = .ok (.iconst 0, 1) := by decide +kernel
theorem dS_areWords_1 : decode prog_1_method_38_code 1 = .ok (.istore_n 1, 1) := by decide +kernel
theorem dS_areWords_2 : decode prog_1_method_38_code 2 = .ok (.iload_n 1, 1) := by decide +kernel
theorem dS_areWords_3 : decode prog_1_method_38_code 3 = .ok (.iconst 4, 1) := by decide +kernel
theorem dS_areWords_4 : decode prog_1_method_38_code 4 = .ok (.if_icmp .ge 21, 3) := by decide +kernel
theorem dS_areWords_7 : decode prog_1_method_38_code 7 = .ok (.iload_n 0, 1) := by decide +kernel
theorem dS_areWords_8 : decode prog_1_method_38_code 8 = .ok (.iload_n 1, 1) := by decide +kernel
theorem dS_areWords_9 : decode prog_1_method_38_code 9 = .ok (.invokestatic 315, 3) := by decide +kernel
theorem dS_areWords_12 : decode prog_1_method_38_code 12 = .ok (.bipush 15, 2) := by decide +kernel
theorem dS_areWords_14 : decode prog_1_method_38_code 14 = .ok (.if_icmp .le 5, 3) := by decide +kernel
theorem dS_areWords_17 : decode prog_1_method_38_code 17 = .ok (.iconst 0, 1) := by decide +kernel
theorem dS_areWords_18 : decode prog_1_method_38_code 18 = .ok (.ireturn, 1) := by decide +kernel
theorem dS_areWords_19 : decode prog_1_method_38_code 19 = .ok (.iinc 1 1, 3) := by decide +kernel
theorem dS_areWords_22 : decode prog_1_method_38_code 22 = .ok (.goto (-20), 3) := by decide +kernel
theorem dS_areWords_25 : decode prog_1_method_38_code 25 = .ok (.iload_n 0, 1) := by decide +kernel
theorem dS_areWords_26 : decode prog_1_method_38_code 26 = .ok (.ifCond .eq 7, 3) := by decide +kernel
theorem dS_areWords_29 : decode prog_1_method_38_code 29 = .ok (.iconst 1, 1) := by decide +kernel
theorem dS_areWords_30 : decode prog_1_method_38_code 30 = .ok (.goto 4, 3) := by decide +kernel
theorem dS_areWords_33 : decode prog_1_method_38_code 33 = .ok (.iconst 0, 1) := by decide +kernel
theorem dS_areWords_34 : decode prog_1_method_38_code 34 = .ok (.ireturn, 1) := by decide +kernel
theorem dS_letters_0 : decode prog_1_method_37_code 0 = .ok (.iload_n 0, 1) := by decide +kernel
theorem dS_letters_1 : decode prog_1_method_37_code 1 = .ok (.bipush 8, 2) := by decide +kernel
theorem dS_letters_3 : decode prog_1_method_37_code 3 = .ok (.iconst 3, 1) := by decide +kernel
theorem dS_letters_4 : decode prog_1_method_37_code 4 = .ok (.iload_n 1, 1) := by decide +kernel
theorem dS_letters_5 : decode prog_1_method_37_code 5 = .ok (.isub, 1) := by decide +kernel
theorem dS_letters_6 : decode prog_1_method_37_code 6 = .ok (.imul, 1) := by decide +kernel
theorem dS_letters_7 : decode prog_1_method_37_code 7 = .ok (.iushr, 1) := by decide +kernel
theorem dS_letters_8 : decode prog_1_method_37_code 8 = .ok (.sipush 255, 3) := by decide +kernel
theorem dS_letters_11 : decode prog_1_method_37_code 11 = .ok (.iand, 1) := by decide +kernel
theorem dS_letters_12 : decode prog_1_method_37_code 12 = .ok (.ireturn, 1) := by decide +kernel
theorem dG_init_0 : decode prog_5_method_1_code 0 = .ok (.aload_n 0, 1) := by decide +kernel
theorem dG_init_1 : decode prog_5_method_1_code 1 = .ok (.invokespecial 1, 3) := by decide +kernel
theorem dG_init_4 : decode prog_5_method_1_code 4 = .ok (.aload_n 0, 1) := by decide +kernel
theorem dG_init_5 : decode prog_5_method_1_code 5 = .ok (.iload_n 1, 1) := by decide +kernel
theorem dG_init_6 : decode prog_5_method_1_code 6 = .ok (.putfield 7, 3) := by decide +kernel
theorem dG_init_9 : decode prog_5_method_1_code 9 = .ok (.aload_n 0, 1) := by decide +kernel
theorem dG_init_10 : decode prog_5_method_1_code 10 = .ok (.iload_n 2, 1) := by decide +kernel
theorem dG_init_11 : decode prog_5_method_1_code 11 = .ok (.putfield 13, 3) := by decide +kernel
theorem dG_init_14 : decode prog_5_method_1_code 14 = .ok (.return_, 1) := by decide +kernel
theorem dS_scale_0 : decode prog_1_method_11_code 0 = .ok (.aload_n 0, 1) := by decide +kernel
theorem dS_scale_1 : decode prog_1_method_11_code 1 = .ok (.aload_n 0, 1) := by decide +kernel
theorem dS_scale_2 : decode prog_1_method_11_code 2 = .ok (.iload_n 1, 1) := by decide +kernel
theorem dS_scale_3 : decode prog_1_method_11_code 3 = .ok (.invokevirtual 123, 3) := by decide +kernel
theorem dS_scale_6 : decode prog_1_method_11_code 6 = .ok (.invokevirtual 177, 3) := by decide +kernel
theorem dS_scale_9 : decode prog_1_method_11_code 9 = .ok (.ireturn, 1) := by decide +kernel
theorem dS_fitText_0 : decode prog_1_method_39_code 0 = .ok (.aload_n 0, 1) := by decide +kernel
theorem dS_fitText_1 : decode prog_1_method_39_code 1 = .ok (.aload_n 1, 1) := by decide +kernel
theorem dS_fitText_2 : decode prog_1_method_39_code 2 = .ok (.iconst 2, 1) := by decide +kernel
theorem dS_fitText_3 : decode prog_1_method_39_code 3 = .ok (.invokevirtual 138, 3) := by decide +kernel
theorem dS_fitText_6 : decode prog_1_method_39_code 6 = .ok (.istore_n 2, 1) := by decide +kernel
theorem dS_fitText_7 : decode prog_1_method_39_code 7 = .ok (.aload_n 0, 1) := by decide +kernel
theorem dS_fitText_8 : decode prog_1_method_39_code 8 = .ok (.aload_n 1, 1) := by decide +kernel
theorem dS_fitText_9 : decode prog_1_method_39_code 9 = .ok (.iconst 3, 1) := by decide +kernel
theorem dS_fitText_10 : decode prog_1_method_39_code 10 = .ok (.invokevirtual 138, 3) := by decide +kernel
theorem dS_fitText_13 : decode prog_1_method_39_code 13 = .ok (.istore_n 3, 1) := by decide +kernel
theorem dS_fitText_14 : decode prog_1_method_39_code 14 = .ok (.aload_n 0, 1) := by decide +kernel
theorem dS_fitText_15 : decode prog_1_method_39_code 15 = .ok (.aload_n 1, 1) := by decide +kernel
theorem dS_fitText_16 : decode prog_1_method_39_code 16 = .ok (.bipush 6, 2) := by decide +kernel
theorem dS_fitText_18 : decode prog_1_method_39_code 18 = .ok (.invokevirtual 138, 3) := by decide +kernel
theorem dS_fitText_21 : decode prog_1_method_39_code 21 = .ok (.istore 4, 2) := by decide +kernel
theorem dS_fitText_23 : decode prog_1_method_39_code 23 = .ok (.iload 4, 2) := by decide +kernel
theorem dS_fitText_25 : decode prog_1_method_39_code 25 = .ok (.iconst 1, 1) := by decide +kernel
theorem dS_fitText_26 : decode prog_1_method_39_code 26 = .ok (.if_icmp .lt 40, 3) := by decide +kernel
theorem dS_fitText_29 : decode prog_1_method_39_code 29 = .ok (.aload_n 0, 1) := by decide +kernel
theorem dS_fitText_30 : decode prog_1_method_39_code 30 = .ok (.getfield 33, 3) := by decide +kernel
theorem dS_fitText_33 : decode prog_1_method_39_code 33 = .ok (.aload_n 1, 1) := by decide +kernel
theorem dS_fitText_34 : decode prog_1_method_39_code 34 = .ok (.getfield 168, 3) := by decide +kernel
theorem dS_fitText_37 : decode prog_1_method_39_code 37 = .ok (.iload_n 2, 1) := by decide +kernel
theorem dS_fitText_38 : decode prog_1_method_39_code 38 = .ok (.iload 4, 2) := by decide +kernel
theorem dS_fitText_40 : decode prog_1_method_39_code 40 = .ok (.invokevirtual 318, 3) := by decide +kernel
theorem dS_fitText_43 : decode prog_1_method_39_code 43 = .ok (.iload 4, 2) := by decide +kernel
theorem dS_fitText_45 : decode prog_1_method_39_code 45 = .ok (.aload_n 0, 1) := by decide +kernel
theorem dS_fitText_46 : decode prog_1_method_39_code 46 = .ok (.getfield 33, 3) := by decide +kernel
theorem dS_fitText_49 : decode prog_1_method_39_code 49 = .ok (.getfield 180, 3) := by decide +kernel
theorem dS_fitText_52 : decode prog_1_method_39_code 52 = .ok (.imul, 1) := by decide +kernel
theorem dS_fitText_53 : decode prog_1_method_39_code 53 = .ok (.iload_n 3, 1) := by decide +kernel
theorem dS_fitText_54 : decode prog_1_method_39_code 54 = .ok (.if_icmp .gt 6, 3) := by decide +kernel
theorem dS_fitText_57 : decode prog_1_method_39_code 57 = .ok (.iload 4, 2) := by decide +kernel
theorem dS_fitText_59 : decode prog_1_method_39_code 59 = .ok (.ireturn, 1) := by decide +kernel
theorem dS_fitText_60 : decode prog_1_method_39_code 60 = .ok (.iinc 4 (-1), 3) := by decide +kernel
theorem dS_fitText_63 : decode prog_1_method_39_code 63 = .ok (.goto (-40), 3) := by decide +kernel
theorem dS_fitText_66 : decode prog_1_method_39_code 66 = .ok (.iconst 0, 1) := by decide +kernel
theorem dS_fitText_67 : decode prog_1_method_39_code 67 = .ok (.ireturn, 1) := by decide +kernel
theorem dR_fill_0 : decode prog_3_method_2_code 0 = .ok (.aload_n 0, 1) := by decide +kernel
theorem dR_fill_1 : decode prog_3_method_2_code 1 = .ok (.iconst 0, 1) := by decide +kernel
theorem dR_fill_2 : decode prog_3_method_2_code 2 = .ok (.putfield 24, 3) := by decide +kernel
theorem dR_fill_5 : decode prog_3_method_2_code 5 = .ok (.iconst 0, 1) := by decide +kernel
theorem dR_fill_6 : decode prog_3_method_2_code 6 = .ok (.istore 4, 2) := by decide +kernel
theorem dR_fill_8 : decode prog_3_method_2_code 8 = .ok (.iload 4, 2) := by decide +kernel
theorem dR_fill_10 : decode prog_3_method_2_code 10 = .ok (.aload_n 1, 1) := by decide +kernel
theorem dR_fill_11 : decode prog_3_method_2_code 11 = .ok (.invokeinterface 28 1, 5) := by decide +kernel
theorem dR_fill_16 : decode prog_3_method_2_code 16 = .ok (.if_icmp .ge 54, 3) := by decide +kernel
theorem dR_fill_19 : decode prog_3_method_2_code 19 = .ok (.iload_n 2, 1) := by decide +kernel
theorem dR_fill_20 : decode prog_3_method_2_code 20 = .ok (.iconst 2, 1) := by decide +kernel
theorem dR_fill_21 : decode prog_3_method_2_code 21 = .ok (.iload_n 3, 1) := by decide +kernel
theorem dR_fill_22 : decode prog_3_method_2_code 22 = .ok (.imul, 1) := by decide +kernel
theorem dR_fill_23 : decode prog_3_method_2_code 23 = .ok (.aload_n 1, 1) := by decide +kernel
theorem dR_fill_24 : decode prog_3_method_2_code 24 = .ok (.iload 4, 2) := by decide +kernel
theorem dR_fill_26 : decode prog_3_method_2_code 26 = .ok (.invokeinterface 34 2, 5) := by decide +kernel
theorem dR_fill_31 : decode prog_3_method_2_code 31 = .ok (.checkcast 38, 3) := by decide +kernel
theorem dR_fill_34 : decode prog_3_method_2_code 34 = .ok (.getfield 40, 3) := by decide +kernel
theorem dR_fill_37 : decode prog_3_method_2_code 37 = .ok (.imul, 1) := by decide +kernel
theorem dR_fill_38 : decode prog_3_method_2_code 38 = .ok (.isub, 1) := by decide +kernel
theorem dR_fill_39 : decode prog_3_method_2_code 39 = .ok (.istore 5, 2) := by decide +kernel
theorem dR_fill_41 : decode prog_3_method_2_code 41 = .ok (.aload_n 0, 1) := by decide +kernel
theorem dR_fill_42 : decode prog_3_method_2_code 42 = .ok (.iload 4, 2) := by decide +kernel
theorem dR_fill_44 : decode prog_3_method_2_code 44 = .ok (.aload_n 1, 1) := by decide +kernel
theorem dR_fill_45 : decode prog_3_method_2_code 45 = .ok (.iload 4, 2) := by decide +kernel
theorem dR_fill_47 : decode prog_3_method_2_code 47 = .ok (.invokeinterface 34 2, 5) := by decide +kernel
theorem dR_fill_52 : decode prog_3_method_2_code 52 = .ok (.checkcast 38, 3) := by decide +kernel
theorem dR_fill_55 : decode prog_3_method_2_code 55 = .ok (.getfield 43, 3) := by decide +kernel
theorem dR_fill_58 : decode prog_3_method_2_code 58 = .ok (.iload 5, 2) := by decide +kernel
theorem dR_fill_60 : decode prog_3_method_2_code 60 = .ok (.iload_n 3, 1) := by decide +kernel
theorem dR_fill_61 : decode prog_3_method_2_code 61 = .ok (.invokevirtual 45, 3) := by decide +kernel
theorem dR_fill_64 : decode prog_3_method_2_code 64 = .ok (.iinc 4 1, 3) := by decide +kernel
theorem dR_fill_67 : decode prog_3_method_2_code 67 = .ok (.goto (-59), 3) := by decide +kernel
theorem dR_fill_70 : decode prog_3_method_2_code 70 = .ok (.return_, 1) := by decide +kernel
theorem dR_addParagraph_0 : decode prog_3_method_3_code 0 = .ok (.iconst 0, 1) := by decide +kernel
theorem dR_addParagraph_1 : decode prog_3_method_3_code 1 = .ok (.istore 5, 2) := by decide +kernel
theorem dR_addParagraph_3 : decode prog_3_method_3_code 3 = .ok (.iconst 0, 1) := by decide +kernel
theorem dR_addParagraph_4 : decode prog_3_method_3_code 4 = .ok (.istore 6, 2) := by decide +kernel
theorem dR_addParagraph_6 : decode prog_3_method_3_code 6 = .ok (.iload 6, 2) := by decide +kernel
theorem dR_addParagraph_8 : decode prog_3_method_3_code 8 = .ok (.iconst 4, 1) := by decide +kernel
theorem dR_addParagraph_9 : decode prog_3_method_3_code 9 = .ok (.if_icmp .ge 58, 3) := by decide +kernel
theorem dR_addParagraph_12 : decode prog_3_method_3_code 12 = .ok (.iload 4, 2) := by decide +kernel
theorem dR_addParagraph_14 : decode prog_3_method_3_code 14 = .ok (.iload_n 2, 1) := by decide +kernel
theorem dR_addParagraph_15 : decode prog_3_method_3_code 15 = .ok (.iload 6, 2) := by decide +kernel
theorem dR_addParagraph_17 : decode prog_3_method_3_code 17 = .ok (.invokestatic 49, 3) := by decide +kernel
theorem dR_addParagraph_20 : decode prog_3_method_3_code 20 = .ok (.imul, 1) := by decide +kernel
theorem dR_addParagraph_21 : decode prog_3_method_3_code 21 = .ok (.istore 7, 2) := by decide +kernel
theorem dR_addParagraph_23 : decode prog_3_method_3_code 23 = .ok (.iload 7, 2) := by decide +kernel
theorem dR_addParagraph_25 : decode prog_3_method_3_code 25 = .ok (.ifCond .ne 6, 3) := by decide +kernel
theorem dR_addParagraph_28 : decode prog_3_method_3_code 28 = .ok (.goto 33, 3) := by decide +kernel
theorem dR_addParagraph_31 : decode prog_3_method_3_code 31 = .ok (.iload 5, 2) := by decide +kernel
theorem dR_addParagraph_33 : decode prog_3_method_3_code 33 = .ok (.ifCond .eq 16, 3) := by decide +kernel
theorem dR_addParagraph_36 : decode prog_3_method_3_code 36 = .ok (.aload_n 0, 1) := by decide +kernel
theorem dR_addParagraph_37 : decode prog_3_method_3_code 37 = .ok (.iload 4, 2) := by decide +kernel
theorem dR_addParagraph_39 : decode prog_3_method_3_code 39 = .ok (.iload 7, 2) := by decide +kernel
theorem dR_addParagraph_41 : decode prog_3_method_3_code 41 = .ok (.iadd, 1) := by decide +kernel
theorem dR_addParagraph_42 : decode prog_3_method_3_code 42 = .ok (.iload_n 3, 1) := by decide +kernel
theorem dR_addParagraph_43 : decode prog_3_method_3_code 43 = .ok (.invokevirtual 53, 3) := by decide +kernel
theorem dR_addParagraph_46 : decode prog_3_method_3_code 46 = .ok (.ifCond .ne 12, 3) := by decide +kernel
theorem dR_addParagraph_49 : decode prog_3_method_3_code 49 = .ok (.aload_n 0, 1) := by decide +kernel
theorem dR_addParagraph_50 : decode prog_3_method_3_code 50 = .ok (.iload_n 1, 1) := by decide +kernel
theorem dR_addParagraph_51 : decode prog_3_method_3_code 51 = .ok (.iload 5, 2) := by decide +kernel
theorem dR_addParagraph_53 : decode prog_3_method_3_code 53 = .ok (.iload 7, 2) := by decide +kernel
theorem dR_addParagraph_55 : decode prog_3_method_3_code 55 = .ok (.invokevirtual 57, 3) := by decide +kernel
theorem dR_addParagraph_58 : decode prog_3_method_3_code 58 = .ok (.iinc 5 1, 3) := by decide +kernel
theorem dR_addParagraph_61 : decode prog_3_method_3_code 61 = .ok (.iinc 6 1, 3) := by decide +kernel
theorem dR_addParagraph_64 : decode prog_3_method_3_code 64 = .ok (.goto (-58), 3) := by decide +kernel
theorem dR_addParagraph_67 : decode prog_3_method_3_code 67 = .ok (.return_, 1) := by decide +kernel
theorem dR_extendLine_0 : decode prog_3_method_4_code 0 = .ok (.aload_n 0, 1) := by decide +kernel
theorem dR_extendLine_1 : decode prog_3_method_4_code 1 = .ok (.getfield 24, 3) := by decide +kernel
theorem dR_extendLine_4 : decode prog_3_method_4_code 4 = .ok (.iconst 1, 1) := by decide +kernel
theorem dR_extendLine_5 : decode prog_3_method_4_code 5 = .ok (.if_icmp .lt 29, 3) := by decide +kernel
theorem dR_extendLine_8 : decode prog_3_method_4_code 8 = .ok (.aload_n 0, 1) := by decide +kernel
theorem dR_extendLine_9 : decode prog_3_method_4_code 9 = .ok (.getfield 24, 3) := by decide +kernel
theorem dR_extendLine_12 : decode prog_3_method_4_code 12 = .ok (.bipush 16, 2) := by decide +kernel
theorem dR_extendLine_14 : decode prog_3_method_4_code 14 = .ok (.if_icmp .gt 20, 3) := by decide +kernel
theorem dR_extendLine_17 : decode prog_3_method_4_code 17 = .ok (.aload_n 0, 1) := by decide +kernel
theorem dR_extendLine_18 : decode prog_3_method_4_code 18 = .ok (.getfield 21, 3) := by decide +kernel
theorem dR_extendLine_21 : decode prog_3_method_4_code 21 = .ok (.aload_n 0, 1) := by decide +kernel
theorem dR_extendLine_22 : decode prog_3_method_4_code 22 = .ok (.getfield 24, 3) := by decide +kernel
theorem dR_extendLine_25 : decode prog_3_method_4_code 25 = .ok (.iconst 1, 1) := by decide +kernel
theorem dR_extendLine_26 : decode prog_3_method_4_code 26 = .ok (.isub, 1) := by decide +kernel
theorem dR_extendLine_27 : decode prog_3_method_4_code 27 = .ok (.iaload, 1) := by decide +kernel
theorem dR_extendLine_28 : decode prog_3_method_4_code 28 = .ok (.iload_n 1, 1) := by decide +kernel
theorem dR_extendLine_29 : decode prog_3_method_4_code 29 = .ok (.iadd, 1) := by decide +kernel
theorem dR_extendLine_30 : decode prog_3_method_4_code 30 = .ok (.iload_n 2, 1) := by decide +kernel
theorem dR_extendLine_31 : decode prog_3_method_4_code 31 = .ok (.if_icmp .le 5, 3) := by decide +kernel
theorem dR_extendLine_34 : decode prog_3_method_4_code 34 = .ok (.iconst 0, 1) := by decide +kernel
theorem dR_extendLine_35 : decode prog_3_method_4_code 35 = .ok (.ireturn, 1) := by decide +kernel
theorem dR_extendLine_36 : decode prog_3_method_4_code 36 = .ok (.aload_n 0, 1) := by decide +kernel
theorem dR_extendLine_37 : decode prog_3_method_4_code 37 = .ok (.getfield 18, 3) := by decide +kernel
theorem dR_extendLine_40 : decode prog_3_method_4_code 40 = .ok (.aload_n 0, 1) := by decide +kernel
theorem dR_extendLine_41 : decode prog_3_method_4_code 41 = .ok (.getfield 24, 3) := by decide +kernel
theorem dR_extendLine_44 : decode prog_3_method_4_code 44 = .ok (.iconst 1, 1) := by decide +kernel
theorem dR_extendLine_45 : decode prog_3_method_4_code 45 = .ok (.isub, 1) := by decide +kernel
theorem dR_extendLine_46 : decode prog_3_method_4_code 46 = .ok (.dup2, 1) := by decide +kernel
theorem dR_extendLine_47 : decode prog_3_method_4_code 47 = .ok (.iaload, 1) := by decide +kernel
theorem dR_extendLine_48 : decode prog_3_method_4_code 48 = .ok (.iconst 1, 1) := by decide +kernel
theorem dR_extendLine_49 : decode prog_3_method_4_code 49 = .ok (.iadd, 1) := by decide +kernel
theorem dR_extendLine_50 : decode prog_3_method_4_code 50 = .ok (.iastore, 1) := by decide +kernel
theorem dR_extendLine_51 : decode prog_3_method_4_code 51 = .ok (.aload_n 0, 1) := by decide +kernel
theorem dR_extendLine_52 : decode prog_3_method_4_code 52 = .ok (.getfield 21, 3) := by decide +kernel
theorem dR_extendLine_55 : decode prog_3_method_4_code 55 = .ok (.aload_n 0, 1) := by decide +kernel
theorem dR_extendLine_56 : decode prog_3_method_4_code 56 = .ok (.getfield 24, 3) := by decide +kernel
theorem dR_extendLine_59 : decode prog_3_method_4_code 59 = .ok (.iconst 1, 1) := by decide +kernel
theorem dR_extendLine_60 : decode prog_3_method_4_code 60 = .ok (.isub, 1) := by decide +kernel
theorem dR_extendLine_61 : decode prog_3_method_4_code 61 = .ok (.dup2, 1) := by decide +kernel
theorem dR_extendLine_62 : decode prog_3_method_4_code 62 = .ok (.iaload, 1) := by decide +kernel
theorem dR_extendLine_63 : decode prog_3_method_4_code 63 = .ok (.iload_n 1, 1) := by decide +kernel
theorem dR_extendLine_64 : decode prog_3_method_4_code 64 = .ok (.iadd, 1) := by decide +kernel
theorem dR_extendLine_65 : decode prog_3_method_4_code 65 = .ok (.iastore, 1) := by decide +kernel
theorem dR_extendLine_66 : decode prog_3_method_4_code 66 = .ok (.iconst 1, 1) := by decide +kernel
theorem dR_extendLine_67 : decode prog_3_method_4_code 67 = .ok (.ireturn, 1) := by decide +kernel
theorem dR_beginLine_0 : decode prog_3_method_5_code 0 = .ok (.aload_n 0, 1) := by decide +kernel
theorem dR_beginLine_1 : decode prog_3_method_5_code 1 = .ok (.getfield 24, 3) := by decide +kernel
theorem dR_beginLine_4 : decode prog_3_method_5_code 4 = .ok (.bipush 16, 2) := by decide +kernel
theorem dR_beginLine_6 : decode prog_3_method_5_code 6 = .ok (.if_icmp .lt 4, 3) := by decide +kernel
theorem dR_beginLine_9 : decode prog_3_method_5_code 9 = .ok (.return_, 1) := by decide +kernel
theorem dR_beginLine_10 : decode prog_3_method_5_code 10 = .ok (.aload_n 0, 1) := by decide +kernel
theorem dR_beginLine_11 : decode prog_3_method_5_code 11 = .ok (.getfield 9, 3) := by decide +kernel
theorem dR_beginLine_14 : decode prog_3_method_5_code 14 = .ok (.aload_n 0, 1) := by decide +kernel
theorem dR_beginLine_15 : decode prog_3_method_5_code 15 = .ok (.getfield 24, 3) := by decide +kernel
theorem dR_beginLine_18 : decode prog_3_method_5_code 18 = .ok (.iload_n 1, 1) := by decide +kernel
theorem dR_beginLine_19 : decode prog_3_method_5_code 19 = .ok (.iastore, 1) := by decide +kernel
theorem dR_beginLine_20 : decode prog_3_method_5_code 20 = .ok (.aload_n 0, 1) := by decide +kernel
theorem dR_beginLine_21 : decode prog_3_method_5_code 21 = .ok (.getfield 15, 3) := by decide +kernel
theorem dR_beginLine_24 : decode prog_3_method_5_code 24 = .ok (.aload_n 0, 1) := by decide +kernel
theorem dR_beginLine_25 : decode prog_3_method_5_code 25 = .ok (.getfield 24, 3) := by decide +kernel
theorem dR_beginLine_28 : decode prog_3_method_5_code 28 = .ok (.iload_n 2, 1) := by decide +kernel
theorem dR_beginLine_29 : decode prog_3_method_5_code 29 = .ok (.iastore, 1) := by decide +kernel
theorem dR_beginLine_30 : decode prog_3_method_5_code 30 = .ok (.aload_n 0, 1) := by decide +kernel
theorem dR_beginLine_31 : decode prog_3_method_5_code 31 = .ok (.getfield 18, 3) := by decide +kernel
theorem dR_beginLine_34 : decode prog_3_method_5_code 34 = .ok (.aload_n 0, 1) := by decide +kernel
theorem dR_beginLine_35 : decode prog_3_method_5_code 35 = .ok (.getfield 24, 3) := by decide +kernel
theorem dR_beginLine_38 : decode prog_3_method_5_code 38 = .ok (.iconst 1, 1) := by decide +kernel
theorem dR_beginLine_39 : decode prog_3_method_5_code 39 = .ok (.iastore, 1) := by decide +kernel
theorem dR_beginLine_40 : decode prog_3_method_5_code 40 = .ok (.aload_n 0, 1) := by decide +kernel
theorem dR_beginLine_41 : decode prog_3_method_5_code 41 = .ok (.getfield 21, 3) := by decide +kernel
theorem dR_beginLine_44 : decode prog_3_method_5_code 44 = .ok (.aload_n 0, 1) := by decide +kernel
theorem dR_beginLine_45 : decode prog_3_method_5_code 45 = .ok (.getfield 24, 3) := by decide +kernel
theorem dR_beginLine_48 : decode prog_3_method_5_code 48 = .ok (.iload_n 3, 1) := by decide +kernel
theorem dR_beginLine_49 : decode prog_3_method_5_code 49 = .ok (.iastore, 1) := by decide +kernel
theorem dR_beginLine_50 : decode prog_3_method_5_code 50 = .ok (.aload_n 0, 1) := by decide +kernel
theorem dR_beginLine_51 : decode prog_3_method_5_code 51 = .ok (.dup, 1) := by decide +kernel
theorem dR_beginLine_52 : decode prog_3_method_5_code 52 = .ok (.getfield 24, 3) := by decide +kernel
theorem dR_beginLine_55 : decode prog_3_method_5_code 55 = .ok (.iconst 1, 1) := by decide +kernel
theorem dR_beginLine_56 : decode prog_3_method_5_code 56 = .ok (.iadd, 1) := by decide +kernel
theorem dR_beginLine_57 : decode prog_3_method_5_code 57 = .ok (.putfield 24, 3) := by decide +kernel
theorem dR_beginLine_60 : decode prog_3_method_5_code 60 = .ok (.return_, 1) := by decide +kernel
theorem dS_lines_0 : decode prog_1_method_12_code 0 = .ok (.aload_n 0, 1) := by decide +kernel
theorem dS_lines_1 : decode prog_1_method_12_code 1 = .ok (.aload_n 0, 1) := by decide +kernel
theorem dS_lines_2 : decode prog_1_method_12_code 2 = .ok (.iload_n 1, 1) := by decide +kernel
theorem dS_lines_3 : decode prog_1_method_12_code 3 = .ok (.invokevirtual 123, 3) := by decide +kernel
theorem dS_lines_6 : decode prog_1_method_12_code 6 = .ok (.invokevirtual 177, 3) := by decide +kernel
theorem dS_lines_9 : decode prog_1_method_12_code 9 = .ok (.pop, 1) := by decide +kernel
theorem dS_lines_10 : decode prog_1_method_12_code 10 = .ok (.aload_n 0, 1) := by decide +kernel
theorem dS_lines_11 : decode prog_1_method_12_code 11 = .ok (.getfield 33, 3) := by decide +kernel
theorem dS_lines_14 : decode prog_1_method_12_code 14 = .ok (.getfield 180, 3) := by decide +kernel
theorem dS_lines_17 : decode prog_1_method_12_code 17 = .ok (.ireturn, 1) := by decide +kernel
theorem dS_line_0 : decode prog_1_method_13_code 0 = .ok (.aload_n 0, 1) := by decide +kernel
theorem dS_line_1 : decode prog_1_method_13_code 1 = .ok (.aload_n 0, 1) := by decide +kernel
theorem dS_line_2 : decode prog_1_method_13_code 2 = .ok (.iload_n 1, 1) := by decide +kernel
theorem dS_line_3 : decode prog_1_method_13_code 3 = .ok (.invokevirtual 123, 3) := by decide +kernel
theorem dS_line_6 : decode prog_1_method_13_code 6 = .ok (.invokevirtual 177, 3) := by decide +kernel
theorem dS_line_9 : decode prog_1_method_13_code 9 = .ok (.pop, 1) := by decide +kernel
theorem dS_line_10 : decode prog_1_method_13_code 10 = .ok (.iload_n 2, 1) := by decide +kernel
theorem dS_line_11 : decode prog_1_method_13_code 11 = .ok (.ifCond .lt 14, 3) := by decide +kernel
theorem dS_line_14 : decode prog_1_method_13_code 14 = .ok (.iload_n 2, 1) := by decide +kernel
theorem dS_line_15 : decode prog_1_method_13_code 15 = .ok (.aload_n 0, 1) := by decide +kernel
theorem dS_line_16 : decode prog_1_method_13_code 16 = .ok (.getfield 33, 3) := by decide +kernel
theorem dS_line_19 : decode prog_1_method_13_code 19 = .ok (.getfield 180, 3) := by decide +kernel
theorem dS_line_22 : decode prog_1_method_13_code 22 = .ok (.if_icmp .lt 5, 3) := by decide +kernel
theorem dS_line_25 : decode prog_1_method_13_code 25 = .ok (.iconst (-1), 1) := by decide +kernel
theorem dS_line_26 : decode prog_1_method_13_code 26 = .ok (.ireturn, 1) := by decide +kernel
theorem dS_line_27 : decode prog_1_method_13_code 27 = .ok (.iload_n 3, 1) := by decide +kernel
theorem dS_line_28 : decode prog_1_method_13_code 28 = .ok (.tableswitch 72 0 3 #[32, 42, 52, 62], 32) := by decide +kernel
theorem dS_line_60 : decode prog_1_method_13_code 60 = .ok (.aload_n 0, 1) := by decide +kernel
theorem dS_line_61 : decode prog_1_method_13_code 61 = .ok (.getfield 33, 3) := by decide +kernel
theorem dS_line_64 : decode prog_1_method_13_code 64 = .ok (.getfield 183, 3) := by decide +kernel
theorem dS_line_67 : decode prog_1_method_13_code 67 = .ok (.iload_n 2, 1) := by decide +kernel
theorem dS_line_68 : decode prog_1_method_13_code 68 = .ok (.iaload, 1) := by decide +kernel
theorem dS_line_69 : decode prog_1_method_13_code 69 = .ok (.ireturn, 1) := by decide +kernel
theorem dS_line_70 : decode prog_1_method_13_code 70 = .ok (.aload_n 0, 1) := by decide +kernel
theorem dS_line_71 : decode prog_1_method_13_code 71 = .ok (.getfield 33, 3) := by decide +kernel
theorem dS_line_74 : decode prog_1_method_13_code 74 = .ok (.getfield 186, 3) := by decide +kernel
theorem dS_line_77 : decode prog_1_method_13_code 77 = .ok (.iload_n 2, 1) := by decide +kernel
theorem dS_line_78 : decode prog_1_method_13_code 78 = .ok (.iaload, 1) := by decide +kernel
theorem dS_line_79 : decode prog_1_method_13_code 79 = .ok (.ireturn, 1) := by decide +kernel
theorem dS_line_80 : decode prog_1_method_13_code 80 = .ok (.aload_n 0, 1) := by decide +kernel
theorem dS_line_81 : decode prog_1_method_13_code 81 = .ok (.getfield 33, 3) := by decide +kernel
theorem dS_line_84 : decode prog_1_method_13_code 84 = .ok (.getfield 189, 3) := by decide +kernel
theorem dS_line_87 : decode prog_1_method_13_code 87 = .ok (.iload_n 2, 1) := by decide +kernel
theorem dS_line_88 : decode prog_1_method_13_code 88 = .ok (.iaload, 1) := by decide +kernel
theorem dS_line_89 : decode prog_1_method_13_code 89 = .ok (.ireturn, 1) := by decide +kernel
theorem dS_line_90 : decode prog_1_method_13_code 90 = .ok (.aload_n 0, 1) := by decide +kernel
theorem dS_line_91 : decode prog_1_method_13_code 91 = .ok (.getfield 33, 3) := by decide +kernel
theorem dS_line_94 : decode prog_1_method_13_code 94 = .ok (.getfield 192, 3) := by decide +kernel
theorem dS_line_97 : decode prog_1_method_13_code 97 = .ok (.iload_n 2, 1) := by decide +kernel
theorem dS_line_98 : decode prog_1_method_13_code 98 = .ok (.iaload, 1) := by decide +kernel
theorem dS_line_99 : decode prog_1_method_13_code 99 = .ok (.ireturn, 1) := by decide +kernel
theorem dS_line_100 : decode prog_1_method_13_code 100 = .ok (.iconst (-1), 1) := by decide +kernel
theorem dS_line_101 : decode prog_1_method_13_code 101 = .ok (.ireturn, 1) := by decide +kernel
theorem dS_number_0 : decode prog_1_method_14_code 0 = .ok (.aload_n 0, 1) := by decide +kernel
theorem dS_number_1 : decode prog_1_method_14_code 1 = .ok (.iload_n 1, 1) := by decide +kernel
theorem dS_number_2 : decode prog_1_method_14_code 2 = .ok (.invokevirtual 123, 3) := by decide +kernel
theorem dS_number_5 : decode prog_1_method_14_code 5 = .ok (.getfield 168, 3) := by decide +kernel
theorem dS_number_8 : decode prog_1_method_14_code 8 = .ok (.astore_n 3, 1) := by decide +kernel
theorem dS_number_9 : decode prog_1_method_14_code 9 = .ok (.iload_n 2, 1) := by decide +kernel
theorem dS_number_10 : decode prog_1_method_14_code 10 = .ok (.ifCond .lt 13, 3) := by decide +kernel
theorem dS_number_13 : decode prog_1_method_14_code 13 = .ok (.iload_n 2, 1) := by decide +kernel
theorem dS_number_14 : decode prog_1_method_14_code 14 = .ok (.aload_n 3, 1) := by decide +kernel
theorem dS_number_15 : decode prog_1_method_14_code 15 = .ok (.invokeinterface 71 1, 5) := by decide +kernel
theorem dS_number_20 : decode prog_1_method_14_code 20 = .ok (.if_icmp .lt 5, 3) := by decide +kernel
theorem dS_number_23 : decode prog_1_method_14_code 23 = .ok (.iconst (-1), 1) := by decide +kernel
theorem dS_number_24 : decode prog_1_method_14_code 24 = .ok (.ireturn, 1) := by decide +kernel
theorem dS_number_25 : decode prog_1_method_14_code 25 = .ok (.aload_n 3, 1) := by decide +kernel
theorem dS_number_26 : decode prog_1_method_14_code 26 = .ok (.iload_n 2, 1) := by decide +kernel
theorem dS_number_27 : decode prog_1_method_14_code 27 = .ok (.invokeinterface 195 2, 5) := by decide +kernel
theorem dS_number_32 : decode prog_1_method_14_code 32 = .ok (.checkcast 173, 3) := by decide +kernel
theorem dS_number_35 : decode prog_1_method_14_code 35 = .ok (.getfield 199, 3) := by decide +kernel
theorem dS_number_38 : decode prog_1_method_14_code 38 = .ok (.istore 4, 2) := by decide +kernel
theorem dS_number_40 : decode prog_1_method_14_code 40 = .ok (.iconst 0, 1) := by decide +kernel
theorem dS_number_41 : decode prog_1_method_14_code 41 = .ok (.istore 5, 2) := by decide +kernel
theorem dS_number_43 : decode prog_1_method_14_code 43 = .ok (.iload_n 2, 1) := by decide +kernel
theorem dS_number_44 : decode prog_1_method_14_code 44 = .ok (.istore 6, 2) := by decide +kernel
theorem dS_number_46 : decode prog_1_method_14_code 46 = .ok (.iload 6, 2) := by decide +kernel
theorem dS_number_48 : decode prog_1_method_14_code 48 = .ok (.ifCond .lt 50, 3) := by decide +kernel
theorem dS_number_51 : decode prog_1_method_14_code 51 = .ok (.aload_n 3, 1) := by decide +kernel
theorem dS_number_52 : decode prog_1_method_14_code 52 = .ok (.iload 6, 2) := by decide +kernel
theorem dS_number_54 : decode prog_1_method_14_code 54 = .ok (.invokeinterface 195 2, 5) := by decide +kernel
theorem dS_number_59 : decode prog_1_method_14_code 59 = .ok (.checkcast 173, 3) := by decide +kernel
theorem dS_number_62 : decode prog_1_method_14_code 62 = .ok (.getfield 199, 3) := by decide +kernel
theorem dS_number_65 : decode prog_1_method_14_code 65 = .ok (.iload 4, 2) := by decide +kernel
theorem dS_number_67 : decode prog_1_method_14_code 67 = .ok (.if_icmp .lt 31, 3) := by decide +kernel
theorem dS_number_70 : decode prog_1_method_14_code 70 = .ok (.aload_n 3, 1) := by decide +kernel
theorem dS_number_71 : decode prog_1_method_14_code 71 = .ok (.iload 6, 2) := by decide +kernel
theorem dS_number_73 : decode prog_1_method_14_code 73 = .ok (.invokeinterface 195 2, 5) := by decide +kernel
theorem dS_number_78 : decode prog_1_method_14_code 78 = .ok (.checkcast 173, 3) := by decide +kernel
theorem dS_number_81 : decode prog_1_method_14_code 81 = .ok (.getfield 199, 3) := by decide +kernel
theorem dS_number_84 : decode prog_1_method_14_code 84 = .ok (.iload 4, 2) := by decide +kernel
theorem dS_number_86 : decode prog_1_method_14_code 86 = .ok (.if_icmp .ne 6, 3) := by decide +kernel
theorem dS_number_89 : decode prog_1_method_14_code 89 = .ok (.iinc 5 1, 3) := by decide +kernel
theorem dS_number_92 : decode prog_1_method_14_code 92 = .ok (.iinc 6 (-1), 3) := by decide +kernel
theorem dS_number_95 : decode prog_1_method_14_code 95 = .ok (.goto (-49), 3) := by decide +kernel
theorem dS_number_98 : decode prog_1_method_14_code 98 = .ok (.iload 5, 2) := by decide +kernel
theorem dS_number_100 : decode prog_1_method_14_code 100 = .ok (.ireturn, 1) := by decide +kernel
theorem dS_effect_0 : decode prog_1_method_15_code 0 = .ok (.aload_n 0, 1) := by decide +kernel
theorem dS_effect_1 : decode prog_1_method_15_code 1 = .ok (.iload_n 1, 1) := by decide +kernel
theorem dS_effect_2 : decode prog_1_method_15_code 2 = .ok (.invokevirtual 123, 3) := by decide +kernel
theorem dS_effect_5 : decode prog_1_method_15_code 5 = .ok (.astore 6, 2) := by decide +kernel
theorem dS_effect_7 : decode prog_1_method_15_code 7 = .ok (.iload_n 2, 1) := by decide +kernel
theorem dS_effect_8 : decode prog_1_method_15_code 8 = .ok (.iconst 0, 1) := by decide +kernel
theorem dS_effect_9 : decode prog_1_method_15_code 9 = .ok (.iconst 3, 1) := by decide +kernel
theorem dS_effect_10 : decode prog_1_method_15_code 10 = .ok (.invokestatic 47, 3) := by decide +kernel
theorem dS_effect_13 : decode prog_1_method_15_code 13 = .ok (.ifCond .eq 12, 3) := by decide +kernel
theorem dS_effect_16 : decode prog_1_method_15_code 16 = .ok (.iload_n 3, 1) := by decide +kernel
theorem dS_effect_17 : decode prog_1_method_15_code 17 = .ok (.iconst 0, 1) := by decide +kernel
theorem dS_effect_18 : decode prog_1_method_15_code 18 = .ok (.iconst 2, 1) := by decide +kernel
theorem dS_effect_19 : decode prog_1_method_15_code 19 = .ok (.invokestatic 47, 3) := by decide +kernel
theorem dS_effect_22 : decode prog_1_method_15_code 22 = .ok (.ifCond .ne 13, 3) := by decide +kernel
theorem dS_effect_25 : decode prog_1_method_15_code 25 = .ok (.new 51, 3) := by decide +kernel
theorem dS_effect_28 : decode prog_1_method_15_code 28 = .ok (.dup, 1) := by decide +kernel
theorem dS_effect_29 : decode prog_1_method_15_code 29 = .ok (.ldc 202, 2) := by decide +kernel
theorem dS_effect_31 : decode prog_1_method_15_code 31 = .ok (.invokespecial 55, 3) := by decide +kernel
theorem dS_effect_34 : decode prog_1_method_15_code 34 = .ok (.athrow, 1) := by decide +kernel
theorem dS_effect_35 : decode prog_1_method_15_code 35 = .ok (.iload 4, 2) := by decide +kernel
theorem dS_effect_37 : decode prog_1_method_15_code 37 = .ok (.iconst 0, 1) := by decide +kernel
theorem dS_effect_38 : decode prog_1_method_15_code 38 = .ok (.bipush 50, 2) := by decide +kernel
theorem dS_effect_40 : decode prog_1_method_15_code 40 = .ok (.invokestatic 47, 3) := by decide +kernel
theorem dS_effect_43 : decode prog_1_method_15_code 43 = .ok (.ifCond .eq 14, 3) := by decide +kernel
theorem dS_effect_46 : decode prog_1_method_15_code 46 = .ok (.iload 5, 2) := by decide +kernel
theorem dS_effect_48 : decode prog_1_method_15_code 48 = .ok (.iconst 0, 1) := by decide +kernel
theorem dS_effect_49 : decode prog_1_method_15_code 49 = .ok (.bipush 50, 2) := by decide +kernel
theorem dS_effect_51 : decode prog_1_method_15_code 51 = .ok (.invokestatic 47, 3) := by decide +kernel
theorem dS_effect_54 : decode prog_1_method_15_code 54 = .ok (.ifCond .ne 13, 3) := by decide +kernel
theorem dS_effect_57 : decode prog_1_method_15_code 57 = .ok (.new 51, 3) := by decide +kernel
theorem dS_effect_60 : decode prog_1_method_15_code 60 = .ok (.dup, 1) := by decide +kernel
theorem dS_effect_61 : decode prog_1_method_15_code 61 = .ok (.ldc 204, 2) := by decide +kernel
theorem dS_effect_63 : decode prog_1_method_15_code 63 = .ok (.invokespecial 55, 3) := by decide +kernel
theorem dS_effect_66 : decode prog_1_method_15_code 66 = .ok (.athrow, 1) := by decide +kernel
theorem dS_effect_67 : decode prog_1_method_15_code 67 = .ok (.aload 6, 2) := by decide +kernel
theorem dS_effect_69 : decode prog_1_method_15_code 69 = .ok (.getfield 150, 3) := by decide +kernel
theorem dS_effect_72 : decode prog_1_method_15_code 72 = .ok (.getfield 206, 3) := by decide +kernel
theorem dS_effect_75 : decode prog_1_method_15_code 75 = .ok (.iconst 2, 1) := by decide +kernel
theorem dS_effect_76 : decode prog_1_method_15_code 76 = .ok (.if_icmp .eq 13, 3) := by decide +kernel
theorem dS_effect_79 : decode prog_1_method_15_code 79 = .ok (.new 77, 3) := by decide +kernel
theorem dS_effect_82 : decode prog_1_method_15_code 82 = .ok (.dup, 1) := by decide +kernel
theorem dS_effect_83 : decode prog_1_method_15_code 83 = .ok (.ldc 209, 2) := by decide +kernel
theorem dS_effect_85 : decode prog_1_method_15_code 85 = .ok (.invokespecial 81, 3) := by decide +kernel
theorem dS_effect_88 : decode prog_1_method_15_code 88 = .ok (.athrow, 1) := by decide +kernel
theorem dS_effect_89 : decode prog_1_method_15_code 89 = .ok (.aload_n 0, 1) := by decide +kernel
theorem dS_effect_90 : decode prog_1_method_15_code 90 = .ok (.getfield 27, 3) := by decide +kernel
theorem dS_effect_93 : decode prog_1_method_15_code 93 = .ok (.invokeinterface 71 1, 5) := by decide +kernel
theorem dS_effect_98 : decode prog_1_method_15_code 98 = .ok (.bipush 24, 2) := by decide +kernel
theorem dS_effect_100 : decode prog_1_method_15_code 100 = .ok (.if_icmp .lt 13, 3) := by decide +kernel
theorem dS_effect_103 : decode prog_1_method_15_code 103 = .ok (.new 105, 3) := by decide +kernel
theorem dS_effect_106 : decode prog_1_method_15_code 106 = .ok (.dup, 1) := by decide +kernel
theorem dS_effect_107 : decode prog_1_method_15_code 107 = .ok (.ldc 211, 2) := by decide +kernel
theorem dS_effect_109 : decode prog_1_method_15_code 109 = .ok (.invokespecial 109, 3) := by decide +kernel
theorem dS_effect_112 : decode prog_1_method_15_code 112 = .ok (.athrow, 1) := by decide +kernel
theorem dS_effect_113 : decode prog_1_method_15_code 113 = .ok (.aload 6, 2) := by decide +kernel
theorem dS_effect_115 : decode prog_1_method_15_code 115 = .ok (.getfield 150, 3) := by decide +kernel
theorem dS_effect_118 : decode prog_1_method_15_code 118 = .ok (.invokestatic 213, 3) := by decide +kernel
theorem dS_effect_121 : decode prog_1_method_15_code 121 = .ok (.astore 7, 2) := by decide +kernel
theorem dS_effect_123 : decode prog_1_method_15_code 123 = .ok (.aload 7, 2) := by decide +kernel
theorem dS_effect_125 : decode prog_1_method_15_code 125 = .ok (.iload_n 3, 1) := by decide +kernel
theorem dS_effect_126 : decode prog_1_method_15_code 126 = .ok (.invokestatic 217, 3) := by decide +kernel
theorem dS_effect_129 : decode prog_1_method_15_code 129 = .ok (.istore 8, 2) := by decide +kernel
theorem dS_effect_131 : decode prog_1_method_15_code 131 = .ok (.aload 7, 2) := by decide +kernel
theorem dS_effect_133 : decode prog_1_method_15_code 133 = .ok (.iload_n 3, 1) := by decide +kernel
theorem dS_effect_134 : decode prog_1_method_15_code 134 = .ok (.invokestatic 221, 3) := by decide +kernel
theorem dS_effect_137 : decode prog_1_method_15_code 137 = .ok (.istore 9, 2) := by decide +kernel
theorem dS_effect_139 : decode prog_1_method_15_code 139 = .ok (.new 224, 3) := by decide +kernel
theorem dS_effect_142 : decode prog_1_method_15_code 142 = .ok (.dup, 1) := by decide +kernel
theorem dS_effect_143 : decode prog_1_method_15_code 143 = .ok (.aload 6, 2) := by decide +kernel
theorem dS_effect_145 : decode prog_1_method_15_code 145 = .ok (.getfield 150, 3) := by decide +kernel
theorem dS_effect_148 : decode prog_1_method_15_code 148 = .ok (.iload_n 2, 1) := by decide +kernel
theorem dS_effect_149 : decode prog_1_method_15_code 149 = .ok (.iload 8, 2) := by decide +kernel
theorem dS_effect_151 : decode prog_1_method_15_code 151 = .ok (.iload 9, 2) := by decide +kernel
theorem dS_effect_153 : decode prog_1_method_15_code 153 = .ok (.iload 4, 2) := by decide +kernel
theorem dS_effect_155 : decode prog_1_method_15_code 155 = .ok (.iload 5, 2) := by decide +kernel
theorem dS_effect_157 : decode prog_1_method_15_code 157 = .ok (.invokespecial 226, 3) := by decide +kernel
theorem dS_effect_160 : decode prog_1_method_15_code 160 = .ok (.astore 10, 2) := by decide +kernel
theorem dS_effect_162 : decode prog_1_method_15_code 162 = .ok (.aload_n 0, 1) := by decide +kernel
theorem dS_effect_163 : decode prog_1_method_15_code 163 = .ok (.getfield 27, 3) := by decide +kernel
theorem dS_effect_166 : decode prog_1_method_15_code 166 = .ok (.aload 10, 2) := by decide +kernel
theorem dS_effect_168 : decode prog_1_method_15_code 168 = .ok (.invokeinterface 87 2, 5) := by decide +kernel
theorem dS_effect_173 : decode prog_1_method_15_code 173 = .ok (.pop, 1) := by decide +kernel
theorem dS_effect_174 : decode prog_1_method_15_code 174 = .ok (.aload 6, 2) := by decide +kernel
theorem dS_effect_176 : decode prog_1_method_15_code 176 = .ok (.getfield 150, 3) := by decide +kernel
theorem dS_effect_179 : decode prog_1_method_15_code 179 = .ok (.getfield 229, 3) := by decide +kernel
theorem dS_effect_182 : decode prog_1_method_15_code 182 = .ok (.aload 10, 2) := by decide +kernel
theorem dS_effect_184 : decode prog_1_method_15_code 184 = .ok (.invokeinterface 87 2, 5) := by decide +kernel
theorem dS_effect_189 : decode prog_1_method_15_code 189 = .ok (.pop, 1) := by decide +kernel
theorem dS_effect_190 : decode prog_1_method_15_code 190 = .ok (.aload 6, 2) := by decide +kernel
theorem dS_effect_192 : decode prog_1_method_15_code 192 = .ok (.getfield 230, 3) := by decide +kernel
theorem dS_effect_195 : decode prog_1_method_15_code 195 = .ok (.aload 10, 2) := by decide +kernel
theorem dS_effect_197 : decode prog_1_method_15_code 197 = .ok (.invokeinterface 87 2, 5) := by decide +kernel
theorem dS_effect_202 : decode prog_1_method_15_code 202 = .ok (.pop, 1) := by decide +kernel
theorem dS_effect_203 : decode prog_1_method_15_code 203 = .ok (.aload_n 0, 1) := by decide +kernel
theorem dS_effect_204 : decode prog_1_method_15_code 204 = .ok (.getfield 27, 3) := by decide +kernel
theorem dS_effect_207 : decode prog_1_method_15_code 207 = .ok (.invokeinterface 71 1, 5) := by decide +kernel
theorem dS_effect_212 : decode prog_1_method_15_code 212 = .ok (.iconst 1, 1) := by decide +kernel
theorem dS_effect_213 : decode prog_1_method_15_code 213 = .ok (.isub, 1) := by decide +kernel
theorem dS_effect_214 : decode prog_1_method_15_code 214 = .ok (.ireturn, 1) := by decide +kernel
theorem dS_buildBehind_0 : decode prog_1_method_42_code 0 = .ok (.aload_n 0, 1) := by decide +kernel
theorem dS_buildBehind_1 : decode prog_1_method_42_code 1 = .ok (.ifnonnull 7, 3) := by decide +kernel
theorem dS_buildBehind_4 : decode prog_1_method_42_code 4 = .ok (.iconst 0, 1) := by decide +kernel
theorem dS_buildBehind_5 : decode prog_1_method_42_code 5 = .ok (.goto 7, 3) := by decide +kernel
theorem dS_buildBehind_8 : decode prog_1_method_42_code 8 = .ok (.aload_n 0, 1) := by decide +kernel
theorem dS_buildBehind_9 : decode prog_1_method_42_code 9 = .ok (.getfield 246, 3) := by decide +kernel
theorem dS_buildBehind_12 : decode prog_1_method_42_code 12 = .ok (.istore_n 2, 1) := by decide +kernel
theorem dS_buildBehind_13 : decode prog_1_method_42_code 13 = .ok (.iload_n 1, 1) := by decide +kernel
theorem dS_buildBehind_14 : decode prog_1_method_42_code 14 = .ok (.ifCond .ne 9, 3) := by decide +kernel
theorem dS_buildBehind_17 : decode prog_1_method_42_code 17 = .ok (.iload_n 2, 1) := by decide +kernel
theorem dS_buildBehind_18 : decode prog_1_method_42_code 18 = .ok (.iconst 1, 1) := by decide +kernel
theorem dS_buildBehind_19 : decode prog_1_method_42_code 19 = .ok (.iadd, 1) := by decide +kernel
theorem dS_buildBehind_20 : decode prog_1_method_42_code 20 = .ok (.goto 4, 3) := by decide +kernel
theorem dS_buildBehind_23 : decode prog_1_method_42_code 23 = .ok (.iload_n 2, 1) := by decide +kernel
theorem dS_buildBehind_24 : decode prog_1_method_42_code 24 = .ok (.ireturn, 1) := by decide +kernel
theorem dS_baseBehind_0 : decode prog_1_method_43_code 0 = .ok (.aload_n 0, 1) := by decide +kernel
theorem dS_baseBehind_1 : decode prog_1_method_43_code 1 = .ok (.ifnull 7, 3) := by decide +kernel
theorem dS_baseBehind_4 : decode prog_1_method_43_code 4 = .ok (.iload_n 1, 1) := by decide +kernel
theorem dS_baseBehind_5 : decode prog_1_method_43_code 5 = .ok (.ifCond .ne 5, 3) := by decide +kernel
theorem dS_baseBehind_8 : decode prog_1_method_43_code 8 = .ok (.iconst 0, 1) := by decide +kernel
theorem dS_baseBehind_9 : decode prog_1_method_43_code 9 = .ok (.ireturn, 1) := by decide +kernel
theorem dS_baseBehind_10 : decode prog_1_method_43_code 10 = .ok (.iload_n 1, 1) := by decide +kernel
theorem dS_baseBehind_11 : decode prog_1_method_43_code 11 = .ok (.iconst 1, 1) := by decide +kernel
theorem dS_baseBehind_12 : decode prog_1_method_43_code 12 = .ok (.if_icmp .ne 10, 3) := by decide +kernel
theorem dS_baseBehind_15 : decode prog_1_method_43_code 15 = .ok (.aload_n 0, 1) := by decide +kernel
theorem dS_baseBehind_16 : decode prog_1_method_43_code 16 = .ok (.getfield 326, 3) := by decide +kernel
theorem dS_baseBehind_19 : decode prog_1_method_43_code 19 = .ok (.goto 7, 3) := by decide +kernel
theorem dS_baseBehind_22 : decode prog_1_method_43_code 22 = .ok (.aload_n 0, 1) := by decide +kernel
theorem dS_baseBehind_23 : decode prog_1_method_43_code 23 = .ok (.getfield 243, 3) := by decide +kernel
theorem dS_baseBehind_26 : decode prog_1_method_43_code 26 = .ok (.ireturn, 1) := by decide +kernel
theorem dF_init_0 : decode prog_2_method_1_code 0 = .ok (.aload_n 0, 1) := by decide +kernel
theorem dF_init_1 : decode prog_2_method_1_code 1 = .ok (.invokespecial 1, 3) := by decide +kernel
theorem dF_init_4 : decode prog_2_method_1_code 4 = .ok (.aload_n 0, 1) := by decide +kernel
theorem dF_init_5 : decode prog_2_method_1_code 5 = .ok (.iconst 0, 1) := by decide +kernel
theorem dF_init_6 : decode prog_2_method_1_code 6 = .ok (.putfield 7, 3) := by decide +kernel
theorem dF_init_9 : decode prog_2_method_1_code 9 = .ok (.aload_n 0, 1) := by decide +kernel
theorem dF_init_10 : decode prog_2_method_1_code 10 = .ok (.aload_n 1, 1) := by decide +kernel
theorem dF_init_11 : decode prog_2_method_1_code 11 = .ok (.putfield 13, 3) := by decide +kernel
theorem dF_init_14 : decode prog_2_method_1_code 14 = .ok (.aload_n 0, 1) := by decide +kernel
theorem dF_init_15 : decode prog_2_method_1_code 15 = .ok (.iload_n 2, 1) := by decide +kernel
theorem dF_init_16 : decode prog_2_method_1_code 16 = .ok (.putfield 17, 3) := by decide +kernel
theorem dF_init_19 : decode prog_2_method_1_code 19 = .ok (.aload_n 0, 1) := by decide +kernel
theorem dF_init_20 : decode prog_2_method_1_code 20 = .ok (.iload_n 3, 1) := by decide +kernel
theorem dF_init_21 : decode prog_2_method_1_code 21 = .ok (.putfield 20, 3) := by decide +kernel
theorem dF_init_24 : decode prog_2_method_1_code 24 = .ok (.aload_n 0, 1) := by decide +kernel
theorem dF_init_25 : decode prog_2_method_1_code 25 = .ok (.iload 4, 2) := by decide +kernel
theorem dF_init_27 : decode prog_2_method_1_code 27 = .ok (.putfield 23, 3) := by decide +kernel
theorem dF_init_30 : decode prog_2_method_1_code 30 = .ok (.aload_n 0, 1) := by decide +kernel
theorem dF_init_31 : decode prog_2_method_1_code 31 = .ok (.iload 4, 2) := by decide +kernel
theorem dF_init_33 : decode prog_2_method_1_code 33 = .ok (.iload 5, 2) := by decide +kernel
theorem dF_init_35 : decode prog_2_method_1_code 35 = .ok (.iadd, 1) := by decide +kernel
theorem dF_init_36 : decode prog_2_method_1_code 36 = .ok (.putfield 26, 3) := by decide +kernel
theorem dF_init_39 : decode prog_2_method_1_code 39 = .ok (.aload_n 0, 1) := by decide +kernel
theorem dF_init_40 : decode prog_2_method_1_code 40 = .ok (.iload 4, 2) := by decide +kernel
theorem dF_init_42 : decode prog_2_method_1_code 42 = .ok (.iload 5, 2) := by decide +kernel
theorem dF_init_44 : decode prog_2_method_1_code 44 = .ok (.iadd, 1) := by decide +kernel
theorem dF_init_45 : decode prog_2_method_1_code 45 = .ok (.iload 6, 2) := by decide +kernel
theorem dF_init_47 : decode prog_2_method_1_code 47 = .ok (.iadd, 1) := by decide +kernel
theorem dF_init_48 : decode prog_2_method_1_code 48 = .ok (.putfield 29, 3) := by decide +kernel
theorem dF_init_51 : decode prog_2_method_1_code 51 = .ok (.aload_n 0, 1) := by decide +kernel
theorem dF_init_52 : decode prog_2_method_1_code 52 = .ok (.iload 6, 2) := by decide +kernel
theorem dF_init_54 : decode prog_2_method_1_code 54 = .ok (.putfield 32, 3) := by decide +kernel
theorem dF_init_57 : decode prog_2_method_1_code 57 = .ok (.return_, 1) := by decide +kernel
theorem dS_amount_0 : decode prog_1_method_16_code 0 = .ok (.aload_n 0, 1) := by decide +kernel
theorem dS_amount_1 : decode prog_1_method_16_code 1 = .ok (.iload_n 1, 1) := by decide +kernel
theorem dS_amount_2 : decode prog_1_method_16_code 2 = .ok (.invokevirtual 231, 3) := by decide +kernel
theorem dS_amount_5 : decode prog_1_method_16_code 5 = .ok (.astore_n 3, 1) := by decide +kernel
theorem dS_amount_6 : decode prog_1_method_16_code 6 = .ok (.iload_n 2, 1) := by decide +kernel
theorem dS_amount_7 : decode prog_1_method_16_code 7 = .ok (.bipush (-40), 2) := by decide +kernel
theorem dS_amount_9 : decode prog_1_method_16_code 9 = .ok (.bipush 40, 2) := by decide +kernel
theorem dS_amount_11 : decode prog_1_method_16_code 11 = .ok (.invokestatic 47, 3) := by decide +kernel
theorem dS_amount_14 : decode prog_1_method_16_code 14 = .ok (.ifCond .ne 13, 3) := by decide +kernel
theorem dS_amount_17 : decode prog_1_method_16_code 17 = .ok (.new 51, 3) := by decide +kernel
theorem dS_amount_20 : decode prog_1_method_16_code 20 = .ok (.dup, 1) := by decide +kernel
theorem dS_amount_21 : decode prog_1_method_16_code 21 = .ok (.ldc 235, 2) := by decide +kernel
theorem dS_amount_23 : decode prog_1_method_16_code 23 = .ok (.invokespecial 55, 3) := by decide +kernel
theorem dS_amount_26 : decode prog_1_method_16_code 26 = .ok (.athrow, 1) := by decide +kernel
theorem dS_amount_27 : decode prog_1_method_16_code 27 = .ok (.aload_n 3, 1) := by decide +kernel
theorem dS_amount_28 : decode prog_1_method_16_code 28 = .ok (.iload_n 2, 1) := by decide +kernel
theorem dS_amount_29 : decode prog_1_method_16_code 29 = .ok (.putfield 237, 3) := by decide +kernel
theorem dS_amount_32 : decode prog_1_method_16_code 32 = .ok (.return_, 1) := by decide +kernel
theorem dS_findEffect_0 : decode prog_1_method_29_code 0 = .ok (.iload_n 1, 1) := by decide +kernel
theorem dS_findEffect_1 : decode prog_1_method_29_code 1 = .ok (.ifCond .lt 16, 3) := by decide +kernel
theorem dS_findEffect_4 : decode prog_1_method_29_code 4 = .ok (.iload_n 1, 1) := by decide +kernel
theorem dS_findEffect_5 : decode prog_1_method_29_code 5 = .ok (.aload_n 0, 1) := by decide +kernel
theorem dS_findEffect_6 : decode prog_1_method_29_code 6 = .ok (.getfield 27, 3) := by decide +kernel
theorem dS_findEffect_9 : decode prog_1_method_29_code 9 = .ok (.invokeinterface 71 1, 5) := by decide +kernel
theorem dS_findEffect_14 : decode prog_1_method_29_code 14 = .ok (.if_icmp .lt 14, 3) := by decide +kernel
theorem dS_findEffect_17 : decode prog_1_method_29_code 17 = .ok (.new 66, 3) := by decide +kernel
theorem dS_findEffect_20 : decode prog_1_method_29_code 20 = .ok (.dup, 1) := by decide +kernel
theorem dS_findEffect_21 : decode prog_1_method_29_code 21 = .ok (.ldc_w 313, 3) := by decide +kernel
theorem dS_findEffect_24 : decode prog_1_method_29_code 24 = .ok (.invokespecial 70, 3) := by decide +kernel
theorem dS_findEffect_27 : decode prog_1_method_29_code 27 = .ok (.athrow, 1) := by decide +kernel
theorem dS_findEffect_28 : decode prog_1_method_29_code 28 = .ok (.aload_n 0, 1) := by decide +kernel
theorem dS_findEffect_29 : decode prog_1_method_29_code 29 = .ok (.getfield 27, 3) := by decide +kernel
theorem dS_findEffect_32 : decode prog_1_method_29_code 32 = .ok (.iload_n 1, 1) := by decide +kernel
theorem dS_findEffect_33 : decode prog_1_method_29_code 33 = .ok (.invokeinterface 195 2, 5) := by decide +kernel
theorem dS_findEffect_38 : decode prog_1_method_29_code 38 = .ok (.checkcast 224, 3) := by decide +kernel
theorem dS_findEffect_41 : decode prog_1_method_29_code 41 = .ok (.areturn, 1) := by decide +kernel
theorem dS_timing_0 : decode prog_1_method_17_code 0 = .ok (.aload_n 0, 1) := by decide +kernel
theorem dS_timing_1 : decode prog_1_method_17_code 1 = .ok (.iload_n 1, 1) := by decide +kernel
theorem dS_timing_2 : decode prog_1_method_17_code 2 = .ok (.invokevirtual 231, 3) := by decide +kernel
theorem dS_timing_5 : decode prog_1_method_17_code 5 = .ok (.astore_n 3, 1) := by decide +kernel
theorem dS_timing_6 : decode prog_1_method_17_code 6 = .ok (.iload_n 2, 1) := by decide +kernel
theorem dS_timing_7 : decode prog_1_method_17_code 7 = .ok (.tableswitch 65 0 3 #[29, 34, 39, 44], 29) := by decide +kernel
theorem dS_timing_36 : decode prog_1_method_17_code 36 = .ok (.aload_n 3, 1) := by decide +kernel
theorem dS_timing_37 : decode prog_1_method_17_code 37 = .ok (.getfield 240, 3) := by decide +kernel
theorem dS_timing_40 : decode prog_1_method_17_code 40 = .ok (.ireturn, 1) := by decide +kernel
theorem dS_timing_41 : decode prog_1_method_17_code 41 = .ok (.aload_n 3, 1) := by decide +kernel
theorem dS_timing_42 : decode prog_1_method_17_code 42 = .ok (.getfield 243, 3) := by decide +kernel
theorem dS_timing_45 : decode prog_1_method_17_code 45 = .ok (.ireturn, 1) := by decide +kernel
theorem dS_timing_46 : decode prog_1_method_17_code 46 = .ok (.aload_n 3, 1) := by decide +kernel
theorem dS_timing_47 : decode prog_1_method_17_code 47 = .ok (.getfield 246, 3) := by decide +kernel
theorem dS_timing_50 : decode prog_1_method_17_code 50 = .ok (.ireturn, 1) := by decide +kernel
theorem dS_timing_51 : decode prog_1_method_17_code 51 = .ok (.aload_n 3, 1) := by decide +kernel
theorem dS_timing_52 : decode prog_1_method_17_code 52 = .ok (.getfield 249, 3) := by decide +kernel
theorem dS_timing_55 : decode prog_1_method_17_code 55 = .ok (.aload_n 0, 1) := by decide +kernel
theorem dS_timing_56 : decode prog_1_method_17_code 56 = .ok (.invokevirtual 252, 3) := by decide +kernel
theorem dS_timing_59 : decode prog_1_method_17_code 59 = .ok (.if_acmp .ne 11, 3) := by decide +kernel
theorem dS_timing_62 : decode prog_1_method_17_code 62 = .ok (.aload_n 0, 1) := by decide +kernel
theorem dS_timing_63 : decode prog_1_method_17_code 63 = .ok (.aload_n 3, 1) := by decide +kernel
theorem dS_timing_64 : decode prog_1_method_17_code 64 = .ok (.invokevirtual 256, 3) := by decide +kernel
theorem dS_timing_67 : decode prog_1_method_17_code 67 = .ok (.goto 4, 3) := by decide +kernel
theorem dS_timing_70 : decode prog_1_method_17_code 70 = .ok (.iconst (-1), 1) := by decide +kernel
theorem dS_timing_71 : decode prog_1_method_17_code 71 = .ok (.ireturn, 1) := by decide +kernel
theorem dS_timing_72 : decode prog_1_method_17_code 72 = .ok (.iconst (-1), 1) := by decide +kernel
theorem dS_timing_73 : decode prog_1_method_17_code 73 = .ok (.ireturn, 1) := by decide +kernel
theorem dS_jump_0 : decode prog_1_method_20_code 0 = .ok (.aload_n 0, 1) := by decide +kernel
theorem dS_jump_1 : decode prog_1_method_20_code 1 = .ok (.iload_n 1, 1) := by decide +kernel
theorem dS_jump_2 : decode prog_1_method_20_code 2 = .ok (.invokevirtual 268, 3) := by decide +kernel
theorem dS_jump_5 : decode prog_1_method_20_code 5 = .ok (.ifnonnull 14, 3) := by decide +kernel
theorem dS_jump_8 : decode prog_1_method_20_code 8 = .ok (.new 66, 3) := by decide +kernel
theorem dS_jump_11 : decode prog_1_method_20_code 11 = .ok (.dup, 1) := by decide +kernel
theorem dS_jump_12 : decode prog_1_method_20_code 12 = .ok (.ldc_w 274, 3) := by decide +kernel
theorem dS_jump_15 : decode prog_1_method_20_code 15 = .ok (.invokespecial 70, 3) := by decide +kernel
theorem dS_jump_18 : decode prog_1_method_20_code 18 = .ok (.athrow, 1) := by decide +kernel
theorem dS_jump_19 : decode prog_1_method_20_code 19 = .ok (.aload_n 0, 1) := by decide +kernel
theorem dS_jump_20 : decode prog_1_method_20_code 20 = .ok (.iload_n 1, 1) := by decide +kernel
theorem dS_jump_21 : decode prog_1_method_20_code 21 = .ok (.iconst 0, 1) := by decide +kernel
theorem dS_jump_22 : decode prog_1_method_20_code 22 = .ok (.iconst 0, 1) := by decide +kernel
theorem dS_jump_23 : decode prog_1_method_20_code 23 = .ok (.invokevirtual 264, 3) := by decide +kernel
theorem dS_jump_26 : decode prog_1_method_20_code 26 = .ok (.return_, 1) := by decide +kernel
theorem dS_tick_0 : decode prog_1_method_21_code 0 = .ok (.iload_n 1, 1) := by decide +kernel
theorem dS_tick_1 : decode prog_1_method_21_code 1 = .ok (.iconst 0, 1) := by decide +kernel
theorem dS_tick_2 : decode prog_1_method_21_code 2 = .ok (.sipush 1000, 3) := by decide +kernel
theorem dS_tick_5 : decode prog_1_method_21_code 5 = .ok (.invokestatic 47, 3) := by decide +kernel
theorem dS_tick_8 : decode prog_1_method_21_code 8 = .ok (.ifCond .ne 14, 3) := by decide +kernel
theorem dS_tick_11 : decode prog_1_method_21_code 11 = .ok (.new 51, 3) := by decide +kernel
theorem dS_tick_14 : decode prog_1_method_21_code 14 = .ok (.dup, 1) := by decide +kernel
theorem dS_tick_15 : decode prog_1_method_21_code 15 = .ok (.ldc_w 276, 3) := by decide +kernel
theorem dS_tick_18 : decode prog_1_method_21_code 18 = .ok (.invokespecial 55, 3) := by decide +kernel
theorem dS_tick_21 : decode prog_1_method_21_code 21 = .ok (.athrow, 1) := by decide +kernel
theorem dS_tick_22 : decode prog_1_method_21_code 22 = .ok (.aload_n 0, 1) := by decide +kernel
theorem dS_tick_23 : decode prog_1_method_21_code 23 = .ok (.aload_n 0, 1) := by decide +kernel
theorem dS_tick_24 : decode prog_1_method_21_code 24 = .ok (.getfield 44, 3) := by decide +kernel
theorem dS_tick_27 : decode prog_1_method_21_code 27 = .ok (.iload_n 1, 1) := by decide +kernel
theorem dS_tick_28 : decode prog_1_method_21_code 28 = .ok (.iadd, 1) := by decide +kernel
theorem dS_tick_29 : decode prog_1_method_21_code 29 = .ok (.ldc_w 278, 3) := by decide +kernel
theorem dS_tick_32 : decode prog_1_method_21_code 32 = .ok (.invokestatic 279, 3) := by decide +kernel
theorem dS_tick_35 : decode prog_1_method_21_code 35 = .ok (.putfield 44, 3) := by decide +kernel
theorem dS_tick_38 : decode prog_1_method_21_code 38 = .ok (.return_, 1) := by decide +kernel
theorem dS_now_0 : decode prog_1_method_23_code 0 = .ok (.aload_n 0, 1) := by decide +kernel
theorem dS_now_1 : decode prog_1_method_23_code 1 = .ok (.iload_n 1, 1) := by decide +kernel
theorem dS_now_2 : decode prog_1_method_23_code 2 = .ok (.invokevirtual 123, 3) := by decide +kernel
theorem dS_now_5 : decode prog_1_method_23_code 5 = .ok (.astore_n 3, 1) := by decide +kernel
theorem dS_now_6 : decode prog_1_method_23_code 6 = .ok (.iload_n 2, 1) := by decide +kernel
theorem dS_now_7 : decode prog_1_method_23_code 7 = .ok (.invokestatic 134, 3) := by decide +kernel
theorem dS_now_10 : decode prog_1_method_23_code 10 = .ok (.aload_n 0, 1) := by decide +kernel
theorem dS_now_11 : decode prog_1_method_23_code 11 = .ok (.aload_n 3, 1) := by decide +kernel
theorem dS_now_12 : decode prog_1_method_23_code 12 = .ok (.iload_n 2, 1) := by decide +kernel
theorem dS_now_13 : decode prog_1_method_23_code 13 = .ok (.invokevirtual 289, 3) := by decide +kernel
theorem dS_now_16 : decode prog_1_method_23_code 16 = .ok (.ireturn, 1) := by decide +kernel
end
section
theorem dM_init_0 : decode prog_8_method_1_code 0 = .ok (.aload_n 0, 1) := by decide +kernel
theorem dM_init_1 : decode prog_8_method_1_code 1 = .ok (.invokespecial 1, 3) := by decide +kernel
theorem dM_init_4 : decode prog_8_method_1_code 4 = .ok (.aload_n 0, 1) := by decide +kernel
theorem dM_init_5 : decode prog_8_method_1_code 5 = .ok (.bipush 12, 2) := by decide +kernel
theorem dM_init_7 : decode prog_8_method_1_code 7 = .ok (.newarray .int, 2) := by decide +kernel
theorem dM_init_9 : decode prog_8_method_1_code 9 = .ok (.putfield 7, 3) := by decide +kernel
theorem dM_init_12 : decode prog_8_method_1_code 12 = .ok (.aload_n 0, 1) := by decide +kernel
theorem dM_init_13 : decode prog_8_method_1_code 13 = .ok (.bipush 12, 2) := by decide +kernel
theorem dM_init_15 : decode prog_8_method_1_code 15 = .ok (.newarray .int, 2) := by decide +kernel
theorem dM_init_17 : decode prog_8_method_1_code 17 = .ok (.putfield 13, 3) := by decide +kernel
theorem dM_init_20 : decode prog_8_method_1_code 20 = .ok (.aload_n 0, 1) := by decide +kernel
theorem dM_init_21 : decode prog_8_method_1_code 21 = .ok (.bipush 24, 2) := by decide +kernel
theorem dM_init_23 : decode prog_8_method_1_code 23 = .ok (.newarray .int, 2) := by decide +kernel
theorem dM_init_25 : decode prog_8_method_1_code 25 = .ok (.putfield 16, 3) := by decide +kernel
theorem dM_init_28 : decode prog_8_method_1_code 28 = .ok (.aload_n 0, 1) := by decide +kernel
theorem dM_init_29 : decode prog_8_method_1_code 29 = .ok (.bipush 24, 2) := by decide +kernel
theorem dM_init_31 : decode prog_8_method_1_code 31 = .ok (.newarray .int, 2) := by decide +kernel
theorem dM_init_33 : decode prog_8_method_1_code 33 = .ok (.putfield 19, 3) := by decide +kernel
theorem dM_init_36 : decode prog_8_method_1_code 36 = .ok (.aload_n 0, 1) := by decide +kernel
theorem dM_init_37 : decode prog_8_method_1_code 37 = .ok (.sipush 168, 3) := by decide +kernel
theorem dM_init_40 : decode prog_8_method_1_code 40 = .ok (.newarray .boolean, 2) := by decide +kernel
theorem dM_init_42 : decode prog_8_method_1_code 42 = .ok (.putfield 22, 3) := by decide +kernel
theorem dM_init_45 : decode prog_8_method_1_code 45 = .ok (.aload_n 0, 1) := by decide +kernel
theorem dM_init_46 : decode prog_8_method_1_code 46 = .ok (.sipush 168, 3) := by decide +kernel
theorem dM_init_49 : decode prog_8_method_1_code 49 = .ok (.newarray .int, 2) := by decide +kernel
theorem dM_init_51 : decode prog_8_method_1_code 51 = .ok (.putfield 26, 3) := by decide +kernel
theorem dM_init_54 : decode prog_8_method_1_code 54 = .ok (.aload_n 0, 1) := by decide +kernel
theorem dM_init_55 : decode prog_8_method_1_code 55 = .ok (.bipush 7, 2) := by decide +kernel
theorem dM_init_57 : decode prog_8_method_1_code 57 = .ok (.newarray .int, 2) := by decide +kernel
theorem dM_init_59 : decode prog_8_method_1_code 59 = .ok (.dup, 1) := by decide +kernel
theorem dM_init_60 : decode prog_8_method_1_code 60 = .ok (.iconst 0, 1) := by decide +kernel
theorem dM_init_61 : decode prog_8_method_1_code 61 = .ok (.iconst 0, 1) := by decide +kernel
theorem dM_init_62 : decode prog_8_method_1_code 62 = .ok (.iastore, 1) := by decide +kernel
theorem dM_init_63 : decode prog_8_method_1_code 63 = .ok (.dup, 1) := by decide +kernel
theorem dM_init_64 : decode prog_8_method_1_code 64 = .ok (.iconst 1, 1) := by decide +kernel
theorem dM_init_65 : decode prog_8_method_1_code 65 = .ok (.iconst 0, 1) := by decide +kernel
theorem dM_init_66 : decode prog_8_method_1_code 66 = .ok (.iastore, 1) := by decide +kernel
theorem dM_init_67 : decode prog_8_method_1_code 67 = .ok (.dup, 1) := by decide +kernel
theorem dM_init_68 : decode prog_8_method_1_code 68 = .ok (.iconst 2, 1) := by decide +kernel
theorem dM_init_69 : decode prog_8_method_1_code 69 = .ok (.bipush 8, 2) := by decide +kernel
theorem dM_init_71 : decode prog_8_method_1_code 71 = .ok (.iastore, 1) := by decide +kernel
theorem dM_init_72 : decode prog_8_method_1_code 72 = .ok (.dup, 1) := by decide +kernel
theorem dM_init_73 : decode prog_8_method_1_code 73 = .ok (.iconst 3, 1) := by decide +kernel
theorem dM_init_74 : decode prog_8_method_1_code 74 = .ok (.iconst 4, 1) := by decide +kernel
theorem dM_init_75 : decode prog_8_method_1_code 75 = .ok (.iastore, 1) := by decide +kernel
theorem dM_init_76 : decode prog_8_method_1_code 76 = .ok (.dup, 1) := by decide +kernel
theorem dM_init_77 : decode prog_8_method_1_code 77 = .ok (.iconst 4, 1) := by decide +kernel
theorem dM_init_78 : decode prog_8_method_1_code 78 = .ok (.ldc 29, 2) := by decide +kernel
theorem dM_init_80 : decode prog_8_method_1_code 80 = .ok (.iastore, 1) := by decide +kernel
theorem dM_init_81 : decode prog_8_method_1_code 81 = .ok (.dup, 1) := by decide +kernel
theorem dM_init_82 : decode prog_8_method_1_code 82 = .ok (.iconst 5, 1) := by decide +kernel
theorem dM_init_83 : decode prog_8_method_1_code 83 = .ok (.sipush 255, 3) := by decide +kernel
theorem dM_init_86 : decode prog_8_method_1_code 86 = .ok (.iastore, 1) := by decide +kernel
theorem dM_init_87 : decode prog_8_method_1_code 87 = .ok (.dup, 1) := by decide +kernel
theorem dM_init_88 : decode prog_8_method_1_code 88 = .ok (.bipush 6, 2) := by decide +kernel
theorem dM_init_90 : decode prog_8_method_1_code 90 = .ok (.iconst 4, 1) := by decide +kernel
theorem dM_init_91 : decode prog_8_method_1_code 91 = .ok (.iastore, 1) := by decide +kernel
theorem dM_init_92 : decode prog_8_method_1_code 92 = .ok (.putfield 30, 3) := by decide +kernel
theorem dM_init_95 : decode prog_8_method_1_code 95 = .ok (.aload_n 0, 1) := by decide +kernel
theorem dM_init_96 : decode prog_8_method_1_code 96 = .ok (.bipush 24, 2) := by decide +kernel
theorem dM_init_98 : decode prog_8_method_1_code 98 = .ok (.newarray .int, 2) := by decide +kernel
theorem dM_init_100 : decode prog_8_method_1_code 100 = .ok (.putfield 33, 3) := by decide +kernel
theorem dM_init_103 : decode prog_8_method_1_code 103 = .ok (.aload_n 0, 1) := by decide +kernel
theorem dM_init_104 : decode prog_8_method_1_code 104 = .ok (.bipush 96, 2) := by decide +kernel
theorem dM_init_106 : decode prog_8_method_1_code 106 = .ok (.newarray .int, 2) := by decide +kernel
theorem dM_init_108 : decode prog_8_method_1_code 108 = .ok (.putfield 36, 3) := by decide +kernel
theorem dM_init_111 : decode prog_8_method_1_code 111 = .ok (.aload_n 0, 1) := by decide +kernel
theorem dM_init_112 : decode prog_8_method_1_code 112 = .ok (.bipush 96, 2) := by decide +kernel
theorem dM_init_114 : decode prog_8_method_1_code 114 = .ok (.newarray .int, 2) := by decide +kernel
theorem dM_init_116 : decode prog_8_method_1_code 116 = .ok (.putfield 39, 3) := by decide +kernel
theorem dM_init_119 : decode prog_8_method_1_code 119 = .ok (.aload_n 0, 1) := by decide +kernel
theorem dM_init_120 : decode prog_8_method_1_code 120 = .ok (.sipush 384, 3) := by decide +kernel
theorem dM_init_123 : decode prog_8_method_1_code 123 = .ok (.newarray .int, 2) := by decide +kernel
theorem dM_init_125 : decode prog_8_method_1_code 125 = .ok (.putfield 42, 3) := by decide +kernel
theorem dM_init_128 : decode prog_8_method_1_code 128 = .ok (.aload_n 0, 1) := by decide +kernel
theorem dM_init_129 : decode prog_8_method_1_code 129 = .ok (.bipush 24, 2) := by decide +kernel
theorem dM_init_131 : decode prog_8_method_1_code 131 = .ok (.newarray .int, 2) := by decide +kernel
theorem dM_init_133 : decode prog_8_method_1_code 133 = .ok (.putfield 45, 3) := by decide +kernel
theorem dM_init_136 : decode prog_8_method_1_code 136 = .ok (.aload_n 0, 1) := by decide +kernel
theorem dM_init_137 : decode prog_8_method_1_code 137 = .ok (.bipush 24, 2) := by decide +kernel
theorem dM_init_139 : decode prog_8_method_1_code 139 = .ok (.newarray .int, 2) := by decide +kernel
theorem dM_init_141 : decode prog_8_method_1_code 141 = .ok (.putfield 48, 3) := by decide +kernel
theorem dM_init_144 : decode prog_8_method_1_code 144 = .ok (.aload_n 0, 1) := by decide +kernel
theorem dM_init_145 : decode prog_8_method_1_code 145 = .ok (.bipush 24, 2) := by decide +kernel
theorem dM_init_147 : decode prog_8_method_1_code 147 = .ok (.newarray .int, 2) := by decide +kernel
theorem dM_init_149 : decode prog_8_method_1_code 149 = .ok (.putfield 51, 3) := by decide +kernel
theorem dM_init_152 : decode prog_8_method_1_code 152 = .ok (.aload_n 0, 1) := by decide +kernel
theorem dM_init_153 : decode prog_8_method_1_code 153 = .ok (.bipush 24, 2) := by decide +kernel
theorem dM_init_155 : decode prog_8_method_1_code 155 = .ok (.newarray .int, 2) := by decide +kernel
theorem dM_init_157 : decode prog_8_method_1_code 157 = .ok (.putfield 54, 3) := by decide +kernel
theorem dM_init_160 : decode prog_8_method_1_code 160 = .ok (.aload_n 0, 1) := by decide +kernel
theorem dM_init_161 : decode prog_8_method_1_code 161 = .ok (.bipush 24, 2) := by decide +kernel
theorem dM_init_163 : decode prog_8_method_1_code 163 = .ok (.newarray .int, 2) := by decide +kernel
theorem dM_init_165 : decode prog_8_method_1_code 165 = .ok (.putfield 57, 3) := by decide +kernel
theorem dM_init_168 : decode prog_8_method_1_code 168 = .ok (.aload_n 0, 1) := by decide +kernel
theorem dM_init_169 : decode prog_8_method_1_code 169 = .ok (.bipush 24, 2) := by decide +kernel
theorem dM_init_171 : decode prog_8_method_1_code 171 = .ok (.newarray .int, 2) := by decide +kernel
theorem dM_init_173 : decode prog_8_method_1_code 173 = .ok (.putfield 60, 3) := by decide +kernel
theorem dM_init_176 : decode prog_8_method_1_code 176 = .ok (.aload_n 0, 1) := by decide +kernel
theorem dM_init_177 : decode prog_8_method_1_code 177 = .ok (.bipush 16, 2) := by decide +kernel
theorem dM_init_179 : decode prog_8_method_1_code 179 = .ok (.newarray .int, 2) := by decide +kernel
theorem dM_init_181 : decode prog_8_method_1_code 181 = .ok (.putfield 63, 3) := by decide +kernel
theorem dM_init_184 : decode prog_8_method_1_code 184 = .ok (.aload_n 0, 1) := by decide +kernel
theorem dM_init_185 : decode prog_8_method_1_code 185 = .ok (.bipush 16, 2) := by decide +kernel
theorem dM_init_187 : decode prog_8_method_1_code 187 = .ok (.newarray .int, 2) := by decide +kernel
theorem dM_init_189 : decode prog_8_method_1_code 189 = .ok (.putfield 66, 3) := by decide +kernel
theorem dM_init_192 : decode prog_8_method_1_code 192 = .ok (.aload_n 0, 1) := by decide +kernel
theorem dM_init_193 : decode prog_8_method_1_code 193 = .ok (.bipush 16, 2) := by decide +kernel
theorem dM_init_195 : decode prog_8_method_1_code 195 = .ok (.newarray .int, 2) := by decide +kernel
theorem dM_init_197 : decode prog_8_method_1_code 197 = .ok (.putfield 69, 3) := by decide +kernel
theorem dM_init_200 : decode prog_8_method_1_code 200 = .ok (.aload_n 0, 1) := by decide +kernel
theorem dM_init_201 : decode prog_8_method_1_code 201 = .ok (.bipush 16, 2) := by decide +kernel
theorem dM_init_203 : decode prog_8_method_1_code 203 = .ok (.newarray .int, 2) := by decide +kernel
theorem dM_init_205 : decode prog_8_method_1_code 205 = .ok (.putfield 72, 3) := by decide +kernel
theorem dM_init_208 : decode prog_8_method_1_code 208 = .ok (.return_, 1) := by decide +kernel
theorem dM_thrown_0 : decode prog_8_method_2_code 0 = .ok (.aload_n 0, 1) := by decide +kernel
theorem dM_thrown_1 : decode prog_8_method_2_code 1 = .ok (.getfield 75, 3) := by decide +kernel
theorem dM_thrown_4 : decode prog_8_method_2_code 4 = .ok (.ireturn, 1) := by decide +kernel
theorem dM_page_0 : decode prog_8_method_6_code 0 = .ok (.iload_n 1, 1) := by decide +kernel
theorem dM_page_1 : decode prog_8_method_6_code 1 = .ok (.ifCond .ne 16, 3) := by decide +kernel
theorem dM_page_4 : decode prog_8_method_6_code 4 = .ok (.iload_n 2, 1) := by decide +kernel
theorem dM_page_5 : decode prog_8_method_6_code 5 = .ok (.iconst (-1), 1) := by decide +kernel
theorem dM_page_6 : decode prog_8_method_6_code 6 = .ok (.if_icmp .ne 7, 3) := by decide +kernel
theorem dM_page_9 : decode prog_8_method_6_code 9 = .ok (.iconst 1, 1) := by decide +kernel
theorem dM_page_10 : decode prog_8_method_6_code 10 = .ok (.goto 32, 3) := by decide +kernel
theorem dM_page_13 : decode prog_8_method_6_code 13 = .ok (.iconst 0, 1) := by decide +kernel
theorem dM_page_14 : decode prog_8_method_6_code 14 = .ok (.goto 28, 3) := by decide +kernel
theorem dM_page_17 : decode prog_8_method_6_code 17 = .ok (.aload_n 0, 1) := by decide +kernel
theorem dM_page_18 : decode prog_8_method_6_code 18 = .ok (.iload_n 2, 1) := by decide +kernel
theorem dM_page_19 : decode prog_8_method_6_code 19 = .ok (.invokevirtual 85, 3) := by decide +kernel
theorem dM_page_22 : decode prog_8_method_6_code 22 = .ok (.ifCond .ne 19, 3) := by decide +kernel
theorem dM_page_25 : decode prog_8_method_6_code 25 = .ok (.aload_n 0, 1) := by decide +kernel
theorem dM_page_26 : decode prog_8_method_6_code 26 = .ok (.getfield 7, 3) := by decide +kernel
theorem dM_page_29 : decode prog_8_method_6_code 29 = .ok (.iload_n 2, 1) := by decide +kernel
theorem dM_page_30 : decode prog_8_method_6_code 30 = .ok (.iaload, 1) := by decide +kernel
theorem dM_page_31 : decode prog_8_method_6_code 31 = .ok (.iload_n 1, 1) := by decide +kernel
theorem dM_page_32 : decode prog_8_method_6_code 32 = .ok (.iconst 1, 1) := by decide +kernel
theorem dM_page_33 : decode prog_8_method_6_code 33 = .ok (.isub, 1) := by decide +kernel
theorem dM_page_34 : decode prog_8_method_6_code 34 = .ok (.if_icmp .ne 7, 3) := by decide +kernel
theorem dM_page_37 : decode prog_8_method_6_code 37 = .ok (.iconst 1, 1) := by decide +kernel
theorem dM_page_38 : decode prog_8_method_6_code 38 = .ok (.goto 4, 3) := by decide +kernel
theorem dM_page_41 : decode prog_8_method_6_code 41 = .ok (.iconst 0, 1) := by decide +kernel
theorem dM_page_42 : decode prog_8_method_6_code 42 = .ok (.istore_n 3, 1) := by decide +kernel
theorem dM_page_43 : decode prog_8_method_6_code 43 = .ok (.aload_n 0, 1) := by decide +kernel
theorem dM_page_44 : decode prog_8_method_6_code 44 = .ok (.iload_n 1, 1) := by decide +kernel
theorem dM_page_45 : decode prog_8_method_6_code 45 = .ok (.ifCond .lt 8, 3) := by decide +kernel
theorem dM_page_48 : decode prog_8_method_6_code 48 = .ok (.iload_n 1, 1) := by decide +kernel
theorem dM_page_49 : decode prog_8_method_6_code 49 = .ok (.iconst 2, 1) := by decide +kernel
theorem dM_page_50 : decode prog_8_method_6_code 50 = .ok (.if_icmp .le 7, 3) := by decide +kernel
theorem dM_page_53 : decode prog_8_method_6_code 53 = .ok (.iconst 1, 1) := by decide +kernel
theorem dM_page_54 : decode prog_8_method_6_code 54 = .ok (.goto 25, 3) := by decide +kernel
theorem dM_page_57 : decode prog_8_method_6_code 57 = .ok (.iload_n 3, 1) := by decide +kernel
theorem dM_page_58 : decode prog_8_method_6_code 58 = .ok (.ifCond .ne 7, 3) := by decide +kernel
theorem dM_page_61 : decode prog_8_method_6_code 61 = .ok (.iconst 2, 1) := by decide +kernel
theorem dM_page_62 : decode prog_8_method_6_code 62 = .ok (.goto 17, 3) := by decide +kernel
theorem dM_page_65 : decode prog_8_method_6_code 65 = .ok (.aload_n 0, 1) := by decide +kernel
theorem dM_page_66 : decode prog_8_method_6_code 66 = .ok (.getfield 79, 3) := by decide +kernel
theorem dM_page_69 : decode prog_8_method_6_code 69 = .ok (.bipush 12, 2) := by decide +kernel
theorem dM_page_71 : decode prog_8_method_6_code 71 = .ok (.if_icmp .ne 7, 3) := by decide +kernel
theorem dM_page_74 : decode prog_8_method_6_code 74 = .ok (.iconst 3, 1) := by decide +kernel
theorem dM_page_75 : decode prog_8_method_6_code 75 = .ok (.goto 4, 3) := by decide +kernel
theorem dM_page_78 : decode prog_8_method_6_code 78 = .ok (.iconst 0, 1) := by decide +kernel
theorem dM_page_79 : decode prog_8_method_6_code 79 = .ok (.putfield 75, 3) := by decide +kernel
theorem dM_page_82 : decode prog_8_method_6_code 82 = .ok (.aload_n 0, 1) := by decide +kernel
theorem dM_page_83 : decode prog_8_method_6_code 83 = .ok (.getfield 75, 3) := by decide +kernel
theorem dM_page_86 : decode prog_8_method_6_code 86 = .ok (.ifCond .le 5, 3) := by decide +kernel
theorem dM_page_89 : decode prog_8_method_6_code 89 = .ok (.iconst 0, 1) := by decide +kernel
theorem dM_page_90 : decode prog_8_method_6_code 90 = .ok (.ireturn, 1) := by decide +kernel
theorem dM_page_91 : decode prog_8_method_6_code 91 = .ok (.aload_n 0, 1) := by decide +kernel
theorem dM_page_92 : decode prog_8_method_6_code 92 = .ok (.getfield 7, 3) := by decide +kernel
theorem dM_page_95 : decode prog_8_method_6_code 95 = .ok (.aload_n 0, 1) := by decide +kernel
theorem dM_page_96 : decode prog_8_method_6_code 96 = .ok (.getfield 79, 3) := by decide +kernel
theorem dM_page_99 : decode prog_8_method_6_code 99 = .ok (.iload_n 1, 1) := by decide +kernel
theorem dM_page_100 : decode prog_8_method_6_code 100 = .ok (.iastore, 1) := by decide +kernel
theorem dM_page_101 : decode prog_8_method_6_code 101 = .ok (.aload_n 0, 1) := by decide +kernel
theorem dM_page_102 : decode prog_8_method_6_code 102 = .ok (.getfield 13, 3) := by decide +kernel
theorem dM_page_105 : decode prog_8_method_6_code 105 = .ok (.aload_n 0, 1) := by decide +kernel
theorem dM_page_106 : decode prog_8_method_6_code 106 = .ok (.getfield 79, 3) := by decide +kernel
theorem dM_page_109 : decode prog_8_method_6_code 109 = .ok (.iload_n 2, 1) := by decide +kernel
theorem dM_page_110 : decode prog_8_method_6_code 110 = .ok (.iastore, 1) := by decide +kernel
theorem dM_page_111 : decode prog_8_method_6_code 111 = .ok (.aload_n 0, 1) := by decide +kernel
theorem dM_page_112 : decode prog_8_method_6_code 112 = .ok (.dup, 1) := by decide +kernel
theorem dM_page_113 : decode prog_8_method_6_code 113 = .ok (.getfield 79, 3) := by decide +kernel
theorem dM_page_116 : decode prog_8_method_6_code 116 = .ok (.iconst 1, 1) := by decide +kernel
theorem dM_page_117 : decode prog_8_method_6_code 117 = .ok (.iadd, 1) := by decide +kernel
theorem dM_page_118 : decode prog_8_method_6_code 118 = .ok (.putfield 79, 3) := by decide +kernel
theorem dM_page_121 : decode prog_8_method_6_code 121 = .ok (.aload_n 0, 1) := by decide +kernel
theorem dM_page_122 : decode prog_8_method_6_code 122 = .ok (.getfield 79, 3) := by decide +kernel
theorem dM_page_125 : decode prog_8_method_6_code 125 = .ok (.iconst 1, 1) := by decide +kernel
theorem dM_page_126 : decode prog_8_method_6_code 126 = .ok (.isub, 1) := by decide +kernel
theorem dM_page_127 : decode prog_8_method_6_code 127 = .ok (.ireturn, 1) := by decide +kernel
theorem dM_noPage_0 : decode prog_8_method_3_code 0 = .ok (.iload_n 1, 1) := by decide +kernel
theorem dM_noPage_1 : decode prog_8_method_3_code 1 = .ok (.ifCond .lt 11, 3) := by decide +kernel
theorem dM_noPage_4 : decode prog_8_method_3_code 4 = .ok (.iload_n 1, 1) := by decide +kernel
theorem dM_noPage_5 : decode prog_8_method_3_code 5 = .ok (.aload_n 0, 1) := by decide +kernel
theorem dM_noPage_6 : decode prog_8_method_3_code 6 = .ok (.getfield 79, 3) := by decide +kernel
theorem dM_noPage_9 : decode prog_8_method_3_code 9 = .ok (.if_icmp .lt 7, 3) := by decide +kernel
theorem dM_noPage_12 : decode prog_8_method_3_code 12 = .ok (.iconst 1, 1) := by decide +kernel
theorem dM_noPage_13 : decode prog_8_method_3_code 13 = .ok (.goto 4, 3) := by decide +kernel
theorem dM_noPage_16 : decode prog_8_method_3_code 16 = .ok (.iconst 0, 1) := by decide +kernel
theorem dM_noPage_17 : decode prog_8_method_3_code 17 = .ok (.ireturn, 1) := by decide +kernel
theorem dM_shape_0 : decode prog_8_method_8_code 0 = .ok (.aload_n 0, 1) := by decide +kernel
theorem dM_shape_1 : decode prog_8_method_8_code 1 = .ok (.aload_n 0, 1) := by decide +kernel
theorem dM_shape_2 : decode prog_8_method_8_code 2 = .ok (.iload_n 1, 1) := by decide +kernel
theorem dM_shape_3 : decode prog_8_method_8_code 3 = .ok (.invokevirtual 85, 3) := by decide +kernel
theorem dM_shape_6 : decode prog_8_method_8_code 6 = .ok (.ifCond .eq 7, 3) := by decide +kernel
theorem dM_shape_9 : decode prog_8_method_8_code 9 = .ok (.iconst 1, 1) := by decide +kernel
theorem dM_shape_10 : decode prog_8_method_8_code 10 = .ok (.goto 49, 3) := by decide +kernel
theorem dM_shape_13 : decode prog_8_method_8_code 13 = .ok (.iload_n 2, 1) := by decide +kernel
theorem dM_shape_14 : decode prog_8_method_8_code 14 = .ok (.iconst (-1), 1) := by decide +kernel
theorem dM_shape_15 : decode prog_8_method_8_code 15 = .ok (.if_icmp .lt 9, 3) := by decide +kernel
theorem dM_shape_18 : decode prog_8_method_8_code 18 = .ok (.iload_n 2, 1) := by decide +kernel
theorem dM_shape_19 : decode prog_8_method_8_code 19 = .ok (.bipush 7, 2) := by decide +kernel
theorem dM_shape_21 : decode prog_8_method_8_code 21 = .ok (.if_icmp .le 7, 3) := by decide +kernel
theorem dM_shape_24 : decode prog_8_method_8_code 24 = .ok (.iconst 2, 1) := by decide +kernel
theorem dM_shape_25 : decode prog_8_method_8_code 25 = .ok (.goto 34, 3) := by decide +kernel
theorem dM_shape_28 : decode prog_8_method_8_code 28 = .ok (.iload_n 2, 1) := by decide +kernel
theorem dM_shape_29 : decode prog_8_method_8_code 29 = .ok (.ifCond .lt 16, 3) := by decide +kernel
theorem dM_shape_32 : decode prog_8_method_8_code 32 = .ok (.aload_n 0, 1) := by decide +kernel
theorem dM_shape_33 : decode prog_8_method_8_code 33 = .ok (.iload_n 1, 1) := by decide +kernel
theorem dM_shape_34 : decode prog_8_method_8_code 34 = .ok (.iload_n 2, 1) := by decide +kernel
theorem dM_shape_35 : decode prog_8_method_8_code 35 = .ok (.invokevirtual 89, 3) := by decide +kernel
theorem dM_shape_38 : decode prog_8_method_8_code 38 = .ok (.ifCond .lt 7, 3) := by decide +kernel
theorem dM_shape_41 : decode prog_8_method_8_code 41 = .ok (.iconst 3, 1) := by decide +kernel
theorem dM_shape_42 : decode prog_8_method_8_code 42 = .ok (.goto 17, 3) := by decide +kernel
theorem dM_shape_45 : decode prog_8_method_8_code 45 = .ok (.aload_n 0, 1) := by decide +kernel
theorem dM_shape_46 : decode prog_8_method_8_code 46 = .ok (.getfield 82, 3) := by decide +kernel
theorem dM_shape_49 : decode prog_8_method_8_code 49 = .ok (.bipush 24, 2) := by decide +kernel
theorem dM_shape_51 : decode prog_8_method_8_code 51 = .ok (.if_icmp .ne 7, 3) := by decide +kernel
theorem dM_shape_54 : decode prog_8_method_8_code 54 = .ok (.iconst 4, 1) := by decide +kernel
theorem dM_shape_55 : decode prog_8_method_8_code 55 = .ok (.goto 4, 3) := by decide +kernel
theorem dM_shape_58 : decode prog_8_method_8_code 58 = .ok (.iconst 0, 1) := by decide +kernel
theorem dM_shape_59 : decode prog_8_method_8_code 59 = .ok (.putfield 75, 3) := by decide +kernel
theorem dM_shape_62 : decode prog_8_method_8_code 62 = .ok (.aload_n 0, 1) := by decide +kernel
theorem dM_shape_63 : decode prog_8_method_8_code 63 = .ok (.getfield 75, 3) := by decide +kernel
theorem dM_shape_66 : decode prog_8_method_8_code 66 = .ok (.ifCond .le 5, 3) := by decide +kernel
theorem dM_shape_69 : decode prog_8_method_8_code 69 = .ok (.iconst 0, 1) := by decide +kernel
theorem dM_shape_70 : decode prog_8_method_8_code 70 = .ok (.ireturn, 1) := by decide +kernel
theorem dM_shape_71 : decode prog_8_method_8_code 71 = .ok (.aload_n 0, 1) := by decide +kernel
theorem dM_shape_72 : decode prog_8_method_8_code 72 = .ok (.getfield 16, 3) := by decide +kernel
theorem dM_shape_75 : decode prog_8_method_8_code 75 = .ok (.aload_n 0, 1) := by decide +kernel
theorem dM_shape_76 : decode prog_8_method_8_code 76 = .ok (.getfield 82, 3) := by decide +kernel
theorem dM_shape_79 : decode prog_8_method_8_code 79 = .ok (.iload_n 1, 1) := by decide +kernel
theorem dM_shape_80 : decode prog_8_method_8_code 80 = .ok (.iastore, 1) := by decide +kernel
theorem dM_shape_81 : decode prog_8_method_8_code 81 = .ok (.aload_n 0, 1) := by decide +kernel
theorem dM_shape_82 : decode prog_8_method_8_code 82 = .ok (.getfield 19, 3) := by decide +kernel
theorem dM_shape_85 : decode prog_8_method_8_code 85 = .ok (.aload_n 0, 1) := by decide +kernel
theorem dM_shape_86 : decode prog_8_method_8_code 86 = .ok (.getfield 82, 3) := by decide +kernel
theorem dM_shape_89 : decode prog_8_method_8_code 89 = .ok (.iload_n 2, 1) := by decide +kernel
theorem dM_shape_90 : decode prog_8_method_8_code 90 = .ok (.iastore, 1) := by decide +kernel
theorem dM_shape_91 : decode prog_8_method_8_code 91 = .ok (.aload_n 0, 1) := by decide +kernel
theorem dM_shape_92 : decode prog_8_method_8_code 92 = .ok (.getfield 33, 3) := by decide +kernel
theorem dM_shape_95 : decode prog_8_method_8_code 95 = .ok (.aload_n 0, 1) := by decide +kernel
theorem dM_shape_96 : decode prog_8_method_8_code 96 = .ok (.getfield 82, 3) := by decide +kernel
theorem dM_shape_99 : decode prog_8_method_8_code 99 = .ok (.iconst 0, 1) := by decide +kernel
theorem dM_shape_100 : decode prog_8_method_8_code 100 = .ok (.iastore, 1) := by decide +kernel
theorem dM_shape_101 : decode prog_8_method_8_code 101 = .ok (.aload_n 0, 1) := by decide +kernel
theorem dM_shape_102 : decode prog_8_method_8_code 102 = .ok (.dup, 1) := by decide +kernel
theorem dM_shape_103 : decode prog_8_method_8_code 103 = .ok (.getfield 82, 3) := by decide +kernel
theorem dM_shape_106 : decode prog_8_method_8_code 106 = .ok (.iconst 1, 1) := by decide +kernel
theorem dM_shape_107 : decode prog_8_method_8_code 107 = .ok (.iadd, 1) := by decide +kernel
theorem dM_shape_108 : decode prog_8_method_8_code 108 = .ok (.putfield 82, 3) := by decide +kernel
theorem dM_shape_111 : decode prog_8_method_8_code 111 = .ok (.aload_n 0, 1) := by decide +kernel
theorem dM_shape_112 : decode prog_8_method_8_code 112 = .ok (.getfield 82, 3) := by decide +kernel
theorem dM_shape_115 : decode prog_8_method_8_code 115 = .ok (.iconst 1, 1) := by decide +kernel
theorem dM_shape_116 : decode prog_8_method_8_code 116 = .ok (.isub, 1) := by decide +kernel
theorem dM_shape_117 : decode prog_8_method_8_code 117 = .ok (.ireturn, 1) := by decide +kernel
theorem dM_slotted_0 : decode prog_8_method_7_code 0 = .ok (.iconst 0, 1) := by decide +kernel
theorem dM_slotted_1 : decode prog_8_method_7_code 1 = .ok (.istore_n 3, 1) := by decide +kernel
theorem dM_slotted_2 : decode prog_8_method_7_code 2 = .ok (.iload_n 3, 1) := by decide +kernel
theorem dM_slotted_3 : decode prog_8_method_7_code 3 = .ok (.aload_n 0, 1) := by decide +kernel
theorem dM_slotted_4 : decode prog_8_method_7_code 4 = .ok (.getfield 82, 3) := by decide +kernel
theorem dM_slotted_7 : decode prog_8_method_7_code 7 = .ok (.if_icmp .ge 31, 3) := by decide +kernel
theorem dM_slotted_10 : decode prog_8_method_7_code 10 = .ok (.aload_n 0, 1) := by decide +kernel
theorem dM_slotted_11 : decode prog_8_method_7_code 11 = .ok (.getfield 16, 3) := by decide +kernel
theorem dM_slotted_14 : decode prog_8_method_7_code 14 = .ok (.iload_n 3, 1) := by decide +kernel
theorem dM_slotted_15 : decode prog_8_method_7_code 15 = .ok (.iaload, 1) := by decide +kernel
theorem dM_slotted_16 : decode prog_8_method_7_code 16 = .ok (.iload_n 1, 1) := by decide +kernel
theorem dM_slotted_17 : decode prog_8_method_7_code 17 = .ok (.if_icmp .ne 15, 3) := by decide +kernel
theorem dM_slotted_20 : decode prog_8_method_7_code 20 = .ok (.aload_n 0, 1) := by decide +kernel
theorem dM_slotted_21 : decode prog_8_method_7_code 21 = .ok (.getfield 19, 3) := by decide +kernel
theorem dM_slotted_24 : decode prog_8_method_7_code 24 = .ok (.iload_n 3, 1) := by decide +kernel
theorem dM_slotted_25 : decode prog_8_method_7_code 25 = .ok (.iaload, 1) := by decide +kernel
theorem dM_slotted_26 : decode prog_8_method_7_code 26 = .ok (.iload_n 2, 1) := by decide +kernel
theorem dM_slotted_27 : decode prog_8_method_7_code 27 = .ok (.if_icmp .ne 5, 3) := by decide +kernel
theorem dM_slotted_30 : decode prog_8_method_7_code 30 = .ok (.iload_n 3, 1) := by decide +kernel
theorem dM_slotted_31 : decode prog_8_method_7_code 31 = .ok (.ireturn, 1) := by decide +kernel
theorem dM_slotted_32 : decode prog_8_method_7_code 32 = .ok (.iinc 3 1, 3) := by decide +kernel
theorem dM_slotted_35 : decode prog_8_method_7_code 35 = .ok (.goto (-33), 3) := by decide +kernel
theorem dM_slotted_38 : decode prog_8_method_7_code 38 = .ok (.iconst (-1), 1) := by decide +kernel
theorem dM_slotted_39 : decode prog_8_method_7_code 39 = .ok (.ireturn, 1) := by decide +kernel
theorem dM_theme_0 : decode prog_8_method_10_code 0 = .ok (.aload_n 0, 1) := by decide +kernel
theorem dM_theme_1 : decode prog_8_method_10_code 1 = .ok (.iload_n 1, 1) := by decide +kernel
theorem dM_theme_2 : decode prog_8_method_10_code 2 = .ok (.iload_n 2, 1) := by decide +kernel
theorem dM_theme_3 : decode prog_8_method_10_code 3 = .ok (.invokestatic 94, 3) := by decide +kernel
theorem dM_theme_6 : decode prog_8_method_10_code 6 = .ok (.ifCond .eq 7, 3) := by decide +kernel
theorem dM_theme_9 : decode prog_8_method_10_code 9 = .ok (.iconst 1, 1) := by decide +kernel
theorem dM_theme_10 : decode prog_8_method_10_code 10 = .ok (.goto 4, 3) := by decide +kernel
theorem dM_theme_13 : decode prog_8_method_10_code 13 = .ok (.iconst 0, 1) := by decide +kernel
theorem dM_theme_14 : decode prog_8_method_10_code 14 = .ok (.putfield 75, 3) := by decide +kernel
theorem dM_theme_17 : decode prog_8_method_10_code 17 = .ok (.aload_n 0, 1) := by decide +kernel
theorem dM_theme_18 : decode prog_8_method_10_code 18 = .ok (.getfield 75, 3) := by decide +kernel
theorem dM_theme_21 : decode prog_8_method_10_code 21 = .ok (.ifCond .ne 10, 3) := by decide +kernel
theorem dM_theme_24 : decode prog_8_method_10_code 24 = .ok (.aload_n 0, 1) := by decide +kernel
theorem dM_theme_25 : decode prog_8_method_10_code 25 = .ok (.getfield 30, 3) := by decide +kernel
theorem dM_theme_28 : decode prog_8_method_10_code 28 = .ok (.iload_n 1, 1) := by decide +kernel
theorem dM_theme_29 : decode prog_8_method_10_code 29 = .ok (.iload_n 2, 1) := by decide +kernel
theorem dM_theme_30 : decode prog_8_method_10_code 30 = .ok (.iastore, 1) := by decide +kernel
theorem dM_theme_31 : decode prog_8_method_10_code 31 = .ok (.return_, 1) := by decide +kernel
theorem dM_bad_0 : decode prog_8_method_9_code 0 = .ok (.iload_n 0, 1) := by decide +kernel
theorem dM_bad_1 : decode prog_8_method_9_code 1 = .ok (.tableswitch 126 0 6 #[43, 43, 61, 61, 77, 93, 110], 43) := by decide +kernel
theorem dM_bad_44 : decode prog_8_method_9_code 44 = .ok (.iload_n 1, 1) := by decide +kernel
theorem dM_bad_45 : decode prog_8_method_9_code 45 = .ok (.bipush (-40), 2) := by decide +kernel
theorem dM_bad_47 : decode prog_8_method_9_code 47 = .ok (.if_icmp .lt 9, 3) := by decide +kernel
theorem dM_bad_50 : decode prog_8_method_9_code 50 = .ok (.iload_n 1, 1) := by decide +kernel
theorem dM_bad_51 : decode prog_8_method_9_code 51 = .ok (.bipush 40, 2) := by decide +kernel
theorem dM_bad_53 : decode prog_8_method_9_code 53 = .ok (.if_icmp .le 7, 3) := by decide +kernel
theorem dM_bad_56 : decode prog_8_method_9_code 56 = .ok (.iconst 1, 1) := by decide +kernel
theorem dM_bad_57 : decode prog_8_method_9_code 57 = .ok (.goto 4, 3) := by decide +kernel
theorem dM_bad_60 : decode prog_8_method_9_code 60 = .ok (.iconst 0, 1) := by decide +kernel
theorem dM_bad_61 : decode prog_8_method_9_code 61 = .ok (.ireturn, 1) := by decide +kernel
theorem dM_bad_62 : decode prog_8_method_9_code 62 = .ok (.iload_n 1, 1) := by decide +kernel
theorem dM_bad_63 : decode prog_8_method_9_code 63 = .ok (.ifCond .lt 9, 3) := by decide +kernel
theorem dM_bad_66 : decode prog_8_method_9_code 66 = .ok (.iload_n 1, 1) := by decide +kernel
theorem dM_bad_67 : decode prog_8_method_9_code 67 = .ok (.bipush 40, 2) := by decide +kernel
theorem dM_bad_69 : decode prog_8_method_9_code 69 = .ok (.if_icmp .le 7, 3) := by decide +kernel
theorem dM_bad_72 : decode prog_8_method_9_code 72 = .ok (.iconst 1, 1) := by decide +kernel
theorem dM_bad_73 : decode prog_8_method_9_code 73 = .ok (.goto 4, 3) := by decide +kernel
theorem dM_bad_76 : decode prog_8_method_9_code 76 = .ok (.iconst 0, 1) := by decide +kernel
theorem dM_bad_77 : decode prog_8_method_9_code 77 = .ok (.ireturn, 1) := by decide +kernel
theorem dM_bad_78 : decode prog_8_method_9_code 78 = .ok (.iload_n 1, 1) := by decide +kernel
theorem dM_bad_79 : decode prog_8_method_9_code 79 = .ok (.ifCond .lt 9, 3) := by decide +kernel
theorem dM_bad_82 : decode prog_8_method_9_code 82 = .ok (.iload_n 1, 1) := by decide +kernel
theorem dM_bad_83 : decode prog_8_method_9_code 83 = .ok (.ldc 93, 2) := by decide +kernel
theorem dM_bad_85 : decode prog_8_method_9_code 85 = .ok (.if_icmp .le 7, 3) := by decide +kernel
theorem dM_bad_88 : decode prog_8_method_9_code 88 = .ok (.iconst 1, 1) := by decide +kernel
theorem dM_bad_89 : decode prog_8_method_9_code 89 = .ok (.goto 4, 3) := by decide +kernel
theorem dM_bad_92 : decode prog_8_method_9_code 92 = .ok (.iconst 0, 1) := by decide +kernel
theorem dM_bad_93 : decode prog_8_method_9_code 93 = .ok (.ireturn, 1) := by decide +kernel
theorem dM_bad_94 : decode prog_8_method_9_code 94 = .ok (.iload_n 1, 1) := by decide +kernel
theorem dM_bad_95 : decode prog_8_method_9_code 95 = .ok (.ifCond .lt 10, 3) := by decide +kernel
theorem dM_bad_98 : decode prog_8_method_9_code 98 = .ok (.iload_n 1, 1) := by decide +kernel
theorem dM_bad_99 : decode prog_8_method_9_code 99 = .ok (.sipush 255, 3) := by decide +kernel
theorem dM_bad_102 : decode prog_8_method_9_code 102 = .ok (.if_icmp .le 7, 3) := by decide +kernel
theorem dM_bad_105 : decode prog_8_method_9_code 105 = .ok (.iconst 1, 1) := by decide +kernel
theorem dM_bad_106 : decode prog_8_method_9_code 106 = .ok (.goto 4, 3) := by decide +kernel
theorem dM_bad_109 : decode prog_8_method_9_code 109 = .ok (.iconst 0, 1) := by decide +kernel
theorem dM_bad_110 : decode prog_8_method_9_code 110 = .ok (.ireturn, 1) := by decide +kernel
theorem dM_bad_111 : decode prog_8_method_9_code 111 = .ok (.iload_n 1, 1) := by decide +kernel
theorem dM_bad_112 : decode prog_8_method_9_code 112 = .ok (.iconst 1, 1) := by decide +kernel
theorem dM_bad_113 : decode prog_8_method_9_code 113 = .ok (.if_icmp .lt 8, 3) := by decide +kernel
theorem dM_bad_116 : decode prog_8_method_9_code 116 = .ok (.iload_n 1, 1) := by decide +kernel
theorem dM_bad_117 : decode prog_8_method_9_code 117 = .ok (.iconst 4, 1) := by decide +kernel
theorem dM_bad_118 : decode prog_8_method_9_code 118 = .ok (.if_icmp .le 7, 3) := by decide +kernel
theorem dM_bad_121 : decode prog_8_method_9_code 121 = .ok (.iconst 1, 1) := by decide +kernel
theorem dM_bad_122 : decode prog_8_method_9_code 122 = .ok (.goto 4, 3) := by decide +kernel
theorem dM_bad_125 : decode prog_8_method_9_code 125 = .ok (.iconst 0, 1) := by decide +kernel
theorem dM_bad_126 : decode prog_8_method_9_code 126 = .ok (.ireturn, 1) := by decide +kernel
theorem dM_bad_127 : decode prog_8_method_9_code 127 = .ok (.iconst 1, 1) := by decide +kernel
theorem dM_bad_128 : decode prog_8_method_9_code 128 = .ok (.ireturn, 1) := by decide +kernel
theorem dM_set_0 : decode prog_8_method_11_code 0 = .ok (.aload_n 0, 1) := by decide +kernel
theorem dM_set_1 : decode prog_8_method_11_code 1 = .ok (.aload_n 0, 1) := by decide +kernel
theorem dM_set_2 : decode prog_8_method_11_code 2 = .ok (.iload_n 1, 1) := by decide +kernel
theorem dM_set_3 : decode prog_8_method_11_code 3 = .ok (.invokevirtual 98, 3) := by decide +kernel
theorem dM_set_6 : decode prog_8_method_11_code 6 = .ok (.ifCond .eq 7, 3) := by decide +kernel
theorem dM_set_9 : decode prog_8_method_11_code 9 = .ok (.iconst 1, 1) := by decide +kernel
theorem dM_set_10 : decode prog_8_method_11_code 10 = .ok (.goto 16, 3) := by decide +kernel
theorem dM_set_13 : decode prog_8_method_11_code 13 = .ok (.iload_n 2, 1) := by decide +kernel
theorem dM_set_14 : decode prog_8_method_11_code 14 = .ok (.iload_n 3, 1) := by decide +kernel
theorem dM_set_15 : decode prog_8_method_11_code 15 = .ok (.invokestatic 94, 3) := by decide +kernel
theorem dM_set_18 : decode prog_8_method_11_code 18 = .ok (.ifCond .eq 7, 3) := by decide +kernel
theorem dM_set_21 : decode prog_8_method_11_code 21 = .ok (.iconst 2, 1) := by decide +kernel
theorem dM_set_22 : decode prog_8_method_11_code 22 = .ok (.goto 4, 3) := by decide +kernel
theorem dM_set_25 : decode prog_8_method_11_code 25 = .ok (.iconst 0, 1) := by decide +kernel
theorem dM_set_26 : decode prog_8_method_11_code 26 = .ok (.putfield 75, 3) := by decide +kernel
theorem dM_set_29 : decode prog_8_method_11_code 29 = .ok (.aload_n 0, 1) := by decide +kernel
theorem dM_set_30 : decode prog_8_method_11_code 30 = .ok (.getfield 75, 3) := by decide +kernel
theorem dM_set_33 : decode prog_8_method_11_code 33 = .ok (.ifCond .ne 27, 3) := by decide +kernel
theorem dM_set_36 : decode prog_8_method_11_code 36 = .ok (.aload_n 0, 1) := by decide +kernel
theorem dM_set_37 : decode prog_8_method_11_code 37 = .ok (.getfield 22, 3) := by decide +kernel
theorem dM_set_40 : decode prog_8_method_11_code 40 = .ok (.bipush 7, 2) := by decide +kernel
theorem dM_set_42 : decode prog_8_method_11_code 42 = .ok (.iload_n 1, 1) := by decide +kernel
theorem dM_set_43 : decode prog_8_method_11_code 43 = .ok (.imul, 1) := by decide +kernel
theorem dM_set_44 : decode prog_8_method_11_code 44 = .ok (.iload_n 2, 1) := by decide +kernel
theorem dM_set_45 : decode prog_8_method_11_code 45 = .ok (.iadd, 1) := by decide +kernel
theorem dM_set_46 : decode prog_8_method_11_code 46 = .ok (.iconst 1, 1) := by decide +kernel
theorem dM_set_47 : decode prog_8_method_11_code 47 = .ok (.bastore, 1) := by decide +kernel
theorem dM_set_48 : decode prog_8_method_11_code 48 = .ok (.aload_n 0, 1) := by decide +kernel
theorem dM_set_49 : decode prog_8_method_11_code 49 = .ok (.getfield 26, 3) := by decide +kernel
theorem dM_set_52 : decode prog_8_method_11_code 52 = .ok (.bipush 7, 2) := by decide +kernel
theorem dM_set_54 : decode prog_8_method_11_code 54 = .ok (.iload_n 1, 1) := by decide +kernel
theorem dM_set_55 : decode prog_8_method_11_code 55 = .ok (.imul, 1) := by decide +kernel
theorem dM_set_56 : decode prog_8_method_11_code 56 = .ok (.iload_n 2, 1) := by decide +kernel
theorem dM_set_57 : decode prog_8_method_11_code 57 = .ok (.iadd, 1) := by decide +kernel
theorem dM_set_58 : decode prog_8_method_11_code 58 = .ok (.iload_n 3, 1) := by decide +kernel
theorem dM_set_59 : decode prog_8_method_11_code 59 = .ok (.iastore, 1) := by decide +kernel
theorem dM_set_60 : decode prog_8_method_11_code 60 = .ok (.return_, 1) := by decide +kernel
theorem dM_noShape_0 : decode prog_8_method_4_code 0 = .ok (.iload_n 1, 1) := by decide +kernel
theorem dM_noShape_1 : decode prog_8_method_4_code 1 = .ok (.ifCond .lt 11, 3) := by decide +kernel
theorem dM_noShape_4 : decode prog_8_method_4_code 4 = .ok (.iload_n 1, 1) := by decide +kernel
theorem dM_noShape_5 : decode prog_8_method_4_code 5 = .ok (.aload_n 0, 1) := by decide +kernel
theorem dM_noShape_6 : decode prog_8_method_4_code 6 = .ok (.getfield 82, 3) := by decide +kernel
theorem dM_noShape_9 : decode prog_8_method_4_code 9 = .ok (.if_icmp .lt 7, 3) := by decide +kernel
theorem dM_noShape_12 : decode prog_8_method_4_code 12 = .ok (.iconst 1, 1) := by decide +kernel
theorem dM_noShape_13 : decode prog_8_method_4_code 13 = .ok (.goto 4, 3) := by decide +kernel
theorem dM_noShape_16 : decode prog_8_method_4_code 16 = .ok (.iconst 0, 1) := by decide +kernel
theorem dM_noShape_17 : decode prog_8_method_4_code 17 = .ok (.ireturn, 1) := by decide +kernel
theorem dM_unset_0 : decode prog_8_method_12_code 0 = .ok (.aload_n 0, 1) := by decide +kernel
theorem dM_unset_1 : decode prog_8_method_12_code 1 = .ok (.aload_n 0, 1) := by decide +kernel
theorem dM_unset_2 : decode prog_8_method_12_code 2 = .ok (.iload_n 1, 1) := by decide +kernel
theorem dM_unset_3 : decode prog_8_method_12_code 3 = .ok (.invokevirtual 98, 3) := by decide +kernel
theorem dM_unset_6 : decode prog_8_method_12_code 6 = .ok (.ifCond .eq 7, 3) := by decide +kernel
theorem dM_unset_9 : decode prog_8_method_12_code 9 = .ok (.iconst 1, 1) := by decide +kernel
theorem dM_unset_10 : decode prog_8_method_12_code 10 = .ok (.goto 15, 3) := by decide +kernel
theorem dM_unset_13 : decode prog_8_method_12_code 13 = .ok (.iload_n 2, 1) := by decide +kernel
theorem dM_unset_14 : decode prog_8_method_12_code 14 = .ok (.invokestatic 101, 3) := by decide +kernel
theorem dM_unset_17 : decode prog_8_method_12_code 17 = .ok (.ifCond .eq 7, 3) := by decide +kernel
theorem dM_unset_20 : decode prog_8_method_12_code 20 = .ok (.iconst 2, 1) := by decide +kernel
theorem dM_unset_21 : decode prog_8_method_12_code 21 = .ok (.goto 4, 3) := by decide +kernel
theorem dM_unset_24 : decode prog_8_method_12_code 24 = .ok (.iconst 0, 1) := by decide +kernel
theorem dM_unset_25 : decode prog_8_method_12_code 25 = .ok (.putfield 75, 3) := by decide +kernel
theorem dM_unset_28 : decode prog_8_method_12_code 28 = .ok (.aload_n 0, 1) := by decide +kernel
theorem dM_unset_29 : decode prog_8_method_12_code 29 = .ok (.getfield 75, 3) := by decide +kernel
theorem dM_unset_32 : decode prog_8_method_12_code 32 = .ok (.ifCond .le 5, 3) := by decide +kernel
theorem dM_unset_35 : decode prog_8_method_12_code 35 = .ok (.iconst 0, 1) := by decide +kernel
theorem dM_unset_36 : decode prog_8_method_12_code 36 = .ok (.ireturn, 1) := by decide +kernel
theorem dM_unset_37 : decode prog_8_method_12_code 37 = .ok (.aload_n 0, 1) := by decide +kernel
theorem dM_unset_38 : decode prog_8_method_12_code 38 = .ok (.getfield 22, 3) := by decide +kernel
theorem dM_unset_41 : decode prog_8_method_12_code 41 = .ok (.bipush 7, 2) := by decide +kernel
theorem dM_unset_43 : decode prog_8_method_12_code 43 = .ok (.iload_n 1, 1) := by decide +kernel
theorem dM_unset_44 : decode prog_8_method_12_code 44 = .ok (.imul, 1) := by decide +kernel
theorem dM_unset_45 : decode prog_8_method_12_code 45 = .ok (.iload_n 2, 1) := by decide +kernel
theorem dM_unset_46 : decode prog_8_method_12_code 46 = .ok (.iadd, 1) := by decide +kernel
theorem dM_unset_47 : decode prog_8_method_12_code 47 = .ok (.baload, 1) := by decide +kernel
theorem dM_unset_48 : decode prog_8_method_12_code 48 = .ok (.istore_n 3, 1) := by decide +kernel
theorem dM_unset_49 : decode prog_8_method_12_code 49 = .ok (.aload_n 0, 1) := by decide +kernel
theorem dM_unset_50 : decode prog_8_method_12_code 50 = .ok (.getfield 22, 3) := by decide +kernel
theorem dM_unset_53 : decode prog_8_method_12_code 53 = .ok (.bipush 7, 2) := by decide +kernel
theorem dM_unset_55 : decode prog_8_method_12_code 55 = .ok (.iload_n 1, 1) := by decide +kernel
theorem dM_unset_56 : decode prog_8_method_12_code 56 = .ok (.imul, 1) := by decide +kernel
theorem dM_unset_57 : decode prog_8_method_12_code 57 = .ok (.iload_n 2, 1) := by decide +kernel
theorem dM_unset_58 : decode prog_8_method_12_code 58 = .ok (.iadd, 1) := by decide +kernel
theorem dM_unset_59 : decode prog_8_method_12_code 59 = .ok (.iconst 0, 1) := by decide +kernel
theorem dM_unset_60 : decode prog_8_method_12_code 60 = .ok (.bastore, 1) := by decide +kernel
theorem dM_unset_61 : decode prog_8_method_12_code 61 = .ok (.iload_n 3, 1) := by decide +kernel
theorem dM_unset_62 : decode prog_8_method_12_code 62 = .ok (.ireturn, 1) := by decide +kernel
theorem dM_noProperty_0 : decode prog_8_method_5_code 0 = .ok (.iload_n 0, 1) := by decide +kernel
theorem dM_noProperty_1 : decode prog_8_method_5_code 1 = .ok (.ifCond .lt 9, 3) := by decide +kernel
theorem dM_noProperty_4 : decode prog_8_method_5_code 4 = .ok (.iload_n 0, 1) := by decide +kernel
theorem dM_noProperty_5 : decode prog_8_method_5_code 5 = .ok (.bipush 6, 2) := by decide +kernel
theorem dM_noProperty_7 : decode prog_8_method_5_code 7 = .ok (.if_icmp .le 7, 3) := by decide +kernel
theorem dM_noProperty_10 : decode prog_8_method_5_code 10 = .ok (.iconst 1, 1) := by decide +kernel
theorem dM_noProperty_11 : decode prog_8_method_5_code 11 = .ok (.goto 4, 3) := by decide +kernel
theorem dM_noProperty_14 : decode prog_8_method_5_code 14 = .ok (.iconst 0, 1) := by decide +kernel
theorem dM_noProperty_15 : decode prog_8_method_5_code 15 = .ok (.ireturn, 1) := by decide +kernel
theorem dM_resolved_0 : decode prog_8_method_15_code 0 = .ok (.aload_n 0, 1) := by decide +kernel
theorem dM_resolved_1 : decode prog_8_method_15_code 1 = .ok (.aload_n 0, 1) := by decide +kernel
theorem dM_resolved_2 : decode prog_8_method_15_code 2 = .ok (.iload_n 1, 1) := by decide +kernel
theorem dM_resolved_3 : decode prog_8_method_15_code 3 = .ok (.invokevirtual 98, 3) := by decide +kernel
theorem dM_resolved_6 : decode prog_8_method_15_code 6 = .ok (.ifCond .eq 7, 3) := by decide +kernel
theorem dM_resolved_9 : decode prog_8_method_15_code 9 = .ok (.iconst 1, 1) := by decide +kernel
theorem dM_resolved_10 : decode prog_8_method_15_code 10 = .ok (.goto 15, 3) := by decide +kernel
theorem dM_resolved_13 : decode prog_8_method_15_code 13 = .ok (.iload_n 2, 1) := by decide +kernel
theorem dM_resolved_14 : decode prog_8_method_15_code 14 = .ok (.invokestatic 101, 3) := by decide +kernel
theorem dM_resolved_17 : decode prog_8_method_15_code 17 = .ok (.ifCond .eq 7, 3) := by decide +kernel
theorem dM_resolved_20 : decode prog_8_method_15_code 20 = .ok (.iconst 2, 1) := by decide +kernel
theorem dM_resolved_21 : decode prog_8_method_15_code 21 = .ok (.goto 4, 3) := by decide +kernel
theorem dM_resolved_24 : decode prog_8_method_15_code 24 = .ok (.iconst 0, 1) := by decide +kernel
theorem dM_resolved_25 : decode prog_8_method_15_code 25 = .ok (.putfield 75, 3) := by decide +kernel
theorem dM_resolved_28 : decode prog_8_method_15_code 28 = .ok (.aload_n 0, 1) := by decide +kernel
theorem dM_resolved_29 : decode prog_8_method_15_code 29 = .ok (.getfield 75, 3) := by decide +kernel
theorem dM_resolved_32 : decode prog_8_method_15_code 32 = .ok (.ifCond .le 7, 3) := by decide +kernel
theorem dM_resolved_35 : decode prog_8_method_15_code 35 = .ok (.iconst 0, 1) := by decide +kernel
theorem dM_resolved_36 : decode prog_8_method_15_code 36 = .ok (.goto 9, 3) := by decide +kernel
theorem dM_resolved_39 : decode prog_8_method_15_code 39 = .ok (.aload_n 0, 1) := by decide +kernel
theorem dM_resolved_40 : decode prog_8_method_15_code 40 = .ok (.iload_n 1, 1) := by decide +kernel
theorem dM_resolved_41 : decode prog_8_method_15_code 41 = .ok (.iload_n 2, 1) := by decide +kernel
theorem dM_resolved_42 : decode prog_8_method_15_code 42 = .ok (.invokevirtual 107, 3) := by decide +kernel
theorem dM_resolved_45 : decode prog_8_method_15_code 45 = .ok (.ireturn, 1) := by decide +kernel
theorem dM_value_0 : decode prog_8_method_14_code 0 = .ok (.aload_n 0, 1) := by decide +kernel
theorem dM_value_1 : decode prog_8_method_14_code 1 = .ok (.iload_n 1, 1) := by decide +kernel
theorem dM_value_2 : decode prog_8_method_14_code 2 = .ok (.iload_n 2, 1) := by decide +kernel
theorem dM_value_3 : decode prog_8_method_14_code 3 = .ok (.invokevirtual 104, 3) := by decide +kernel
theorem dM_value_6 : decode prog_8_method_14_code 6 = .ok (.istore_n 3, 1) := by decide +kernel
theorem dM_value_7 : decode prog_8_method_14_code 7 = .ok (.iload_n 3, 1) := by decide +kernel
theorem dM_value_8 : decode prog_8_method_14_code 8 = .ok (.ifCond .ge 12, 3) := by decide +kernel
theorem dM_value_11 : decode prog_8_method_14_code 11 = .ok (.aload_n 0, 1) := by decide +kernel
theorem dM_value_12 : decode prog_8_method_14_code 12 = .ok (.getfield 30, 3) := by decide +kernel
theorem dM_value_15 : decode prog_8_method_14_code 15 = .ok (.iload_n 2, 1) := by decide +kernel
theorem dM_value_16 : decode prog_8_method_14_code 16 = .ok (.iaload, 1) := by decide +kernel
theorem dM_value_17 : decode prog_8_method_14_code 17 = .ok (.goto 14, 3) := by decide +kernel
theorem dM_value_20 : decode prog_8_method_14_code 20 = .ok (.aload_n 0, 1) := by decide +kernel
theorem dM_value_21 : decode prog_8_method_14_code 21 = .ok (.getfield 26, 3) := by decide +kernel
theorem dM_value_24 : decode prog_8_method_14_code 24 = .ok (.bipush 7, 2) := by decide +kernel
theorem dM_value_26 : decode prog_8_method_14_code 26 = .ok (.iload_n 3, 1) := by decide +kernel
theorem dM_value_27 : decode prog_8_method_14_code 27 = .ok (.imul, 1) := by decide +kernel
theorem dM_value_28 : decode prog_8_method_14_code 28 = .ok (.iload_n 2, 1) := by decide +kernel
theorem dM_value_29 : decode prog_8_method_14_code 29 = .ok (.iadd, 1) := by decide +kernel
theorem dM_value_30 : decode prog_8_method_14_code 30 = .ok (.iaload, 1) := by decide +kernel
theorem dM_value_31 : decode prog_8_method_14_code 31 = .ok (.ireturn, 1) := by decide +kernel
theorem dM_source_0 : decode prog_8_method_13_code 0 = .ok (.aload_n 0, 1) := by decide +kernel
theorem dM_source_1 : decode prog_8_method_13_code 1 = .ok (.getfield 22, 3) := by decide +kernel
theorem dM_source_4 : decode prog_8_method_13_code 4 = .ok (.bipush 7, 2) := by decide +kernel
theorem dM_source_6 : decode prog_8_method_13_code 6 = .ok (.iload_n 1, 1) := by decide +kernel
theorem dM_source_7 : decode prog_8_method_13_code 7 = .ok (.imul, 1) := by decide +kernel
theorem dM_source_8 : decode prog_8_method_13_code 8 = .ok (.iload_n 2, 1) := by decide +kernel
theorem dM_source_9 : decode prog_8_method_13_code 9 = .ok (.iadd, 1) := by decide +kernel
theorem dM_source_10 : decode prog_8_method_13_code 10 = .ok (.baload, 1) := by decide +kernel
theorem dM_source_11 : decode prog_8_method_13_code 11 = .ok (.ifCond .eq 5, 3) := by decide +kernel
theorem dM_source_14 : decode prog_8_method_13_code 14 = .ok (.iload_n 1, 1) := by decide +kernel
theorem dM_source_15 : decode prog_8_method_13_code 15 = .ok (.ireturn, 1) := by decide +kernel
theorem dM_source_16 : decode prog_8_method_13_code 16 = .ok (.aload_n 0, 1) := by decide +kernel
theorem dM_source_17 : decode prog_8_method_13_code 17 = .ok (.getfield 19, 3) := by decide +kernel
theorem dM_source_20 : decode prog_8_method_13_code 20 = .ok (.iload_n 1, 1) := by decide +kernel
theorem dM_source_21 : decode prog_8_method_13_code 21 = .ok (.iaload, 1) := by decide +kernel
theorem dM_source_22 : decode prog_8_method_13_code 22 = .ok (.ifCond .ge 7, 3) := by decide +kernel
theorem dM_source_25 : decode prog_8_method_13_code 25 = .ok (.iconst (-1), 1) := by decide +kernel
theorem dM_source_26 : decode prog_8_method_13_code 26 = .ok (.goto 14, 3) := by decide +kernel
theorem dM_source_29 : decode prog_8_method_13_code 29 = .ok (.aload_n 0, 1) := by decide +kernel
theorem dM_source_30 : decode prog_8_method_13_code 30 = .ok (.getfield 13, 3) := by decide +kernel
theorem dM_source_33 : decode prog_8_method_13_code 33 = .ok (.aload_n 0, 1) := by decide +kernel
theorem dM_source_34 : decode prog_8_method_13_code 34 = .ok (.getfield 16, 3) := by decide +kernel
theorem dM_source_37 : decode prog_8_method_13_code 37 = .ok (.iload_n 1, 1) := by decide +kernel
theorem dM_source_38 : decode prog_8_method_13_code 38 = .ok (.iaload, 1) := by decide +kernel
theorem dM_source_39 : decode prog_8_method_13_code 39 = .ok (.iaload, 1) := by decide +kernel
theorem dM_source_40 : decode prog_8_method_13_code 40 = .ok (.istore_n 3, 1) := by decide +kernel
theorem dM_source_41 : decode prog_8_method_13_code 41 = .ok (.iload_n 3, 1) := by decide +kernel
theorem dM_source_42 : decode prog_8_method_13_code 42 = .ok (.ifCond .lt 49, 3) := by decide +kernel
theorem dM_source_45 : decode prog_8_method_13_code 45 = .ok (.aload_n 0, 1) := by decide +kernel
theorem dM_source_46 : decode prog_8_method_13_code 46 = .ok (.iload_n 3, 1) := by decide +kernel
theorem dM_source_47 : decode prog_8_method_13_code 47 = .ok (.aload_n 0, 1) := by decide +kernel
theorem dM_source_48 : decode prog_8_method_13_code 48 = .ok (.getfield 19, 3) := by decide +kernel
theorem dM_source_51 : decode prog_8_method_13_code 51 = .ok (.iload_n 1, 1) := by decide +kernel
theorem dM_source_52 : decode prog_8_method_13_code 52 = .ok (.iaload, 1) := by decide +kernel
theorem dM_source_53 : decode prog_8_method_13_code 53 = .ok (.invokevirtual 89, 3) := by decide +kernel
theorem dM_source_56 : decode prog_8_method_13_code 56 = .ok (.istore 4, 2) := by decide +kernel
theorem dM_source_58 : decode prog_8_method_13_code 58 = .ok (.iload 4, 2) := by decide +kernel
theorem dM_source_60 : decode prog_8_method_13_code 60 = .ok (.ifCond .lt 21, 3) := by decide +kernel
theorem dM_source_63 : decode prog_8_method_13_code 63 = .ok (.aload_n 0, 1) := by decide +kernel
theorem dM_source_64 : decode prog_8_method_13_code 64 = .ok (.getfield 22, 3) := by decide +kernel
theorem dM_source_67 : decode prog_8_method_13_code 67 = .ok (.bipush 7, 2) := by decide +kernel
theorem dM_source_69 : decode prog_8_method_13_code 69 = .ok (.iload 4, 2) := by decide +kernel
theorem dM_source_71 : decode prog_8_method_13_code 71 = .ok (.imul, 1) := by decide +kernel
theorem dM_source_72 : decode prog_8_method_13_code 72 = .ok (.iload_n 2, 1) := by decide +kernel
theorem dM_source_73 : decode prog_8_method_13_code 73 = .ok (.iadd, 1) := by decide +kernel
theorem dM_source_74 : decode prog_8_method_13_code 74 = .ok (.baload, 1) := by decide +kernel
theorem dM_source_75 : decode prog_8_method_13_code 75 = .ok (.ifCond .eq 6, 3) := by decide +kernel
theorem dM_source_78 : decode prog_8_method_13_code 78 = .ok (.iload 4, 2) := by decide +kernel
theorem dM_source_80 : decode prog_8_method_13_code 80 = .ok (.ireturn, 1) := by decide +kernel
theorem dM_source_81 : decode prog_8_method_13_code 81 = .ok (.aload_n 0, 1) := by decide +kernel
theorem dM_source_82 : decode prog_8_method_13_code 82 = .ok (.getfield 13, 3) := by decide +kernel
theorem dM_source_85 : decode prog_8_method_13_code 85 = .ok (.iload_n 3, 1) := by decide +kernel
theorem dM_source_86 : decode prog_8_method_13_code 86 = .ok (.iaload, 1) := by decide +kernel
theorem dM_source_87 : decode prog_8_method_13_code 87 = .ok (.istore_n 3, 1) := by decide +kernel
theorem dM_source_88 : decode prog_8_method_13_code 88 = .ok (.goto (-47), 3) := by decide +kernel
theorem dM_source_91 : decode prog_8_method_13_code 91 = .ok (.iconst (-1), 1) := by decide +kernel
theorem dM_source_92 : decode prog_8_method_13_code 92 = .ok (.ireturn, 1) := by decide +kernel
theorem dM_origin_0 : decode prog_8_method_16_code 0 = .ok (.aload_n 0, 1) := by decide +kernel
theorem dM_origin_1 : decode prog_8_method_16_code 1 = .ok (.aload_n 0, 1) := by decide +kernel
theorem dM_origin_2 : decode prog_8_method_16_code 2 = .ok (.iload_n 1, 1) := by decide +kernel
theorem dM_origin_3 : decode prog_8_method_16_code 3 = .ok (.invokevirtual 98, 3) := by decide +kernel
theorem dM_origin_6 : decode prog_8_method_16_code 6 = .ok (.ifCond .eq 7, 3) := by decide +kernel
theorem dM_origin_9 : decode prog_8_method_16_code 9 = .ok (.iconst 1, 1) := by decide +kernel
theorem dM_origin_10 : decode prog_8_method_16_code 10 = .ok (.goto 15, 3) := by decide +kernel
theorem dM_origin_13 : decode prog_8_method_16_code 13 = .ok (.iload_n 2, 1) := by decide +kernel
theorem dM_origin_14 : decode prog_8_method_16_code 14 = .ok (.invokestatic 101, 3) := by decide +kernel
theorem dM_origin_17 : decode prog_8_method_16_code 17 = .ok (.ifCond .eq 7, 3) := by decide +kernel
theorem dM_origin_20 : decode prog_8_method_16_code 20 = .ok (.iconst 2, 1) := by decide +kernel
theorem dM_origin_21 : decode prog_8_method_16_code 21 = .ok (.goto 4, 3) := by decide +kernel
theorem dM_origin_24 : decode prog_8_method_16_code 24 = .ok (.iconst 0, 1) := by decide +kernel
theorem dM_origin_25 : decode prog_8_method_16_code 25 = .ok (.putfield 75, 3) := by decide +kernel
theorem dM_origin_28 : decode prog_8_method_16_code 28 = .ok (.aload_n 0, 1) := by decide +kernel
theorem dM_origin_29 : decode prog_8_method_16_code 29 = .ok (.getfield 75, 3) := by decide +kernel
theorem dM_origin_32 : decode prog_8_method_16_code 32 = .ok (.ifCond .le 7, 3) := by decide +kernel
theorem dM_origin_35 : decode prog_8_method_16_code 35 = .ok (.iconst 0, 1) := by decide +kernel
theorem dM_origin_36 : decode prog_8_method_16_code 36 = .ok (.goto 9, 3) := by decide +kernel
theorem dM_origin_39 : decode prog_8_method_16_code 39 = .ok (.aload_n 0, 1) := by decide +kernel
theorem dM_origin_40 : decode prog_8_method_16_code 40 = .ok (.iload_n 1, 1) := by decide +kernel
theorem dM_origin_41 : decode prog_8_method_16_code 41 = .ok (.iload_n 2, 1) := by decide +kernel
theorem dM_origin_42 : decode prog_8_method_16_code 42 = .ok (.invokevirtual 104, 3) := by decide +kernel
theorem dM_origin_45 : decode prog_8_method_16_code 45 = .ok (.ireturn, 1) := by decide +kernel
theorem dM_binding_0 : decode prog_8_method_17_code 0 = .ok (.aload_n 0, 1) := by decide +kernel
theorem dM_binding_1 : decode prog_8_method_17_code 1 = .ok (.aload_n 0, 1) := by decide +kernel
theorem dM_binding_2 : decode prog_8_method_17_code 2 = .ok (.iload_n 1, 1) := by decide +kernel
theorem dM_binding_3 : decode prog_8_method_17_code 3 = .ok (.invokevirtual 98, 3) := by decide +kernel
theorem dM_binding_6 : decode prog_8_method_17_code 6 = .ok (.ifCond .eq 7, 3) := by decide +kernel
theorem dM_binding_9 : decode prog_8_method_17_code 9 = .ok (.iconst 1, 1) := by decide +kernel
theorem dM_binding_10 : decode prog_8_method_17_code 10 = .ok (.goto 4, 3) := by decide +kernel
theorem dM_binding_13 : decode prog_8_method_17_code 13 = .ok (.iconst 0, 1) := by decide +kernel
theorem dM_binding_14 : decode prog_8_method_17_code 14 = .ok (.putfield 75, 3) := by decide +kernel
theorem dM_binding_17 : decode prog_8_method_17_code 17 = .ok (.aload_n 0, 1) := by decide +kernel
theorem dM_binding_18 : decode prog_8_method_17_code 18 = .ok (.getfield 75, 3) := by decide +kernel
theorem dM_binding_21 : decode prog_8_method_17_code 21 = .ok (.ifCond .le 5, 3) := by decide +kernel
theorem dM_binding_24 : decode prog_8_method_17_code 24 = .ok (.iconst 0, 1) := by decide +kernel
theorem dM_binding_25 : decode prog_8_method_17_code 25 = .ok (.ireturn, 1) := by decide +kernel
theorem dM_binding_26 : decode prog_8_method_17_code 26 = .ok (.aload_n 0, 1) := by decide +kernel
theorem dM_binding_27 : decode prog_8_method_17_code 27 = .ok (.getfield 13, 3) := by decide +kernel
theorem dM_binding_30 : decode prog_8_method_17_code 30 = .ok (.aload_n 0, 1) := by decide +kernel
theorem dM_binding_31 : decode prog_8_method_17_code 31 = .ok (.getfield 16, 3) := by decide +kernel
theorem dM_binding_34 : decode prog_8_method_17_code 34 = .ok (.iload_n 1, 1) := by decide +kernel
theorem dM_binding_35 : decode prog_8_method_17_code 35 = .ok (.iaload, 1) := by decide +kernel
theorem dM_binding_36 : decode prog_8_method_17_code 36 = .ok (.iaload, 1) := by decide +kernel
theorem dM_binding_37 : decode prog_8_method_17_code 37 = .ok (.istore_n 2, 1) := by decide +kernel
theorem dM_binding_38 : decode prog_8_method_17_code 38 = .ok (.aload_n 0, 1) := by decide +kernel
theorem dM_binding_39 : decode prog_8_method_17_code 39 = .ok (.getfield 19, 3) := by decide +kernel
theorem dM_binding_42 : decode prog_8_method_17_code 42 = .ok (.iload_n 1, 1) := by decide +kernel
theorem dM_binding_43 : decode prog_8_method_17_code 43 = .ok (.iaload, 1) := by decide +kernel
theorem dM_binding_44 : decode prog_8_method_17_code 44 = .ok (.ifCond .lt 7, 3) := by decide +kernel
theorem dM_binding_47 : decode prog_8_method_17_code 47 = .ok (.iload_n 2, 1) := by decide +kernel
theorem dM_binding_48 : decode prog_8_method_17_code 48 = .ok (.ifCond .ge 7, 3) := by decide +kernel
theorem dM_binding_51 : decode prog_8_method_17_code 51 = .ok (.iconst (-1), 1) := by decide +kernel
theorem dM_binding_52 : decode prog_8_method_17_code 52 = .ok (.goto 14, 3) := by decide +kernel
theorem dM_binding_55 : decode prog_8_method_17_code 55 = .ok (.aload_n 0, 1) := by decide +kernel
theorem dM_binding_56 : decode prog_8_method_17_code 56 = .ok (.iload_n 2, 1) := by decide +kernel
theorem dM_binding_57 : decode prog_8_method_17_code 57 = .ok (.aload_n 0, 1) := by decide +kernel
theorem dM_binding_58 : decode prog_8_method_17_code 58 = .ok (.getfield 19, 3) := by decide +kernel
theorem dM_binding_61 : decode prog_8_method_17_code 61 = .ok (.iload_n 1, 1) := by decide +kernel
theorem dM_binding_62 : decode prog_8_method_17_code 62 = .ok (.iaload, 1) := by decide +kernel
theorem dM_binding_63 : decode prog_8_method_17_code 63 = .ok (.invokevirtual 89, 3) := by decide +kernel
theorem dM_binding_66 : decode prog_8_method_17_code 66 = .ok (.ireturn, 1) := by decide +kernel
theorem dM_write_0 : decode prog_8_method_18_code 0 = .ok (.iload_n 2, 1) := by decide +kernel
theorem dM_write_1 : decode prog_8_method_18_code 1 = .ok (.ifCond .lt 16, 3) := by decide +kernel
theorem dM_write_4 : decode prog_8_method_18_code 4 = .ok (.iload_n 2, 1) := by decide +kernel
theorem dM_write_5 : decode prog_8_method_18_code 5 = .ok (.iconst 2, 1) := by decide +kernel
theorem dM_write_6 : decode prog_8_method_18_code 6 = .ok (.if_icmp .gt 11, 3) := by decide +kernel
theorem dM_write_9 : decode prog_8_method_18_code 9 = .ok (.iload_n 3, 1) := by decide +kernel
theorem dM_write_10 : decode prog_8_method_18_code 10 = .ok (.ifCond .eq 7, 3) := by decide +kernel
theorem dM_write_13 : decode prog_8_method_18_code 13 = .ok (.iconst 1, 1) := by decide +kernel
theorem dM_write_14 : decode prog_8_method_18_code 14 = .ok (.goto 4, 3) := by decide +kernel
theorem dM_write_17 : decode prog_8_method_18_code 17 = .ok (.iconst 0, 1) := by decide +kernel
theorem dM_write_18 : decode prog_8_method_18_code 18 = .ok (.istore 4, 2) := by decide +kernel
theorem dM_write_20 : decode prog_8_method_18_code 20 = .ok (.iconst 0, 1) := by decide +kernel
theorem dM_write_21 : decode prog_8_method_18_code 21 = .ok (.istore 5, 2) := by decide +kernel
theorem dM_write_23 : decode prog_8_method_18_code 23 = .ok (.iload 5, 2) := by decide +kernel
theorem dM_write_25 : decode prog_8_method_18_code 25 = .ok (.iconst 4, 1) := by decide +kernel
theorem dM_write_26 : decode prog_8_method_18_code 26 = .ok (.if_icmp .ge 37, 3) := by decide +kernel
theorem dM_write_29 : decode prog_8_method_18_code 29 = .ok (.iload 4, 2) := by decide +kernel
theorem dM_write_31 : decode prog_8_method_18_code 31 = .ok (.ifCond .eq 23, 3) := by decide +kernel
theorem dM_write_34 : decode prog_8_method_18_code 34 = .ok (.iload_n 3, 1) := by decide +kernel
theorem dM_write_35 : decode prog_8_method_18_code 35 = .ok (.bipush 8, 2) := by decide +kernel
theorem dM_write_37 : decode prog_8_method_18_code 37 = .ok (.iload 5, 2) := by decide +kernel
theorem dM_write_39 : decode prog_8_method_18_code 39 = .ok (.imul, 1) := by decide +kernel
theorem dM_write_40 : decode prog_8_method_18_code 40 = .ok (.ishr, 1) := by decide +kernel
theorem dM_write_41 : decode prog_8_method_18_code 41 = .ok (.sipush 255, 3) := by decide +kernel
theorem dM_write_44 : decode prog_8_method_18_code 44 = .ok (.iand, 1) := by decide +kernel
theorem dM_write_45 : decode prog_8_method_18_code 45 = .ok (.bipush 15, 2) := by decide +kernel
theorem dM_write_47 : decode prog_8_method_18_code 47 = .ok (.if_icmp .gt 7, 3) := by decide +kernel
theorem dM_write_50 : decode prog_8_method_18_code 50 = .ok (.iconst 1, 1) := by decide +kernel
theorem dM_write_51 : decode prog_8_method_18_code 51 = .ok (.goto 4, 3) := by decide +kernel
theorem dM_write_54 : decode prog_8_method_18_code 54 = .ok (.iconst 0, 1) := by decide +kernel
theorem dM_write_55 : decode prog_8_method_18_code 55 = .ok (.istore 4, 2) := by decide +kernel
theorem dM_write_57 : decode prog_8_method_18_code 57 = .ok (.iinc 5 1, 3) := by decide +kernel
theorem dM_write_60 : decode prog_8_method_18_code 60 = .ok (.goto (-37), 3) := by decide +kernel
theorem dM_write_63 : decode prog_8_method_18_code 63 = .ok (.aload_n 0, 1) := by decide +kernel
theorem dM_write_64 : decode prog_8_method_18_code 64 = .ok (.aload_n 0, 1) := by decide +kernel
theorem dM_write_65 : decode prog_8_method_18_code 65 = .ok (.iload_n 1, 1) := by decide +kernel
theorem dM_write_66 : decode prog_8_method_18_code 66 = .ok (.invokevirtual 98, 3) := by decide +kernel
theorem dM_write_69 : decode prog_8_method_18_code 69 = .ok (.ifCond .eq 7, 3) := by decide +kernel
theorem dM_write_72 : decode prog_8_method_18_code 72 = .ok (.iconst 1, 1) := by decide +kernel
theorem dM_write_73 : decode prog_8_method_18_code 73 = .ok (.goto 27, 3) := by decide +kernel
theorem dM_write_76 : decode prog_8_method_18_code 76 = .ok (.iload 4, 2) := by decide +kernel
theorem dM_write_78 : decode prog_8_method_18_code 78 = .ok (.ifCond .ne 7, 3) := by decide +kernel
theorem dM_write_81 : decode prog_8_method_18_code 81 = .ok (.iconst 2, 1) := by decide +kernel
theorem dM_write_82 : decode prog_8_method_18_code 82 = .ok (.goto 18, 3) := by decide +kernel
theorem dM_write_85 : decode prog_8_method_18_code 85 = .ok (.aload_n 0, 1) := by decide +kernel
theorem dM_write_86 : decode prog_8_method_18_code 86 = .ok (.getfield 33, 3) := by decide +kernel
theorem dM_write_89 : decode prog_8_method_18_code 89 = .ok (.iload_n 1, 1) := by decide +kernel
theorem dM_write_90 : decode prog_8_method_18_code 90 = .ok (.iaload, 1) := by decide +kernel
theorem dM_write_91 : decode prog_8_method_18_code 91 = .ok (.iconst 4, 1) := by decide +kernel
theorem dM_write_92 : decode prog_8_method_18_code 92 = .ok (.if_icmp .ne 7, 3) := by decide +kernel
theorem dM_write_95 : decode prog_8_method_18_code 95 = .ok (.iconst 3, 1) := by decide +kernel
theorem dM_write_96 : decode prog_8_method_18_code 96 = .ok (.goto 4, 3) := by decide +kernel
theorem dM_write_99 : decode prog_8_method_18_code 99 = .ok (.iconst 0, 1) := by decide +kernel
theorem dM_write_100 : decode prog_8_method_18_code 100 = .ok (.putfield 75, 3) := by decide +kernel
theorem dM_write_103 : decode prog_8_method_18_code 103 = .ok (.aload_n 0, 1) := by decide +kernel
theorem dM_write_104 : decode prog_8_method_18_code 104 = .ok (.getfield 75, 3) := by decide +kernel
theorem dM_write_107 : decode prog_8_method_18_code 107 = .ok (.ifCond .le 5, 3) := by decide +kernel
theorem dM_write_110 : decode prog_8_method_18_code 110 = .ok (.iconst 0, 1) := by decide +kernel
theorem dM_write_111 : decode prog_8_method_18_code 111 = .ok (.ireturn, 1) := by decide +kernel
theorem dM_write_112 : decode prog_8_method_18_code 112 = .ok (.iconst 4, 1) := by decide +kernel
theorem dM_write_113 : decode prog_8_method_18_code 113 = .ok (.iload_n 1, 1) := by decide +kernel
theorem dM_write_114 : decode prog_8_method_18_code 114 = .ok (.imul, 1) := by decide +kernel
theorem dM_write_115 : decode prog_8_method_18_code 115 = .ok (.aload_n 0, 1) := by decide +kernel
theorem dM_write_116 : decode prog_8_method_18_code 116 = .ok (.getfield 33, 3) := by decide +kernel
theorem dM_write_119 : decode prog_8_method_18_code 119 = .ok (.iload_n 1, 1) := by decide +kernel
theorem dM_write_120 : decode prog_8_method_18_code 120 = .ok (.iaload, 1) := by decide +kernel
theorem dM_write_121 : decode prog_8_method_18_code 121 = .ok (.iadd, 1) := by decide +kernel
theorem dM_write_122 : decode prog_8_method_18_code 122 = .ok (.istore 5, 2) := by decide +kernel
theorem dM_write_124 : decode prog_8_method_18_code 124 = .ok (.aload_n 0, 1) := by decide +kernel
theorem dM_write_125 : decode prog_8_method_18_code 125 = .ok (.getfield 36, 3) := by decide +kernel
theorem dM_write_128 : decode prog_8_method_18_code 128 = .ok (.iload 5, 2) := by decide +kernel
theorem dM_write_130 : decode prog_8_method_18_code 130 = .ok (.iload_n 2, 1) := by decide +kernel
theorem dM_write_131 : decode prog_8_method_18_code 131 = .ok (.iastore, 1) := by decide +kernel
theorem dM_write_132 : decode prog_8_method_18_code 132 = .ok (.aload_n 0, 1) := by decide +kernel
theorem dM_write_133 : decode prog_8_method_18_code 133 = .ok (.getfield 39, 3) := by decide +kernel
theorem dM_write_136 : decode prog_8_method_18_code 136 = .ok (.iload 5, 2) := by decide +kernel
theorem dM_write_138 : decode prog_8_method_18_code 138 = .ok (.iconst 0, 1) := by decide +kernel
theorem dM_write_139 : decode prog_8_method_18_code 139 = .ok (.iastore, 1) := by decide +kernel
theorem dM_write_140 : decode prog_8_method_18_code 140 = .ok (.iconst 3, 1) := by decide +kernel
theorem dM_write_141 : decode prog_8_method_18_code 141 = .ok (.istore 6, 2) := by decide +kernel
theorem dM_write_143 : decode prog_8_method_18_code 143 = .ok (.iload 6, 2) := by decide +kernel
theorem dM_write_145 : decode prog_8_method_18_code 145 = .ok (.ifCond .lt 57, 3) := by decide +kernel
theorem dM_write_148 : decode prog_8_method_18_code 148 = .ok (.iload_n 3, 1) := by decide +kernel
theorem dM_write_149 : decode prog_8_method_18_code 149 = .ok (.bipush 8, 2) := by decide +kernel
theorem dM_write_151 : decode prog_8_method_18_code 151 = .ok (.iload 6, 2) := by decide +kernel
theorem dM_write_153 : decode prog_8_method_18_code 153 = .ok (.imul, 1) := by decide +kernel
theorem dM_write_154 : decode prog_8_method_18_code 154 = .ok (.ishr, 1) := by decide +kernel
theorem dM_write_155 : decode prog_8_method_18_code 155 = .ok (.sipush 255, 3) := by decide +kernel
theorem dM_write_158 : decode prog_8_method_18_code 158 = .ok (.iand, 1) := by decide +kernel
theorem dM_write_159 : decode prog_8_method_18_code 159 = .ok (.istore 7, 2) := by decide +kernel
theorem dM_write_161 : decode prog_8_method_18_code 161 = .ok (.iload 7, 2) := by decide +kernel
theorem dM_write_163 : decode prog_8_method_18_code 163 = .ok (.ifCond .le 33, 3) := by decide +kernel
theorem dM_write_166 : decode prog_8_method_18_code 166 = .ok (.aload_n 0, 1) := by decide +kernel
theorem dM_write_167 : decode prog_8_method_18_code 167 = .ok (.getfield 42, 3) := by decide +kernel
theorem dM_write_170 : decode prog_8_method_18_code 170 = .ok (.iconst 4, 1) := by decide +kernel
theorem dM_write_171 : decode prog_8_method_18_code 171 = .ok (.iload 5, 2) := by decide +kernel
theorem dM_write_173 : decode prog_8_method_18_code 173 = .ok (.imul, 1) := by decide +kernel
theorem dM_write_174 : decode prog_8_method_18_code 174 = .ok (.aload_n 0, 1) := by decide +kernel
theorem dM_write_175 : decode prog_8_method_18_code 175 = .ok (.getfield 39, 3) := by decide +kernel
theorem dM_write_178 : decode prog_8_method_18_code 178 = .ok (.iload 5, 2) := by decide +kernel
theorem dM_write_180 : decode prog_8_method_18_code 180 = .ok (.iaload, 1) := by decide +kernel
theorem dM_write_181 : decode prog_8_method_18_code 181 = .ok (.iadd, 1) := by decide +kernel
theorem dM_write_182 : decode prog_8_method_18_code 182 = .ok (.iload 7, 2) := by decide +kernel
theorem dM_write_184 : decode prog_8_method_18_code 184 = .ok (.iastore, 1) := by decide +kernel
theorem dM_write_185 : decode prog_8_method_18_code 185 = .ok (.aload_n 0, 1) := by decide +kernel
theorem dM_write_186 : decode prog_8_method_18_code 186 = .ok (.getfield 39, 3) := by decide +kernel
theorem dM_write_189 : decode prog_8_method_18_code 189 = .ok (.iload 5, 2) := by decide +kernel
theorem dM_write_191 : decode prog_8_method_18_code 191 = .ok (.dup2, 1) := by decide +kernel
theorem dM_write_192 : decode prog_8_method_18_code 192 = .ok (.iaload, 1) := by decide +kernel
theorem dM_write_193 : decode prog_8_method_18_code 193 = .ok (.iconst 1, 1) := by decide +kernel
theorem dM_write_194 : decode prog_8_method_18_code 194 = .ok (.iadd, 1) := by decide +kernel
theorem dM_write_195 : decode prog_8_method_18_code 195 = .ok (.iastore, 1) := by decide +kernel
theorem dM_write_196 : decode prog_8_method_18_code 196 = .ok (.iinc 6 (-1), 3) := by decide +kernel
theorem dM_write_199 : decode prog_8_method_18_code 199 = .ok (.goto (-56), 3) := by decide +kernel
theorem dM_write_202 : decode prog_8_method_18_code 202 = .ok (.aload_n 0, 1) := by decide +kernel
theorem dM_write_203 : decode prog_8_method_18_code 203 = .ok (.getfield 33, 3) := by decide +kernel
theorem dM_write_206 : decode prog_8_method_18_code 206 = .ok (.iload_n 1, 1) := by decide +kernel
theorem dM_write_207 : decode prog_8_method_18_code 207 = .ok (.dup2, 1) := by decide +kernel
theorem dM_write_208 : decode prog_8_method_18_code 208 = .ok (.iaload, 1) := by decide +kernel
theorem dM_write_209 : decode prog_8_method_18_code 209 = .ok (.iconst 1, 1) := by decide +kernel
theorem dM_write_210 : decode prog_8_method_18_code 210 = .ok (.iadd, 1) := by decide +kernel
theorem dM_write_211 : decode prog_8_method_18_code 211 = .ok (.iastore, 1) := by decide +kernel
theorem dM_write_212 : decode prog_8_method_18_code 212 = .ok (.aload_n 0, 1) := by decide +kernel
theorem dM_write_213 : decode prog_8_method_18_code 213 = .ok (.getfield 33, 3) := by decide +kernel
theorem dM_write_216 : decode prog_8_method_18_code 216 = .ok (.iload_n 1, 1) := by decide +kernel
theorem dM_write_217 : decode prog_8_method_18_code 217 = .ok (.iaload, 1) := by decide +kernel
theorem dM_write_218 : decode prog_8_method_18_code 218 = .ok (.iconst 1, 1) := by decide +kernel
theorem dM_write_219 : decode prog_8_method_18_code 219 = .ok (.isub, 1) := by decide +kernel
theorem dM_write_220 : decode prog_8_method_18_code 220 = .ok (.ireturn, 1) := by decide +kernel
theorem dM_scale_0 : decode prog_8_method_21_code 0 = .ok (.aload_n 0, 1) := by decide +kernel
theorem dM_scale_1 : decode prog_8_method_21_code 1 = .ok (.aload_n 0, 1) := by decide +kernel
theorem dM_scale_2 : decode prog_8_method_21_code 2 = .ok (.iload_n 1, 1) := by decide +kernel
theorem dM_scale_3 : decode prog_8_method_21_code 3 = .ok (.invokevirtual 98, 3) := by decide +kernel
theorem dM_scale_6 : decode prog_8_method_21_code 6 = .ok (.ifCond .eq 7, 3) := by decide +kernel
theorem dM_scale_9 : decode prog_8_method_21_code 9 = .ok (.iconst 1, 1) := by decide +kernel
theorem dM_scale_10 : decode prog_8_method_21_code 10 = .ok (.goto 4, 3) := by decide +kernel
theorem dM_scale_13 : decode prog_8_method_21_code 13 = .ok (.iconst 0, 1) := by decide +kernel
theorem dM_scale_14 : decode prog_8_method_21_code 14 = .ok (.putfield 75, 3) := by decide +kernel
theorem dM_scale_17 : decode prog_8_method_21_code 17 = .ok (.aload_n 0, 1) := by decide +kernel
theorem dM_scale_18 : decode prog_8_method_21_code 18 = .ok (.getfield 75, 3) := by decide +kernel
theorem dM_scale_21 : decode prog_8_method_21_code 21 = .ok (.ifCond .le 7, 3) := by decide +kernel
theorem dM_scale_24 : decode prog_8_method_21_code 24 = .ok (.iconst 0, 1) := by decide +kernel
theorem dM_scale_25 : decode prog_8_method_21_code 25 = .ok (.goto 8, 3) := by decide +kernel
theorem dM_scale_28 : decode prog_8_method_21_code 28 = .ok (.aload_n 0, 1) := by decide +kernel
theorem dM_scale_29 : decode prog_8_method_21_code 29 = .ok (.iload_n 1, 1) := by decide +kernel
theorem dM_scale_30 : decode prog_8_method_21_code 30 = .ok (.invokevirtual 117, 3) := by decide +kernel
theorem dM_scale_33 : decode prog_8_method_21_code 33 = .ok (.ireturn, 1) := by decide +kernel
theorem dM_fit_0 : decode prog_8_method_20_code 0 = .ok (.aload_n 0, 1) := by decide +kernel
theorem dM_fit_1 : decode prog_8_method_20_code 1 = .ok (.iload_n 1, 1) := by decide +kernel
theorem dM_fit_2 : decode prog_8_method_20_code 2 = .ok (.bipush 6, 2) := by decide +kernel
theorem dM_fit_4 : decode prog_8_method_20_code 4 = .ok (.invokevirtual 107, 3) := by decide +kernel
theorem dM_fit_7 : decode prog_8_method_20_code 7 = .ok (.istore_n 2, 1) := by decide +kernel
theorem dM_fit_8 : decode prog_8_method_20_code 8 = .ok (.iload_n 2, 1) := by decide +kernel
theorem dM_fit_9 : decode prog_8_method_20_code 9 = .ok (.iconst 1, 1) := by decide +kernel
theorem dM_fit_10 : decode prog_8_method_20_code 10 = .ok (.if_icmp .lt 32, 3) := by decide +kernel
theorem dM_fit_13 : decode prog_8_method_20_code 13 = .ok (.aload_n 0, 1) := by decide +kernel
theorem dM_fit_14 : decode prog_8_method_20_code 14 = .ok (.iload_n 1, 1) := by decide +kernel
theorem dM_fit_15 : decode prog_8_method_20_code 15 = .ok (.iload_n 2, 1) := by decide +kernel
theorem dM_fit_16 : decode prog_8_method_20_code 16 = .ok (.invokevirtual 113, 3) := by decide +kernel
theorem dM_fit_19 : decode prog_8_method_20_code 19 = .ok (.iload_n 2, 1) := by decide +kernel
theorem dM_fit_20 : decode prog_8_method_20_code 20 = .ok (.aload_n 0, 1) := by decide +kernel
theorem dM_fit_21 : decode prog_8_method_20_code 21 = .ok (.getfield 110, 3) := by decide +kernel
theorem dM_fit_24 : decode prog_8_method_20_code 24 = .ok (.imul, 1) := by decide +kernel
theorem dM_fit_25 : decode prog_8_method_20_code 25 = .ok (.aload_n 0, 1) := by decide +kernel
theorem dM_fit_26 : decode prog_8_method_20_code 26 = .ok (.iload_n 1, 1) := by decide +kernel
theorem dM_fit_27 : decode prog_8_method_20_code 27 = .ok (.iconst 3, 1) := by decide +kernel
theorem dM_fit_28 : decode prog_8_method_20_code 28 = .ok (.invokevirtual 107, 3) := by decide +kernel
theorem dM_fit_31 : decode prog_8_method_20_code 31 = .ok (.if_icmp .gt 5, 3) := by decide +kernel
theorem dM_fit_34 : decode prog_8_method_20_code 34 = .ok (.iload_n 2, 1) := by decide +kernel
theorem dM_fit_35 : decode prog_8_method_20_code 35 = .ok (.ireturn, 1) := by decide +kernel
theorem dM_fit_36 : decode prog_8_method_20_code 36 = .ok (.iinc 2 (-1), 3) := by decide +kernel
theorem dM_fit_39 : decode prog_8_method_20_code 39 = .ok (.goto (-31), 3) := by decide +kernel
theorem dM_fit_42 : decode prog_8_method_20_code 42 = .ok (.iconst 0, 1) := by decide +kernel
theorem dM_fit_43 : decode prog_8_method_20_code 43 = .ok (.ireturn, 1) := by decide +kernel
theorem dM_breakText_0 : decode prog_8_method_19_code 0 = .ok (.aload_n 0, 1) := by decide +kernel
theorem dM_breakText_1 : decode prog_8_method_19_code 1 = .ok (.iconst 0, 1) := by decide +kernel
theorem dM_breakText_2 : decode prog_8_method_19_code 2 = .ok (.putfield 110, 3) := by decide +kernel
theorem dM_breakText_5 : decode prog_8_method_19_code 5 = .ok (.aload_n 0, 1) := by decide +kernel
theorem dM_breakText_6 : decode prog_8_method_19_code 6 = .ok (.iload_n 1, 1) := by decide +kernel
theorem dM_breakText_7 : decode prog_8_method_19_code 7 = .ok (.iconst 2, 1) := by decide +kernel
theorem dM_breakText_8 : decode prog_8_method_19_code 8 = .ok (.invokevirtual 107, 3) := by decide +kernel
theorem dM_breakText_11 : decode prog_8_method_19_code 11 = .ok (.istore_n 3, 1) := by decide +kernel
theorem dM_breakText_12 : decode prog_8_method_19_code 12 = .ok (.iconst 0, 1) := by decide +kernel
theorem dM_breakText_13 : decode prog_8_method_19_code 13 = .ok (.istore 4, 2) := by decide +kernel
theorem dM_breakText_15 : decode prog_8_method_19_code 15 = .ok (.iload 4, 2) := by decide +kernel
theorem dM_breakText_17 : decode prog_8_method_19_code 17 = .ok (.aload_n 0, 1) := by decide +kernel
theorem dM_breakText_18 : decode prog_8_method_19_code 18 = .ok (.getfield 33, 3) := by decide +kernel
theorem dM_breakText_21 : decode prog_8_method_19_code 21 = .ok (.iload_n 1, 1) := by decide +kernel
theorem dM_breakText_22 : decode prog_8_method_19_code 22 = .ok (.iaload, 1) := by decide +kernel
theorem dM_breakText_23 : decode prog_8_method_19_code 23 = .ok (.if_icmp .ge 205, 3) := by decide +kernel
theorem dM_breakText_26 : decode prog_8_method_19_code 26 = .ok (.iconst 4, 1) := by decide +kernel
theorem dM_breakText_27 : decode prog_8_method_19_code 27 = .ok (.iload_n 1, 1) := by decide +kernel
theorem dM_breakText_28 : decode prog_8_method_19_code 28 = .ok (.imul, 1) := by decide +kernel
theorem dM_breakText_29 : decode prog_8_method_19_code 29 = .ok (.iload 4, 2) := by decide +kernel
theorem dM_breakText_31 : decode prog_8_method_19_code 31 = .ok (.iadd, 1) := by decide +kernel
theorem dM_breakText_32 : decode prog_8_method_19_code 32 = .ok (.istore 5, 2) := by decide +kernel
theorem dM_breakText_34 : decode prog_8_method_19_code 34 = .ok (.iload_n 3, 1) := by decide +kernel
theorem dM_breakText_35 : decode prog_8_method_19_code 35 = .ok (.iconst 2, 1) := by decide +kernel
theorem dM_breakText_36 : decode prog_8_method_19_code 36 = .ok (.iload_n 2, 1) := by decide +kernel
theorem dM_breakText_37 : decode prog_8_method_19_code 37 = .ok (.imul, 1) := by decide +kernel
theorem dM_breakText_38 : decode prog_8_method_19_code 38 = .ok (.aload_n 0, 1) := by decide +kernel
theorem dM_breakText_39 : decode prog_8_method_19_code 39 = .ok (.getfield 36, 3) := by decide +kernel
theorem dM_breakText_42 : decode prog_8_method_19_code 42 = .ok (.iload 5, 2) := by decide +kernel
theorem dM_breakText_44 : decode prog_8_method_19_code 44 = .ok (.iaload, 1) := by decide +kernel
theorem dM_breakText_45 : decode prog_8_method_19_code 45 = .ok (.imul, 1) := by decide +kernel
theorem dM_breakText_46 : decode prog_8_method_19_code 46 = .ok (.isub, 1) := by decide +kernel
theorem dM_breakText_47 : decode prog_8_method_19_code 47 = .ok (.istore 6, 2) := by decide +kernel
theorem dM_breakText_49 : decode prog_8_method_19_code 49 = .ok (.iconst 0, 1) := by decide +kernel
theorem dM_breakText_50 : decode prog_8_method_19_code 50 = .ok (.istore 7, 2) := by decide +kernel
theorem dM_breakText_52 : decode prog_8_method_19_code 52 = .ok (.iload 7, 2) := by decide +kernel
theorem dM_breakText_54 : decode prog_8_method_19_code 54 = .ok (.aload_n 0, 1) := by decide +kernel
theorem dM_breakText_55 : decode prog_8_method_19_code 55 = .ok (.getfield 39, 3) := by decide +kernel
theorem dM_breakText_58 : decode prog_8_method_19_code 58 = .ok (.iload 5, 2) := by decide +kernel
theorem dM_breakText_60 : decode prog_8_method_19_code 60 = .ok (.iaload, 1) := by decide +kernel
theorem dM_breakText_61 : decode prog_8_method_19_code 61 = .ok (.if_icmp .ge 161, 3) := by decide +kernel
theorem dM_breakText_64 : decode prog_8_method_19_code 64 = .ok (.iload_n 2, 1) := by decide +kernel
theorem dM_breakText_65 : decode prog_8_method_19_code 65 = .ok (.aload_n 0, 1) := by decide +kernel
theorem dM_breakText_66 : decode prog_8_method_19_code 66 = .ok (.getfield 42, 3) := by decide +kernel
theorem dM_breakText_69 : decode prog_8_method_19_code 69 = .ok (.iconst 4, 1) := by decide +kernel
theorem dM_breakText_70 : decode prog_8_method_19_code 70 = .ok (.iload 5, 2) := by decide +kernel
theorem dM_breakText_72 : decode prog_8_method_19_code 72 = .ok (.imul, 1) := by decide +kernel
theorem dM_breakText_73 : decode prog_8_method_19_code 73 = .ok (.iload 7, 2) := by decide +kernel
theorem dM_breakText_75 : decode prog_8_method_19_code 75 = .ok (.iadd, 1) := by decide +kernel
theorem dM_breakText_76 : decode prog_8_method_19_code 76 = .ok (.iaload, 1) := by decide +kernel
theorem dM_breakText_77 : decode prog_8_method_19_code 77 = .ok (.imul, 1) := by decide +kernel
theorem dM_breakText_78 : decode prog_8_method_19_code 78 = .ok (.istore 8, 2) := by decide +kernel
theorem dM_breakText_80 : decode prog_8_method_19_code 80 = .ok (.iload 7, 2) := by decide +kernel
theorem dM_breakText_82 : decode prog_8_method_19_code 82 = .ok (.ifCond .le 28, 3) := by decide +kernel
theorem dM_breakText_85 : decode prog_8_method_19_code 85 = .ok (.aload_n 0, 1) := by decide +kernel
theorem dM_breakText_86 : decode prog_8_method_19_code 86 = .ok (.getfield 72, 3) := by decide +kernel
theorem dM_breakText_89 : decode prog_8_method_19_code 89 = .ok (.aload_n 0, 1) := by decide +kernel
theorem dM_breakText_90 : decode prog_8_method_19_code 90 = .ok (.getfield 110, 3) := by decide +kernel
theorem dM_breakText_93 : decode prog_8_method_19_code 93 = .ok (.iconst 1, 1) := by decide +kernel
theorem dM_breakText_94 : decode prog_8_method_19_code 94 = .ok (.isub, 1) := by decide +kernel
theorem dM_breakText_95 : decode prog_8_method_19_code 95 = .ok (.iaload, 1) := by decide +kernel
theorem dM_breakText_96 : decode prog_8_method_19_code 96 = .ok (.iload_n 2, 1) := by decide +kernel
theorem dM_breakText_97 : decode prog_8_method_19_code 97 = .ok (.iadd, 1) := by decide +kernel
theorem dM_breakText_98 : decode prog_8_method_19_code 98 = .ok (.iload 8, 2) := by decide +kernel
theorem dM_breakText_100 : decode prog_8_method_19_code 100 = .ok (.iadd, 1) := by decide +kernel
theorem dM_breakText_101 : decode prog_8_method_19_code 101 = .ok (.iload 6, 2) := by decide +kernel
theorem dM_breakText_103 : decode prog_8_method_19_code 103 = .ok (.if_icmp .gt 7, 3) := by decide +kernel
theorem dM_breakText_106 : decode prog_8_method_19_code 106 = .ok (.iconst 1, 1) := by decide +kernel
theorem dM_breakText_107 : decode prog_8_method_19_code 107 = .ok (.goto 4, 3) := by decide +kernel
theorem dM_breakText_110 : decode prog_8_method_19_code 110 = .ok (.iconst 0, 1) := by decide +kernel
theorem dM_breakText_111 : decode prog_8_method_19_code 111 = .ok (.istore 9, 2) := by decide +kernel
theorem dM_breakText_113 : decode prog_8_method_19_code 113 = .ok (.iload 9, 2) := by decide +kernel
theorem dM_breakText_115 : decode prog_8_method_19_code 115 = .ok (.ifCond .eq 48, 3) := by decide +kernel
theorem dM_breakText_118 : decode prog_8_method_19_code 118 = .ok (.aload_n 0, 1) := by decide +kernel
theorem dM_breakText_119 : decode prog_8_method_19_code 119 = .ok (.getfield 72, 3) := by decide +kernel
theorem dM_breakText_122 : decode prog_8_method_19_code 122 = .ok (.aload_n 0, 1) := by decide +kernel
theorem dM_breakText_123 : decode prog_8_method_19_code 123 = .ok (.getfield 110, 3) := by decide +kernel
theorem dM_breakText_126 : decode prog_8_method_19_code 126 = .ok (.iconst 1, 1) := by decide +kernel
theorem dM_breakText_127 : decode prog_8_method_19_code 127 = .ok (.isub, 1) := by decide +kernel
theorem dM_breakText_128 : decode prog_8_method_19_code 128 = .ok (.aload_n 0, 1) := by decide +kernel
theorem dM_breakText_129 : decode prog_8_method_19_code 129 = .ok (.getfield 72, 3) := by decide +kernel
theorem dM_breakText_132 : decode prog_8_method_19_code 132 = .ok (.aload_n 0, 1) := by decide +kernel
theorem dM_breakText_133 : decode prog_8_method_19_code 133 = .ok (.getfield 110, 3) := by decide +kernel
theorem dM_breakText_136 : decode prog_8_method_19_code 136 = .ok (.iconst 1, 1) := by decide +kernel
theorem dM_breakText_137 : decode prog_8_method_19_code 137 = .ok (.isub, 1) := by decide +kernel
theorem dM_breakText_138 : decode prog_8_method_19_code 138 = .ok (.iaload, 1) := by decide +kernel
theorem dM_breakText_139 : decode prog_8_method_19_code 139 = .ok (.iload_n 2, 1) := by decide +kernel
theorem dM_breakText_140 : decode prog_8_method_19_code 140 = .ok (.iadd, 1) := by decide +kernel
theorem dM_breakText_141 : decode prog_8_method_19_code 141 = .ok (.iload 8, 2) := by decide +kernel
theorem dM_breakText_143 : decode prog_8_method_19_code 143 = .ok (.iadd, 1) := by decide +kernel
theorem dM_breakText_144 : decode prog_8_method_19_code 144 = .ok (.iastore, 1) := by decide +kernel
theorem dM_breakText_145 : decode prog_8_method_19_code 145 = .ok (.aload_n 0, 1) := by decide +kernel
theorem dM_breakText_146 : decode prog_8_method_19_code 146 = .ok (.getfield 69, 3) := by decide +kernel
theorem dM_breakText_149 : decode prog_8_method_19_code 149 = .ok (.aload_n 0, 1) := by decide +kernel
theorem dM_breakText_150 : decode prog_8_method_19_code 150 = .ok (.getfield 110, 3) := by decide +kernel
theorem dM_breakText_153 : decode prog_8_method_19_code 153 = .ok (.iconst 1, 1) := by decide +kernel
theorem dM_breakText_154 : decode prog_8_method_19_code 154 = .ok (.isub, 1) := by decide +kernel
theorem dM_breakText_155 : decode prog_8_method_19_code 155 = .ok (.dup2, 1) := by decide +kernel
theorem dM_breakText_156 : decode prog_8_method_19_code 156 = .ok (.iaload, 1) := by decide +kernel
theorem dM_breakText_157 : decode prog_8_method_19_code 157 = .ok (.iconst 1, 1) := by decide +kernel
theorem dM_breakText_158 : decode prog_8_method_19_code 158 = .ok (.iadd, 1) := by decide +kernel
theorem dM_breakText_159 : decode prog_8_method_19_code 159 = .ok (.iastore, 1) := by decide +kernel
theorem dM_breakText_160 : decode prog_8_method_19_code 160 = .ok (.goto 56, 3) := by decide +kernel
theorem dM_breakText_163 : decode prog_8_method_19_code 163 = .ok (.aload_n 0, 1) := by decide +kernel
theorem dM_breakText_164 : decode prog_8_method_19_code 164 = .ok (.getfield 63, 3) := by decide +kernel
theorem dM_breakText_167 : decode prog_8_method_19_code 167 = .ok (.aload_n 0, 1) := by decide +kernel
theorem dM_breakText_168 : decode prog_8_method_19_code 168 = .ok (.getfield 110, 3) := by decide +kernel
theorem dM_breakText_171 : decode prog_8_method_19_code 171 = .ok (.iload 4, 2) := by decide +kernel
theorem dM_breakText_173 : decode prog_8_method_19_code 173 = .ok (.iastore, 1) := by decide +kernel
theorem dM_breakText_174 : decode prog_8_method_19_code 174 = .ok (.aload_n 0, 1) := by decide +kernel
theorem dM_breakText_175 : decode prog_8_method_19_code 175 = .ok (.getfield 66, 3) := by decide +kernel
theorem dM_breakText_178 : decode prog_8_method_19_code 178 = .ok (.aload_n 0, 1) := by decide +kernel
theorem dM_breakText_179 : decode prog_8_method_19_code 179 = .ok (.getfield 110, 3) := by decide +kernel
theorem dM_breakText_182 : decode prog_8_method_19_code 182 = .ok (.iload 7, 2) := by decide +kernel
theorem dM_breakText_184 : decode prog_8_method_19_code 184 = .ok (.iastore, 1) := by decide +kernel
theorem dM_breakText_185 : decode prog_8_method_19_code 185 = .ok (.aload_n 0, 1) := by decide +kernel
theorem dM_breakText_186 : decode prog_8_method_19_code 186 = .ok (.getfield 69, 3) := by decide +kernel
theorem dM_breakText_189 : decode prog_8_method_19_code 189 = .ok (.aload_n 0, 1) := by decide +kernel
theorem dM_breakText_190 : decode prog_8_method_19_code 190 = .ok (.getfield 110, 3) := by decide +kernel
theorem dM_breakText_193 : decode prog_8_method_19_code 193 = .ok (.iconst 1, 1) := by decide +kernel
theorem dM_breakText_194 : decode prog_8_method_19_code 194 = .ok (.iastore, 1) := by decide +kernel
theorem dM_breakText_195 : decode prog_8_method_19_code 195 = .ok (.aload_n 0, 1) := by decide +kernel
theorem dM_breakText_196 : decode prog_8_method_19_code 196 = .ok (.getfield 72, 3) := by decide +kernel
theorem dM_breakText_199 : decode prog_8_method_19_code 199 = .ok (.aload_n 0, 1) := by decide +kernel
theorem dM_breakText_200 : decode prog_8_method_19_code 200 = .ok (.getfield 110, 3) := by decide +kernel
theorem dM_breakText_203 : decode prog_8_method_19_code 203 = .ok (.iload 8, 2) := by decide +kernel
theorem dM_breakText_205 : decode prog_8_method_19_code 205 = .ok (.iastore, 1) := by decide +kernel
theorem dM_breakText_206 : decode prog_8_method_19_code 206 = .ok (.aload_n 0, 1) := by decide +kernel
theorem dM_breakText_207 : decode prog_8_method_19_code 207 = .ok (.dup, 1) := by decide +kernel
theorem dM_breakText_208 : decode prog_8_method_19_code 208 = .ok (.getfield 110, 3) := by decide +kernel
theorem dM_breakText_211 : decode prog_8_method_19_code 211 = .ok (.iconst 1, 1) := by decide +kernel
theorem dM_breakText_212 : decode prog_8_method_19_code 212 = .ok (.iadd, 1) := by decide +kernel
theorem dM_breakText_213 : decode prog_8_method_19_code 213 = .ok (.putfield 110, 3) := by decide +kernel
theorem dM_breakText_216 : decode prog_8_method_19_code 216 = .ok (.iinc 7 1, 3) := by decide +kernel
theorem dM_breakText_219 : decode prog_8_method_19_code 219 = .ok (.goto (-167), 3) := by decide +kernel
theorem dM_breakText_222 : decode prog_8_method_19_code 222 = .ok (.iinc 4 1, 3) := by decide +kernel
theorem dM_breakText_225 : decode prog_8_method_19_code 225 = .ok (.goto (-210), 3) := by decide +kernel
theorem dM_breakText_228 : decode prog_8_method_19_code 228 = .ok (.return_, 1) := by decide +kernel
theorem dM_lines_0 : decode prog_8_method_22_code 0 = .ok (.aload_n 0, 1) := by decide +kernel
theorem dM_lines_1 : decode prog_8_method_22_code 1 = .ok (.aload_n 0, 1) := by decide +kernel
theorem dM_lines_2 : decode prog_8_method_22_code 2 = .ok (.iload_n 1, 1) := by decide +kernel
theorem dM_lines_3 : decode prog_8_method_22_code 3 = .ok (.invokevirtual 98, 3) := by decide +kernel
theorem dM_lines_6 : decode prog_8_method_22_code 6 = .ok (.ifCond .eq 7, 3) := by decide +kernel
theorem dM_lines_9 : decode prog_8_method_22_code 9 = .ok (.iconst 1, 1) := by decide +kernel
theorem dM_lines_10 : decode prog_8_method_22_code 10 = .ok (.goto 4, 3) := by decide +kernel
theorem dM_lines_13 : decode prog_8_method_22_code 13 = .ok (.iconst 0, 1) := by decide +kernel
theorem dM_lines_14 : decode prog_8_method_22_code 14 = .ok (.putfield 75, 3) := by decide +kernel
theorem dM_lines_17 : decode prog_8_method_22_code 17 = .ok (.aload_n 0, 1) := by decide +kernel
theorem dM_lines_18 : decode prog_8_method_22_code 18 = .ok (.getfield 75, 3) := by decide +kernel
theorem dM_lines_21 : decode prog_8_method_22_code 21 = .ok (.ifCond .le 5, 3) := by decide +kernel
theorem dM_lines_24 : decode prog_8_method_22_code 24 = .ok (.iconst 0, 1) := by decide +kernel
theorem dM_lines_25 : decode prog_8_method_22_code 25 = .ok (.ireturn, 1) := by decide +kernel
theorem dM_lines_26 : decode prog_8_method_22_code 26 = .ok (.aload_n 0, 1) := by decide +kernel
theorem dM_lines_27 : decode prog_8_method_22_code 27 = .ok (.iload_n 1, 1) := by decide +kernel
theorem dM_lines_28 : decode prog_8_method_22_code 28 = .ok (.invokevirtual 117, 3) := by decide +kernel
theorem dM_lines_31 : decode prog_8_method_22_code 31 = .ok (.istore_n 2, 1) := by decide +kernel
theorem dM_lines_32 : decode prog_8_method_22_code 32 = .ok (.iload_n 2, 1) := by decide +kernel
theorem dM_lines_33 : decode prog_8_method_22_code 33 = .ok (.ifCond .ge 7, 3) := by decide +kernel
theorem dM_lines_36 : decode prog_8_method_22_code 36 = .ok (.iconst 0, 1) := by decide +kernel
theorem dM_lines_37 : decode prog_8_method_22_code 37 = .ok (.goto 7, 3) := by decide +kernel
theorem dM_lines_40 : decode prog_8_method_22_code 40 = .ok (.aload_n 0, 1) := by decide +kernel
theorem dM_lines_41 : decode prog_8_method_22_code 41 = .ok (.getfield 110, 3) := by decide +kernel
theorem dM_lines_44 : decode prog_8_method_22_code 44 = .ok (.ireturn, 1) := by decide +kernel
theorem dM_line_0 : decode prog_8_method_23_code 0 = .ok (.aload_n 0, 1) := by decide +kernel
theorem dM_line_1 : decode prog_8_method_23_code 1 = .ok (.aload_n 0, 1) := by decide +kernel
theorem dM_line_2 : decode prog_8_method_23_code 2 = .ok (.iload_n 1, 1) := by decide +kernel
theorem dM_line_3 : decode prog_8_method_23_code 3 = .ok (.invokevirtual 98, 3) := by decide +kernel
theorem dM_line_6 : decode prog_8_method_23_code 6 = .ok (.ifCond .eq 7, 3) := by decide +kernel
theorem dM_line_9 : decode prog_8_method_23_code 9 = .ok (.iconst 1, 1) := by decide +kernel
theorem dM_line_10 : decode prog_8_method_23_code 10 = .ok (.goto 4, 3) := by decide +kernel
theorem dM_line_13 : decode prog_8_method_23_code 13 = .ok (.iconst 0, 1) := by decide +kernel
theorem dM_line_14 : decode prog_8_method_23_code 14 = .ok (.putfield 75, 3) := by decide +kernel
theorem dM_line_17 : decode prog_8_method_23_code 17 = .ok (.aload_n 0, 1) := by decide +kernel
theorem dM_line_18 : decode prog_8_method_23_code 18 = .ok (.getfield 75, 3) := by decide +kernel
theorem dM_line_21 : decode prog_8_method_23_code 21 = .ok (.ifCond .le 5, 3) := by decide +kernel
theorem dM_line_24 : decode prog_8_method_23_code 24 = .ok (.iconst 0, 1) := by decide +kernel
theorem dM_line_25 : decode prog_8_method_23_code 25 = .ok (.ireturn, 1) := by decide +kernel
theorem dM_line_26 : decode prog_8_method_23_code 26 = .ok (.aload_n 0, 1) := by decide +kernel
theorem dM_line_27 : decode prog_8_method_23_code 27 = .ok (.iload_n 1, 1) := by decide +kernel
theorem dM_line_28 : decode prog_8_method_23_code 28 = .ok (.invokevirtual 117, 3) := by decide +kernel
theorem dM_line_31 : decode prog_8_method_23_code 31 = .ok (.istore 4, 2) := by decide +kernel
theorem dM_line_33 : decode prog_8_method_23_code 33 = .ok (.iload 4, 2) := by decide +kernel
theorem dM_line_35 : decode prog_8_method_23_code 35 = .ok (.ifCond .lt 15, 3) := by decide +kernel
theorem dM_line_38 : decode prog_8_method_23_code 38 = .ok (.iload_n 2, 1) := by decide +kernel
theorem dM_line_39 : decode prog_8_method_23_code 39 = .ok (.ifCond .lt 11, 3) := by decide +kernel
theorem dM_line_42 : decode prog_8_method_23_code 42 = .ok (.iload_n 2, 1) := by decide +kernel
theorem dM_line_43 : decode prog_8_method_23_code 43 = .ok (.aload_n 0, 1) := by decide +kernel
theorem dM_line_44 : decode prog_8_method_23_code 44 = .ok (.getfield 110, 3) := by decide +kernel
theorem dM_line_47 : decode prog_8_method_23_code 47 = .ok (.if_icmp .lt 5, 3) := by decide +kernel
theorem dM_line_50 : decode prog_8_method_23_code 50 = .ok (.iconst (-1), 1) := by decide +kernel
theorem dM_line_51 : decode prog_8_method_23_code 51 = .ok (.ireturn, 1) := by decide +kernel
theorem dM_line_52 : decode prog_8_method_23_code 52 = .ok (.iload_n 3, 1) := by decide +kernel
theorem dM_line_53 : decode prog_8_method_23_code 53 = .ok (.tableswitch 59 0 3 #[31, 38, 45, 52], 31) := by decide +kernel
theorem dM_line_84 : decode prog_8_method_23_code 84 = .ok (.aload_n 0, 1) := by decide +kernel
theorem dM_line_85 : decode prog_8_method_23_code 85 = .ok (.getfield 63, 3) := by decide +kernel
theorem dM_line_88 : decode prog_8_method_23_code 88 = .ok (.iload_n 2, 1) := by decide +kernel
theorem dM_line_89 : decode prog_8_method_23_code 89 = .ok (.iaload, 1) := by decide +kernel
theorem dM_line_90 : decode prog_8_method_23_code 90 = .ok (.ireturn, 1) := by decide +kernel
theorem dM_line_91 : decode prog_8_method_23_code 91 = .ok (.aload_n 0, 1) := by decide +kernel
theorem dM_line_92 : decode prog_8_method_23_code 92 = .ok (.getfield 66, 3) := by decide +kernel
theorem dM_line_95 : decode prog_8_method_23_code 95 = .ok (.iload_n 2, 1) := by decide +kernel
theorem dM_line_96 : decode prog_8_method_23_code 96 = .ok (.iaload, 1) := by decide +kernel
theorem dM_line_97 : decode prog_8_method_23_code 97 = .ok (.ireturn, 1) := by decide +kernel
theorem dM_line_98 : decode prog_8_method_23_code 98 = .ok (.aload_n 0, 1) := by decide +kernel
theorem dM_line_99 : decode prog_8_method_23_code 99 = .ok (.getfield 69, 3) := by decide +kernel
theorem dM_line_102 : decode prog_8_method_23_code 102 = .ok (.iload_n 2, 1) := by decide +kernel
theorem dM_line_103 : decode prog_8_method_23_code 103 = .ok (.iaload, 1) := by decide +kernel
theorem dM_line_104 : decode prog_8_method_23_code 104 = .ok (.ireturn, 1) := by decide +kernel
theorem dM_line_105 : decode prog_8_method_23_code 105 = .ok (.aload_n 0, 1) := by decide +kernel
theorem dM_line_106 : decode prog_8_method_23_code 106 = .ok (.getfield 72, 3) := by decide +kernel
theorem dM_line_109 : decode prog_8_method_23_code 109 = .ok (.iload_n 2, 1) := by decide +kernel
theorem dM_line_110 : decode prog_8_method_23_code 110 = .ok (.iaload, 1) := by decide +kernel
theorem dM_line_111 : decode prog_8_method_23_code 111 = .ok (.ireturn, 1) := by decide +kernel
theorem dM_line_112 : decode prog_8_method_23_code 112 = .ok (.iconst (-1), 1) := by decide +kernel
theorem dM_line_113 : decode prog_8_method_23_code 113 = .ok (.ireturn, 1) := by decide +kernel
theorem dM_number_0 : decode prog_8_method_24_code 0 = .ok (.aload_n 0, 1) := by decide +kernel
theorem dM_number_1 : decode prog_8_method_24_code 1 = .ok (.aload_n 0, 1) := by decide +kernel
theorem dM_number_2 : decode prog_8_method_24_code 2 = .ok (.iload_n 1, 1) := by decide +kernel
theorem dM_number_3 : decode prog_8_method_24_code 3 = .ok (.invokevirtual 98, 3) := by decide +kernel
theorem dM_number_6 : decode prog_8_method_24_code 6 = .ok (.ifCond .eq 7, 3) := by decide +kernel
theorem dM_number_9 : decode prog_8_method_24_code 9 = .ok (.iconst 1, 1) := by decide +kernel
theorem dM_number_10 : decode prog_8_method_24_code 10 = .ok (.goto 4, 3) := by decide +kernel
theorem dM_number_13 : decode prog_8_method_24_code 13 = .ok (.iconst 0, 1) := by decide +kernel
theorem dM_number_14 : decode prog_8_method_24_code 14 = .ok (.putfield 75, 3) := by decide +kernel
theorem dM_number_17 : decode prog_8_method_24_code 17 = .ok (.aload_n 0, 1) := by decide +kernel
theorem dM_number_18 : decode prog_8_method_24_code 18 = .ok (.getfield 75, 3) := by decide +kernel
theorem dM_number_21 : decode prog_8_method_24_code 21 = .ok (.ifCond .le 5, 3) := by decide +kernel
theorem dM_number_24 : decode prog_8_method_24_code 24 = .ok (.iconst 0, 1) := by decide +kernel
theorem dM_number_25 : decode prog_8_method_24_code 25 = .ok (.ireturn, 1) := by decide +kernel
theorem dM_number_26 : decode prog_8_method_24_code 26 = .ok (.iload_n 2, 1) := by decide +kernel
theorem dM_number_27 : decode prog_8_method_24_code 27 = .ok (.ifCond .lt 13, 3) := by decide +kernel
theorem dM_number_30 : decode prog_8_method_24_code 30 = .ok (.iload_n 2, 1) := by decide +kernel
theorem dM_number_31 : decode prog_8_method_24_code 31 = .ok (.aload_n 0, 1) := by decide +kernel
theorem dM_number_32 : decode prog_8_method_24_code 32 = .ok (.getfield 33, 3) := by decide +kernel
theorem dM_number_35 : decode prog_8_method_24_code 35 = .ok (.iload_n 1, 1) := by decide +kernel
theorem dM_number_36 : decode prog_8_method_24_code 36 = .ok (.iaload, 1) := by decide +kernel
theorem dM_number_37 : decode prog_8_method_24_code 37 = .ok (.if_icmp .lt 5, 3) := by decide +kernel
theorem dM_number_40 : decode prog_8_method_24_code 40 = .ok (.iconst (-1), 1) := by decide +kernel
theorem dM_number_41 : decode prog_8_method_24_code 41 = .ok (.ireturn, 1) := by decide +kernel
theorem dM_number_42 : decode prog_8_method_24_code 42 = .ok (.aload_n 0, 1) := by decide +kernel
theorem dM_number_43 : decode prog_8_method_24_code 43 = .ok (.getfield 36, 3) := by decide +kernel
theorem dM_number_46 : decode prog_8_method_24_code 46 = .ok (.iconst 4, 1) := by decide +kernel
theorem dM_number_47 : decode prog_8_method_24_code 47 = .ok (.iload_n 1, 1) := by decide +kernel
theorem dM_number_48 : decode prog_8_method_24_code 48 = .ok (.imul, 1) := by decide +kernel
theorem dM_number_49 : decode prog_8_method_24_code 49 = .ok (.iload_n 2, 1) := by decide +kernel
theorem dM_number_50 : decode prog_8_method_24_code 50 = .ok (.iadd, 1) := by decide +kernel
theorem dM_number_51 : decode prog_8_method_24_code 51 = .ok (.iaload, 1) := by decide +kernel
theorem dM_number_52 : decode prog_8_method_24_code 52 = .ok (.istore_n 3, 1) := by decide +kernel
theorem dM_number_53 : decode prog_8_method_24_code 53 = .ok (.iconst 0, 1) := by decide +kernel
theorem dM_number_54 : decode prog_8_method_24_code 54 = .ok (.istore 4, 2) := by decide +kernel
theorem dM_number_56 : decode prog_8_method_24_code 56 = .ok (.iconst 0, 1) := by decide +kernel
theorem dM_number_57 : decode prog_8_method_24_code 57 = .ok (.istore 5, 2) := by decide +kernel
theorem dM_number_59 : decode prog_8_method_24_code 59 = .ok (.iload 5, 2) := by decide +kernel
theorem dM_number_61 : decode prog_8_method_24_code 61 = .ok (.iload_n 2, 1) := by decide +kernel
theorem dM_number_62 : decode prog_8_method_24_code 62 = .ok (.if_icmp .gt 49, 3) := by decide +kernel
theorem dM_number_65 : decode prog_8_method_24_code 65 = .ok (.aload_n 0, 1) := by decide +kernel
theorem dM_number_66 : decode prog_8_method_24_code 66 = .ok (.getfield 36, 3) := by decide +kernel
theorem dM_number_69 : decode prog_8_method_24_code 69 = .ok (.iconst 4, 1) := by decide +kernel
theorem dM_number_70 : decode prog_8_method_24_code 70 = .ok (.iload_n 1, 1) := by decide +kernel
theorem dM_number_71 : decode prog_8_method_24_code 71 = .ok (.imul, 1) := by decide +kernel
theorem dM_number_72 : decode prog_8_method_24_code 72 = .ok (.iload 5, 2) := by decide +kernel
theorem dM_number_74 : decode prog_8_method_24_code 74 = .ok (.iadd, 1) := by decide +kernel
theorem dM_number_75 : decode prog_8_method_24_code 75 = .ok (.iaload, 1) := by decide +kernel
theorem dM_number_76 : decode prog_8_method_24_code 76 = .ok (.istore 6, 2) := by decide +kernel
theorem dM_number_78 : decode prog_8_method_24_code 78 = .ok (.iload 6, 2) := by decide +kernel
theorem dM_number_80 : decode prog_8_method_24_code 80 = .ok (.iload_n 3, 1) := by decide +kernel
theorem dM_number_81 : decode prog_8_method_24_code 81 = .ok (.if_icmp .ge 7, 3) := by decide +kernel
theorem dM_number_84 : decode prog_8_method_24_code 84 = .ok (.iconst 0, 1) := by decide +kernel
theorem dM_number_85 : decode prog_8_method_24_code 85 = .ok (.goto 18, 3) := by decide +kernel
theorem dM_number_88 : decode prog_8_method_24_code 88 = .ok (.iload 6, 2) := by decide +kernel
theorem dM_number_90 : decode prog_8_method_24_code 90 = .ok (.iload_n 3, 1) := by decide +kernel
theorem dM_number_91 : decode prog_8_method_24_code 91 = .ok (.if_icmp .ne 10, 3) := by decide +kernel
theorem dM_number_94 : decode prog_8_method_24_code 94 = .ok (.iload 4, 2) := by decide +kernel
theorem dM_number_96 : decode prog_8_method_24_code 96 = .ok (.iconst 1, 1) := by decide +kernel
theorem dM_number_97 : decode prog_8_method_24_code 97 = .ok (.iadd, 1) := by decide +kernel
theorem dM_number_98 : decode prog_8_method_24_code 98 = .ok (.goto 5, 3) := by decide +kernel
theorem dM_number_101 : decode prog_8_method_24_code 101 = .ok (.iload 4, 2) := by decide +kernel
theorem dM_number_103 : decode prog_8_method_24_code 103 = .ok (.istore 4, 2) := by decide +kernel
theorem dM_number_105 : decode prog_8_method_24_code 105 = .ok (.iinc 5 1, 3) := by decide +kernel
theorem dM_number_108 : decode prog_8_method_24_code 108 = .ok (.goto (-49), 3) := by decide +kernel
theorem dM_number_111 : decode prog_8_method_24_code 111 = .ok (.iload 4, 2) := by decide +kernel
theorem dM_number_113 : decode prog_8_method_24_code 113 = .ok (.ireturn, 1) := by decide +kernel
theorem dM_effect_0 : decode prog_8_method_25_code 0 = .ok (.iload_n 2, 1) := by decide +kernel
theorem dM_effect_1 : decode prog_8_method_25_code 1 = .ok (.ifCond .lt 45, 3) := by decide +kernel
theorem dM_effect_4 : decode prog_8_method_25_code 4 = .ok (.iload_n 2, 1) := by decide +kernel
theorem dM_effect_5 : decode prog_8_method_25_code 5 = .ok (.iconst 3, 1) := by decide +kernel
theorem dM_effect_6 : decode prog_8_method_25_code 6 = .ok (.if_icmp .gt 40, 3) := by decide +kernel
theorem dM_effect_9 : decode prog_8_method_25_code 9 = .ok (.iload_n 3, 1) := by decide +kernel
theorem dM_effect_10 : decode prog_8_method_25_code 10 = .ok (.ifCond .lt 36, 3) := by decide +kernel
theorem dM_effect_13 : decode prog_8_method_25_code 13 = .ok (.iload_n 3, 1) := by decide +kernel
theorem dM_effect_14 : decode prog_8_method_25_code 14 = .ok (.iconst 2, 1) := by decide +kernel
theorem dM_effect_15 : decode prog_8_method_25_code 15 = .ok (.if_icmp .gt 31, 3) := by decide +kernel
theorem dM_effect_18 : decode prog_8_method_25_code 18 = .ok (.iload 4, 2) := by decide +kernel
theorem dM_effect_20 : decode prog_8_method_25_code 20 = .ok (.ifCond .lt 26, 3) := by decide +kernel
theorem dM_effect_23 : decode prog_8_method_25_code 23 = .ok (.iload 4, 2) := by decide +kernel
theorem dM_effect_25 : decode prog_8_method_25_code 25 = .ok (.bipush 50, 2) := by decide +kernel
theorem dM_effect_27 : decode prog_8_method_25_code 27 = .ok (.if_icmp .gt 19, 3) := by decide +kernel
theorem dM_effect_30 : decode prog_8_method_25_code 30 = .ok (.iload 5, 2) := by decide +kernel
theorem dM_effect_32 : decode prog_8_method_25_code 32 = .ok (.ifCond .lt 14, 3) := by decide +kernel
theorem dM_effect_35 : decode prog_8_method_25_code 35 = .ok (.iload 5, 2) := by decide +kernel
theorem dM_effect_37 : decode prog_8_method_25_code 37 = .ok (.bipush 50, 2) := by decide +kernel
theorem dM_effect_39 : decode prog_8_method_25_code 39 = .ok (.if_icmp .gt 7, 3) := by decide +kernel
theorem dM_effect_42 : decode prog_8_method_25_code 42 = .ok (.iconst 1, 1) := by decide +kernel
theorem dM_effect_43 : decode prog_8_method_25_code 43 = .ok (.goto 4, 3) := by decide +kernel
theorem dM_effect_46 : decode prog_8_method_25_code 46 = .ok (.iconst 0, 1) := by decide +kernel
theorem dM_effect_47 : decode prog_8_method_25_code 47 = .ok (.istore 6, 2) := by decide +kernel
theorem dM_effect_49 : decode prog_8_method_25_code 49 = .ok (.aload_n 0, 1) := by decide +kernel
theorem dM_effect_50 : decode prog_8_method_25_code 50 = .ok (.aload_n 0, 1) := by decide +kernel
theorem dM_effect_51 : decode prog_8_method_25_code 51 = .ok (.iload_n 1, 1) := by decide +kernel
theorem dM_effect_52 : decode prog_8_method_25_code 52 = .ok (.invokevirtual 98, 3) := by decide +kernel
theorem dM_effect_55 : decode prog_8_method_25_code 55 = .ok (.ifCond .eq 7, 3) := by decide +kernel
theorem dM_effect_58 : decode prog_8_method_25_code 58 = .ok (.iconst 1, 1) := by decide +kernel
theorem dM_effect_59 : decode prog_8_method_25_code 59 = .ok (.goto 45, 3) := by decide +kernel
theorem dM_effect_62 : decode prog_8_method_25_code 62 = .ok (.iload 6, 2) := by decide +kernel
theorem dM_effect_64 : decode prog_8_method_25_code 64 = .ok (.ifCond .ne 7, 3) := by decide +kernel
theorem dM_effect_67 : decode prog_8_method_25_code 67 = .ok (.iconst 2, 1) := by decide +kernel
theorem dM_effect_68 : decode prog_8_method_25_code 68 = .ok (.goto 36, 3) := by decide +kernel
theorem dM_effect_71 : decode prog_8_method_25_code 71 = .ok (.aload_n 0, 1) := by decide +kernel
theorem dM_effect_72 : decode prog_8_method_25_code 72 = .ok (.getfield 7, 3) := by decide +kernel
theorem dM_effect_75 : decode prog_8_method_25_code 75 = .ok (.aload_n 0, 1) := by decide +kernel
theorem dM_effect_76 : decode prog_8_method_25_code 76 = .ok (.getfield 16, 3) := by decide +kernel
theorem dM_effect_79 : decode prog_8_method_25_code 79 = .ok (.iload_n 1, 1) := by decide +kernel
theorem dM_effect_80 : decode prog_8_method_25_code 80 = .ok (.iaload, 1) := by decide +kernel
theorem dM_effect_81 : decode prog_8_method_25_code 81 = .ok (.iaload, 1) := by decide +kernel
theorem dM_effect_82 : decode prog_8_method_25_code 82 = .ok (.iconst 2, 1) := by decide +kernel
theorem dM_effect_83 : decode prog_8_method_25_code 83 = .ok (.if_icmp .eq 7, 3) := by decide +kernel
theorem dM_effect_86 : decode prog_8_method_25_code 86 = .ok (.iconst 3, 1) := by decide +kernel
theorem dM_effect_87 : decode prog_8_method_25_code 87 = .ok (.goto 17, 3) := by decide +kernel
theorem dM_effect_90 : decode prog_8_method_25_code 90 = .ok (.aload_n 0, 1) := by decide +kernel
theorem dM_effect_91 : decode prog_8_method_25_code 91 = .ok (.getfield 121, 3) := by decide +kernel
theorem dM_effect_94 : decode prog_8_method_25_code 94 = .ok (.bipush 24, 2) := by decide +kernel
theorem dM_effect_96 : decode prog_8_method_25_code 96 = .ok (.if_icmp .ne 7, 3) := by decide +kernel
theorem dM_effect_99 : decode prog_8_method_25_code 99 = .ok (.iconst 4, 1) := by decide +kernel
theorem dM_effect_100 : decode prog_8_method_25_code 100 = .ok (.goto 4, 3) := by decide +kernel
theorem dM_effect_103 : decode prog_8_method_25_code 103 = .ok (.iconst 0, 1) := by decide +kernel
theorem dM_effect_104 : decode prog_8_method_25_code 104 = .ok (.putfield 75, 3) := by decide +kernel
theorem dM_effect_107 : decode prog_8_method_25_code 107 = .ok (.aload_n 0, 1) := by decide +kernel
theorem dM_effect_108 : decode prog_8_method_25_code 108 = .ok (.getfield 75, 3) := by decide +kernel
theorem dM_effect_111 : decode prog_8_method_25_code 111 = .ok (.ifCond .le 5, 3) := by decide +kernel
theorem dM_effect_114 : decode prog_8_method_25_code 114 = .ok (.iconst 0, 1) := by decide +kernel
theorem dM_effect_115 : decode prog_8_method_25_code 115 = .ok (.ireturn, 1) := by decide +kernel
theorem dM_effect_116 : decode prog_8_method_25_code 116 = .ok (.aload_n 0, 1) := by decide +kernel
theorem dM_effect_117 : decode prog_8_method_25_code 117 = .ok (.getfield 45, 3) := by decide +kernel
theorem dM_effect_120 : decode prog_8_method_25_code 120 = .ok (.aload_n 0, 1) := by decide +kernel
theorem dM_effect_121 : decode prog_8_method_25_code 121 = .ok (.getfield 121, 3) := by decide +kernel
theorem dM_effect_124 : decode prog_8_method_25_code 124 = .ok (.iload_n 1, 1) := by decide +kernel
theorem dM_effect_125 : decode prog_8_method_25_code 125 = .ok (.iastore, 1) := by decide +kernel
theorem dM_effect_126 : decode prog_8_method_25_code 126 = .ok (.aload_n 0, 1) := by decide +kernel
theorem dM_effect_127 : decode prog_8_method_25_code 127 = .ok (.getfield 48, 3) := by decide +kernel
theorem dM_effect_130 : decode prog_8_method_25_code 130 = .ok (.aload_n 0, 1) := by decide +kernel
theorem dM_effect_131 : decode prog_8_method_25_code 131 = .ok (.getfield 121, 3) := by decide +kernel
theorem dM_effect_134 : decode prog_8_method_25_code 134 = .ok (.iload_n 2, 1) := by decide +kernel
theorem dM_effect_135 : decode prog_8_method_25_code 135 = .ok (.iastore, 1) := by decide +kernel
theorem dM_effect_136 : decode prog_8_method_25_code 136 = .ok (.aload_n 0, 1) := by decide +kernel
theorem dM_effect_137 : decode prog_8_method_25_code 137 = .ok (.getfield 51, 3) := by decide +kernel
theorem dM_effect_140 : decode prog_8_method_25_code 140 = .ok (.aload_n 0, 1) := by decide +kernel
theorem dM_effect_141 : decode prog_8_method_25_code 141 = .ok (.getfield 121, 3) := by decide +kernel
theorem dM_effect_144 : decode prog_8_method_25_code 144 = .ok (.iload_n 3, 1) := by decide +kernel
theorem dM_effect_145 : decode prog_8_method_25_code 145 = .ok (.iastore, 1) := by decide +kernel
theorem dM_effect_146 : decode prog_8_method_25_code 146 = .ok (.aload_n 0, 1) := by decide +kernel
theorem dM_effect_147 : decode prog_8_method_25_code 147 = .ok (.getfield 54, 3) := by decide +kernel
theorem dM_effect_150 : decode prog_8_method_25_code 150 = .ok (.aload_n 0, 1) := by decide +kernel
theorem dM_effect_151 : decode prog_8_method_25_code 151 = .ok (.getfield 121, 3) := by decide +kernel
theorem dM_effect_154 : decode prog_8_method_25_code 154 = .ok (.iload 4, 2) := by decide +kernel
theorem dM_effect_156 : decode prog_8_method_25_code 156 = .ok (.iastore, 1) := by decide +kernel
theorem dM_effect_157 : decode prog_8_method_25_code 157 = .ok (.aload_n 0, 1) := by decide +kernel
theorem dM_effect_158 : decode prog_8_method_25_code 158 = .ok (.getfield 57, 3) := by decide +kernel
theorem dM_effect_161 : decode prog_8_method_25_code 161 = .ok (.aload_n 0, 1) := by decide +kernel
theorem dM_effect_162 : decode prog_8_method_25_code 162 = .ok (.getfield 121, 3) := by decide +kernel
theorem dM_effect_165 : decode prog_8_method_25_code 165 = .ok (.iload 5, 2) := by decide +kernel
theorem dM_effect_167 : decode prog_8_method_25_code 167 = .ok (.iastore, 1) := by decide +kernel
theorem dM_effect_168 : decode prog_8_method_25_code 168 = .ok (.aload_n 0, 1) := by decide +kernel
theorem dM_effect_169 : decode prog_8_method_25_code 169 = .ok (.getfield 60, 3) := by decide +kernel
theorem dM_effect_172 : decode prog_8_method_25_code 172 = .ok (.aload_n 0, 1) := by decide +kernel
theorem dM_effect_173 : decode prog_8_method_25_code 173 = .ok (.getfield 121, 3) := by decide +kernel
theorem dM_effect_176 : decode prog_8_method_25_code 176 = .ok (.iconst 0, 1) := by decide +kernel
theorem dM_effect_177 : decode prog_8_method_25_code 177 = .ok (.iastore, 1) := by decide +kernel
theorem dM_effect_178 : decode prog_8_method_25_code 178 = .ok (.aload_n 0, 1) := by decide +kernel
theorem dM_effect_179 : decode prog_8_method_25_code 179 = .ok (.dup, 1) := by decide +kernel
theorem dM_effect_180 : decode prog_8_method_25_code 180 = .ok (.getfield 121, 3) := by decide +kernel
theorem dM_effect_183 : decode prog_8_method_25_code 183 = .ok (.iconst 1, 1) := by decide +kernel
theorem dM_effect_184 : decode prog_8_method_25_code 184 = .ok (.iadd, 1) := by decide +kernel
theorem dM_effect_185 : decode prog_8_method_25_code 185 = .ok (.putfield 121, 3) := by decide +kernel
theorem dM_effect_188 : decode prog_8_method_25_code 188 = .ok (.aload_n 0, 1) := by decide +kernel
theorem dM_effect_189 : decode prog_8_method_25_code 189 = .ok (.getfield 121, 3) := by decide +kernel
theorem dM_effect_192 : decode prog_8_method_25_code 192 = .ok (.iconst 1, 1) := by decide +kernel
theorem dM_effect_193 : decode prog_8_method_25_code 193 = .ok (.isub, 1) := by decide +kernel
theorem dM_effect_194 : decode prog_8_method_25_code 194 = .ok (.ireturn, 1) := by decide +kernel
theorem dM_amount_0 : decode prog_8_method_27_code 0 = .ok (.aload_n 0, 1) := by decide +kernel
theorem dM_amount_1 : decode prog_8_method_27_code 1 = .ok (.aload_n 0, 1) := by decide +kernel
theorem dM_amount_2 : decode prog_8_method_27_code 2 = .ok (.iload_n 1, 1) := by decide +kernel
theorem dM_amount_3 : decode prog_8_method_27_code 3 = .ok (.invokevirtual 124, 3) := by decide +kernel
theorem dM_amount_6 : decode prog_8_method_27_code 6 = .ok (.ifCond .eq 7, 3) := by decide +kernel
theorem dM_amount_9 : decode prog_8_method_27_code 9 = .ok (.iconst 1, 1) := by decide +kernel
theorem dM_amount_10 : decode prog_8_method_27_code 10 = .ok (.goto 20, 3) := by decide +kernel
theorem dM_amount_13 : decode prog_8_method_27_code 13 = .ok (.iload_n 2, 1) := by decide +kernel
theorem dM_amount_14 : decode prog_8_method_27_code 14 = .ok (.bipush (-40), 2) := by decide +kernel
theorem dM_amount_16 : decode prog_8_method_27_code 16 = .ok (.if_icmp .lt 9, 3) := by decide +kernel
theorem dM_amount_19 : decode prog_8_method_27_code 19 = .ok (.iload_n 2, 1) := by decide +kernel
theorem dM_amount_20 : decode prog_8_method_27_code 20 = .ok (.bipush 40, 2) := by decide +kernel
theorem dM_amount_22 : decode prog_8_method_27_code 22 = .ok (.if_icmp .le 7, 3) := by decide +kernel
theorem dM_amount_25 : decode prog_8_method_27_code 25 = .ok (.iconst 2, 1) := by decide +kernel
theorem dM_amount_26 : decode prog_8_method_27_code 26 = .ok (.goto 4, 3) := by decide +kernel
theorem dM_amount_29 : decode prog_8_method_27_code 29 = .ok (.iconst 0, 1) := by decide +kernel
theorem dM_amount_30 : decode prog_8_method_27_code 30 = .ok (.putfield 75, 3) := by decide +kernel
theorem dM_amount_33 : decode prog_8_method_27_code 33 = .ok (.aload_n 0, 1) := by decide +kernel
theorem dM_amount_34 : decode prog_8_method_27_code 34 = .ok (.getfield 75, 3) := by decide +kernel
theorem dM_amount_37 : decode prog_8_method_27_code 37 = .ok (.ifCond .ne 10, 3) := by decide +kernel
theorem dM_amount_40 : decode prog_8_method_27_code 40 = .ok (.aload_n 0, 1) := by decide +kernel
theorem dM_amount_41 : decode prog_8_method_27_code 41 = .ok (.getfield 60, 3) := by decide +kernel
theorem dM_amount_44 : decode prog_8_method_27_code 44 = .ok (.iload_n 1, 1) := by decide +kernel
theorem dM_amount_45 : decode prog_8_method_27_code 45 = .ok (.iload_n 2, 1) := by decide +kernel
theorem dM_amount_46 : decode prog_8_method_27_code 46 = .ok (.iastore, 1) := by decide +kernel
theorem dM_amount_47 : decode prog_8_method_27_code 47 = .ok (.return_, 1) := by decide +kernel
theorem dM_noEffect_0 : decode prog_8_method_26_code 0 = .ok (.iload_n 1, 1) := by decide +kernel
theorem dM_noEffect_1 : decode prog_8_method_26_code 1 = .ok (.ifCond .lt 11, 3) := by decide +kernel
theorem dM_noEffect_4 : decode prog_8_method_26_code 4 = .ok (.iload_n 1, 1) := by decide +kernel
theorem dM_noEffect_5 : decode prog_8_method_26_code 5 = .ok (.aload_n 0, 1) := by decide +kernel
theorem dM_noEffect_6 : decode prog_8_method_26_code 6 = .ok (.getfield 121, 3) := by decide +kernel
theorem dM_noEffect_9 : decode prog_8_method_26_code 9 = .ok (.if_icmp .lt 7, 3) := by decide +kernel
theorem dM_noEffect_12 : decode prog_8_method_26_code 12 = .ok (.iconst 1, 1) := by decide +kernel
theorem dM_noEffect_13 : decode prog_8_method_26_code 13 = .ok (.goto 4, 3) := by decide +kernel
theorem dM_noEffect_16 : decode prog_8_method_26_code 16 = .ok (.iconst 0, 1) := by decide +kernel
theorem dM_noEffect_17 : decode prog_8_method_26_code 17 = .ok (.ireturn, 1) := by decide +kernel
theorem dM_timing_0 : decode prog_8_method_36_code 0 = .ok (.aload_n 0, 1) := by decide +kernel
theorem dM_timing_1 : decode prog_8_method_36_code 1 = .ok (.aload_n 0, 1) := by decide +kernel
theorem dM_timing_2 : decode prog_8_method_36_code 2 = .ok (.iload_n 1, 1) := by decide +kernel
theorem dM_timing_3 : decode prog_8_method_36_code 3 = .ok (.invokevirtual 124, 3) := by decide +kernel
theorem dM_timing_6 : decode prog_8_method_36_code 6 = .ok (.ifCond .eq 7, 3) := by decide +kernel
theorem dM_timing_9 : decode prog_8_method_36_code 9 = .ok (.iconst 1, 1) := by decide +kernel
theorem dM_timing_10 : decode prog_8_method_36_code 10 = .ok (.goto 4, 3) := by decide +kernel
theorem dM_timing_13 : decode prog_8_method_36_code 13 = .ok (.iconst 0, 1) := by decide +kernel
theorem dM_timing_14 : decode prog_8_method_36_code 14 = .ok (.putfield 75, 3) := by decide +kernel
theorem dM_timing_17 : decode prog_8_method_36_code 17 = .ok (.aload_n 0, 1) := by decide +kernel
theorem dM_timing_18 : decode prog_8_method_36_code 18 = .ok (.getfield 75, 3) := by decide +kernel
theorem dM_timing_21 : decode prog_8_method_36_code 21 = .ok (.ifCond .le 5, 3) := by decide +kernel
theorem dM_timing_24 : decode prog_8_method_36_code 24 = .ok (.iconst 0, 1) := by decide +kernel
theorem dM_timing_25 : decode prog_8_method_36_code 25 = .ok (.ireturn, 1) := by decide +kernel
theorem dM_timing_26 : decode prog_8_method_36_code 26 = .ok (.iload_n 2, 1) := by decide +kernel
theorem dM_timing_27 : decode prog_8_method_36_code 27 = .ok (.tableswitch 79 0 3 #[29, 35, 41, 47], 29) := by decide +kernel
theorem dM_timing_56 : decode prog_8_method_36_code 56 = .ok (.aload_n 0, 1) := by decide +kernel
theorem dM_timing_57 : decode prog_8_method_36_code 57 = .ok (.iload_n 1, 1) := by decide +kernel
theorem dM_timing_58 : decode prog_8_method_36_code 58 = .ok (.invokevirtual 127, 3) := by decide +kernel
theorem dM_timing_61 : decode prog_8_method_36_code 61 = .ok (.ireturn, 1) := by decide +kernel
theorem dM_timing_62 : decode prog_8_method_36_code 62 = .ok (.aload_n 0, 1) := by decide +kernel
theorem dM_timing_63 : decode prog_8_method_36_code 63 = .ok (.iload_n 1, 1) := by decide +kernel
theorem dM_timing_64 : decode prog_8_method_36_code 64 = .ok (.invokevirtual 133, 3) := by decide +kernel
theorem dM_timing_67 : decode prog_8_method_36_code 67 = .ok (.ireturn, 1) := by decide +kernel
theorem dM_timing_68 : decode prog_8_method_36_code 68 = .ok (.aload_n 0, 1) := by decide +kernel
theorem dM_timing_69 : decode prog_8_method_36_code 69 = .ok (.iload_n 1, 1) := by decide +kernel
theorem dM_timing_70 : decode prog_8_method_36_code 70 = .ok (.invokevirtual 130, 3) := by decide +kernel
theorem dM_timing_73 : decode prog_8_method_36_code 73 = .ok (.ireturn, 1) := by decide +kernel
theorem dM_timing_74 : decode prog_8_method_36_code 74 = .ok (.aload_n 0, 1) := by decide +kernel
theorem dM_timing_75 : decode prog_8_method_36_code 75 = .ok (.getfield 16, 3) := by decide +kernel
theorem dM_timing_78 : decode prog_8_method_36_code 78 = .ok (.aload_n 0, 1) := by decide +kernel
theorem dM_timing_79 : decode prog_8_method_36_code 79 = .ok (.getfield 45, 3) := by decide +kernel
theorem dM_timing_82 : decode prog_8_method_36_code 82 = .ok (.iload_n 1, 1) := by decide +kernel
theorem dM_timing_83 : decode prog_8_method_36_code 83 = .ok (.iaload, 1) := by decide +kernel
theorem dM_timing_84 : decode prog_8_method_36_code 84 = .ok (.iaload, 1) := by decide +kernel
theorem dM_timing_85 : decode prog_8_method_36_code 85 = .ok (.aload_n 0, 1) := by decide +kernel
theorem dM_timing_86 : decode prog_8_method_36_code 86 = .ok (.aload_n 0, 1) := by decide +kernel
theorem dM_timing_87 : decode prog_8_method_36_code 87 = .ok (.getfield 142, 3) := by decide +kernel
theorem dM_timing_90 : decode prog_8_method_36_code 90 = .ok (.invokevirtual 145, 3) := by decide +kernel
theorem dM_timing_93 : decode prog_8_method_36_code 93 = .ok (.if_icmp .ne 11, 3) := by decide +kernel
theorem dM_timing_96 : decode prog_8_method_36_code 96 = .ok (.aload_n 0, 1) := by decide +kernel
theorem dM_timing_97 : decode prog_8_method_36_code 97 = .ok (.iload_n 1, 1) := by decide +kernel
theorem dM_timing_98 : decode prog_8_method_36_code 98 = .ok (.invokevirtual 148, 3) := by decide +kernel
theorem dM_timing_101 : decode prog_8_method_36_code 101 = .ok (.goto 4, 3) := by decide +kernel
theorem dM_timing_104 : decode prog_8_method_36_code 104 = .ok (.iconst (-1), 1) := by decide +kernel
theorem dM_timing_105 : decode prog_8_method_36_code 105 = .ok (.ireturn, 1) := by decide +kernel
theorem dM_timing_106 : decode prog_8_method_36_code 106 = .ok (.iconst (-1), 1) := by decide +kernel
theorem dM_timing_107 : decode prog_8_method_36_code 107 = .ok (.ireturn, 1) := by decide +kernel
theorem dM_start_0 : decode prog_8_method_30_code 0 = .ok (.iconst 0, 1) := by decide +kernel
theorem dM_start_1 : decode prog_8_method_30_code 1 = .ok (.istore_n 2, 1) := by decide +kernel
theorem dM_start_2 : decode prog_8_method_30_code 2 = .ok (.iconst 0, 1) := by decide +kernel
theorem dM_start_3 : decode prog_8_method_30_code 3 = .ok (.istore_n 3, 1) := by decide +kernel
theorem dM_start_4 : decode prog_8_method_30_code 4 = .ok (.iconst 0, 1) := by decide +kernel
theorem dM_start_5 : decode prog_8_method_30_code 5 = .ok (.istore 4, 2) := by decide +kernel
theorem dM_start_7 : decode prog_8_method_30_code 7 = .ok (.iconst 0, 1) := by decide +kernel
theorem dM_start_8 : decode prog_8_method_30_code 8 = .ok (.istore 5, 2) := by decide +kernel
theorem dM_start_10 : decode prog_8_method_30_code 10 = .ok (.iconst 0, 1) := by decide +kernel
theorem dM_start_11 : decode prog_8_method_30_code 11 = .ok (.istore 6, 2) := by decide +kernel
theorem dM_start_13 : decode prog_8_method_30_code 13 = .ok (.iload 6, 2) := by decide +kernel
theorem dM_start_15 : decode prog_8_method_30_code 15 = .ok (.iload_n 1, 1) := by decide +kernel
theorem dM_start_16 : decode prog_8_method_30_code 16 = .ok (.if_icmp .gt 96, 3) := by decide +kernel
theorem dM_start_19 : decode prog_8_method_30_code 19 = .ok (.aload_n 0, 1) := by decide +kernel
theorem dM_start_20 : decode prog_8_method_30_code 20 = .ok (.getfield 16, 3) := by decide +kernel
theorem dM_start_23 : decode prog_8_method_30_code 23 = .ok (.aload_n 0, 1) := by decide +kernel
theorem dM_start_24 : decode prog_8_method_30_code 24 = .ok (.getfield 45, 3) := by decide +kernel
theorem dM_start_27 : decode prog_8_method_30_code 27 = .ok (.iload 6, 2) := by decide +kernel
theorem dM_start_29 : decode prog_8_method_30_code 29 = .ok (.iaload, 1) := by decide +kernel
theorem dM_start_30 : decode prog_8_method_30_code 30 = .ok (.iaload, 1) := by decide +kernel
theorem dM_start_31 : decode prog_8_method_30_code 31 = .ok (.aload_n 0, 1) := by decide +kernel
theorem dM_start_32 : decode prog_8_method_30_code 32 = .ok (.getfield 16, 3) := by decide +kernel
theorem dM_start_35 : decode prog_8_method_30_code 35 = .ok (.aload_n 0, 1) := by decide +kernel
theorem dM_start_36 : decode prog_8_method_30_code 36 = .ok (.getfield 45, 3) := by decide +kernel
theorem dM_start_39 : decode prog_8_method_30_code 39 = .ok (.iload_n 1, 1) := by decide +kernel
theorem dM_start_40 : decode prog_8_method_30_code 40 = .ok (.iaload, 1) := by decide +kernel
theorem dM_start_41 : decode prog_8_method_30_code 41 = .ok (.iaload, 1) := by decide +kernel
theorem dM_start_42 : decode prog_8_method_30_code 42 = .ok (.if_icmp .ne 64, 3) := by decide +kernel
theorem dM_start_45 : decode prog_8_method_30_code 45 = .ok (.aload_n 0, 1) := by decide +kernel
theorem dM_start_46 : decode prog_8_method_30_code 46 = .ok (.getfield 51, 3) := by decide +kernel
theorem dM_start_49 : decode prog_8_method_30_code 49 = .ok (.iload 6, 2) := by decide +kernel
theorem dM_start_51 : decode prog_8_method_30_code 51 = .ok (.iaload, 1) := by decide +kernel
theorem dM_start_52 : decode prog_8_method_30_code 52 = .ok (.ifCond .eq 8, 3) := by decide +kernel
theorem dM_start_55 : decode prog_8_method_30_code 55 = .ok (.iload 4, 2) := by decide +kernel
theorem dM_start_57 : decode prog_8_method_30_code 57 = .ok (.ifCond .ne 7, 3) := by decide +kernel
theorem dM_start_60 : decode prog_8_method_30_code 60 = .ok (.iconst 0, 1) := by decide +kernel
theorem dM_start_61 : decode prog_8_method_30_code 61 = .ok (.goto 19, 3) := by decide +kernel
theorem dM_start_64 : decode prog_8_method_30_code 64 = .ok (.aload_n 0, 1) := by decide +kernel
theorem dM_start_65 : decode prog_8_method_30_code 65 = .ok (.getfield 51, 3) := by decide +kernel
theorem dM_start_68 : decode prog_8_method_30_code 68 = .ok (.iload 6, 2) := by decide +kernel
theorem dM_start_70 : decode prog_8_method_30_code 70 = .ok (.iaload, 1) := by decide +kernel
theorem dM_start_71 : decode prog_8_method_30_code 71 = .ok (.iconst 1, 1) := by decide +kernel
theorem dM_start_72 : decode prog_8_method_30_code 72 = .ok (.if_icmp .ne 7, 3) := by decide +kernel
theorem dM_start_75 : decode prog_8_method_30_code 75 = .ok (.iload_n 2, 1) := by decide +kernel
theorem dM_start_76 : decode prog_8_method_30_code 76 = .ok (.goto 4, 3) := by decide +kernel
theorem dM_start_79 : decode prog_8_method_30_code 79 = .ok (.iload_n 3, 1) := by decide +kernel
theorem dM_start_80 : decode prog_8_method_30_code 80 = .ok (.istore_n 2, 1) := by decide +kernel
theorem dM_start_81 : decode prog_8_method_30_code 81 = .ok (.iload_n 2, 1) := by decide +kernel
theorem dM_start_82 : decode prog_8_method_30_code 82 = .ok (.aload_n 0, 1) := by decide +kernel
theorem dM_start_83 : decode prog_8_method_30_code 83 = .ok (.getfield 54, 3) := by decide +kernel
theorem dM_start_86 : decode prog_8_method_30_code 86 = .ok (.iload 6, 2) := by decide +kernel
theorem dM_start_88 : decode prog_8_method_30_code 88 = .ok (.iaload, 1) := by decide +kernel
theorem dM_start_89 : decode prog_8_method_30_code 89 = .ok (.iadd, 1) := by decide +kernel
theorem dM_start_90 : decode prog_8_method_30_code 90 = .ok (.istore 5, 2) := by decide +kernel
theorem dM_start_92 : decode prog_8_method_30_code 92 = .ok (.iload 5, 2) := by decide +kernel
theorem dM_start_94 : decode prog_8_method_30_code 94 = .ok (.aload_n 0, 1) := by decide +kernel
theorem dM_start_95 : decode prog_8_method_30_code 95 = .ok (.getfield 57, 3) := by decide +kernel
theorem dM_start_98 : decode prog_8_method_30_code 98 = .ok (.iload 6, 2) := by decide +kernel
theorem dM_start_100 : decode prog_8_method_30_code 100 = .ok (.iaload, 1) := by decide +kernel
theorem dM_start_101 : decode prog_8_method_30_code 101 = .ok (.iadd, 1) := by decide +kernel
theorem dM_start_102 : decode prog_8_method_30_code 102 = .ok (.istore_n 3, 1) := by decide +kernel
theorem dM_start_103 : decode prog_8_method_30_code 103 = .ok (.iconst 1, 1) := by decide +kernel
theorem dM_start_104 : decode prog_8_method_30_code 104 = .ok (.istore 4, 2) := by decide +kernel
theorem dM_start_106 : decode prog_8_method_30_code 106 = .ok (.iinc 6 1, 3) := by decide +kernel
theorem dM_start_109 : decode prog_8_method_30_code 109 = .ok (.goto (-96), 3) := by decide +kernel
theorem dM_start_112 : decode prog_8_method_30_code 112 = .ok (.iload 5, 2) := by decide +kernel
theorem dM_start_114 : decode prog_8_method_30_code 114 = .ok (.ireturn, 1) := by decide +kernel
theorem dM_end_0 : decode prog_8_method_31_code 0 = .ok (.aload_n 0, 1) := by decide +kernel
theorem dM_end_1 : decode prog_8_method_31_code 1 = .ok (.iload_n 1, 1) := by decide +kernel
theorem dM_end_2 : decode prog_8_method_31_code 2 = .ok (.invokevirtual 127, 3) := by decide +kernel
theorem dM_end_5 : decode prog_8_method_31_code 5 = .ok (.aload_n 0, 1) := by decide +kernel
theorem dM_end_6 : decode prog_8_method_31_code 6 = .ok (.getfield 57, 3) := by decide +kernel
theorem dM_end_9 : decode prog_8_method_31_code 9 = .ok (.iload_n 1, 1) := by decide +kernel
theorem dM_end_10 : decode prog_8_method_31_code 10 = .ok (.iaload, 1) := by decide +kernel
theorem dM_end_11 : decode prog_8_method_31_code 11 = .ok (.iadd, 1) := by decide +kernel
theorem dM_end_12 : decode prog_8_method_31_code 12 = .ok (.ireturn, 1) := by decide +kernel
theorem dM_build_0 : decode prog_8_method_29_code 0 = .ok (.iconst 0, 1) := by decide +kernel
theorem dM_build_1 : decode prog_8_method_29_code 1 = .ok (.istore_n 2, 1) := by decide +kernel
theorem dM_build_2 : decode prog_8_method_29_code 2 = .ok (.iconst 0, 1) := by decide +kernel
theorem dM_build_3 : decode prog_8_method_29_code 3 = .ok (.istore_n 3, 1) := by decide +kernel
theorem dM_build_4 : decode prog_8_method_29_code 4 = .ok (.iload_n 3, 1) := by decide +kernel
theorem dM_build_5 : decode prog_8_method_29_code 5 = .ok (.iload_n 1, 1) := by decide +kernel
theorem dM_build_6 : decode prog_8_method_29_code 6 = .ok (.if_icmp .gt 51, 3) := by decide +kernel
theorem dM_build_9 : decode prog_8_method_29_code 9 = .ok (.aload_n 0, 1) := by decide +kernel
theorem dM_build_10 : decode prog_8_method_29_code 10 = .ok (.getfield 16, 3) := by decide +kernel
theorem dM_build_13 : decode prog_8_method_29_code 13 = .ok (.aload_n 0, 1) := by decide +kernel
theorem dM_build_14 : decode prog_8_method_29_code 14 = .ok (.getfield 45, 3) := by decide +kernel
theorem dM_build_17 : decode prog_8_method_29_code 17 = .ok (.iload_n 3, 1) := by decide +kernel
theorem dM_build_18 : decode prog_8_method_29_code 18 = .ok (.iaload, 1) := by decide +kernel
theorem dM_build_19 : decode prog_8_method_29_code 19 = .ok (.iaload, 1) := by decide +kernel
theorem dM_build_20 : decode prog_8_method_29_code 20 = .ok (.aload_n 0, 1) := by decide +kernel
theorem dM_build_21 : decode prog_8_method_29_code 21 = .ok (.getfield 16, 3) := by decide +kernel
theorem dM_build_24 : decode prog_8_method_29_code 24 = .ok (.aload_n 0, 1) := by decide +kernel
theorem dM_build_25 : decode prog_8_method_29_code 25 = .ok (.getfield 45, 3) := by decide +kernel
theorem dM_build_28 : decode prog_8_method_29_code 28 = .ok (.iload_n 1, 1) := by decide +kernel
theorem dM_build_29 : decode prog_8_method_29_code 29 = .ok (.iaload, 1) := by decide +kernel
theorem dM_build_30 : decode prog_8_method_29_code 30 = .ok (.iaload, 1) := by decide +kernel
theorem dM_build_31 : decode prog_8_method_29_code 31 = .ok (.if_icmp .ne 18, 3) := by decide +kernel
theorem dM_build_34 : decode prog_8_method_29_code 34 = .ok (.aload_n 0, 1) := by decide +kernel
theorem dM_build_35 : decode prog_8_method_29_code 35 = .ok (.getfield 51, 3) := by decide +kernel
theorem dM_build_38 : decode prog_8_method_29_code 38 = .ok (.iload_n 3, 1) := by decide +kernel
theorem dM_build_39 : decode prog_8_method_29_code 39 = .ok (.iaload, 1) := by decide +kernel
theorem dM_build_40 : decode prog_8_method_29_code 40 = .ok (.ifCond .ne 9, 3) := by decide +kernel
theorem dM_build_43 : decode prog_8_method_29_code 43 = .ok (.iload_n 2, 1) := by decide +kernel
theorem dM_build_44 : decode prog_8_method_29_code 44 = .ok (.iconst 1, 1) := by decide +kernel
theorem dM_build_45 : decode prog_8_method_29_code 45 = .ok (.iadd, 1) := by decide +kernel
theorem dM_build_46 : decode prog_8_method_29_code 46 = .ok (.goto 4, 3) := by decide +kernel
theorem dM_build_49 : decode prog_8_method_29_code 49 = .ok (.iload_n 2, 1) := by decide +kernel
theorem dM_build_50 : decode prog_8_method_29_code 50 = .ok (.istore_n 2, 1) := by decide +kernel
theorem dM_build_51 : decode prog_8_method_29_code 51 = .ok (.iinc 3 1, 3) := by decide +kernel
theorem dM_build_54 : decode prog_8_method_29_code 54 = .ok (.goto (-50), 3) := by decide +kernel
theorem dM_build_57 : decode prog_8_method_29_code 57 = .ok (.iload_n 2, 1) := by decide +kernel
theorem dM_build_58 : decode prog_8_method_29_code 58 = .ok (.ireturn, 1) := by decide +kernel
theorem dM_slide_0 : decode prog_8_method_34_code 0 = .ok (.iconst 0, 1) := by decide +kernel
theorem dM_slide_1 : decode prog_8_method_34_code 1 = .ok (.istore_n 2, 1) := by decide +kernel
theorem dM_slide_2 : decode prog_8_method_34_code 2 = .ok (.iconst 0, 1) := by decide +kernel
theorem dM_slide_3 : decode prog_8_method_34_code 3 = .ok (.istore_n 3, 1) := by decide +kernel
theorem dM_slide_4 : decode prog_8_method_34_code 4 = .ok (.iload_n 3, 1) := by decide +kernel
theorem dM_slide_5 : decode prog_8_method_34_code 5 = .ok (.aload_n 0, 1) := by decide +kernel
theorem dM_slide_6 : decode prog_8_method_34_code 6 = .ok (.getfield 79, 3) := by decide +kernel
theorem dM_slide_9 : decode prog_8_method_34_code 9 = .ok (.if_icmp .ge 29, 3) := by decide +kernel
theorem dM_slide_12 : decode prog_8_method_34_code 12 = .ok (.aload_n 0, 1) := by decide +kernel
theorem dM_slide_13 : decode prog_8_method_34_code 13 = .ok (.getfield 7, 3) := by decide +kernel
theorem dM_slide_16 : decode prog_8_method_34_code 16 = .ok (.iload_n 3, 1) := by decide +kernel
theorem dM_slide_17 : decode prog_8_method_34_code 17 = .ok (.iaload, 1) := by decide +kernel
theorem dM_slide_18 : decode prog_8_method_34_code 18 = .ok (.iconst 2, 1) := by decide +kernel
theorem dM_slide_19 : decode prog_8_method_34_code 19 = .ok (.if_icmp .ne 13, 3) := by decide +kernel
theorem dM_slide_22 : decode prog_8_method_34_code 22 = .ok (.iload_n 2, 1) := by decide +kernel
theorem dM_slide_23 : decode prog_8_method_34_code 23 = .ok (.iload_n 1, 1) := by decide +kernel
theorem dM_slide_24 : decode prog_8_method_34_code 24 = .ok (.if_icmp .ne 5, 3) := by decide +kernel
theorem dM_slide_27 : decode prog_8_method_34_code 27 = .ok (.iload_n 3, 1) := by decide +kernel
theorem dM_slide_28 : decode prog_8_method_34_code 28 = .ok (.ireturn, 1) := by decide +kernel
theorem dM_slide_29 : decode prog_8_method_34_code 29 = .ok (.iinc 2 1, 3) := by decide +kernel
theorem dM_slide_32 : decode prog_8_method_34_code 32 = .ok (.iinc 3 1, 3) := by decide +kernel
theorem dM_slide_35 : decode prog_8_method_34_code 35 = .ok (.goto (-31), 3) := by decide +kernel
theorem dM_slide_38 : decode prog_8_method_34_code 38 = .ok (.iconst (-1), 1) := by decide +kernel
theorem dM_slide_39 : decode prog_8_method_34_code 39 = .ok (.ireturn, 1) := by decide +kernel
theorem dM_stage_0 : decode prog_8_method_35_code 0 = .ok (.aload_n 0, 1) := by decide +kernel
theorem dM_stage_1 : decode prog_8_method_35_code 1 = .ok (.iload_n 1, 1) := by decide +kernel
theorem dM_stage_2 : decode prog_8_method_35_code 2 = .ok (.invokevirtual 130, 3) := by decide +kernel
theorem dM_stage_5 : decode prog_8_method_35_code 5 = .ok (.istore_n 2, 1) := by decide +kernel
theorem dM_stage_6 : decode prog_8_method_35_code 6 = .ok (.iload_n 2, 1) := by decide +kernel
theorem dM_stage_7 : decode prog_8_method_35_code 7 = .ok (.aload_n 0, 1) := by decide +kernel
theorem dM_stage_8 : decode prog_8_method_35_code 8 = .ok (.getfield 136, 3) := by decide +kernel
theorem dM_stage_11 : decode prog_8_method_35_code 11 = .ok (.if_icmp .lt 23, 3) := by decide +kernel
theorem dM_stage_14 : decode prog_8_method_35_code 14 = .ok (.iload_n 2, 1) := by decide +kernel
theorem dM_stage_15 : decode prog_8_method_35_code 15 = .ok (.aload_n 0, 1) := by decide +kernel
theorem dM_stage_16 : decode prog_8_method_35_code 16 = .ok (.getfield 136, 3) := by decide +kernel
theorem dM_stage_19 : decode prog_8_method_35_code 19 = .ok (.if_icmp .ne 17, 3) := by decide +kernel
theorem dM_stage_22 : decode prog_8_method_35_code 22 = .ok (.aload_n 0, 1) := by decide +kernel
theorem dM_stage_23 : decode prog_8_method_35_code 23 = .ok (.iload_n 1, 1) := by decide +kernel
theorem dM_stage_24 : decode prog_8_method_35_code 24 = .ok (.invokevirtual 133, 3) := by decide +kernel
theorem dM_stage_27 : decode prog_8_method_35_code 27 = .ok (.aload_n 0, 1) := by decide +kernel
theorem dM_stage_28 : decode prog_8_method_35_code 28 = .ok (.getfield 139, 3) := by decide +kernel
theorem dM_stage_31 : decode prog_8_method_35_code 31 = .ok (.if_icmp .gt 5, 3) := by decide +kernel
theorem dM_stage_34 : decode prog_8_method_35_code 34 = .ok (.iconst 2, 1) := by decide +kernel
theorem dM_stage_35 : decode prog_8_method_35_code 35 = .ok (.ireturn, 1) := by decide +kernel
theorem dM_stage_36 : decode prog_8_method_35_code 36 = .ok (.iload_n 2, 1) := by decide +kernel
theorem dM_stage_37 : decode prog_8_method_35_code 37 = .ok (.aload_n 0, 1) := by decide +kernel
theorem dM_stage_38 : decode prog_8_method_35_code 38 = .ok (.getfield 136, 3) := by decide +kernel
theorem dM_stage_41 : decode prog_8_method_35_code 41 = .ok (.if_icmp .ne 19, 3) := by decide +kernel
theorem dM_stage_44 : decode prog_8_method_35_code 44 = .ok (.aload_n 0, 1) := by decide +kernel
theorem dM_stage_45 : decode prog_8_method_35_code 45 = .ok (.iload_n 1, 1) := by decide +kernel
theorem dM_stage_46 : decode prog_8_method_35_code 46 = .ok (.invokevirtual 127, 3) := by decide +kernel
theorem dM_stage_49 : decode prog_8_method_35_code 49 = .ok (.aload_n 0, 1) := by decide +kernel
theorem dM_stage_50 : decode prog_8_method_35_code 50 = .ok (.getfield 139, 3) := by decide +kernel
theorem dM_stage_53 : decode prog_8_method_35_code 53 = .ok (.if_icmp .gt 7, 3) := by decide +kernel
theorem dM_stage_56 : decode prog_8_method_35_code 56 = .ok (.iconst 1, 1) := by decide +kernel
theorem dM_stage_57 : decode prog_8_method_35_code 57 = .ok (.goto 4, 3) := by decide +kernel
theorem dM_stage_60 : decode prog_8_method_35_code 60 = .ok (.iconst 0, 1) := by decide +kernel
theorem dM_stage_61 : decode prog_8_method_35_code 61 = .ok (.ireturn, 1) := by decide +kernel
theorem dM_click_0 : decode prog_8_method_37_code 0 = .ok (.aload_n 0, 1) := by decide +kernel
theorem dM_click_1 : decode prog_8_method_37_code 1 = .ok (.iconst 0, 1) := by decide +kernel
theorem dM_click_2 : decode prog_8_method_37_code 2 = .ok (.putfield 75, 3) := by decide +kernel
theorem dM_click_5 : decode prog_8_method_37_code 5 = .ok (.aload_n 0, 1) := by decide +kernel
theorem dM_click_6 : decode prog_8_method_37_code 6 = .ok (.aload_n 0, 1) := by decide +kernel
theorem dM_click_7 : decode prog_8_method_37_code 7 = .ok (.getfield 142, 3) := by decide +kernel
theorem dM_click_10 : decode prog_8_method_37_code 10 = .ok (.invokevirtual 145, 3) := by decide +kernel
theorem dM_click_13 : decode prog_8_method_37_code 13 = .ok (.istore_n 1, 1) := by decide +kernel
theorem dM_click_14 : decode prog_8_method_37_code 14 = .ok (.iload_n 1, 1) := by decide +kernel
theorem dM_click_15 : decode prog_8_method_37_code 15 = .ok (.ifCond .ge 5, 3) := by decide +kernel
theorem dM_click_18 : decode prog_8_method_37_code 18 = .ok (.iconst 0, 1) := by decide +kernel
theorem dM_click_19 : decode prog_8_method_37_code 19 = .ok (.ireturn, 1) := by decide +kernel
theorem dM_click_20 : decode prog_8_method_37_code 20 = .ok (.aload_n 0, 1) := by decide +kernel
theorem dM_click_21 : decode prog_8_method_37_code 21 = .ok (.getfield 136, 3) := by decide +kernel
theorem dM_click_24 : decode prog_8_method_37_code 24 = .ok (.aload_n 0, 1) := by decide +kernel
theorem dM_click_25 : decode prog_8_method_37_code 25 = .ok (.iload_n 1, 1) := by decide +kernel
theorem dM_click_26 : decode prog_8_method_37_code 26 = .ok (.invokevirtual 151, 3) := by decide +kernel
theorem dM_click_29 : decode prog_8_method_37_code 29 = .ok (.if_icmp .ge 20, 3) := by decide +kernel
theorem dM_click_32 : decode prog_8_method_37_code 32 = .ok (.aload_n 0, 1) := by decide +kernel
theorem dM_click_33 : decode prog_8_method_37_code 33 = .ok (.dup, 1) := by decide +kernel
theorem dM_click_34 : decode prog_8_method_37_code 34 = .ok (.getfield 136, 3) := by decide +kernel
theorem dM_click_37 : decode prog_8_method_37_code 37 = .ok (.iconst 1, 1) := by decide +kernel
theorem dM_click_38 : decode prog_8_method_37_code 38 = .ok (.iadd, 1) := by decide +kernel
theorem dM_click_39 : decode prog_8_method_37_code 39 = .ok (.putfield 136, 3) := by decide +kernel
theorem dM_click_42 : decode prog_8_method_37_code 42 = .ok (.aload_n 0, 1) := by decide +kernel
theorem dM_click_43 : decode prog_8_method_37_code 43 = .ok (.iconst 0, 1) := by decide +kernel
theorem dM_click_44 : decode prog_8_method_37_code 44 = .ok (.putfield 139, 3) := by decide +kernel
theorem dM_click_47 : decode prog_8_method_37_code 47 = .ok (.iconst 1, 1) := by decide +kernel
theorem dM_click_48 : decode prog_8_method_37_code 48 = .ok (.ireturn, 1) := by decide +kernel
theorem dM_click_49 : decode prog_8_method_37_code 49 = .ok (.aload_n 0, 1) := by decide +kernel
theorem dM_click_50 : decode prog_8_method_37_code 50 = .ok (.aload_n 0, 1) := by decide +kernel
theorem dM_click_51 : decode prog_8_method_37_code 51 = .ok (.getfield 142, 3) := by decide +kernel
theorem dM_click_54 : decode prog_8_method_37_code 54 = .ok (.iconst 1, 1) := by decide +kernel
theorem dM_click_55 : decode prog_8_method_37_code 55 = .ok (.iadd, 1) := by decide +kernel
theorem dM_click_56 : decode prog_8_method_37_code 56 = .ok (.invokevirtual 145, 3) := by decide +kernel
theorem dM_click_59 : decode prog_8_method_37_code 59 = .ok (.ifCond .ge 5, 3) := by decide +kernel
theorem dM_click_62 : decode prog_8_method_37_code 62 = .ok (.iconst 0, 1) := by decide +kernel
theorem dM_click_63 : decode prog_8_method_37_code 63 = .ok (.ireturn, 1) := by decide +kernel
theorem dM_click_64 : decode prog_8_method_37_code 64 = .ok (.aload_n 0, 1) := by decide +kernel
theorem dM_click_65 : decode prog_8_method_37_code 65 = .ok (.dup, 1) := by decide +kernel
theorem dM_click_66 : decode prog_8_method_37_code 66 = .ok (.getfield 142, 3) := by decide +kernel
theorem dM_click_69 : decode prog_8_method_37_code 69 = .ok (.iconst 1, 1) := by decide +kernel
theorem dM_click_70 : decode prog_8_method_37_code 70 = .ok (.iadd, 1) := by decide +kernel
theorem dM_click_71 : decode prog_8_method_37_code 71 = .ok (.putfield 142, 3) := by decide +kernel
theorem dM_click_74 : decode prog_8_method_37_code 74 = .ok (.aload_n 0, 1) := by decide +kernel
theorem dM_click_75 : decode prog_8_method_37_code 75 = .ok (.iconst 0, 1) := by decide +kernel
theorem dM_click_76 : decode prog_8_method_37_code 76 = .ok (.putfield 136, 3) := by decide +kernel
theorem dM_click_79 : decode prog_8_method_37_code 79 = .ok (.aload_n 0, 1) := by decide +kernel
theorem dM_click_80 : decode prog_8_method_37_code 80 = .ok (.iconst 0, 1) := by decide +kernel
theorem dM_click_81 : decode prog_8_method_37_code 81 = .ok (.putfield 139, 3) := by decide +kernel
theorem dM_click_84 : decode prog_8_method_37_code 84 = .ok (.iconst 1, 1) := by decide +kernel
theorem dM_click_85 : decode prog_8_method_37_code 85 = .ok (.ireturn, 1) := by decide +kernel
theorem dM_lastBuild_0 : decode prog_8_method_32_code 0 = .ok (.iconst 0, 1) := by decide +kernel
theorem dM_lastBuild_1 : decode prog_8_method_32_code 1 = .ok (.istore_n 2, 1) := by decide +kernel
theorem dM_lastBuild_2 : decode prog_8_method_32_code 2 = .ok (.iconst 0, 1) := by decide +kernel
theorem dM_lastBuild_3 : decode prog_8_method_32_code 3 = .ok (.istore_n 3, 1) := by decide +kernel
theorem dM_lastBuild_4 : decode prog_8_method_32_code 4 = .ok (.iload_n 3, 1) := by decide +kernel
theorem dM_lastBuild_5 : decode prog_8_method_32_code 5 = .ok (.aload_n 0, 1) := by decide +kernel
theorem dM_lastBuild_6 : decode prog_8_method_32_code 6 = .ok (.getfield 121, 3) := by decide +kernel
theorem dM_lastBuild_9 : decode prog_8_method_32_code 9 = .ok (.if_icmp .ge 41, 3) := by decide +kernel
theorem dM_lastBuild_12 : decode prog_8_method_32_code 12 = .ok (.aload_n 0, 1) := by decide +kernel
theorem dM_lastBuild_13 : decode prog_8_method_32_code 13 = .ok (.getfield 16, 3) := by decide +kernel
theorem dM_lastBuild_16 : decode prog_8_method_32_code 16 = .ok (.aload_n 0, 1) := by decide +kernel
theorem dM_lastBuild_17 : decode prog_8_method_32_code 17 = .ok (.getfield 45, 3) := by decide +kernel
theorem dM_lastBuild_20 : decode prog_8_method_32_code 20 = .ok (.iload_n 3, 1) := by decide +kernel
theorem dM_lastBuild_21 : decode prog_8_method_32_code 21 = .ok (.iaload, 1) := by decide +kernel
theorem dM_lastBuild_22 : decode prog_8_method_32_code 22 = .ok (.iaload, 1) := by decide +kernel
theorem dM_lastBuild_23 : decode prog_8_method_32_code 23 = .ok (.iload_n 1, 1) := by decide +kernel
theorem dM_lastBuild_24 : decode prog_8_method_32_code 24 = .ok (.if_icmp .ne 18, 3) := by decide +kernel
theorem dM_lastBuild_27 : decode prog_8_method_32_code 27 = .ok (.aload_n 0, 1) := by decide +kernel
theorem dM_lastBuild_28 : decode prog_8_method_32_code 28 = .ok (.getfield 51, 3) := by decide +kernel
theorem dM_lastBuild_31 : decode prog_8_method_32_code 31 = .ok (.iload_n 3, 1) := by decide +kernel
theorem dM_lastBuild_32 : decode prog_8_method_32_code 32 = .ok (.iaload, 1) := by decide +kernel
theorem dM_lastBuild_33 : decode prog_8_method_32_code 33 = .ok (.ifCond .ne 9, 3) := by decide +kernel
theorem dM_lastBuild_36 : decode prog_8_method_32_code 36 = .ok (.iload_n 2, 1) := by decide +kernel
theorem dM_lastBuild_37 : decode prog_8_method_32_code 37 = .ok (.iconst 1, 1) := by decide +kernel
theorem dM_lastBuild_38 : decode prog_8_method_32_code 38 = .ok (.iadd, 1) := by decide +kernel
theorem dM_lastBuild_39 : decode prog_8_method_32_code 39 = .ok (.goto 4, 3) := by decide +kernel
theorem dM_lastBuild_42 : decode prog_8_method_32_code 42 = .ok (.iload_n 2, 1) := by decide +kernel
theorem dM_lastBuild_43 : decode prog_8_method_32_code 43 = .ok (.istore_n 2, 1) := by decide +kernel
theorem dM_lastBuild_44 : decode prog_8_method_32_code 44 = .ok (.iinc 3 1, 3) := by decide +kernel
theorem dM_lastBuild_47 : decode prog_8_method_32_code 47 = .ok (.goto (-43), 3) := by decide +kernel
theorem dM_lastBuild_50 : decode prog_8_method_32_code 50 = .ok (.iload_n 2, 1) := by decide +kernel
theorem dM_lastBuild_51 : decode prog_8_method_32_code 51 = .ok (.ireturn, 1) := by decide +kernel
theorem dM_back_0 : decode prog_8_method_38_code 0 = .ok (.aload_n 0, 1) := by decide +kernel
theorem dM_back_1 : decode prog_8_method_38_code 1 = .ok (.iconst 0, 1) := by decide +kernel
theorem dM_back_2 : decode prog_8_method_38_code 2 = .ok (.putfield 75, 3) := by decide +kernel
theorem dM_back_5 : decode prog_8_method_38_code 5 = .ok (.aload_n 0, 1) := by decide +kernel
theorem dM_back_6 : decode prog_8_method_38_code 6 = .ok (.getfield 136, 3) := by decide +kernel
theorem dM_back_9 : decode prog_8_method_38_code 9 = .ok (.ifCond .le 35, 3) := by decide +kernel
theorem dM_back_12 : decode prog_8_method_38_code 12 = .ok (.aload_n 0, 1) := by decide +kernel
theorem dM_back_13 : decode prog_8_method_38_code 13 = .ok (.dup, 1) := by decide +kernel
theorem dM_back_14 : decode prog_8_method_38_code 14 = .ok (.getfield 136, 3) := by decide +kernel
theorem dM_back_17 : decode prog_8_method_38_code 17 = .ok (.iconst 1, 1) := by decide +kernel
theorem dM_back_18 : decode prog_8_method_38_code 18 = .ok (.isub, 1) := by decide +kernel
theorem dM_back_19 : decode prog_8_method_38_code 19 = .ok (.putfield 136, 3) := by decide +kernel
theorem dM_back_22 : decode prog_8_method_38_code 22 = .ok (.aload_n 0, 1) := by decide +kernel
theorem dM_back_23 : decode prog_8_method_38_code 23 = .ok (.aload_n 0, 1) := by decide +kernel
theorem dM_back_24 : decode prog_8_method_38_code 24 = .ok (.aload_n 0, 1) := by decide +kernel
theorem dM_back_25 : decode prog_8_method_38_code 25 = .ok (.aload_n 0, 1) := by decide +kernel
theorem dM_back_26 : decode prog_8_method_38_code 26 = .ok (.getfield 142, 3) := by decide +kernel
theorem dM_back_29 : decode prog_8_method_38_code 29 = .ok (.invokevirtual 145, 3) := by decide +kernel
theorem dM_back_32 : decode prog_8_method_38_code 32 = .ok (.aload_n 0, 1) := by decide +kernel
theorem dM_back_33 : decode prog_8_method_38_code 33 = .ok (.getfield 136, 3) := by decide +kernel
theorem dM_back_36 : decode prog_8_method_38_code 36 = .ok (.invokevirtual 154, 3) := by decide +kernel
theorem dM_back_39 : decode prog_8_method_38_code 39 = .ok (.putfield 139, 3) := by decide +kernel
theorem dM_back_42 : decode prog_8_method_38_code 42 = .ok (.iconst 1, 1) := by decide +kernel
theorem dM_back_43 : decode prog_8_method_38_code 43 = .ok (.ireturn, 1) := by decide +kernel
theorem dM_back_44 : decode prog_8_method_38_code 44 = .ok (.aload_n 0, 1) := by decide +kernel
theorem dM_back_45 : decode prog_8_method_38_code 45 = .ok (.getfield 142, 3) := by decide +kernel
theorem dM_back_48 : decode prog_8_method_38_code 48 = .ok (.ifCond .ne 5, 3) := by decide +kernel
theorem dM_back_51 : decode prog_8_method_38_code 51 = .ok (.iconst 0, 1) := by decide +kernel
theorem dM_back_52 : decode prog_8_method_38_code 52 = .ok (.ireturn, 1) := by decide +kernel
theorem dM_back_53 : decode prog_8_method_38_code 53 = .ok (.aload_n 0, 1) := by decide +kernel
theorem dM_back_54 : decode prog_8_method_38_code 54 = .ok (.dup, 1) := by decide +kernel
theorem dM_back_55 : decode prog_8_method_38_code 55 = .ok (.getfield 142, 3) := by decide +kernel
theorem dM_back_58 : decode prog_8_method_38_code 58 = .ok (.iconst 1, 1) := by decide +kernel
theorem dM_back_59 : decode prog_8_method_38_code 59 = .ok (.isub, 1) := by decide +kernel
theorem dM_back_60 : decode prog_8_method_38_code 60 = .ok (.putfield 142, 3) := by decide +kernel
theorem dM_back_63 : decode prog_8_method_38_code 63 = .ok (.aload_n 0, 1) := by decide +kernel
theorem dM_back_64 : decode prog_8_method_38_code 64 = .ok (.aload_n 0, 1) := by decide +kernel
theorem dM_back_65 : decode prog_8_method_38_code 65 = .ok (.aload_n 0, 1) := by decide +kernel
theorem dM_back_66 : decode prog_8_method_38_code 66 = .ok (.aload_n 0, 1) := by decide +kernel
theorem dM_back_67 : decode prog_8_method_38_code 67 = .ok (.getfield 142, 3) := by decide +kernel
theorem dM_back_70 : decode prog_8_method_38_code 70 = .ok (.invokevirtual 145, 3) := by decide +kernel
theorem dM_back_73 : decode prog_8_method_38_code 73 = .ok (.invokevirtual 151, 3) := by decide +kernel
theorem dM_back_76 : decode prog_8_method_38_code 76 = .ok (.putfield 136, 3) := by decide +kernel
theorem dM_back_79 : decode prog_8_method_38_code 79 = .ok (.aload_n 0, 1) := by decide +kernel
theorem dM_back_80 : decode prog_8_method_38_code 80 = .ok (.aload_n 0, 1) := by decide +kernel
theorem dM_back_81 : decode prog_8_method_38_code 81 = .ok (.aload_n 0, 1) := by decide +kernel
theorem dM_back_82 : decode prog_8_method_38_code 82 = .ok (.aload_n 0, 1) := by decide +kernel
theorem dM_back_83 : decode prog_8_method_38_code 83 = .ok (.getfield 142, 3) := by decide +kernel
theorem dM_back_86 : decode prog_8_method_38_code 86 = .ok (.invokevirtual 145, 3) := by decide +kernel
theorem dM_back_89 : decode prog_8_method_38_code 89 = .ok (.aload_n 0, 1) := by decide +kernel
theorem dM_back_90 : decode prog_8_method_38_code 90 = .ok (.getfield 136, 3) := by decide +kernel
theorem dM_back_93 : decode prog_8_method_38_code 93 = .ok (.invokevirtual 154, 3) := by decide +kernel
theorem dM_back_96 : decode prog_8_method_38_code 96 = .ok (.putfield 139, 3) := by decide +kernel
theorem dM_back_99 : decode prog_8_method_38_code 99 = .ok (.iconst 1, 1) := by decide +kernel
theorem dM_back_100 : decode prog_8_method_38_code 100 = .ok (.ireturn, 1) := by decide +kernel
theorem dM_length_0 : decode prog_8_method_33_code 0 = .ok (.iconst 0, 1) := by decide +kernel
theorem dM_length_1 : decode prog_8_method_33_code 1 = .ok (.istore_n 3, 1) := by decide +kernel
theorem dM_length_2 : decode prog_8_method_33_code 2 = .ok (.iconst 0, 1) := by decide +kernel
theorem dM_length_3 : decode prog_8_method_33_code 3 = .ok (.istore 4, 2) := by decide +kernel
theorem dM_length_5 : decode prog_8_method_33_code 5 = .ok (.iload 4, 2) := by decide +kernel
theorem dM_length_7 : decode prog_8_method_33_code 7 = .ok (.aload_n 0, 1) := by decide +kernel
theorem dM_length_8 : decode prog_8_method_33_code 8 = .ok (.getfield 121, 3) := by decide +kernel
theorem dM_length_11 : decode prog_8_method_33_code 11 = .ok (.if_icmp .ge 56, 3) := by decide +kernel
theorem dM_length_14 : decode prog_8_method_33_code 14 = .ok (.aload_n 0, 1) := by decide +kernel
theorem dM_length_15 : decode prog_8_method_33_code 15 = .ok (.getfield 16, 3) := by decide +kernel
theorem dM_length_18 : decode prog_8_method_33_code 18 = .ok (.aload_n 0, 1) := by decide +kernel
theorem dM_length_19 : decode prog_8_method_33_code 19 = .ok (.getfield 45, 3) := by decide +kernel
theorem dM_length_22 : decode prog_8_method_33_code 22 = .ok (.iload 4, 2) := by decide +kernel
theorem dM_length_24 : decode prog_8_method_33_code 24 = .ok (.iaload, 1) := by decide +kernel
theorem dM_length_25 : decode prog_8_method_33_code 25 = .ok (.iaload, 1) := by decide +kernel
theorem dM_length_26 : decode prog_8_method_33_code 26 = .ok (.iload_n 1, 1) := by decide +kernel
theorem dM_length_27 : decode prog_8_method_33_code 27 = .ok (.if_icmp .ne 32, 3) := by decide +kernel
theorem dM_length_30 : decode prog_8_method_33_code 30 = .ok (.aload_n 0, 1) := by decide +kernel
theorem dM_length_31 : decode prog_8_method_33_code 31 = .ok (.iload 4, 2) := by decide +kernel
theorem dM_length_33 : decode prog_8_method_33_code 33 = .ok (.invokevirtual 130, 3) := by decide +kernel
theorem dM_length_36 : decode prog_8_method_33_code 36 = .ok (.iload_n 2, 1) := by decide +kernel
theorem dM_length_37 : decode prog_8_method_33_code 37 = .ok (.if_icmp .ne 22, 3) := by decide +kernel
theorem dM_length_40 : decode prog_8_method_33_code 40 = .ok (.aload_n 0, 1) := by decide +kernel
theorem dM_length_41 : decode prog_8_method_33_code 41 = .ok (.iload 4, 2) := by decide +kernel
theorem dM_length_43 : decode prog_8_method_33_code 43 = .ok (.invokevirtual 133, 3) := by decide +kernel
theorem dM_length_46 : decode prog_8_method_33_code 46 = .ok (.iload_n 3, 1) := by decide +kernel
theorem dM_length_47 : decode prog_8_method_33_code 47 = .ok (.if_icmp .le 12, 3) := by decide +kernel
theorem dM_length_50 : decode prog_8_method_33_code 50 = .ok (.aload_n 0, 1) := by decide +kernel
theorem dM_length_51 : decode prog_8_method_33_code 51 = .ok (.iload 4, 2) := by decide +kernel
theorem dM_length_53 : decode prog_8_method_33_code 53 = .ok (.invokevirtual 133, 3) := by decide +kernel
theorem dM_length_56 : decode prog_8_method_33_code 56 = .ok (.goto 4, 3) := by decide +kernel
theorem dM_length_59 : decode prog_8_method_33_code 59 = .ok (.iload_n 3, 1) := by decide +kernel
theorem dM_length_60 : decode prog_8_method_33_code 60 = .ok (.istore_n 3, 1) := by decide +kernel
theorem dM_length_61 : decode prog_8_method_33_code 61 = .ok (.iinc 4 1, 3) := by decide +kernel
theorem dM_length_64 : decode prog_8_method_33_code 64 = .ok (.goto (-59), 3) := by decide +kernel
theorem dM_length_67 : decode prog_8_method_33_code 67 = .ok (.iload_n 3, 1) := by decide +kernel
theorem dM_length_68 : decode prog_8_method_33_code 68 = .ok (.ireturn, 1) := by decide +kernel
theorem dM_jump_0 : decode prog_8_method_39_code 0 = .ok (.aload_n 0, 1) := by decide +kernel
theorem dM_jump_1 : decode prog_8_method_39_code 1 = .ok (.iload_n 1, 1) := by decide +kernel
theorem dM_jump_2 : decode prog_8_method_39_code 2 = .ok (.ifCond .lt 11, 3) := by decide +kernel
theorem dM_jump_5 : decode prog_8_method_39_code 5 = .ok (.aload_n 0, 1) := by decide +kernel
theorem dM_jump_6 : decode prog_8_method_39_code 6 = .ok (.iload_n 1, 1) := by decide +kernel
theorem dM_jump_7 : decode prog_8_method_39_code 7 = .ok (.invokevirtual 145, 3) := by decide +kernel
theorem dM_jump_10 : decode prog_8_method_39_code 10 = .ok (.ifCond .ge 7, 3) := by decide +kernel
theorem dM_jump_13 : decode prog_8_method_39_code 13 = .ok (.iconst 1, 1) := by decide +kernel
theorem dM_jump_14 : decode prog_8_method_39_code 14 = .ok (.goto 4, 3) := by decide +kernel
theorem dM_jump_17 : decode prog_8_method_39_code 17 = .ok (.iconst 0, 1) := by decide +kernel
theorem dM_jump_18 : decode prog_8_method_39_code 18 = .ok (.putfield 75, 3) := by decide +kernel
theorem dM_jump_21 : decode prog_8_method_39_code 21 = .ok (.aload_n 0, 1) := by decide +kernel
theorem dM_jump_22 : decode prog_8_method_39_code 22 = .ok (.getfield 75, 3) := by decide +kernel
theorem dM_jump_25 : decode prog_8_method_39_code 25 = .ok (.ifCond .ne 18, 3) := by decide +kernel
theorem dM_jump_28 : decode prog_8_method_39_code 28 = .ok (.aload_n 0, 1) := by decide +kernel
theorem dM_jump_29 : decode prog_8_method_39_code 29 = .ok (.iload_n 1, 1) := by decide +kernel
theorem dM_jump_30 : decode prog_8_method_39_code 30 = .ok (.putfield 142, 3) := by decide +kernel
theorem dM_jump_33 : decode prog_8_method_39_code 33 = .ok (.aload_n 0, 1) := by decide +kernel
theorem dM_jump_34 : decode prog_8_method_39_code 34 = .ok (.iconst 0, 1) := by decide +kernel
theorem dM_jump_35 : decode prog_8_method_39_code 35 = .ok (.putfield 136, 3) := by decide +kernel
theorem dM_jump_38 : decode prog_8_method_39_code 38 = .ok (.aload_n 0, 1) := by decide +kernel
theorem dM_jump_39 : decode prog_8_method_39_code 39 = .ok (.iconst 0, 1) := by decide +kernel
theorem dM_jump_40 : decode prog_8_method_39_code 40 = .ok (.putfield 139, 3) := by decide +kernel
theorem dM_jump_43 : decode prog_8_method_39_code 43 = .ok (.return_, 1) := by decide +kernel
theorem dM_tick_0 : decode prog_8_method_40_code 0 = .ok (.aload_n 0, 1) := by decide +kernel
theorem dM_tick_1 : decode prog_8_method_40_code 1 = .ok (.iload_n 1, 1) := by decide +kernel
theorem dM_tick_2 : decode prog_8_method_40_code 2 = .ok (.ifCond .lt 10, 3) := by decide +kernel
theorem dM_tick_5 : decode prog_8_method_40_code 5 = .ok (.iload_n 1, 1) := by decide +kernel
theorem dM_tick_6 : decode prog_8_method_40_code 6 = .ok (.sipush 1000, 3) := by decide +kernel
theorem dM_tick_9 : decode prog_8_method_40_code 9 = .ok (.if_icmp .le 7, 3) := by decide +kernel
theorem dM_tick_12 : decode prog_8_method_40_code 12 = .ok (.iconst 1, 1) := by decide +kernel
theorem dM_tick_13 : decode prog_8_method_40_code 13 = .ok (.goto 4, 3) := by decide +kernel
theorem dM_tick_16 : decode prog_8_method_40_code 16 = .ok (.iconst 0, 1) := by decide +kernel
theorem dM_tick_17 : decode prog_8_method_40_code 17 = .ok (.putfield 75, 3) := by decide +kernel
theorem dM_tick_20 : decode prog_8_method_40_code 20 = .ok (.aload_n 0, 1) := by decide +kernel
theorem dM_tick_21 : decode prog_8_method_40_code 21 = .ok (.getfield 75, 3) := by decide +kernel
theorem dM_tick_24 : decode prog_8_method_40_code 24 = .ok (.ifCond .ne 29, 3) := by decide +kernel
theorem dM_tick_27 : decode prog_8_method_40_code 27 = .ok (.aload_n 0, 1) := by decide +kernel
theorem dM_tick_28 : decode prog_8_method_40_code 28 = .ok (.aload_n 0, 1) := by decide +kernel
theorem dM_tick_29 : decode prog_8_method_40_code 29 = .ok (.getfield 139, 3) := by decide +kernel
theorem dM_tick_32 : decode prog_8_method_40_code 32 = .ok (.iload_n 1, 1) := by decide +kernel
theorem dM_tick_33 : decode prog_8_method_40_code 33 = .ok (.iadd, 1) := by decide +kernel
theorem dM_tick_34 : decode prog_8_method_40_code 34 = .ok (.ldc 157, 2) := by decide +kernel
theorem dM_tick_36 : decode prog_8_method_40_code 36 = .ok (.if_icmp .le 8, 3) := by decide +kernel
theorem dM_tick_39 : decode prog_8_method_40_code 39 = .ok (.ldc 157, 2) := by decide +kernel
theorem dM_tick_41 : decode prog_8_method_40_code 41 = .ok (.goto 9, 3) := by decide +kernel
theorem dM_tick_44 : decode prog_8_method_40_code 44 = .ok (.aload_n 0, 1) := by decide +kernel
theorem dM_tick_45 : decode prog_8_method_40_code 45 = .ok (.getfield 139, 3) := by decide +kernel
theorem dM_tick_48 : decode prog_8_method_40_code 48 = .ok (.iload_n 1, 1) := by decide +kernel
theorem dM_tick_49 : decode prog_8_method_40_code 49 = .ok (.iadd, 1) := by decide +kernel
theorem dM_tick_50 : decode prog_8_method_40_code 50 = .ok (.putfield 139, 3) := by decide +kernel
theorem dM_tick_53 : decode prog_8_method_40_code 53 = .ok (.return_, 1) := by decide +kernel
theorem dM_state_0 : decode prog_8_method_41_code 0 = .ok (.aload_n 0, 1) := by decide +kernel
theorem dM_state_1 : decode prog_8_method_41_code 1 = .ok (.iconst 0, 1) := by decide +kernel
theorem dM_state_2 : decode prog_8_method_41_code 2 = .ok (.putfield 75, 3) := by decide +kernel
theorem dM_state_5 : decode prog_8_method_41_code 5 = .ok (.aload_n 0, 1) := by decide +kernel
theorem dM_state_6 : decode prog_8_method_41_code 6 = .ok (.aload_n 0, 1) := by decide +kernel
theorem dM_state_7 : decode prog_8_method_41_code 7 = .ok (.getfield 142, 3) := by decide +kernel
theorem dM_state_10 : decode prog_8_method_41_code 10 = .ok (.invokevirtual 145, 3) := by decide +kernel
theorem dM_state_13 : decode prog_8_method_41_code 13 = .ok (.istore_n 2, 1) := by decide +kernel
theorem dM_state_14 : decode prog_8_method_41_code 14 = .ok (.iload_n 1, 1) := by decide +kernel
theorem dM_state_15 : decode prog_8_method_41_code 15 = .ok (.tableswitch 88 0 4 #[33, 46, 51, 56, 70], 33) := by decide +kernel
theorem dM_state_48 : decode prog_8_method_41_code 48 = .ok (.iload_n 2, 1) := by decide +kernel
theorem dM_state_49 : decode prog_8_method_41_code 49 = .ok (.ifCond .ge 7, 3) := by decide +kernel
theorem dM_state_52 : decode prog_8_method_41_code 52 = .ok (.iconst (-1), 1) := by decide +kernel
theorem dM_state_53 : decode prog_8_method_41_code 53 = .ok (.goto 7, 3) := by decide +kernel
theorem dM_state_56 : decode prog_8_method_41_code 56 = .ok (.aload_n 0, 1) := by decide +kernel
theorem dM_state_57 : decode prog_8_method_41_code 57 = .ok (.getfield 142, 3) := by decide +kernel
theorem dM_state_60 : decode prog_8_method_41_code 60 = .ok (.ireturn, 1) := by decide +kernel
theorem dM_state_61 : decode prog_8_method_41_code 61 = .ok (.aload_n 0, 1) := by decide +kernel
theorem dM_state_62 : decode prog_8_method_41_code 62 = .ok (.getfield 136, 3) := by decide +kernel
theorem dM_state_65 : decode prog_8_method_41_code 65 = .ok (.ireturn, 1) := by decide +kernel
theorem dM_state_66 : decode prog_8_method_41_code 66 = .ok (.aload_n 0, 1) := by decide +kernel
theorem dM_state_67 : decode prog_8_method_41_code 67 = .ok (.getfield 139, 3) := by decide +kernel
theorem dM_state_70 : decode prog_8_method_41_code 70 = .ok (.ireturn, 1) := by decide +kernel
theorem dM_state_71 : decode prog_8_method_41_code 71 = .ok (.iload_n 2, 1) := by decide +kernel
theorem dM_state_72 : decode prog_8_method_41_code 72 = .ok (.ifCond .ge 7, 3) := by decide +kernel
theorem dM_state_75 : decode prog_8_method_41_code 75 = .ok (.iconst 0, 1) := by decide +kernel
theorem dM_state_76 : decode prog_8_method_41_code 76 = .ok (.goto 8, 3) := by decide +kernel
theorem dM_state_79 : decode prog_8_method_41_code 79 = .ok (.aload_n 0, 1) := by decide +kernel
theorem dM_state_80 : decode prog_8_method_41_code 80 = .ok (.iload_n 2, 1) := by decide +kernel
theorem dM_state_81 : decode prog_8_method_41_code 81 = .ok (.invokevirtual 151, 3) := by decide +kernel
theorem dM_state_84 : decode prog_8_method_41_code 84 = .ok (.ireturn, 1) := by decide +kernel
theorem dM_state_85 : decode prog_8_method_41_code 85 = .ok (.iload_n 2, 1) := by decide +kernel
theorem dM_state_86 : decode prog_8_method_41_code 86 = .ok (.ifCond .ge 7, 3) := by decide +kernel
theorem dM_state_89 : decode prog_8_method_41_code 89 = .ok (.iconst 0, 1) := by decide +kernel
theorem dM_state_90 : decode prog_8_method_41_code 90 = .ok (.goto 12, 3) := by decide +kernel
theorem dM_state_93 : decode prog_8_method_41_code 93 = .ok (.aload_n 0, 1) := by decide +kernel
theorem dM_state_94 : decode prog_8_method_41_code 94 = .ok (.iload_n 2, 1) := by decide +kernel
theorem dM_state_95 : decode prog_8_method_41_code 95 = .ok (.aload_n 0, 1) := by decide +kernel
theorem dM_state_96 : decode prog_8_method_41_code 96 = .ok (.getfield 136, 3) := by decide +kernel
theorem dM_state_99 : decode prog_8_method_41_code 99 = .ok (.invokevirtual 154, 3) := by decide +kernel
theorem dM_state_102 : decode prog_8_method_41_code 102 = .ok (.ireturn, 1) := by decide +kernel
theorem dM_state_103 : decode prog_8_method_41_code 103 = .ok (.iconst (-1), 1) := by decide +kernel
theorem dM_state_104 : decode prog_8_method_41_code 104 = .ok (.ireturn, 1) := by decide +kernel
theorem dM_now_0 : decode prog_8_method_46_code 0 = .ok (.aload_n 0, 1) := by decide +kernel
theorem dM_now_1 : decode prog_8_method_46_code 1 = .ok (.aload_n 0, 1) := by decide +kernel
theorem dM_now_2 : decode prog_8_method_46_code 2 = .ok (.iload_n 1, 1) := by decide +kernel
theorem dM_now_3 : decode prog_8_method_46_code 3 = .ok (.invokevirtual 98, 3) := by decide +kernel
theorem dM_now_6 : decode prog_8_method_46_code 6 = .ok (.ifCond .eq 7, 3) := by decide +kernel
theorem dM_now_9 : decode prog_8_method_46_code 9 = .ok (.iconst 1, 1) := by decide +kernel
theorem dM_now_10 : decode prog_8_method_46_code 10 = .ok (.goto 15, 3) := by decide +kernel
theorem dM_now_13 : decode prog_8_method_46_code 13 = .ok (.iload_n 2, 1) := by decide +kernel
theorem dM_now_14 : decode prog_8_method_46_code 14 = .ok (.invokestatic 101, 3) := by decide +kernel
theorem dM_now_17 : decode prog_8_method_46_code 17 = .ok (.ifCond .eq 7, 3) := by decide +kernel
theorem dM_now_20 : decode prog_8_method_46_code 20 = .ok (.iconst 2, 1) := by decide +kernel
theorem dM_now_21 : decode prog_8_method_46_code 21 = .ok (.goto 4, 3) := by decide +kernel
theorem dM_now_24 : decode prog_8_method_46_code 24 = .ok (.iconst 0, 1) := by decide +kernel
theorem dM_now_25 : decode prog_8_method_46_code 25 = .ok (.putfield 75, 3) := by decide +kernel
theorem dM_now_28 : decode prog_8_method_46_code 28 = .ok (.aload_n 0, 1) := by decide +kernel
theorem dM_now_29 : decode prog_8_method_46_code 29 = .ok (.getfield 75, 3) := by decide +kernel
theorem dM_now_32 : decode prog_8_method_46_code 32 = .ok (.ifCond .le 7, 3) := by decide +kernel
theorem dM_now_35 : decode prog_8_method_46_code 35 = .ok (.iconst 0, 1) := by decide +kernel
theorem dM_now_36 : decode prog_8_method_46_code 36 = .ok (.goto 9, 3) := by decide +kernel
theorem dM_now_39 : decode prog_8_method_46_code 39 = .ok (.aload_n 0, 1) := by decide +kernel
theorem dM_now_40 : decode prog_8_method_46_code 40 = .ok (.iload_n 1, 1) := by decide +kernel
theorem dM_now_41 : decode prog_8_method_46_code 41 = .ok (.iload_n 2, 1) := by decide +kernel
theorem dM_now_42 : decode prog_8_method_46_code 42 = .ok (.invokevirtual 167, 3) := by decide +kernel
theorem dM_now_45 : decode prog_8_method_46_code 45 = .ok (.ireturn, 1) := by decide +kernel
theorem dM_valueNow_0 : decode prog_8_method_45_code 0 = .ok (.aload_n 0, 1) := by decide +kernel
theorem dM_valueNow_1 : decode prog_8_method_45_code 1 = .ok (.iload_n 1, 1) := by decide +kernel
theorem dM_valueNow_2 : decode prog_8_method_45_code 2 = .ok (.iload_n 2, 1) := by decide +kernel
theorem dM_valueNow_3 : decode prog_8_method_45_code 3 = .ok (.invokevirtual 107, 3) := by decide +kernel
theorem dM_valueNow_6 : decode prog_8_method_45_code 6 = .ok (.istore_n 3, 1) := by decide +kernel
theorem dM_valueNow_7 : decode prog_8_method_45_code 7 = .ok (.aload_n 0, 1) := by decide +kernel
theorem dM_valueNow_8 : decode prog_8_method_45_code 8 = .ok (.getfield 16, 3) := by decide +kernel
theorem dM_valueNow_11 : decode prog_8_method_45_code 11 = .ok (.iload_n 1, 1) := by decide +kernel
theorem dM_valueNow_12 : decode prog_8_method_45_code 12 = .ok (.iaload, 1) := by decide +kernel
theorem dM_valueNow_13 : decode prog_8_method_45_code 13 = .ok (.aload_n 0, 1) := by decide +kernel
theorem dM_valueNow_14 : decode prog_8_method_45_code 14 = .ok (.aload_n 0, 1) := by decide +kernel
theorem dM_valueNow_15 : decode prog_8_method_45_code 15 = .ok (.getfield 142, 3) := by decide +kernel
theorem dM_valueNow_18 : decode prog_8_method_45_code 18 = .ok (.invokevirtual 145, 3) := by decide +kernel
theorem dM_valueNow_21 : decode prog_8_method_45_code 21 = .ok (.if_icmp .eq 5, 3) := by decide +kernel
theorem dM_valueNow_24 : decode prog_8_method_45_code 24 = .ok (.iload_n 3, 1) := by decide +kernel
theorem dM_valueNow_25 : decode prog_8_method_45_code 25 = .ok (.ireturn, 1) := by decide +kernel
theorem dM_valueNow_26 : decode prog_8_method_45_code 26 = .ok (.iload_n 2, 1) := by decide +kernel
theorem dM_valueNow_27 : decode prog_8_method_45_code 27 = .ok (.ifCond .ne 14, 3) := by decide +kernel
theorem dM_valueNow_30 : decode prog_8_method_45_code 30 = .ok (.iload_n 3, 1) := by decide +kernel
theorem dM_valueNow_31 : decode prog_8_method_45_code 31 = .ok (.aload_n 0, 1) := by decide +kernel
theorem dM_valueNow_32 : decode prog_8_method_45_code 32 = .ok (.iload_n 1, 1) := by decide +kernel
theorem dM_valueNow_33 : decode prog_8_method_45_code 33 = .ok (.iconst 2, 1) := by decide +kernel
theorem dM_valueNow_34 : decode prog_8_method_45_code 34 = .ok (.invokevirtual 161, 3) := by decide +kernel
theorem dM_valueNow_37 : decode prog_8_method_45_code 37 = .ok (.iadd, 1) := by decide +kernel
theorem dM_valueNow_38 : decode prog_8_method_45_code 38 = .ok (.goto 34, 3) := by decide +kernel
theorem dM_valueNow_41 : decode prog_8_method_45_code 41 = .ok (.iload_n 2, 1) := by decide +kernel
theorem dM_valueNow_42 : decode prog_8_method_45_code 42 = .ok (.iconst 1, 1) := by decide +kernel
theorem dM_valueNow_43 : decode prog_8_method_45_code 43 = .ok (.if_icmp .ne 14, 3) := by decide +kernel
theorem dM_valueNow_46 : decode prog_8_method_45_code 46 = .ok (.iload_n 3, 1) := by decide +kernel
theorem dM_valueNow_47 : decode prog_8_method_45_code 47 = .ok (.aload_n 0, 1) := by decide +kernel
theorem dM_valueNow_48 : decode prog_8_method_45_code 48 = .ok (.iload_n 1, 1) := by decide +kernel
theorem dM_valueNow_49 : decode prog_8_method_45_code 49 = .ok (.iconst 3, 1) := by decide +kernel
theorem dM_valueNow_50 : decode prog_8_method_45_code 50 = .ok (.invokevirtual 161, 3) := by decide +kernel
theorem dM_valueNow_53 : decode prog_8_method_45_code 53 = .ok (.iadd, 1) := by decide +kernel
theorem dM_valueNow_54 : decode prog_8_method_45_code 54 = .ok (.goto 18, 3) := by decide +kernel
theorem dM_valueNow_57 : decode prog_8_method_45_code 57 = .ok (.iload_n 2, 1) := by decide +kernel
theorem dM_valueNow_58 : decode prog_8_method_45_code 58 = .ok (.iconst 5, 1) := by decide +kernel
theorem dM_valueNow_59 : decode prog_8_method_45_code 59 = .ok (.if_icmp .ne 12, 3) := by decide +kernel
theorem dM_valueNow_62 : decode prog_8_method_45_code 62 = .ok (.aload_n 0, 1) := by decide +kernel
theorem dM_valueNow_63 : decode prog_8_method_45_code 63 = .ok (.iload_n 1, 1) := by decide +kernel
theorem dM_valueNow_64 : decode prog_8_method_45_code 64 = .ok (.iload_n 3, 1) := by decide +kernel
theorem dM_valueNow_65 : decode prog_8_method_45_code 65 = .ok (.invokevirtual 164, 3) := by decide +kernel
theorem dM_valueNow_68 : decode prog_8_method_45_code 68 = .ok (.goto 4, 3) := by decide +kernel
theorem dM_valueNow_71 : decode prog_8_method_45_code 71 = .ok (.iload_n 3, 1) := by decide +kernel
theorem dM_valueNow_72 : decode prog_8_method_45_code 72 = .ok (.ireturn, 1) := by decide +kernel
theorem dM_moved_0 : decode prog_8_method_43_code 0 = .ok (.iconst 0, 1) := by decide +kernel
theorem dM_moved_1 : decode prog_8_method_43_code 1 = .ok (.istore_n 3, 1) := by decide +kernel
theorem dM_moved_2 : decode prog_8_method_43_code 2 = .ok (.iconst 0, 1) := by decide +kernel
theorem dM_moved_3 : decode prog_8_method_43_code 3 = .ok (.istore 4, 2) := by decide +kernel
theorem dM_moved_5 : decode prog_8_method_43_code 5 = .ok (.iload 4, 2) := by decide +kernel
theorem dM_moved_7 : decode prog_8_method_43_code 7 = .ok (.aload_n 0, 1) := by decide +kernel
theorem dM_moved_8 : decode prog_8_method_43_code 8 = .ok (.getfield 121, 3) := by decide +kernel
theorem dM_moved_11 : decode prog_8_method_43_code 11 = .ok (.if_icmp .ge 83, 3) := by decide +kernel
theorem dM_moved_14 : decode prog_8_method_43_code 14 = .ok (.aload_n 0, 1) := by decide +kernel
theorem dM_moved_15 : decode prog_8_method_43_code 15 = .ok (.getfield 45, 3) := by decide +kernel
theorem dM_moved_18 : decode prog_8_method_43_code 18 = .ok (.iload 4, 2) := by decide +kernel
theorem dM_moved_20 : decode prog_8_method_43_code 20 = .ok (.iaload, 1) := by decide +kernel
theorem dM_moved_21 : decode prog_8_method_43_code 21 = .ok (.iload_n 1, 1) := by decide +kernel
theorem dM_moved_22 : decode prog_8_method_43_code 22 = .ok (.if_icmp .ne 66, 3) := by decide +kernel
theorem dM_moved_25 : decode prog_8_method_43_code 25 = .ok (.aload_n 0, 1) := by decide +kernel
theorem dM_moved_26 : decode prog_8_method_43_code 26 = .ok (.getfield 48, 3) := by decide +kernel
theorem dM_moved_29 : decode prog_8_method_43_code 29 = .ok (.iload 4, 2) := by decide +kernel
theorem dM_moved_31 : decode prog_8_method_43_code 31 = .ok (.iaload, 1) := by decide +kernel
theorem dM_moved_32 : decode prog_8_method_43_code 32 = .ok (.iload_n 2, 1) := by decide +kernel
theorem dM_moved_33 : decode prog_8_method_43_code 33 = .ok (.if_icmp .ne 55, 3) := by decide +kernel
theorem dM_moved_36 : decode prog_8_method_43_code 36 = .ok (.aload_n 0, 1) := by decide +kernel
theorem dM_moved_37 : decode prog_8_method_43_code 37 = .ok (.iload 4, 2) := by decide +kernel
theorem dM_moved_39 : decode prog_8_method_43_code 39 = .ok (.invokevirtual 148, 3) := by decide +kernel
theorem dM_moved_42 : decode prog_8_method_43_code 42 = .ok (.istore 5, 2) := by decide +kernel
theorem dM_moved_44 : decode prog_8_method_43_code 44 = .ok (.iload 5, 2) := by decide +kernel
theorem dM_moved_46 : decode prog_8_method_43_code 46 = .ok (.iconst 2, 1) := by decide +kernel
theorem dM_moved_47 : decode prog_8_method_43_code 47 = .ok (.if_icmp .ne 15, 3) := by decide +kernel
theorem dM_moved_50 : decode prog_8_method_43_code 50 = .ok (.iload_n 3, 1) := by decide +kernel
theorem dM_moved_51 : decode prog_8_method_43_code 51 = .ok (.aload_n 0, 1) := by decide +kernel
theorem dM_moved_52 : decode prog_8_method_43_code 52 = .ok (.getfield 60, 3) := by decide +kernel
theorem dM_moved_55 : decode prog_8_method_43_code 55 = .ok (.iload 4, 2) := by decide +kernel
theorem dM_moved_57 : decode prog_8_method_43_code 57 = .ok (.iaload, 1) := by decide +kernel
theorem dM_moved_58 : decode prog_8_method_43_code 58 = .ok (.iadd, 1) := by decide +kernel
theorem dM_moved_59 : decode prog_8_method_43_code 59 = .ok (.goto 28, 3) := by decide +kernel
theorem dM_moved_62 : decode prog_8_method_43_code 62 = .ok (.iload 5, 2) := by decide +kernel
theorem dM_moved_64 : decode prog_8_method_43_code 64 = .ok (.iconst 1, 1) := by decide +kernel
theorem dM_moved_65 : decode prog_8_method_43_code 65 = .ok (.if_icmp .ne 21, 3) := by decide +kernel
theorem dM_moved_68 : decode prog_8_method_43_code 68 = .ok (.iload_n 3, 1) := by decide +kernel
theorem dM_moved_69 : decode prog_8_method_43_code 69 = .ok (.aload_n 0, 1) := by decide +kernel
theorem dM_moved_70 : decode prog_8_method_43_code 70 = .ok (.aload_n 0, 1) := by decide +kernel
theorem dM_moved_71 : decode prog_8_method_43_code 71 = .ok (.getfield 60, 3) := by decide +kernel
theorem dM_moved_74 : decode prog_8_method_43_code 74 = .ok (.iload 4, 2) := by decide +kernel
theorem dM_moved_76 : decode prog_8_method_43_code 76 = .ok (.iaload, 1) := by decide +kernel
theorem dM_moved_77 : decode prog_8_method_43_code 77 = .ok (.iload 4, 2) := by decide +kernel
theorem dM_moved_79 : decode prog_8_method_43_code 79 = .ok (.invokevirtual 158, 3) := by decide +kernel
theorem dM_moved_82 : decode prog_8_method_43_code 82 = .ok (.iadd, 1) := by decide +kernel
theorem dM_moved_83 : decode prog_8_method_43_code 83 = .ok (.goto 4, 3) := by decide +kernel
theorem dM_moved_86 : decode prog_8_method_43_code 86 = .ok (.iload_n 3, 1) := by decide +kernel
theorem dM_moved_87 : decode prog_8_method_43_code 87 = .ok (.istore_n 3, 1) := by decide +kernel
theorem dM_moved_88 : decode prog_8_method_43_code 88 = .ok (.iinc 4 1, 3) := by decide +kernel
theorem dM_moved_91 : decode prog_8_method_43_code 91 = .ok (.goto (-86), 3) := by decide +kernel
theorem dM_moved_94 : decode prog_8_method_43_code 94 = .ok (.iload_n 3, 1) := by decide +kernel
theorem dM_moved_95 : decode prog_8_method_43_code 95 = .ok (.ireturn, 1) := by decide +kernel
theorem dM_part_0 : decode prog_8_method_42_code 0 = .ok (.iload_n 1, 1) := by decide +kernel
theorem dM_part_1 : decode prog_8_method_42_code 1 = .ok (.aload_n 0, 1) := by decide +kernel
theorem dM_part_2 : decode prog_8_method_42_code 2 = .ok (.getfield 139, 3) := by decide +kernel
theorem dM_part_5 : decode prog_8_method_42_code 5 = .ok (.aload_n 0, 1) := by decide +kernel
theorem dM_part_6 : decode prog_8_method_42_code 6 = .ok (.iload_n 2, 1) := by decide +kernel
theorem dM_part_7 : decode prog_8_method_42_code 7 = .ok (.invokevirtual 127, 3) := by decide +kernel
theorem dM_part_10 : decode prog_8_method_42_code 10 = .ok (.isub, 1) := by decide +kernel
theorem dM_part_11 : decode prog_8_method_42_code 11 = .ok (.imul, 1) := by decide +kernel
theorem dM_part_12 : decode prog_8_method_42_code 12 = .ok (.aload_n 0, 1) := by decide +kernel
theorem dM_part_13 : decode prog_8_method_42_code 13 = .ok (.getfield 57, 3) := by decide +kernel
theorem dM_part_16 : decode prog_8_method_42_code 16 = .ok (.iload_n 2, 1) := by decide +kernel
theorem dM_part_17 : decode prog_8_method_42_code 17 = .ok (.iaload, 1) := by decide +kernel
theorem dM_part_18 : decode prog_8_method_42_code 18 = .ok (.idiv, 1) := by decide +kernel
theorem dM_part_19 : decode prog_8_method_42_code 19 = .ok (.ireturn, 1) := by decide +kernel
theorem dM_shown_0 : decode prog_8_method_44_code 0 = .ok (.iload_n 2, 1) := by decide +kernel
theorem dM_shown_1 : decode prog_8_method_44_code 1 = .ok (.istore_n 3, 1) := by decide +kernel
theorem dM_shown_2 : decode prog_8_method_44_code 2 = .ok (.iconst 1, 1) := by decide +kernel
theorem dM_shown_3 : decode prog_8_method_44_code 3 = .ok (.istore 4, 2) := by decide +kernel
theorem dM_shown_5 : decode prog_8_method_44_code 5 = .ok (.iconst 0, 1) := by decide +kernel
theorem dM_shown_6 : decode prog_8_method_44_code 6 = .ok (.istore 5, 2) := by decide +kernel
theorem dM_shown_8 : decode prog_8_method_44_code 8 = .ok (.iload 5, 2) := by decide +kernel
theorem dM_shown_10 : decode prog_8_method_44_code 10 = .ok (.aload_n 0, 1) := by decide +kernel
theorem dM_shown_11 : decode prog_8_method_44_code 11 = .ok (.getfield 121, 3) := by decide +kernel
theorem dM_shown_14 : decode prog_8_method_44_code 14 = .ok (.if_icmp .ge 114, 3) := by decide +kernel
theorem dM_shown_17 : decode prog_8_method_44_code 17 = .ok (.aload_n 0, 1) := by decide +kernel
theorem dM_shown_18 : decode prog_8_method_44_code 18 = .ok (.getfield 45, 3) := by decide +kernel
theorem dM_shown_21 : decode prog_8_method_44_code 21 = .ok (.iload 5, 2) := by decide +kernel
theorem dM_shown_23 : decode prog_8_method_44_code 23 = .ok (.iaload, 1) := by decide +kernel
theorem dM_shown_24 : decode prog_8_method_44_code 24 = .ok (.iload_n 1, 1) := by decide +kernel
theorem dM_shown_25 : decode prog_8_method_44_code 25 = .ok (.if_icmp .ne 97, 3) := by decide +kernel
theorem dM_shown_28 : decode prog_8_method_44_code 28 = .ok (.aload_n 0, 1) := by decide +kernel
theorem dM_shown_29 : decode prog_8_method_44_code 29 = .ok (.getfield 48, 3) := by decide +kernel
theorem dM_shown_32 : decode prog_8_method_44_code 32 = .ok (.iload 5, 2) := by decide +kernel
theorem dM_shown_34 : decode prog_8_method_44_code 34 = .ok (.iaload, 1) := by decide +kernel
theorem dM_shown_35 : decode prog_8_method_44_code 35 = .ok (.iconst 1, 1) := by decide +kernel
theorem dM_shown_36 : decode prog_8_method_44_code 36 = .ok (.if_icmp .gt 86, 3) := by decide +kernel
theorem dM_shown_39 : decode prog_8_method_44_code 39 = .ok (.aload_n 0, 1) := by decide +kernel
theorem dM_shown_40 : decode prog_8_method_44_code 40 = .ok (.getfield 48, 3) := by decide +kernel
theorem dM_shown_43 : decode prog_8_method_44_code 43 = .ok (.iload 5, 2) := by decide +kernel
theorem dM_shown_45 : decode prog_8_method_44_code 45 = .ok (.iaload, 1) := by decide +kernel
theorem dM_shown_46 : decode prog_8_method_44_code 46 = .ok (.ifCond .ne 7, 3) := by decide +kernel
theorem dM_shown_49 : decode prog_8_method_44_code 49 = .ok (.iconst 1, 1) := by decide +kernel
theorem dM_shown_50 : decode prog_8_method_44_code 50 = .ok (.goto 4, 3) := by decide +kernel
theorem dM_shown_53 : decode prog_8_method_44_code 53 = .ok (.iconst 0, 1) := by decide +kernel
theorem dM_shown_54 : decode prog_8_method_44_code 54 = .ok (.istore 6, 2) := by decide +kernel
theorem dM_shown_56 : decode prog_8_method_44_code 56 = .ok (.aload_n 0, 1) := by decide +kernel
theorem dM_shown_57 : decode prog_8_method_44_code 57 = .ok (.iload 5, 2) := by decide +kernel
theorem dM_shown_59 : decode prog_8_method_44_code 59 = .ok (.invokevirtual 148, 3) := by decide +kernel
theorem dM_shown_62 : decode prog_8_method_44_code 62 = .ok (.istore 7, 2) := by decide +kernel
theorem dM_shown_64 : decode prog_8_method_44_code 64 = .ok (.iload 4, 2) := by decide +kernel
theorem dM_shown_66 : decode prog_8_method_44_code 66 = .ok (.ifCond .eq 12, 3) := by decide +kernel
theorem dM_shown_69 : decode prog_8_method_44_code 69 = .ok (.iload 6, 2) := by decide +kernel
theorem dM_shown_71 : decode prog_8_method_44_code 71 = .ok (.ifCond .eq 7, 3) := by decide +kernel
theorem dM_shown_74 : decode prog_8_method_44_code 74 = .ok (.iconst 0, 1) := by decide +kernel
theorem dM_shown_75 : decode prog_8_method_44_code 75 = .ok (.goto 4, 3) := by decide +kernel
theorem dM_shown_78 : decode prog_8_method_44_code 78 = .ok (.iload_n 3, 1) := by decide +kernel
theorem dM_shown_79 : decode prog_8_method_44_code 79 = .ok (.istore_n 3, 1) := by decide +kernel
theorem dM_shown_80 : decode prog_8_method_44_code 80 = .ok (.iconst 0, 1) := by decide +kernel
theorem dM_shown_81 : decode prog_8_method_44_code 81 = .ok (.istore 4, 2) := by decide +kernel
theorem dM_shown_83 : decode prog_8_method_44_code 83 = .ok (.iload 7, 2) := by decide +kernel
theorem dM_shown_85 : decode prog_8_method_44_code 85 = .ok (.ifCond .le 37, 3) := by decide +kernel
theorem dM_shown_88 : decode prog_8_method_44_code 88 = .ok (.iload 7, 2) := by decide +kernel
theorem dM_shown_90 : decode prog_8_method_44_code 90 = .ok (.iconst 2, 1) := by decide +kernel
theorem dM_shown_91 : decode prog_8_method_44_code 91 = .ok (.if_icmp .ne 7, 3) := by decide +kernel
theorem dM_shown_94 : decode prog_8_method_44_code 94 = .ok (.iload_n 2, 1) := by decide +kernel
theorem dM_shown_95 : decode prog_8_method_44_code 95 = .ok (.goto 10, 3) := by decide +kernel
theorem dM_shown_98 : decode prog_8_method_44_code 98 = .ok (.aload_n 0, 1) := by decide +kernel
theorem dM_shown_99 : decode prog_8_method_44_code 99 = .ok (.iload_n 2, 1) := by decide +kernel
theorem dM_shown_100 : decode prog_8_method_44_code 100 = .ok (.iload 5, 2) := by decide +kernel
theorem dM_shown_102 : decode prog_8_method_44_code 102 = .ok (.invokevirtual 158, 3) := by decide +kernel
theorem dM_shown_105 : decode prog_8_method_44_code 105 = .ok (.istore 8, 2) := by decide +kernel
theorem dM_shown_107 : decode prog_8_method_44_code 107 = .ok (.iload 6, 2) := by decide +kernel
theorem dM_shown_109 : decode prog_8_method_44_code 109 = .ok (.ifCond .eq 8, 3) := by decide +kernel
theorem dM_shown_112 : decode prog_8_method_44_code 112 = .ok (.iload 8, 2) := by decide +kernel
theorem dM_shown_114 : decode prog_8_method_44_code 114 = .ok (.goto 7, 3) := by decide +kernel
theorem dM_shown_117 : decode prog_8_method_44_code 117 = .ok (.iload_n 2, 1) := by decide +kernel
theorem dM_shown_118 : decode prog_8_method_44_code 118 = .ok (.iload 8, 2) := by decide +kernel
theorem dM_shown_120 : decode prog_8_method_44_code 120 = .ok (.isub, 1) := by decide +kernel
theorem dM_shown_121 : decode prog_8_method_44_code 121 = .ok (.istore_n 3, 1) := by decide +kernel
theorem dM_shown_122 : decode prog_8_method_44_code 122 = .ok (.iinc 5 1, 3) := by decide +kernel
theorem dM_shown_125 : decode prog_8_method_44_code 125 = .ok (.goto (-117), 3) := by decide +kernel
theorem dM_shown_128 : decode prog_8_method_44_code 128 = .ok (.iload_n 3, 1) := by decide +kernel
theorem dM_shown_129 : decode prog_8_method_44_code 129 = .ok (.ireturn, 1) := by decide +kernel
theorem dM_pixel_0 : decode prog_8_method_51_code 0 = .ok (.aload_n 0, 1) := by decide +kernel
theorem dM_pixel_1 : decode prog_8_method_51_code 1 = .ok (.iconst 0, 1) := by decide +kernel
theorem dM_pixel_2 : decode prog_8_method_51_code 2 = .ok (.putfield 75, 3) := by decide +kernel
theorem dM_pixel_5 : decode prog_8_method_51_code 5 = .ok (.iload_n 1, 1) := by decide +kernel
theorem dM_pixel_6 : decode prog_8_method_51_code 6 = .ok (.ifCond .lt 19, 3) := by decide +kernel
theorem dM_pixel_9 : decode prog_8_method_51_code 9 = .ok (.iload_n 1, 1) := by decide +kernel
theorem dM_pixel_10 : decode prog_8_method_51_code 10 = .ok (.bipush 24, 2) := by decide +kernel
theorem dM_pixel_12 : decode prog_8_method_51_code 12 = .ok (.if_icmp .ge 13, 3) := by decide +kernel
theorem dM_pixel_15 : decode prog_8_method_51_code 15 = .ok (.iload_n 2, 1) := by decide +kernel
theorem dM_pixel_16 : decode prog_8_method_51_code 16 = .ok (.ifCond .lt 9, 3) := by decide +kernel
theorem dM_pixel_19 : decode prog_8_method_51_code 19 = .ok (.iload_n 2, 1) := by decide +kernel
theorem dM_pixel_20 : decode prog_8_method_51_code 20 = .ok (.bipush 16, 2) := by decide +kernel
theorem dM_pixel_22 : decode prog_8_method_51_code 22 = .ok (.if_icmp .lt 5, 3) := by decide +kernel
theorem dM_pixel_25 : decode prog_8_method_51_code 25 = .ok (.iconst (-1), 1) := by decide +kernel
theorem dM_pixel_26 : decode prog_8_method_51_code 26 = .ok (.ireturn, 1) := by decide +kernel
theorem dM_pixel_27 : decode prog_8_method_51_code 27 = .ok (.aload_n 0, 1) := by decide +kernel
theorem dM_pixel_28 : decode prog_8_method_51_code 28 = .ok (.aload_n 0, 1) := by decide +kernel
theorem dM_pixel_29 : decode prog_8_method_51_code 29 = .ok (.getfield 142, 3) := by decide +kernel
theorem dM_pixel_32 : decode prog_8_method_51_code 32 = .ok (.invokevirtual 145, 3) := by decide +kernel
theorem dM_pixel_35 : decode prog_8_method_51_code 35 = .ok (.istore_n 3, 1) := by decide +kernel
theorem dM_pixel_36 : decode prog_8_method_51_code 36 = .ok (.iload_n 3, 1) := by decide +kernel
theorem dM_pixel_37 : decode prog_8_method_51_code 37 = .ok (.ifCond .ge 6, 3) := by decide +kernel
theorem dM_pixel_40 : decode prog_8_method_51_code 40 = .ok (.ldc 93, 2) := by decide +kernel
theorem dM_pixel_42 : decode prog_8_method_51_code 42 = .ok (.ireturn, 1) := by decide +kernel
theorem dM_pixel_43 : decode prog_8_method_51_code 43 = .ok (.aload_n 0, 1) := by decide +kernel
theorem dM_pixel_44 : decode prog_8_method_51_code 44 = .ok (.getfield 13, 3) := by decide +kernel
theorem dM_pixel_47 : decode prog_8_method_51_code 47 = .ok (.iload_n 3, 1) := by decide +kernel
theorem dM_pixel_48 : decode prog_8_method_51_code 48 = .ok (.iaload, 1) := by decide +kernel
theorem dM_pixel_49 : decode prog_8_method_51_code 49 = .ok (.istore 4, 2) := by decide +kernel
theorem dM_pixel_51 : decode prog_8_method_51_code 51 = .ok (.aload_n 0, 1) := by decide +kernel
theorem dM_pixel_52 : decode prog_8_method_51_code 52 = .ok (.iload_n 3, 1) := by decide +kernel
theorem dM_pixel_53 : decode prog_8_method_51_code 53 = .ok (.iconst 1, 1) := by decide +kernel
theorem dM_pixel_54 : decode prog_8_method_51_code 54 = .ok (.iload_n 1, 1) := by decide +kernel
theorem dM_pixel_55 : decode prog_8_method_51_code 55 = .ok (.iload_n 2, 1) := by decide +kernel
theorem dM_pixel_56 : decode prog_8_method_51_code 56 = .ok (.aload_n 0, 1) := by decide +kernel
theorem dM_pixel_57 : decode prog_8_method_51_code 57 = .ok (.iload 4, 2) := by decide +kernel
theorem dM_pixel_59 : decode prog_8_method_51_code 59 = .ok (.iconst 0, 1) := by decide +kernel
theorem dM_pixel_60 : decode prog_8_method_51_code 60 = .ok (.iload_n 1, 1) := by decide +kernel
theorem dM_pixel_61 : decode prog_8_method_51_code 61 = .ok (.iload_n 2, 1) := by decide +kernel
theorem dM_pixel_62 : decode prog_8_method_51_code 62 = .ok (.aload_n 0, 1) := by decide +kernel
theorem dM_pixel_63 : decode prog_8_method_51_code 63 = .ok (.aload_n 0, 1) := by decide +kernel
theorem dM_pixel_64 : decode prog_8_method_51_code 64 = .ok (.getfield 13, 3) := by decide +kernel
theorem dM_pixel_67 : decode prog_8_method_51_code 67 = .ok (.iload 4, 2) := by decide +kernel
theorem dM_pixel_69 : decode prog_8_method_51_code 69 = .ok (.iaload, 1) := by decide +kernel
theorem dM_pixel_70 : decode prog_8_method_51_code 70 = .ok (.iconst 0, 1) := by decide +kernel
theorem dM_pixel_71 : decode prog_8_method_51_code 71 = .ok (.iload_n 1, 1) := by decide +kernel
theorem dM_pixel_72 : decode prog_8_method_51_code 72 = .ok (.iload_n 2, 1) := by decide +kernel
theorem dM_pixel_73 : decode prog_8_method_51_code 73 = .ok (.ldc 93, 2) := by decide +kernel
theorem dM_pixel_75 : decode prog_8_method_51_code 75 = .ok (.invokevirtual 181, 3) := by decide +kernel
theorem dM_pixel_78 : decode prog_8_method_51_code 78 = .ok (.invokevirtual 181, 3) := by decide +kernel
theorem dM_pixel_81 : decode prog_8_method_51_code 81 = .ok (.invokevirtual 181, 3) := by decide +kernel
theorem dM_pixel_84 : decode prog_8_method_51_code 84 = .ok (.ireturn, 1) := by decide +kernel
theorem dM_painted_0 : decode prog_8_method_50_code 0 = .ok (.iload 5, 2) := by decide +kernel
theorem dM_painted_2 : decode prog_8_method_50_code 2 = .ok (.istore 6, 2) := by decide +kernel
theorem dM_painted_4 : decode prog_8_method_50_code 4 = .ok (.iconst 0, 1) := by decide +kernel
theorem dM_painted_5 : decode prog_8_method_50_code 5 = .ok (.istore 7, 2) := by decide +kernel
theorem dM_painted_7 : decode prog_8_method_50_code 7 = .ok (.iload 7, 2) := by decide +kernel
theorem dM_painted_9 : decode prog_8_method_50_code 9 = .ok (.aload_n 0, 1) := by decide +kernel
theorem dM_painted_10 : decode prog_8_method_50_code 10 = .ok (.getfield 82, 3) := by decide +kernel
theorem dM_painted_13 : decode prog_8_method_50_code 13 = .ok (.if_icmp .ge 61, 3) := by decide +kernel
theorem dM_painted_16 : decode prog_8_method_50_code 16 = .ok (.aload_n 0, 1) := by decide +kernel
theorem dM_painted_17 : decode prog_8_method_50_code 17 = .ok (.getfield 16, 3) := by decide +kernel
theorem dM_painted_20 : decode prog_8_method_50_code 20 = .ok (.iload 7, 2) := by decide +kernel
theorem dM_painted_22 : decode prog_8_method_50_code 22 = .ok (.iaload, 1) := by decide +kernel
theorem dM_painted_23 : decode prog_8_method_50_code 23 = .ok (.iload_n 1, 1) := by decide +kernel
theorem dM_painted_24 : decode prog_8_method_50_code 24 = .ok (.if_icmp .ne 40, 3) := by decide +kernel
theorem dM_painted_27 : decode prog_8_method_50_code 27 = .ok (.iload_n 2, 1) := by decide +kernel
theorem dM_painted_28 : decode prog_8_method_50_code 28 = .ok (.ifCond .ne 13, 3) := by decide +kernel
theorem dM_painted_31 : decode prog_8_method_50_code 31 = .ok (.aload_n 0, 1) := by decide +kernel
theorem dM_painted_32 : decode prog_8_method_50_code 32 = .ok (.getfield 19, 3) := by decide +kernel
theorem dM_painted_35 : decode prog_8_method_50_code 35 = .ok (.iload 7, 2) := by decide +kernel
theorem dM_painted_37 : decode prog_8_method_50_code 37 = .ok (.iaload, 1) := by decide +kernel
theorem dM_painted_38 : decode prog_8_method_50_code 38 = .ok (.ifCond .ge 26, 3) := by decide +kernel
theorem dM_painted_41 : decode prog_8_method_50_code 41 = .ok (.aload_n 0, 1) := by decide +kernel
theorem dM_painted_42 : decode prog_8_method_50_code 42 = .ok (.iload 7, 2) := by decide +kernel
theorem dM_painted_44 : decode prog_8_method_50_code 44 = .ok (.iload_n 3, 1) := by decide +kernel
theorem dM_painted_45 : decode prog_8_method_50_code 45 = .ok (.iload 4, 2) := by decide +kernel
theorem dM_painted_47 : decode prog_8_method_50_code 47 = .ok (.invokevirtual 174, 3) := by decide +kernel
theorem dM_painted_50 : decode prog_8_method_50_code 50 = .ok (.ifCond .eq 14, 3) := by decide +kernel
theorem dM_painted_53 : decode prog_8_method_50_code 53 = .ok (.aload_n 0, 1) := by decide +kernel
theorem dM_painted_54 : decode prog_8_method_50_code 54 = .ok (.iload 7, 2) := by decide +kernel
theorem dM_painted_56 : decode prog_8_method_50_code 56 = .ok (.iload 6, 2) := by decide +kernel
theorem dM_painted_58 : decode prog_8_method_50_code 58 = .ok (.invokevirtual 178, 3) := by decide +kernel
theorem dM_painted_61 : decode prog_8_method_50_code 61 = .ok (.goto 5, 3) := by decide +kernel
theorem dM_painted_64 : decode prog_8_method_50_code 64 = .ok (.iload 6, 2) := by decide +kernel
theorem dM_painted_66 : decode prog_8_method_50_code 66 = .ok (.istore 6, 2) := by decide +kernel
theorem dM_painted_68 : decode prog_8_method_50_code 68 = .ok (.iinc 7 1, 3) := by decide +kernel
theorem dM_painted_71 : decode prog_8_method_50_code 71 = .ok (.goto (-64), 3) := by decide +kernel
theorem dM_painted_74 : decode prog_8_method_50_code 74 = .ok (.iload 6, 2) := by decide +kernel
theorem dM_painted_76 : decode prog_8_method_50_code 76 = .ok (.ireturn, 1) := by decide +kernel
theorem dM_covers_0 : decode prog_8_method_47_code 0 = .ok (.aload_n 0, 1) := by decide +kernel
theorem dM_covers_1 : decode prog_8_method_47_code 1 = .ok (.iload_n 1, 1) := by decide +kernel
theorem dM_covers_2 : decode prog_8_method_47_code 2 = .ok (.iconst 0, 1) := by decide +kernel
theorem dM_covers_3 : decode prog_8_method_47_code 3 = .ok (.invokevirtual 167, 3) := by decide +kernel
theorem dM_covers_6 : decode prog_8_method_47_code 6 = .ok (.istore 4, 2) := by decide +kernel
theorem dM_covers_8 : decode prog_8_method_47_code 8 = .ok (.aload_n 0, 1) := by decide +kernel
theorem dM_covers_9 : decode prog_8_method_47_code 9 = .ok (.iload_n 1, 1) := by decide +kernel
theorem dM_covers_10 : decode prog_8_method_47_code 10 = .ok (.iconst 1, 1) := by decide +kernel
theorem dM_covers_11 : decode prog_8_method_47_code 11 = .ok (.invokevirtual 167, 3) := by decide +kernel
theorem dM_covers_14 : decode prog_8_method_47_code 14 = .ok (.istore 5, 2) := by decide +kernel
theorem dM_covers_16 : decode prog_8_method_47_code 16 = .ok (.iload_n 2, 1) := by decide +kernel
theorem dM_covers_17 : decode prog_8_method_47_code 17 = .ok (.iload 4, 2) := by decide +kernel
theorem dM_covers_19 : decode prog_8_method_47_code 19 = .ok (.if_icmp .lt 39, 3) := by decide +kernel
theorem dM_covers_22 : decode prog_8_method_47_code 22 = .ok (.iload_n 2, 1) := by decide +kernel
theorem dM_covers_23 : decode prog_8_method_47_code 23 = .ok (.iload 4, 2) := by decide +kernel
theorem dM_covers_25 : decode prog_8_method_47_code 25 = .ok (.aload_n 0, 1) := by decide +kernel
theorem dM_covers_26 : decode prog_8_method_47_code 26 = .ok (.iload_n 1, 1) := by decide +kernel
theorem dM_covers_27 : decode prog_8_method_47_code 27 = .ok (.iconst 2, 1) := by decide +kernel
theorem dM_covers_28 : decode prog_8_method_47_code 28 = .ok (.invokevirtual 107, 3) := by decide +kernel
theorem dM_covers_31 : decode prog_8_method_47_code 31 = .ok (.iadd, 1) := by decide +kernel
theorem dM_covers_32 : decode prog_8_method_47_code 32 = .ok (.if_icmp .ge 26, 3) := by decide +kernel
theorem dM_covers_35 : decode prog_8_method_47_code 35 = .ok (.iload_n 3, 1) := by decide +kernel
theorem dM_covers_36 : decode prog_8_method_47_code 36 = .ok (.iload 5, 2) := by decide +kernel
theorem dM_covers_38 : decode prog_8_method_47_code 38 = .ok (.if_icmp .lt 20, 3) := by decide +kernel
theorem dM_covers_41 : decode prog_8_method_47_code 41 = .ok (.iload_n 3, 1) := by decide +kernel
theorem dM_covers_42 : decode prog_8_method_47_code 42 = .ok (.iload 5, 2) := by decide +kernel
theorem dM_covers_44 : decode prog_8_method_47_code 44 = .ok (.aload_n 0, 1) := by decide +kernel
theorem dM_covers_45 : decode prog_8_method_47_code 45 = .ok (.iload_n 1, 1) := by decide +kernel
theorem dM_covers_46 : decode prog_8_method_47_code 46 = .ok (.iconst 3, 1) := by decide +kernel
theorem dM_covers_47 : decode prog_8_method_47_code 47 = .ok (.invokevirtual 107, 3) := by decide +kernel
theorem dM_covers_50 : decode prog_8_method_47_code 50 = .ok (.iadd, 1) := by decide +kernel
theorem dM_covers_51 : decode prog_8_method_47_code 51 = .ok (.if_icmp .ge 7, 3) := by decide +kernel
theorem dM_covers_54 : decode prog_8_method_47_code 54 = .ok (.iconst 1, 1) := by decide +kernel
theorem dM_covers_55 : decode prog_8_method_47_code 55 = .ok (.goto 4, 3) := by decide +kernel
theorem dM_covers_58 : decode prog_8_method_47_code 58 = .ok (.iconst 0, 1) := by decide +kernel
theorem dM_covers_59 : decode prog_8_method_47_code 59 = .ok (.ireturn, 1) := by decide +kernel
theorem dM_over_0 : decode prog_8_method_49_code 0 = .ok (.aload_n 0, 1) := by decide +kernel
theorem dM_over_1 : decode prog_8_method_49_code 1 = .ok (.iload_n 1, 1) := by decide +kernel
theorem dM_over_2 : decode prog_8_method_49_code 2 = .ok (.iconst 4, 1) := by decide +kernel
theorem dM_over_3 : decode prog_8_method_49_code 3 = .ok (.invokevirtual 107, 3) := by decide +kernel
theorem dM_over_6 : decode prog_8_method_49_code 6 = .ok (.istore_n 3, 1) := by decide +kernel
theorem dM_over_7 : decode prog_8_method_49_code 7 = .ok (.aload_n 0, 1) := by decide +kernel
theorem dM_over_8 : decode prog_8_method_49_code 8 = .ok (.iload_n 1, 1) := by decide +kernel
theorem dM_over_9 : decode prog_8_method_49_code 9 = .ok (.iconst 5, 1) := by decide +kernel
theorem dM_over_10 : decode prog_8_method_49_code 10 = .ok (.invokevirtual 167, 3) := by decide +kernel
theorem dM_over_13 : decode prog_8_method_49_code 13 = .ok (.istore 4, 2) := by decide +kernel
theorem dM_over_15 : decode prog_8_method_49_code 15 = .ok (.iconst 0, 1) := by decide +kernel
theorem dM_over_16 : decode prog_8_method_49_code 16 = .ok (.istore 5, 2) := by decide +kernel
theorem dM_over_18 : decode prog_8_method_49_code 18 = .ok (.iconst 0, 1) := by decide +kernel
theorem dM_over_19 : decode prog_8_method_49_code 19 = .ok (.istore 6, 2) := by decide +kernel
theorem dM_over_21 : decode prog_8_method_49_code 21 = .ok (.iload 6, 2) := by decide +kernel
theorem dM_over_23 : decode prog_8_method_49_code 23 = .ok (.bipush 24, 2) := by decide +kernel
theorem dM_over_25 : decode prog_8_method_49_code 25 = .ok (.if_icmp .ge 38, 3) := by decide +kernel
theorem dM_over_28 : decode prog_8_method_49_code 28 = .ok (.iload 5, 2) := by decide +kernel
theorem dM_over_30 : decode prog_8_method_49_code 30 = .ok (.iload_n 3, 1) := by decide +kernel
theorem dM_over_31 : decode prog_8_method_49_code 31 = .ok (.iload 6, 2) := by decide +kernel
theorem dM_over_33 : decode prog_8_method_49_code 33 = .ok (.ishr, 1) := by decide +kernel
theorem dM_over_34 : decode prog_8_method_49_code 34 = .ok (.sipush 255, 3) := by decide +kernel
theorem dM_over_37 : decode prog_8_method_49_code 37 = .ok (.iand, 1) := by decide +kernel
theorem dM_over_38 : decode prog_8_method_49_code 38 = .ok (.iload_n 2, 1) := by decide +kernel
theorem dM_over_39 : decode prog_8_method_49_code 39 = .ok (.iload 6, 2) := by decide +kernel
theorem dM_over_41 : decode prog_8_method_49_code 41 = .ok (.ishr, 1) := by decide +kernel
theorem dM_over_42 : decode prog_8_method_49_code 42 = .ok (.sipush 255, 3) := by decide +kernel
theorem dM_over_45 : decode prog_8_method_49_code 45 = .ok (.iand, 1) := by decide +kernel
theorem dM_over_46 : decode prog_8_method_49_code 46 = .ok (.iload 4, 2) := by decide +kernel
theorem dM_over_48 : decode prog_8_method_49_code 48 = .ok (.invokestatic 170, 3) := by decide +kernel
theorem dM_over_51 : decode prog_8_method_49_code 51 = .ok (.iload 6, 2) := by decide +kernel
theorem dM_over_53 : decode prog_8_method_49_code 53 = .ok (.ishl, 1) := by decide +kernel
theorem dM_over_54 : decode prog_8_method_49_code 54 = .ok (.ior, 1) := by decide +kernel
theorem dM_over_55 : decode prog_8_method_49_code 55 = .ok (.istore 5, 2) := by decide +kernel
theorem dM_over_57 : decode prog_8_method_49_code 57 = .ok (.iinc 6 8, 3) := by decide +kernel
theorem dM_over_60 : decode prog_8_method_49_code 60 = .ok (.goto (-39), 3) := by decide +kernel
theorem dM_over_63 : decode prog_8_method_49_code 63 = .ok (.iload 5, 2) := by decide +kernel
theorem dM_over_65 : decode prog_8_method_49_code 65 = .ok (.ireturn, 1) := by decide +kernel
theorem dM_mixed_0 : decode prog_8_method_48_code 0 = .ok (.iload_n 0, 1) := by decide +kernel
theorem dM_mixed_1 : decode prog_8_method_48_code 1 = .ok (.iload_n 2, 1) := by decide +kernel
theorem dM_mixed_2 : decode prog_8_method_48_code 2 = .ok (.imul, 1) := by decide +kernel
theorem dM_mixed_3 : decode prog_8_method_48_code 3 = .ok (.iload_n 1, 1) := by decide +kernel
theorem dM_mixed_4 : decode prog_8_method_48_code 4 = .ok (.sipush 255, 3) := by decide +kernel
theorem dM_mixed_7 : decode prog_8_method_48_code 7 = .ok (.iload_n 2, 1) := by decide +kernel
theorem dM_mixed_8 : decode prog_8_method_48_code 8 = .ok (.isub, 1) := by decide +kernel
theorem dM_mixed_9 : decode prog_8_method_48_code 9 = .ok (.imul, 1) := by decide +kernel
theorem dM_mixed_10 : decode prog_8_method_48_code 10 = .ok (.iadd, 1) := by decide +kernel
theorem dM_mixed_11 : decode prog_8_method_48_code 11 = .ok (.bipush 127, 2) := by decide +kernel
theorem dM_mixed_13 : decode prog_8_method_48_code 13 = .ok (.iadd, 1) := by decide +kernel
theorem dM_mixed_14 : decode prog_8_method_48_code 14 = .ok (.sipush 255, 3) := by decide +kernel
theorem dM_mixed_17 : decode prog_8_method_48_code 17 = .ok (.idiv, 1) := by decide +kernel
theorem dM_mixed_18 : decode prog_8_method_48_code 18 = .ok (.ireturn, 1) := by decide +kernel
end
section
theorem dA_init_0 : decode prog_24_method_2_code 0 = .ok (.aload_n 0, 1) := by decide +kernel
theorem dA_init_1 : decode prog_24_method_2_code 1 = .ok (.invokespecial 1, 3) := by decide +kernel
theorem dA_init_4 : decode prog_24_method_2_code 4 = .ok (.aload_n 0, 1) := by decide +kernel
theorem dA_init_5 : decode prog_24_method_2_code 5 = .ok (.getstatic 39, 3) := by decide +kernel
theorem dA_init_8 : decode prog_24_method_2_code 8 = .ok (.putfield 9, 3) := by decide +kernel
theorem dA_init_11 : decode prog_24_method_2_code 11 = .ok (.return_, 1) := by decide +kernel
theorem dAL_init_0 : decode prog_23_method_1_code 0 = .ok (.aload_n 0, 1) := by decide +kernel
theorem dAL_init_1 : decode prog_23_method_1_code 1 = .ok (.invokespecial 1, 3) := by decide +kernel
theorem dAL_init_4 : decode prog_23_method_1_code 4 = .ok (.aload_n 0, 1) := by decide +kernel
theorem dAL_init_5 : decode prog_23_method_1_code 5 = .ok (.iconst 0, 1) := by decide +kernel
theorem dAL_init_6 : decode prog_23_method_1_code 6 = .ok (.putfield 7, 3) := by decide +kernel
theorem dAL_init_9 : decode prog_23_method_1_code 9 = .ok (.return_, 1) := by decide +kernel
theorem dAC_init_0 : decode prog_22_method_1_code 0 = .ok (.aload_n 0, 1) := by decide +kernel
theorem dAC_init_1 : decode prog_22_method_1_code 1 = .ok (.invokespecial 1, 3) := by decide +kernel
theorem dAC_init_4 : decode prog_22_method_1_code 4 = .ok (.return_, 1) := by decide +kernel
theorem dA_size_0 : decode prog_24_method_8_code 0 = .ok (.aload_n 0, 1) := by decide +kernel
theorem dA_size_1 : decode prog_24_method_8_code 1 = .ok (.getfield 48, 3) := by decide +kernel
theorem dA_size_4 : decode prog_24_method_8_code 4 = .ok (.ireturn, 1) := by decide +kernel
theorem dA_get_0 : decode prog_24_method_20_code 0 = .ok (.iload_n 1, 1) := by decide +kernel
theorem dA_get_1 : decode prog_24_method_20_code 1 = .ok (.aload_n 0, 1) := by decide +kernel
theorem dA_get_2 : decode prog_24_method_20_code 2 = .ok (.getfield 48, 3) := by decide +kernel
theorem dA_get_5 : decode prog_24_method_20_code 5 = .ok (.invokestatic 118, 3) := by decide +kernel
theorem dA_get_8 : decode prog_24_method_20_code 8 = .ok (.pop, 1) := by decide +kernel
theorem dA_get_9 : decode prog_24_method_20_code 9 = .ok (.aload_n 0, 1) := by decide +kernel
theorem dA_get_10 : decode prog_24_method_20_code 10 = .ok (.iload_n 1, 1) := by decide +kernel
theorem dA_get_11 : decode prog_24_method_20_code 11 = .ok (.invokevirtual 123, 3) := by decide +kernel
theorem dA_get_14 : decode prog_24_method_20_code 14 = .ok (.areturn, 1) := by decide +kernel
theorem dO_checkIndex_0 : decode prog_28_method_17_code 0 = .ok (.iload_n 0, 1) := by decide +kernel
theorem dO_checkIndex_1 : decode prog_28_method_17_code 1 = .ok (.iload_n 1, 1) := by decide +kernel
theorem dO_checkIndex_2 : decode prog_28_method_17_code 2 = .ok (.aconst_null, 1) := by decide +kernel
theorem dO_checkIndex_3 : decode prog_28_method_17_code 3 = .ok (.invokestatic 105, 3) := by decide +kernel
theorem dO_checkIndex_6 : decode prog_28_method_17_code 6 = .ok (.ireturn, 1) := by decide +kernel
theorem dPC_checkIndex_0 : decode prog_32_method_11_code 0 = .ok (.iload_n 0, 1) := by decide +kernel
theorem dPC_checkIndex_1 : decode prog_32_method_11_code 1 = .ok (.ifCond .lt 8, 3) := by decide +kernel
theorem dPC_checkIndex_4 : decode prog_32_method_11_code 4 = .ok (.iload_n 0, 1) := by decide +kernel
theorem dPC_checkIndex_5 : decode prog_32_method_11_code 5 = .ok (.iload_n 1, 1) := by decide +kernel
theorem dPC_checkIndex_6 : decode prog_32_method_11_code 6 = .ok (.if_icmp .lt 10, 3) := by decide +kernel
theorem dPC_checkIndex_9 : decode prog_32_method_11_code 9 = .ok (.aload_n 2, 1) := by decide +kernel
theorem dPC_checkIndex_10 : decode prog_32_method_11_code 10 = .ok (.iload_n 0, 1) := by decide +kernel
theorem dPC_checkIndex_11 : decode prog_32_method_11_code 11 = .ok (.iload_n 1, 1) := by decide +kernel
theorem dPC_checkIndex_12 : decode prog_32_method_11_code 12 = .ok (.invokestatic 95, 3) := by decide +kernel
theorem dPC_checkIndex_15 : decode prog_32_method_11_code 15 = .ok (.athrow, 1) := by decide +kernel
theorem dPC_checkIndex_16 : decode prog_32_method_11_code 16 = .ok (.iload_n 0, 1) := by decide +kernel
theorem dPC_checkIndex_17 : decode prog_32_method_11_code 17 = .ok (.ireturn, 1) := by decide +kernel
theorem dA_elementData_0 : decode prog_24_method_18_code 0 = .ok (.aload_n 0, 1) := by decide +kernel
theorem dA_elementData_1 : decode prog_24_method_18_code 1 = .ok (.getfield 9, 3) := by decide +kernel
theorem dA_elementData_4 : decode prog_24_method_18_code 4 = .ok (.iload_n 1, 1) := by decide +kernel
theorem dA_elementData_5 : decode prog_24_method_18_code 5 = .ok (.aaload, 1) := by decide +kernel
theorem dA_elementData_6 : decode prog_24_method_18_code 6 = .ok (.areturn, 1) := by decide +kernel
theorem dA_isEmpty_0 : decode prog_24_method_9_code 0 = .ok (.aload_n 0, 1) := by decide +kernel
theorem dA_isEmpty_1 : decode prog_24_method_9_code 1 = .ok (.getfield 48, 3) := by decide +kernel
theorem dA_isEmpty_4 : decode prog_24_method_9_code 4 = .ok (.ifCond .ne 7, 3) := by decide +kernel
theorem dA_isEmpty_7 : decode prog_24_method_9_code 7 = .ok (.iconst 1, 1) := by decide +kernel
theorem dA_isEmpty_8 : decode prog_24_method_9_code 8 = .ok (.goto 4, 3) := by decide +kernel
theorem dA_isEmpty_11 : decode prog_24_method_9_code 11 = .ok (.iconst 0, 1) := by decide +kernel
theorem dA_isEmpty_12 : decode prog_24_method_9_code 12 = .ok (.ireturn, 1) := by decide +kernel
theorem dMA_max_0 : decode prog_16_method_65_code 0 = .ok (.iload_n 0, 1) := by decide +kernel
theorem dMA_max_1 : decode prog_16_method_65_code 1 = .ok (.iload_n 1, 1) := by decide +kernel
theorem dMA_max_2 : decode prog_16_method_65_code 2 = .ok (.if_icmp .lt 7, 3) := by decide +kernel
theorem dMA_max_5 : decode prog_16_method_65_code 5 = .ok (.iload_n 0, 1) := by decide +kernel
theorem dMA_max_6 : decode prog_16_method_65_code 6 = .ok (.goto 4, 3) := by decide +kernel
theorem dMA_max_9 : decode prog_16_method_65_code 9 = .ok (.iload_n 1, 1) := by decide +kernel
theorem dMA_max_10 : decode prog_16_method_65_code 10 = .ok (.ireturn, 1) := by decide +kernel
theorem dL_page_0 : decode method_3_code 0 = .ok (.aload_n 3, 1) := by decide +kernel
theorem dL_page_1 : decode method_3_code 1 = .ok (.iconst 0, 1) := by decide +kernel
theorem dL_page_2 : decode method_3_code 2 = .ok (.aload_n 0, 1) := by decide +kernel
theorem dL_page_3 : decode method_3_code 3 = .ok (.iload_n 1, 1) := by decide +kernel
theorem dL_page_4 : decode method_3_code 4 = .ok (.iload_n 2, 1) := by decide +kernel
theorem dL_page_5 : decode method_3_code 5 = .ok (.invokevirtual 7, 3) := by decide +kernel
theorem dL_page_8 : decode method_3_code 8 = .ok (.i2l, 1) := by decide +kernel
theorem dL_page_9 : decode method_3_code 9 = .ok (.lastore, 1) := by decide +kernel
theorem dL_page_10 : decode method_3_code 10 = .ok (.goto 15, 3) := by decide +kernel
theorem dL_page_13 : decode method_3_code 13 = .ok (.astore 4, 2) := by decide +kernel
theorem dL_page_15 : decode method_3_code 15 = .ok (.iconst 1, 1) := by decide +kernel
theorem dL_page_16 : decode method_3_code 16 = .ok (.ireturn, 1) := by decide +kernel
theorem dL_page_17 : decode method_3_code 17 = .ok (.astore 4, 2) := by decide +kernel
theorem dL_page_19 : decode method_3_code 19 = .ok (.iconst 2, 1) := by decide +kernel
theorem dL_page_20 : decode method_3_code 20 = .ok (.ireturn, 1) := by decide +kernel
theorem dL_page_21 : decode method_3_code 21 = .ok (.astore 4, 2) := by decide +kernel
theorem dL_page_23 : decode method_3_code 23 = .ok (.iconst 3, 1) := by decide +kernel
theorem dL_page_24 : decode method_3_code 24 = .ok (.ireturn, 1) := by decide +kernel
theorem dL_page_25 : decode method_3_code 25 = .ok (.iconst 0, 1) := by decide +kernel
theorem dL_page_26 : decode method_3_code 26 = .ok (.ireturn, 1) := by decide +kernel
theorem dA_add1_0 : decode prog_24_method_25_code 0 = .ok (.aload_n 0, 1) := by decide +kernel
theorem dA_add1_1 : decode prog_24_method_25_code 1 = .ok (.dup, 1) := by decide +kernel
theorem dA_add1_2 : decode prog_24_method_25_code 2 = .ok (.getfield 63, 3) := by decide +kernel
theorem dA_add1_5 : decode prog_24_method_25_code 5 = .ok (.iconst 1, 1) := by decide +kernel
theorem dA_add1_6 : decode prog_24_method_25_code 6 = .ok (.iadd, 1) := by decide +kernel
theorem dA_add1_7 : decode prog_24_method_25_code 7 = .ok (.putfield 63, 3) := by decide +kernel
theorem dA_add1_10 : decode prog_24_method_25_code 10 = .ok (.aload_n 0, 1) := by decide +kernel
theorem dA_add1_11 : decode prog_24_method_25_code 11 = .ok (.aload_n 1, 1) := by decide +kernel
theorem dA_add1_12 : decode prog_24_method_25_code 12 = .ok (.aload_n 0, 1) := by decide +kernel
theorem dA_add1_13 : decode prog_24_method_25_code 13 = .ok (.getfield 9, 3) := by decide +kernel
theorem dA_add1_16 : decode prog_24_method_25_code 16 = .ok (.aload_n 0, 1) := by decide +kernel
theorem dA_add1_17 : decode prog_24_method_25_code 17 = .ok (.getfield 48, 3) := by decide +kernel
theorem dA_add1_20 : decode prog_24_method_25_code 20 = .ok (.invokevirtual 131, 3) := by decide +kernel
theorem dA_add1_23 : decode prog_24_method_25_code 23 = .ok (.iconst 1, 1) := by decide +kernel
theorem dA_add1_24 : decode prog_24_method_25_code 24 = .ok (.ireturn, 1) := by decide +kernel
theorem dA_add3_0 : decode prog_24_method_24_code 0 = .ok (.iload_n 3, 1) := by decide +kernel
theorem dA_add3_1 : decode prog_24_method_24_code 1 = .ok (.aload_n 2, 1) := by decide +kernel
theorem dA_add3_2 : decode prog_24_method_24_code 2 = .ok (.arraylength, 1) := by decide +kernel
theorem dA_add3_3 : decode prog_24_method_24_code 3 = .ok (.if_icmp .ne 8, 3) := by decide +kernel
theorem dA_add3_6 : decode prog_24_method_24_code 6 = .ok (.aload_n 0, 1) := by decide +kernel
theorem dA_add3_7 : decode prog_24_method_24_code 7 = .ok (.invokevirtual 129, 3) := by decide +kernel
theorem dA_add3_10 : decode prog_24_method_24_code 10 = .ok (.astore_n 2, 1) := by decide +kernel
theorem dA_add3_11 : decode prog_24_method_24_code 11 = .ok (.aload_n 2, 1) := by decide +kernel
theorem dA_add3_12 : decode prog_24_method_24_code 12 = .ok (.iload_n 3, 1) := by decide +kernel
theorem dA_add3_13 : decode prog_24_method_24_code 13 = .ok (.aload_n 1, 1) := by decide +kernel
theorem dA_add3_14 : decode prog_24_method_24_code 14 = .ok (.aastore, 1) := by decide +kernel
theorem dA_add3_15 : decode prog_24_method_24_code 15 = .ok (.aload_n 0, 1) := by decide +kernel
theorem dA_add3_16 : decode prog_24_method_24_code 16 = .ok (.iload_n 3, 1) := by decide +kernel
theorem dA_add3_17 : decode prog_24_method_24_code 17 = .ok (.iconst 1, 1) := by decide +kernel
theorem dA_add3_18 : decode prog_24_method_24_code 18 = .ok (.iadd, 1) := by decide +kernel
theorem dA_add3_19 : decode prog_24_method_24_code 19 = .ok (.putfield 48, 3) := by decide +kernel
theorem dA_add3_22 : decode prog_24_method_24_code 22 = .ok (.return_, 1) := by decide +kernel
theorem dA_grow0_0 : decode prog_24_method_7_code 0 = .ok (.aload_n 0, 1) := by decide +kernel
theorem dA_grow0_1 : decode prog_24_method_7_code 1 = .ok (.aload_n 0, 1) := by decide +kernel
theorem dA_grow0_2 : decode prog_24_method_7_code 2 = .ok (.getfield 48, 3) := by decide +kernel
theorem dA_grow0_5 : decode prog_24_method_7_code 5 = .ok (.iconst 1, 1) := by decide +kernel
theorem dA_grow0_6 : decode prog_24_method_7_code 6 = .ok (.iadd, 1) := by decide +kernel
theorem dA_grow0_7 : decode prog_24_method_7_code 7 = .ok (.invokevirtual 69, 3) := by decide +kernel
theorem dA_grow0_10 : decode prog_24_method_7_code 10 = .ok (.areturn, 1) := by decide +kernel
theorem dA_grow1_0 : decode prog_24_method_6_code 0 = .ok (.aload_n 0, 1) := by decide +kernel
theorem dA_grow1_1 : decode prog_24_method_6_code 1 = .ok (.getfield 9, 3) := by decide +kernel
theorem dA_grow1_4 : decode prog_24_method_6_code 4 = .ok (.arraylength, 1) := by decide +kernel
theorem dA_grow1_5 : decode prog_24_method_6_code 5 = .ok (.istore_n 2, 1) := by decide +kernel
theorem dA_grow1_6 : decode prog_24_method_6_code 6 = .ok (.iload_n 2, 1) := by decide +kernel
theorem dA_grow1_7 : decode prog_24_method_6_code 7 = .ok (.ifCond .gt 13, 3) := by decide +kernel
theorem dA_grow1_10 : decode prog_24_method_6_code 10 = .ok (.aload_n 0, 1) := by decide +kernel
theorem dA_grow1_11 : decode prog_24_method_6_code 11 = .ok (.getfield 9, 3) := by decide +kernel
theorem dA_grow1_14 : decode prog_24_method_6_code 14 = .ok (.getstatic 39, 3) := by decide +kernel
theorem dA_grow1_17 : decode prog_24_method_6_code 17 = .ok (.if_acmp .eq 28, 3) := by decide +kernel
theorem dA_grow1_20 : decode prog_24_method_6_code 20 = .ok (.iload_n 2, 1) := by decide +kernel
theorem dA_grow1_21 : decode prog_24_method_6_code 21 = .ok (.iload_n 1, 1) := by decide +kernel
theorem dA_grow1_22 : decode prog_24_method_6_code 22 = .ok (.iload_n 2, 1) := by decide +kernel
theorem dA_grow1_23 : decode prog_24_method_6_code 23 = .ok (.isub, 1) := by decide +kernel
theorem dA_grow1_24 : decode prog_24_method_6_code 24 = .ok (.iload_n 2, 1) := by decide +kernel
theorem dA_grow1_25 : decode prog_24_method_6_code 25 = .ok (.iconst 1, 1) := by decide +kernel
theorem dA_grow1_26 : decode prog_24_method_6_code 26 = .ok (.ishr, 1) := by decide +kernel
theorem dA_grow1_27 : decode prog_24_method_6_code 27 = .ok (.invokestatic 73, 3) := by decide +kernel
theorem dA_grow1_30 : decode prog_24_method_6_code 30 = .ok (.istore_n 3, 1) := by decide +kernel
theorem dA_grow1_31 : decode prog_24_method_6_code 31 = .ok (.aload_n 0, 1) := by decide +kernel
theorem dA_grow1_32 : decode prog_24_method_6_code 32 = .ok (.aload_n 0, 1) := by decide +kernel
theorem dA_grow1_33 : decode prog_24_method_6_code 33 = .ok (.getfield 9, 3) := by decide +kernel
theorem dA_grow1_36 : decode prog_24_method_6_code 36 = .ok (.iload_n 3, 1) := by decide +kernel
theorem dA_grow1_37 : decode prog_24_method_6_code 37 = .ok (.invokestatic 66, 3) := by decide +kernel
theorem dA_grow1_40 : decode prog_24_method_6_code 40 = .ok (.dup_x1, 1) := by decide +kernel
theorem dA_grow1_41 : decode prog_24_method_6_code 41 = .ok (.putfield 9, 3) := by decide +kernel
theorem dA_grow1_44 : decode prog_24_method_6_code 44 = .ok (.areturn, 1) := by decide +kernel
theorem dA_grow1_45 : decode prog_24_method_6_code 45 = .ok (.aload_n 0, 1) := by decide +kernel
theorem dA_grow1_46 : decode prog_24_method_6_code 46 = .ok (.bipush 10, 2) := by decide +kernel
theorem dA_grow1_48 : decode prog_24_method_6_code 48 = .ok (.iload_n 1, 1) := by decide +kernel
theorem dA_grow1_49 : decode prog_24_method_6_code 49 = .ok (.invokestatic 79, 3) := by decide +kernel
theorem dA_grow1_52 : decode prog_24_method_6_code 52 = .ok (.anewarray 7, 3) := by decide +kernel
theorem dA_grow1_55 : decode prog_24_method_6_code 55 = .ok (.dup_x1, 1) := by decide +kernel
theorem dA_grow1_56 : decode prog_24_method_6_code 56 = .ok (.putfield 9, 3) := by decide +kernel
theorem dA_grow1_59 : decode prog_24_method_6_code 59 = .ok (.areturn, 1) := by decide +kernel
theorem dAS_newLength_0 : decode prog_31_method_27_code 0 = .ok (.iload_n 0, 1) := by decide +kernel
theorem dAS_newLength_1 : decode prog_31_method_27_code 1 = .ok (.iload_n 1, 1) := by decide +kernel
theorem dAS_newLength_2 : decode prog_31_method_27_code 2 = .ok (.iload_n 2, 1) := by decide +kernel
theorem dAS_newLength_3 : decode prog_31_method_27_code 3 = .ok (.invokestatic 194, 3) := by decide +kernel
theorem dAS_newLength_6 : decode prog_31_method_27_code 6 = .ok (.iadd, 1) := by decide +kernel
theorem dAS_newLength_7 : decode prog_31_method_27_code 7 = .ok (.istore_n 3, 1) := by decide +kernel
theorem dAS_newLength_8 : decode prog_31_method_27_code 8 = .ok (.iconst 0, 1) := by decide +kernel
theorem dAS_newLength_9 : decode prog_31_method_27_code 9 = .ok (.iload_n 3, 1) := by decide +kernel
theorem dAS_newLength_10 : decode prog_31_method_27_code 10 = .ok (.if_icmp .ge 11, 3) := by decide +kernel
theorem dAS_newLength_13 : decode prog_31_method_27_code 13 = .ok (.iload_n 3, 1) := by decide +kernel
theorem dAS_newLength_14 : decode prog_31_method_27_code 14 = .ok (.ldc 200, 2) := by decide +kernel
theorem dAS_newLength_16 : decode prog_31_method_27_code 16 = .ok (.if_icmp .gt 5, 3) := by decide +kernel
theorem dAS_newLength_19 : decode prog_31_method_27_code 19 = .ok (.iload_n 3, 1) := by decide +kernel
theorem dAS_newLength_20 : decode prog_31_method_27_code 20 = .ok (.ireturn, 1) := by decide +kernel
theorem dAS_newLength_21 : decode prog_31_method_27_code 21 = .ok (.iload_n 0, 1) := by decide +kernel
theorem dAS_newLength_22 : decode prog_31_method_27_code 22 = .ok (.iload_n 1, 1) := by decide +kernel
theorem dAS_newLength_23 : decode prog_31_method_27_code 23 = .ok (.invokestatic 201, 3) := by decide +kernel
theorem dAS_newLength_26 : decode prog_31_method_27_code 26 = .ok (.ireturn, 1) := by decide +kernel
theorem dAS_hugeLength_0 : decode prog_31_method_28_code 0 = .ok (.iload_n 0, 1) := by decide +kernel
theorem dAS_hugeLength_1 : decode prog_31_method_28_code 1 = .ok (.iload_n 1, 1) := by decide +kernel
theorem dAS_hugeLength_2 : decode prog_31_method_28_code 2 = .ok (.iadd, 1) := by decide +kernel
theorem dAS_hugeLength_3 : decode prog_31_method_28_code 3 = .ok (.istore_n 2, 1) := by decide +kernel
theorem dAS_hugeLength_4 : decode prog_31_method_28_code 4 = .ok (.iload_n 2, 1) := by decide +kernel
theorem dAS_hugeLength_5 : decode prog_31_method_28_code 5 = .ok (.ifCond .ge 44, 3) := by decide +kernel
theorem dAS_hugeLength_8 : decode prog_31_method_28_code 8 = .ok (.new 204, 3) := by decide +kernel
theorem dAS_hugeLength_11 : decode prog_31_method_28_code 11 = .ok (.dup, 1) := by decide +kernel
theorem dAS_hugeLength_12 : decode prog_31_method_28_code 12 = .ok (.new 89, 3) := by decide +kernel
theorem dAS_hugeLength_15 : decode prog_31_method_28_code 15 = .ok (.dup, 1) := by decide +kernel
theorem dAS_hugeLength_16 : decode prog_31_method_28_code 16 = .ok (.invokespecial 91, 3) := by decide +kernel
theorem dAS_hugeLength_19 : decode prog_31_method_28_code 19 = .ok (.ldc 206, 2) := by decide +kernel
theorem dAS_hugeLength_21 : decode prog_31_method_28_code 21 = .ok (.invokevirtual 94, 3) := by decide +kernel
theorem dAS_hugeLength_24 : decode prog_31_method_28_code 24 = .ok (.iload_n 0, 1) := by decide +kernel
theorem dAS_hugeLength_25 : decode prog_31_method_28_code 25 = .ok (.invokevirtual 98, 3) := by decide +kernel
theorem dAS_hugeLength_28 : decode prog_31_method_28_code 28 = .ok (.ldc 208, 2) := by decide +kernel
theorem dAS_hugeLength_30 : decode prog_31_method_28_code 30 = .ok (.invokevirtual 94, 3) := by decide +kernel
theorem dAS_hugeLength_33 : decode prog_31_method_28_code 33 = .ok (.iload_n 1, 1) := by decide +kernel
theorem dAS_hugeLength_34 : decode prog_31_method_28_code 34 = .ok (.invokevirtual 98, 3) := by decide +kernel
theorem dAS_hugeLength_37 : decode prog_31_method_28_code 37 = .ok (.ldc 210, 2) := by decide +kernel
theorem dAS_hugeLength_39 : decode prog_31_method_28_code 39 = .ok (.invokevirtual 94, 3) := by decide +kernel
theorem dAS_hugeLength_42 : decode prog_31_method_28_code 42 = .ok (.invokevirtual 101, 3) := by decide +kernel
theorem dAS_hugeLength_45 : decode prog_31_method_28_code 45 = .ok (.invokespecial 212, 3) := by decide +kernel
theorem dAS_hugeLength_48 : decode prog_31_method_28_code 48 = .ok (.athrow, 1) := by decide +kernel
theorem dAS_hugeLength_49 : decode prog_31_method_28_code 49 = .ok (.iload_n 2, 1) := by decide +kernel
theorem dAS_hugeLength_50 : decode prog_31_method_28_code 50 = .ok (.ldc 200, 2) := by decide +kernel
theorem dAS_hugeLength_52 : decode prog_31_method_28_code 52 = .ok (.if_icmp .gt 6, 3) := by decide +kernel
theorem dAS_hugeLength_55 : decode prog_31_method_28_code 55 = .ok (.ldc 200, 2) := by decide +kernel
theorem dAS_hugeLength_57 : decode prog_31_method_28_code 57 = .ok (.ireturn, 1) := by decide +kernel
theorem dAS_hugeLength_58 : decode prog_31_method_28_code 58 = .ok (.iload_n 2, 1) := by decide +kernel
theorem dAS_hugeLength_59 : decode prog_31_method_28_code 59 = .ok (.ireturn, 1) := by decide +kernel
theorem dMA_min_0 : decode prog_16_method_69_code 0 = .ok (.iload_n 0, 1) := by decide +kernel
theorem dMA_min_1 : decode prog_16_method_69_code 1 = .ok (.iload_n 1, 1) := by decide +kernel
theorem dMA_min_2 : decode prog_16_method_69_code 2 = .ok (.if_icmp .gt 7, 3) := by decide +kernel
theorem dMA_min_5 : decode prog_16_method_69_code 5 = .ok (.iload_n 0, 1) := by decide +kernel
theorem dMA_min_6 : decode prog_16_method_69_code 6 = .ok (.goto 4, 3) := by decide +kernel
theorem dMA_min_9 : decode prog_16_method_69_code 9 = .ok (.iload_n 1, 1) := by decide +kernel
theorem dMA_min_10 : decode prog_16_method_69_code 10 = .ok (.ireturn, 1) := by decide +kernel
theorem dL_shape_0 : decode method_4_code 0 = .ok (.aload_n 3, 1) := by decide +kernel
theorem dL_shape_1 : decode method_4_code 1 = .ok (.iconst 0, 1) := by decide +kernel
theorem dL_shape_2 : decode method_4_code 2 = .ok (.aload_n 0, 1) := by decide +kernel
theorem dL_shape_3 : decode method_4_code 3 = .ok (.iload_n 1, 1) := by decide +kernel
theorem dL_shape_4 : decode method_4_code 4 = .ok (.iload_n 2, 1) := by decide +kernel
theorem dL_shape_5 : decode method_4_code 5 = .ok (.invokevirtual 19, 3) := by decide +kernel
theorem dL_shape_8 : decode method_4_code 8 = .ok (.i2l, 1) := by decide +kernel
theorem dL_shape_9 : decode method_4_code 9 = .ok (.lastore, 1) := by decide +kernel
theorem dL_shape_10 : decode method_4_code 10 = .ok (.goto 19, 3) := by decide +kernel
theorem dL_shape_13 : decode method_4_code 13 = .ok (.astore 4, 2) := by decide +kernel
theorem dL_shape_15 : decode method_4_code 15 = .ok (.iconst 1, 1) := by decide +kernel
theorem dL_shape_16 : decode method_4_code 16 = .ok (.ireturn, 1) := by decide +kernel
theorem dL_shape_17 : decode method_4_code 17 = .ok (.astore 4, 2) := by decide +kernel
theorem dL_shape_19 : decode method_4_code 19 = .ok (.iconst 2, 1) := by decide +kernel
theorem dL_shape_20 : decode method_4_code 20 = .ok (.ireturn, 1) := by decide +kernel
theorem dL_shape_21 : decode method_4_code 21 = .ok (.astore 4, 2) := by decide +kernel
theorem dL_shape_23 : decode method_4_code 23 = .ok (.iconst 3, 1) := by decide +kernel
theorem dL_shape_24 : decode method_4_code 24 = .ok (.ireturn, 1) := by decide +kernel
theorem dL_shape_25 : decode method_4_code 25 = .ok (.astore 4, 2) := by decide +kernel
theorem dL_shape_27 : decode method_4_code 27 = .ok (.iconst 4, 1) := by decide +kernel
theorem dL_shape_28 : decode method_4_code 28 = .ok (.ireturn, 1) := by decide +kernel
theorem dL_shape_29 : decode method_4_code 29 = .ok (.iconst 0, 1) := by decide +kernel
theorem dL_shape_30 : decode method_4_code 30 = .ok (.ireturn, 1) := by decide +kernel
theorem dL_theme_0 : decode method_5_code 0 = .ok (.aload_n 0, 1) := by decide +kernel
theorem dL_theme_1 : decode method_5_code 1 = .ok (.iload_n 1, 1) := by decide +kernel
theorem dL_theme_2 : decode method_5_code 2 = .ok (.iload_n 2, 1) := by decide +kernel
theorem dL_theme_3 : decode method_5_code 3 = .ok (.invokevirtual 24, 3) := by decide +kernel
theorem dL_theme_6 : decode method_5_code 6 = .ok (.goto 6, 3) := by decide +kernel
theorem dL_theme_9 : decode method_5_code 9 = .ok (.astore_n 3, 1) := by decide +kernel
theorem dL_theme_10 : decode method_5_code 10 = .ok (.iconst 1, 1) := by decide +kernel
theorem dL_theme_11 : decode method_5_code 11 = .ok (.ireturn, 1) := by decide +kernel
theorem dL_theme_12 : decode method_5_code 12 = .ok (.iconst 0, 1) := by decide +kernel
theorem dL_theme_13 : decode method_5_code 13 = .ok (.ireturn, 1) := by decide +kernel
theorem dL_set_0 : decode method_6_code 0 = .ok (.aload_n 0, 1) := by decide +kernel
theorem dL_set_1 : decode method_6_code 1 = .ok (.iload_n 1, 1) := by decide +kernel
theorem dL_set_2 : decode method_6_code 2 = .ok (.iload_n 2, 1) := by decide +kernel
theorem dL_set_3 : decode method_6_code 3 = .ok (.iload_n 3, 1) := by decide +kernel
theorem dL_set_4 : decode method_6_code 4 = .ok (.invokevirtual 28, 3) := by decide +kernel
theorem dL_set_7 : decode method_6_code 7 = .ok (.goto 11, 3) := by decide +kernel
theorem dL_set_10 : decode method_6_code 10 = .ok (.astore 4, 2) := by decide +kernel
theorem dL_set_12 : decode method_6_code 12 = .ok (.iconst 1, 1) := by decide +kernel
theorem dL_set_13 : decode method_6_code 13 = .ok (.ireturn, 1) := by decide +kernel
theorem dL_set_14 : decode method_6_code 14 = .ok (.astore 4, 2) := by decide +kernel
theorem dL_set_16 : decode method_6_code 16 = .ok (.iconst 2, 1) := by decide +kernel
theorem dL_set_17 : decode method_6_code 17 = .ok (.ireturn, 1) := by decide +kernel
theorem dL_set_18 : decode method_6_code 18 = .ok (.iconst 0, 1) := by decide +kernel
theorem dL_set_19 : decode method_6_code 19 = .ok (.ireturn, 1) := by decide +kernel
theorem dL_unset_0 : decode method_7_code 0 = .ok (.aload_n 3, 1) := by decide +kernel
theorem dL_unset_1 : decode method_7_code 1 = .ok (.iconst 0, 1) := by decide +kernel
theorem dL_unset_2 : decode method_7_code 2 = .ok (.aload_n 0, 1) := by decide +kernel
theorem dL_unset_3 : decode method_7_code 3 = .ok (.iload_n 1, 1) := by decide +kernel
theorem dL_unset_4 : decode method_7_code 4 = .ok (.iload_n 2, 1) := by decide +kernel
theorem dL_unset_5 : decode method_7_code 5 = .ok (.invokevirtual 32, 3) := by decide +kernel
theorem dL_unset_8 : decode method_7_code 8 = .ok (.ifCond .eq 7, 3) := by decide +kernel
theorem dL_unset_11 : decode method_7_code 11 = .ok (.lconst 1, 1) := by decide +kernel
theorem dL_unset_12 : decode method_7_code 12 = .ok (.goto 4, 3) := by decide +kernel
theorem dL_unset_15 : decode method_7_code 15 = .ok (.lconst 0, 1) := by decide +kernel
theorem dL_unset_16 : decode method_7_code 16 = .ok (.lastore, 1) := by decide +kernel
theorem dL_unset_17 : decode method_7_code 17 = .ok (.goto 11, 3) := by decide +kernel
theorem dL_unset_20 : decode method_7_code 20 = .ok (.astore 4, 2) := by decide +kernel
theorem dL_unset_22 : decode method_7_code 22 = .ok (.iconst 1, 1) := by decide +kernel
theorem dL_unset_23 : decode method_7_code 23 = .ok (.ireturn, 1) := by decide +kernel
theorem dL_unset_24 : decode method_7_code 24 = .ok (.astore 4, 2) := by decide +kernel
theorem dL_unset_26 : decode method_7_code 26 = .ok (.iconst 2, 1) := by decide +kernel
theorem dL_unset_27 : decode method_7_code 27 = .ok (.ireturn, 1) := by decide +kernel
theorem dL_unset_28 : decode method_7_code 28 = .ok (.iconst 0, 1) := by decide +kernel
theorem dL_unset_29 : decode method_7_code 29 = .ok (.ireturn, 1) := by decide +kernel
theorem dL_resolved_0 : decode method_8_code 0 = .ok (.aload_n 3, 1) := by decide +kernel
theorem dL_resolved_1 : decode method_8_code 1 = .ok (.iconst 0, 1) := by decide +kernel
theorem dL_resolved_2 : decode method_8_code 2 = .ok (.aload_n 0, 1) := by decide +kernel
theorem dL_resolved_3 : decode method_8_code 3 = .ok (.iload_n 1, 1) := by decide +kernel
theorem dL_resolved_4 : decode method_8_code 4 = .ok (.iload_n 2, 1) := by decide +kernel
theorem dL_resolved_5 : decode method_8_code 5 = .ok (.invokevirtual 36, 3) := by decide +kernel
theorem dL_resolved_8 : decode method_8_code 8 = .ok (.i2l, 1) := by decide +kernel
theorem dL_resolved_9 : decode method_8_code 9 = .ok (.lastore, 1) := by decide +kernel
theorem dL_resolved_10 : decode method_8_code 10 = .ok (.goto 11, 3) := by decide +kernel
theorem dL_resolved_13 : decode method_8_code 13 = .ok (.astore 4, 2) := by decide +kernel
theorem dL_resolved_15 : decode method_8_code 15 = .ok (.iconst 1, 1) := by decide +kernel
theorem dL_resolved_16 : decode method_8_code 16 = .ok (.ireturn, 1) := by decide +kernel
theorem dL_resolved_17 : decode method_8_code 17 = .ok (.astore 4, 2) := by decide +kernel
theorem dL_resolved_19 : decode method_8_code 19 = .ok (.iconst 2, 1) := by decide +kernel
theorem dL_resolved_20 : decode method_8_code 20 = .ok (.ireturn, 1) := by decide +kernel
theorem dL_resolved_21 : decode method_8_code 21 = .ok (.iconst 0, 1) := by decide +kernel
theorem dL_resolved_22 : decode method_8_code 22 = .ok (.ireturn, 1) := by decide +kernel
theorem dL_origin_0 : decode method_9_code 0 = .ok (.aload_n 3, 1) := by decide +kernel
theorem dL_origin_1 : decode method_9_code 1 = .ok (.iconst 0, 1) := by decide +kernel
theorem dL_origin_2 : decode method_9_code 2 = .ok (.aload_n 0, 1) := by decide +kernel
theorem dL_origin_3 : decode method_9_code 3 = .ok (.iload_n 1, 1) := by decide +kernel
theorem dL_origin_4 : decode method_9_code 4 = .ok (.iload_n 2, 1) := by decide +kernel
theorem dL_origin_5 : decode method_9_code 5 = .ok (.invokevirtual 39, 3) := by decide +kernel
theorem dL_origin_8 : decode method_9_code 8 = .ok (.i2l, 1) := by decide +kernel
theorem dL_origin_9 : decode method_9_code 9 = .ok (.lastore, 1) := by decide +kernel
theorem dL_origin_10 : decode method_9_code 10 = .ok (.goto 11, 3) := by decide +kernel
theorem dL_origin_13 : decode method_9_code 13 = .ok (.astore 4, 2) := by decide +kernel
theorem dL_origin_15 : decode method_9_code 15 = .ok (.iconst 1, 1) := by decide +kernel
theorem dL_origin_16 : decode method_9_code 16 = .ok (.ireturn, 1) := by decide +kernel
theorem dL_origin_17 : decode method_9_code 17 = .ok (.astore 4, 2) := by decide +kernel
theorem dL_origin_19 : decode method_9_code 19 = .ok (.iconst 2, 1) := by decide +kernel
theorem dL_origin_20 : decode method_9_code 20 = .ok (.ireturn, 1) := by decide +kernel
theorem dL_origin_21 : decode method_9_code 21 = .ok (.iconst 0, 1) := by decide +kernel
theorem dL_origin_22 : decode method_9_code 22 = .ok (.ireturn, 1) := by decide +kernel
theorem dL_binding_0 : decode method_10_code 0 = .ok (.aload_n 2, 1) := by decide +kernel
theorem dL_binding_1 : decode method_10_code 1 = .ok (.iconst 0, 1) := by decide +kernel
theorem dL_binding_2 : decode method_10_code 2 = .ok (.aload_n 0, 1) := by decide +kernel
theorem dL_binding_3 : decode method_10_code 3 = .ok (.iload_n 1, 1) := by decide +kernel
theorem dL_binding_4 : decode method_10_code 4 = .ok (.invokevirtual 42, 3) := by decide +kernel
theorem dL_binding_7 : decode method_10_code 7 = .ok (.i2l, 1) := by decide +kernel
theorem dL_binding_8 : decode method_10_code 8 = .ok (.lastore, 1) := by decide +kernel
theorem dL_binding_9 : decode method_10_code 9 = .ok (.goto 6, 3) := by decide +kernel
theorem dL_binding_12 : decode method_10_code 12 = .ok (.astore_n 3, 1) := by decide +kernel
theorem dL_binding_13 : decode method_10_code 13 = .ok (.iconst 1, 1) := by decide +kernel
theorem dL_binding_14 : decode method_10_code 14 = .ok (.ireturn, 1) := by decide +kernel
theorem dL_binding_15 : decode method_10_code 15 = .ok (.iconst 0, 1) := by decide +kernel
theorem dL_binding_16 : decode method_10_code 16 = .ok (.ireturn, 1) := by decide +kernel
theorem dL_write_0 : decode method_11_code 0 = .ok (.aload 4, 2) := by decide +kernel
theorem dL_write_2 : decode method_11_code 2 = .ok (.iconst 0, 1) := by decide +kernel
theorem dL_write_3 : decode method_11_code 3 = .ok (.aload_n 0, 1) := by decide +kernel
theorem dL_write_4 : decode method_11_code 4 = .ok (.iload_n 1, 1) := by decide +kernel
theorem dL_write_5 : decode method_11_code 5 = .ok (.iload_n 2, 1) := by decide +kernel
theorem dL_write_6 : decode method_11_code 6 = .ok (.iload_n 3, 1) := by decide +kernel
theorem dL_write_7 : decode method_11_code 7 = .ok (.invokevirtual 46, 3) := by decide +kernel
theorem dL_write_10 : decode method_11_code 10 = .ok (.i2l, 1) := by decide +kernel
theorem dL_write_11 : decode method_11_code 11 = .ok (.lastore, 1) := by decide +kernel
theorem dL_write_12 : decode method_11_code 12 = .ok (.goto 15, 3) := by decide +kernel
theorem dL_write_15 : decode method_11_code 15 = .ok (.astore 5, 2) := by decide +kernel
theorem dL_write_17 : decode method_11_code 17 = .ok (.iconst 1, 1) := by decide +kernel
theorem dL_write_18 : decode method_11_code 18 = .ok (.ireturn, 1) := by decide +kernel
theorem dL_write_19 : decode method_11_code 19 = .ok (.astore 5, 2) := by decide +kernel
theorem dL_write_21 : decode method_11_code 21 = .ok (.iconst 2, 1) := by decide +kernel
theorem dL_write_22 : decode method_11_code 22 = .ok (.ireturn, 1) := by decide +kernel
theorem dL_write_23 : decode method_11_code 23 = .ok (.astore 5, 2) := by decide +kernel
theorem dL_write_25 : decode method_11_code 25 = .ok (.iconst 3, 1) := by decide +kernel
theorem dL_write_26 : decode method_11_code 26 = .ok (.ireturn, 1) := by decide +kernel
theorem dL_write_27 : decode method_11_code 27 = .ok (.iconst 0, 1) := by decide +kernel
theorem dL_write_28 : decode method_11_code 28 = .ok (.ireturn, 1) := by decide +kernel
theorem dL_scale_0 : decode method_12_code 0 = .ok (.aload_n 2, 1) := by decide +kernel
theorem dL_scale_1 : decode method_12_code 1 = .ok (.iconst 0, 1) := by decide +kernel
theorem dL_scale_2 : decode method_12_code 2 = .ok (.aload_n 0, 1) := by decide +kernel
theorem dL_scale_3 : decode method_12_code 3 = .ok (.iload_n 1, 1) := by decide +kernel
theorem dL_scale_4 : decode method_12_code 4 = .ok (.invokevirtual 50, 3) := by decide +kernel
theorem dL_scale_7 : decode method_12_code 7 = .ok (.i2l, 1) := by decide +kernel
theorem dL_scale_8 : decode method_12_code 8 = .ok (.lastore, 1) := by decide +kernel
theorem dL_scale_9 : decode method_12_code 9 = .ok (.goto 6, 3) := by decide +kernel
theorem dL_scale_12 : decode method_12_code 12 = .ok (.astore_n 3, 1) := by decide +kernel
theorem dL_scale_13 : decode method_12_code 13 = .ok (.iconst 1, 1) := by decide +kernel
theorem dL_scale_14 : decode method_12_code 14 = .ok (.ireturn, 1) := by decide +kernel
theorem dL_scale_15 : decode method_12_code 15 = .ok (.iconst 0, 1) := by decide +kernel
theorem dL_scale_16 : decode method_12_code 16 = .ok (.ireturn, 1) := by decide +kernel
theorem dL_lines_0 : decode method_13_code 0 = .ok (.aload_n 2, 1) := by decide +kernel
theorem dL_lines_1 : decode method_13_code 1 = .ok (.iconst 0, 1) := by decide +kernel
theorem dL_lines_2 : decode method_13_code 2 = .ok (.aload_n 0, 1) := by decide +kernel
theorem dL_lines_3 : decode method_13_code 3 = .ok (.iload_n 1, 1) := by decide +kernel
theorem dL_lines_4 : decode method_13_code 4 = .ok (.invokevirtual 53, 3) := by decide +kernel
theorem dL_lines_7 : decode method_13_code 7 = .ok (.i2l, 1) := by decide +kernel
theorem dL_lines_8 : decode method_13_code 8 = .ok (.lastore, 1) := by decide +kernel
theorem dL_lines_9 : decode method_13_code 9 = .ok (.goto 6, 3) := by decide +kernel
theorem dL_lines_12 : decode method_13_code 12 = .ok (.astore_n 3, 1) := by decide +kernel
theorem dL_lines_13 : decode method_13_code 13 = .ok (.iconst 1, 1) := by decide +kernel
theorem dL_lines_14 : decode method_13_code 14 = .ok (.ireturn, 1) := by decide +kernel
theorem dL_lines_15 : decode method_13_code 15 = .ok (.iconst 0, 1) := by decide +kernel
theorem dL_lines_16 : decode method_13_code 16 = .ok (.ireturn, 1) := by decide +kernel
theorem dL_line_0 : decode method_14_code 0 = .ok (.aload 4, 2) := by decide +kernel
theorem dL_line_2 : decode method_14_code 2 = .ok (.iconst 0, 1) := by decide +kernel
theorem dL_line_3 : decode method_14_code 3 = .ok (.aload_n 0, 1) := by decide +kernel
theorem dL_line_4 : decode method_14_code 4 = .ok (.iload_n 1, 1) := by decide +kernel
theorem dL_line_5 : decode method_14_code 5 = .ok (.iload_n 2, 1) := by decide +kernel
theorem dL_line_6 : decode method_14_code 6 = .ok (.iload_n 3, 1) := by decide +kernel
theorem dL_line_7 : decode method_14_code 7 = .ok (.invokevirtual 56, 3) := by decide +kernel
theorem dL_line_10 : decode method_14_code 10 = .ok (.i2l, 1) := by decide +kernel
theorem dL_line_11 : decode method_14_code 11 = .ok (.lastore, 1) := by decide +kernel
theorem dL_line_12 : decode method_14_code 12 = .ok (.goto 7, 3) := by decide +kernel
theorem dL_line_15 : decode method_14_code 15 = .ok (.astore 5, 2) := by decide +kernel
theorem dL_line_17 : decode method_14_code 17 = .ok (.iconst 1, 1) := by decide +kernel
theorem dL_line_18 : decode method_14_code 18 = .ok (.ireturn, 1) := by decide +kernel
theorem dL_line_19 : decode method_14_code 19 = .ok (.iconst 0, 1) := by decide +kernel
theorem dL_line_20 : decode method_14_code 20 = .ok (.ireturn, 1) := by decide +kernel
theorem dL_number_0 : decode method_15_code 0 = .ok (.aload_n 3, 1) := by decide +kernel
theorem dL_number_1 : decode method_15_code 1 = .ok (.iconst 0, 1) := by decide +kernel
theorem dL_number_2 : decode method_15_code 2 = .ok (.aload_n 0, 1) := by decide +kernel
theorem dL_number_3 : decode method_15_code 3 = .ok (.iload_n 1, 1) := by decide +kernel
theorem dL_number_4 : decode method_15_code 4 = .ok (.iload_n 2, 1) := by decide +kernel
theorem dL_number_5 : decode method_15_code 5 = .ok (.invokevirtual 59, 3) := by decide +kernel
theorem dL_number_8 : decode method_15_code 8 = .ok (.i2l, 1) := by decide +kernel
theorem dL_number_9 : decode method_15_code 9 = .ok (.lastore, 1) := by decide +kernel
theorem dL_number_10 : decode method_15_code 10 = .ok (.goto 7, 3) := by decide +kernel
theorem dL_number_13 : decode method_15_code 13 = .ok (.astore 4, 2) := by decide +kernel
theorem dL_number_15 : decode method_15_code 15 = .ok (.iconst 1, 1) := by decide +kernel
theorem dL_number_16 : decode method_15_code 16 = .ok (.ireturn, 1) := by decide +kernel
theorem dL_number_17 : decode method_15_code 17 = .ok (.iconst 0, 1) := by decide +kernel
theorem dL_number_18 : decode method_15_code 18 = .ok (.ireturn, 1) := by decide +kernel
theorem dL_effect_0 : decode method_16_code 0 = .ok (.aload 6, 2) := by decide +kernel
theorem dL_effect_2 : decode method_16_code 2 = .ok (.iconst 0, 1) := by decide +kernel
theorem dL_effect_3 : decode method_16_code 3 = .ok (.aload_n 0, 1) := by decide +kernel
theorem dL_effect_4 : decode method_16_code 4 = .ok (.iload_n 1, 1) := by decide +kernel
theorem dL_effect_5 : decode method_16_code 5 = .ok (.iload_n 2, 1) := by decide +kernel
theorem dL_effect_6 : decode method_16_code 6 = .ok (.iload_n 3, 1) := by decide +kernel
theorem dL_effect_7 : decode method_16_code 7 = .ok (.iload 4, 2) := by decide +kernel
theorem dL_effect_9 : decode method_16_code 9 = .ok (.iload 5, 2) := by decide +kernel
theorem dL_effect_11 : decode method_16_code 11 = .ok (.invokevirtual 62, 3) := by decide +kernel
theorem dL_effect_14 : decode method_16_code 14 = .ok (.i2l, 1) := by decide +kernel
theorem dL_effect_15 : decode method_16_code 15 = .ok (.lastore, 1) := by decide +kernel
theorem dL_effect_16 : decode method_16_code 16 = .ok (.goto 19, 3) := by decide +kernel
theorem dL_effect_19 : decode method_16_code 19 = .ok (.astore 7, 2) := by decide +kernel
theorem dL_effect_21 : decode method_16_code 21 = .ok (.iconst 1, 1) := by decide +kernel
theorem dL_effect_22 : decode method_16_code 22 = .ok (.ireturn, 1) := by decide +kernel
theorem dL_effect_23 : decode method_16_code 23 = .ok (.astore 7, 2) := by decide +kernel
theorem dL_effect_25 : decode method_16_code 25 = .ok (.iconst 2, 1) := by decide +kernel
theorem dL_effect_26 : decode method_16_code 26 = .ok (.ireturn, 1) := by decide +kernel
theorem dL_effect_27 : decode method_16_code 27 = .ok (.astore 7, 2) := by decide +kernel
theorem dL_effect_29 : decode method_16_code 29 = .ok (.iconst 3, 1) := by decide +kernel
theorem dL_effect_30 : decode method_16_code 30 = .ok (.ireturn, 1) := by decide +kernel
theorem dL_effect_31 : decode method_16_code 31 = .ok (.astore 7, 2) := by decide +kernel
theorem dL_effect_33 : decode method_16_code 33 = .ok (.iconst 4, 1) := by decide +kernel
theorem dL_effect_34 : decode method_16_code 34 = .ok (.ireturn, 1) := by decide +kernel
theorem dL_effect_35 : decode method_16_code 35 = .ok (.iconst 0, 1) := by decide +kernel
theorem dL_effect_36 : decode method_16_code 36 = .ok (.ireturn, 1) := by decide +kernel
theorem dL_amount_0 : decode method_17_code 0 = .ok (.aload_n 0, 1) := by decide +kernel
theorem dL_amount_1 : decode method_17_code 1 = .ok (.iload_n 1, 1) := by decide +kernel
theorem dL_amount_2 : decode method_17_code 2 = .ok (.iload_n 2, 1) := by decide +kernel
theorem dL_amount_3 : decode method_17_code 3 = .ok (.invokevirtual 66, 3) := by decide +kernel
theorem dL_amount_6 : decode method_17_code 6 = .ok (.goto 9, 3) := by decide +kernel
theorem dL_amount_9 : decode method_17_code 9 = .ok (.astore_n 3, 1) := by decide +kernel
theorem dL_amount_10 : decode method_17_code 10 = .ok (.iconst 1, 1) := by decide +kernel
theorem dL_amount_11 : decode method_17_code 11 = .ok (.ireturn, 1) := by decide +kernel
theorem dL_amount_12 : decode method_17_code 12 = .ok (.astore_n 3, 1) := by decide +kernel
theorem dL_amount_13 : decode method_17_code 13 = .ok (.iconst 2, 1) := by decide +kernel
theorem dL_amount_14 : decode method_17_code 14 = .ok (.ireturn, 1) := by decide +kernel
theorem dL_amount_15 : decode method_17_code 15 = .ok (.iconst 0, 1) := by decide +kernel
theorem dL_amount_16 : decode method_17_code 16 = .ok (.ireturn, 1) := by decide +kernel
theorem dL_timing_0 : decode method_18_code 0 = .ok (.aload_n 3, 1) := by decide +kernel
theorem dL_timing_1 : decode method_18_code 1 = .ok (.iconst 0, 1) := by decide +kernel
theorem dL_timing_2 : decode method_18_code 2 = .ok (.aload_n 0, 1) := by decide +kernel
theorem dL_timing_3 : decode method_18_code 3 = .ok (.iload_n 1, 1) := by decide +kernel
theorem dL_timing_4 : decode method_18_code 4 = .ok (.iload_n 2, 1) := by decide +kernel
theorem dL_timing_5 : decode method_18_code 5 = .ok (.invokevirtual 69, 3) := by decide +kernel
theorem dL_timing_8 : decode method_18_code 8 = .ok (.i2l, 1) := by decide +kernel
theorem dL_timing_9 : decode method_18_code 9 = .ok (.lastore, 1) := by decide +kernel
theorem dL_timing_10 : decode method_18_code 10 = .ok (.goto 7, 3) := by decide +kernel
theorem dL_timing_13 : decode method_18_code 13 = .ok (.astore 4, 2) := by decide +kernel
theorem dL_timing_15 : decode method_18_code 15 = .ok (.iconst 1, 1) := by decide +kernel
theorem dL_timing_16 : decode method_18_code 16 = .ok (.ireturn, 1) := by decide +kernel
theorem dL_timing_17 : decode method_18_code 17 = .ok (.iconst 0, 1) := by decide +kernel
theorem dL_timing_18 : decode method_18_code 18 = .ok (.ireturn, 1) := by decide +kernel
theorem dL_jump_0 : decode method_19_code 0 = .ok (.aload_n 0, 1) := by decide +kernel
theorem dL_jump_1 : decode method_19_code 1 = .ok (.iload_n 1, 1) := by decide +kernel
theorem dL_jump_2 : decode method_19_code 2 = .ok (.invokevirtual 72, 3) := by decide +kernel
theorem dL_jump_5 : decode method_19_code 5 = .ok (.goto 6, 3) := by decide +kernel
theorem dL_jump_8 : decode method_19_code 8 = .ok (.astore_n 2, 1) := by decide +kernel
theorem dL_jump_9 : decode method_19_code 9 = .ok (.iconst 1, 1) := by decide +kernel
theorem dL_jump_10 : decode method_19_code 10 = .ok (.ireturn, 1) := by decide +kernel
theorem dL_jump_11 : decode method_19_code 11 = .ok (.iconst 0, 1) := by decide +kernel
theorem dL_jump_12 : decode method_19_code 12 = .ok (.ireturn, 1) := by decide +kernel
theorem dL_tick_0 : decode method_20_code 0 = .ok (.aload_n 0, 1) := by decide +kernel
theorem dL_tick_1 : decode method_20_code 1 = .ok (.iload_n 1, 1) := by decide +kernel
theorem dL_tick_2 : decode method_20_code 2 = .ok (.invokevirtual 76, 3) := by decide +kernel
theorem dL_tick_5 : decode method_20_code 5 = .ok (.goto 6, 3) := by decide +kernel
theorem dL_tick_8 : decode method_20_code 8 = .ok (.astore_n 2, 1) := by decide +kernel
theorem dL_tick_9 : decode method_20_code 9 = .ok (.iconst 1, 1) := by decide +kernel
theorem dL_tick_10 : decode method_20_code 10 = .ok (.ireturn, 1) := by decide +kernel
theorem dL_tick_11 : decode method_20_code 11 = .ok (.iconst 0, 1) := by decide +kernel
theorem dL_tick_12 : decode method_20_code 12 = .ok (.ireturn, 1) := by decide +kernel
theorem dL_now_0 : decode method_21_code 0 = .ok (.aload_n 3, 1) := by decide +kernel
theorem dL_now_1 : decode method_21_code 1 = .ok (.iconst 0, 1) := by decide +kernel
theorem dL_now_2 : decode method_21_code 2 = .ok (.aload_n 0, 1) := by decide +kernel
theorem dL_now_3 : decode method_21_code 3 = .ok (.iload_n 1, 1) := by decide +kernel
theorem dL_now_4 : decode method_21_code 4 = .ok (.iload_n 2, 1) := by decide +kernel
theorem dL_now_5 : decode method_21_code 5 = .ok (.invokevirtual 79, 3) := by decide +kernel
theorem dL_now_8 : decode method_21_code 8 = .ok (.i2l, 1) := by decide +kernel
theorem dL_now_9 : decode method_21_code 9 = .ok (.lastore, 1) := by decide +kernel
theorem dL_now_10 : decode method_21_code 10 = .ok (.goto 11, 3) := by decide +kernel
theorem dL_now_13 : decode method_21_code 13 = .ok (.astore 4, 2) := by decide +kernel
theorem dL_now_15 : decode method_21_code 15 = .ok (.iconst 1, 1) := by decide +kernel
theorem dL_now_16 : decode method_21_code 16 = .ok (.ireturn, 1) := by decide +kernel
theorem dL_now_17 : decode method_21_code 17 = .ok (.astore 4, 2) := by decide +kernel
theorem dL_now_19 : decode method_21_code 19 = .ok (.iconst 2, 1) := by decide +kernel
theorem dL_now_20 : decode method_21_code 20 = .ok (.ireturn, 1) := by decide +kernel
theorem dL_now_21 : decode method_21_code 21 = .ok (.iconst 0, 1) := by decide +kernel
theorem dL_now_22 : decode method_21_code 22 = .ok (.ireturn, 1) := by decide +kernel
end
section
theorem dL_law_0 : decode code 0 = .ok (.new 8, 3) := by decide +kernel
theorem dL_law_3 : decode code 3 = .ok (.dup, 1) := by decide +kernel
theorem dL_law_4 : decode code 4 = .ok (.invokespecial 82, 3) := by decide +kernel
theorem dL_law_7 : decode code 7 = .ok (.astore_n 1, 1) := by decide +kernel
theorem dL_law_8 : decode code 8 = .ok (.new 83, 3) := by decide +kernel
theorem dL_law_11 : decode code 11 = .ok (.dup, 1) := by decide +kernel
theorem dL_law_12 : decode code 12 = .ok (.invokespecial 85, 3) := by decide +kernel
theorem dL_law_15 : decode code 15 = .ok (.astore_n 2, 1) := by decide +kernel
theorem dL_law_16 : decode code 16 = .ok (.iconst 1, 1) := by decide +kernel
theorem dL_law_17 : decode code 17 = .ok (.newarray .long, 2) := by decide +kernel
theorem dL_law_19 : decode code 19 = .ok (.astore_n 3, 1) := by decide +kernel
theorem dL_law_20 : decode code 20 = .ok (.iconst 0, 1) := by decide +kernel
theorem dL_law_21 : decode code 21 = .ok (.istore 4, 2) := by decide +kernel
theorem dL_law_23 : decode code 23 = .ok (.iload 4, 2) := by decide +kernel
theorem dL_law_25 : decode code 25 = .ok (.aload_n 0, 1) := by decide +kernel
theorem dL_law_26 : decode code 26 = .ok (.arraylength, 1) := by decide +kernel
theorem dL_law_27 : decode code 27 = .ok (.bipush 6, 2) := by decide +kernel
theorem dL_law_29 : decode code 29 = .ok (.isub, 1) := by decide +kernel
theorem dL_law_30 : decode code 30 = .ok (.if_icmp .gt 1423, 3) := by decide +kernel
theorem dL_law_33 : decode code 33 = .ok (.aload_n 0, 1) := by decide +kernel
theorem dL_law_34 : decode code 34 = .ok (.iload 4, 2) := by decide +kernel
theorem dL_law_36 : decode code 36 = .ok (.iaload, 1) := by decide +kernel
theorem dL_law_37 : decode code 37 = .ok (.bipush 31, 2) := by decide +kernel
theorem dL_law_39 : decode code 39 = .ok (.iand, 1) := by decide +kernel
theorem dL_law_40 : decode code 40 = .ok (.tableswitch 1407 0 22 #[108, 176, 244, 292, 352, 427, 495, 563, 619, 699, 755, 811, 891, 959, 1063, 1111, 1179, 1192, 1205, 1241, 1277, 1302, 1370], 108) := by decide +kernel
theorem dL_law_148 : decode code 148 = .ok (.aload_n 1, 1) := by decide +kernel
theorem dL_law_149 : decode code 149 = .ok (.aload_n 0, 1) := by decide +kernel
theorem dL_law_150 : decode code 150 = .ok (.iload 4, 2) := by decide +kernel
theorem dL_law_152 : decode code 152 = .ok (.iconst 1, 1) := by decide +kernel
theorem dL_law_153 : decode code 153 = .ok (.iadd, 1) := by decide +kernel
theorem dL_law_154 : decode code 154 = .ok (.iaload, 1) := by decide +kernel
theorem dL_law_155 : decode code 155 = .ok (.aload_n 0, 1) := by decide +kernel
theorem dL_law_156 : decode code 156 = .ok (.iload 4, 2) := by decide +kernel
theorem dL_law_158 : decode code 158 = .ok (.iconst 2, 1) := by decide +kernel
theorem dL_law_159 : decode code 159 = .ok (.iadd, 1) := by decide +kernel
theorem dL_law_160 : decode code 160 = .ok (.iaload, 1) := by decide +kernel
theorem dL_law_161 : decode code 161 = .ok (.aload_n 3, 1) := by decide +kernel
theorem dL_law_162 : decode code 162 = .ok (.invokestatic 86, 3) := by decide +kernel
theorem dL_law_165 : decode code 165 = .ok (.istore 5, 2) := by decide +kernel
theorem dL_law_167 : decode code 167 = .ok (.aload_n 2, 1) := by decide +kernel
theorem dL_law_168 : decode code 168 = .ok (.aload_n 0, 1) := by decide +kernel
theorem dL_law_169 : decode code 169 = .ok (.iload 4, 2) := by decide +kernel
theorem dL_law_171 : decode code 171 = .ok (.iconst 1, 1) := by decide +kernel
theorem dL_law_172 : decode code 172 = .ok (.iadd, 1) := by decide +kernel
theorem dL_law_173 : decode code 173 = .ok (.iaload, 1) := by decide +kernel
theorem dL_law_174 : decode code 174 = .ok (.aload_n 0, 1) := by decide +kernel
theorem dL_law_175 : decode code 175 = .ok (.iload 4, 2) := by decide +kernel
theorem dL_law_177 : decode code 177 = .ok (.iconst 2, 1) := by decide +kernel
theorem dL_law_178 : decode code 178 = .ok (.iadd, 1) := by decide +kernel
theorem dL_law_179 : decode code 179 = .ok (.iaload, 1) := by decide +kernel
theorem dL_law_180 : decode code 180 = .ok (.invokevirtual 91, 3) := by decide +kernel
theorem dL_law_183 : decode code 183 = .ok (.istore 6, 2) := by decide +kernel
theorem dL_law_185 : decode code 185 = .ok (.aload_n 2, 1) := by decide +kernel
theorem dL_law_186 : decode code 186 = .ok (.invokevirtual 92, 3) := by decide +kernel
theorem dL_law_189 : decode code 189 = .ok (.iload 5, 2) := by decide +kernel
theorem dL_law_191 : decode code 191 = .ok (.if_icmp .eq 5, 3) := by decide +kernel
theorem dL_law_194 : decode code 194 = .ok (.iconst 0, 1) := by decide +kernel
theorem dL_law_195 : decode code 195 = .ok (.ireturn, 1) := by decide +kernel
theorem dL_law_196 : decode code 196 = .ok (.iload 5, 2) := by decide +kernel
theorem dL_law_198 : decode code 198 = .ok (.ifCond .ne 15, 3) := by decide +kernel
theorem dL_law_201 : decode code 201 = .ok (.aload_n 3, 1) := by decide +kernel
theorem dL_law_202 : decode code 202 = .ok (.iconst 0, 1) := by decide +kernel
theorem dL_law_203 : decode code 203 = .ok (.laload, 1) := by decide +kernel
theorem dL_law_204 : decode code 204 = .ok (.iload 6, 2) := by decide +kernel
theorem dL_law_206 : decode code 206 = .ok (.i2l, 1) := by decide +kernel
theorem dL_law_207 : decode code 207 = .ok (.lcmp, 1) := by decide +kernel
theorem dL_law_208 : decode code 208 = .ok (.ifCond .eq 5, 3) := by decide +kernel
theorem dL_law_211 : decode code 211 = .ok (.iconst 0, 1) := by decide +kernel
theorem dL_law_212 : decode code 212 = .ok (.ireturn, 1) := by decide +kernel
theorem dL_law_213 : decode code 213 = .ok (.goto 1234, 3) := by decide +kernel
theorem dL_law_216 : decode code 216 = .ok (.aload_n 1, 1) := by decide +kernel
theorem dL_law_217 : decode code 217 = .ok (.aload_n 0, 1) := by decide +kernel
theorem dL_law_218 : decode code 218 = .ok (.iload 4, 2) := by decide +kernel
theorem dL_law_220 : decode code 220 = .ok (.iconst 1, 1) := by decide +kernel
theorem dL_law_221 : decode code 221 = .ok (.iadd, 1) := by decide +kernel
theorem dL_law_222 : decode code 222 = .ok (.iaload, 1) := by decide +kernel
theorem dL_law_223 : decode code 223 = .ok (.aload_n 0, 1) := by decide +kernel
theorem dL_law_224 : decode code 224 = .ok (.iload 4, 2) := by decide +kernel
theorem dL_law_226 : decode code 226 = .ok (.iconst 2, 1) := by decide +kernel
theorem dL_law_227 : decode code 227 = .ok (.iadd, 1) := by decide +kernel
theorem dL_law_228 : decode code 228 = .ok (.iaload, 1) := by decide +kernel
theorem dL_law_229 : decode code 229 = .ok (.aload_n 3, 1) := by decide +kernel
theorem dL_law_230 : decode code 230 = .ok (.invokestatic 96, 3) := by decide +kernel
theorem dL_law_233 : decode code 233 = .ok (.istore 5, 2) := by decide +kernel
theorem dL_law_235 : decode code 235 = .ok (.aload_n 2, 1) := by decide +kernel
theorem dL_law_236 : decode code 236 = .ok (.aload_n 0, 1) := by decide +kernel
theorem dL_law_237 : decode code 237 = .ok (.iload 4, 2) := by decide +kernel
theorem dL_law_239 : decode code 239 = .ok (.iconst 1, 1) := by decide +kernel
theorem dL_law_240 : decode code 240 = .ok (.iadd, 1) := by decide +kernel
theorem dL_law_241 : decode code 241 = .ok (.iaload, 1) := by decide +kernel
theorem dL_law_242 : decode code 242 = .ok (.aload_n 0, 1) := by decide +kernel
theorem dL_law_243 : decode code 243 = .ok (.iload 4, 2) := by decide +kernel
theorem dL_law_245 : decode code 245 = .ok (.iconst 2, 1) := by decide +kernel
theorem dL_law_246 : decode code 246 = .ok (.iadd, 1) := by decide +kernel
theorem dL_law_247 : decode code 247 = .ok (.iaload, 1) := by decide +kernel
theorem dL_law_248 : decode code 248 = .ok (.invokevirtual 98, 3) := by decide +kernel
theorem dL_law_251 : decode code 251 = .ok (.istore 6, 2) := by decide +kernel
theorem dL_law_253 : decode code 253 = .ok (.aload_n 2, 1) := by decide +kernel
theorem dL_law_254 : decode code 254 = .ok (.invokevirtual 92, 3) := by decide +kernel
theorem dL_law_257 : decode code 257 = .ok (.iload 5, 2) := by decide +kernel
theorem dL_law_259 : decode code 259 = .ok (.if_icmp .eq 5, 3) := by decide +kernel
theorem dL_law_262 : decode code 262 = .ok (.iconst 0, 1) := by decide +kernel
theorem dL_law_263 : decode code 263 = .ok (.ireturn, 1) := by decide +kernel
theorem dL_law_264 : decode code 264 = .ok (.iload 5, 2) := by decide +kernel
theorem dL_law_266 : decode code 266 = .ok (.ifCond .ne 15, 3) := by decide +kernel
theorem dL_law_269 : decode code 269 = .ok (.aload_n 3, 1) := by decide +kernel
theorem dL_law_270 : decode code 270 = .ok (.iconst 0, 1) := by decide +kernel
theorem dL_law_271 : decode code 271 = .ok (.laload, 1) := by decide +kernel
theorem dL_law_272 : decode code 272 = .ok (.iload 6, 2) := by decide +kernel
theorem dL_law_274 : decode code 274 = .ok (.i2l, 1) := by decide +kernel
theorem dL_law_275 : decode code 275 = .ok (.lcmp, 1) := by decide +kernel
theorem dL_law_276 : decode code 276 = .ok (.ifCond .eq 5, 3) := by decide +kernel
theorem dL_law_279 : decode code 279 = .ok (.iconst 0, 1) := by decide +kernel
theorem dL_law_280 : decode code 280 = .ok (.ireturn, 1) := by decide +kernel
theorem dL_law_281 : decode code 281 = .ok (.goto 1166, 3) := by decide +kernel
theorem dL_law_284 : decode code 284 = .ok (.aload_n 1, 1) := by decide +kernel
theorem dL_law_285 : decode code 285 = .ok (.aload_n 0, 1) := by decide +kernel
theorem dL_law_286 : decode code 286 = .ok (.iload 4, 2) := by decide +kernel
theorem dL_law_288 : decode code 288 = .ok (.iconst 1, 1) := by decide +kernel
theorem dL_law_289 : decode code 289 = .ok (.iadd, 1) := by decide +kernel
theorem dL_law_290 : decode code 290 = .ok (.iaload, 1) := by decide +kernel
theorem dL_law_291 : decode code 291 = .ok (.aload_n 0, 1) := by decide +kernel
theorem dL_law_292 : decode code 292 = .ok (.iload 4, 2) := by decide +kernel
theorem dL_law_294 : decode code 294 = .ok (.iconst 2, 1) := by decide +kernel
theorem dL_law_295 : decode code 295 = .ok (.iadd, 1) := by decide +kernel
theorem dL_law_296 : decode code 296 = .ok (.iaload, 1) := by decide +kernel
theorem dL_law_297 : decode code 297 = .ok (.invokestatic 99, 3) := by decide +kernel
theorem dL_law_300 : decode code 300 = .ok (.istore 5, 2) := by decide +kernel
theorem dL_law_302 : decode code 302 = .ok (.aload_n 2, 1) := by decide +kernel
theorem dL_law_303 : decode code 303 = .ok (.aload_n 0, 1) := by decide +kernel
theorem dL_law_304 : decode code 304 = .ok (.iload 4, 2) := by decide +kernel
theorem dL_law_306 : decode code 306 = .ok (.iconst 1, 1) := by decide +kernel
theorem dL_law_307 : decode code 307 = .ok (.iadd, 1) := by decide +kernel
theorem dL_law_308 : decode code 308 = .ok (.iaload, 1) := by decide +kernel
theorem dL_law_309 : decode code 309 = .ok (.aload_n 0, 1) := by decide +kernel
theorem dL_law_310 : decode code 310 = .ok (.iload 4, 2) := by decide +kernel
theorem dL_law_312 : decode code 312 = .ok (.iconst 2, 1) := by decide +kernel
theorem dL_law_313 : decode code 313 = .ok (.iadd, 1) := by decide +kernel
theorem dL_law_314 : decode code 314 = .ok (.iaload, 1) := by decide +kernel
theorem dL_law_315 : decode code 315 = .ok (.invokevirtual 102, 3) := by decide +kernel
theorem dL_law_318 : decode code 318 = .ok (.aload_n 2, 1) := by decide +kernel
theorem dL_law_319 : decode code 319 = .ok (.invokevirtual 92, 3) := by decide +kernel
theorem dL_law_322 : decode code 322 = .ok (.iload 5, 2) := by decide +kernel
theorem dL_law_324 : decode code 324 = .ok (.if_icmp .eq 5, 3) := by decide +kernel
theorem dL_law_327 : decode code 327 = .ok (.iconst 0, 1) := by decide +kernel
theorem dL_law_328 : decode code 328 = .ok (.ireturn, 1) := by decide +kernel
theorem dL_law_329 : decode code 329 = .ok (.goto 1118, 3) := by decide +kernel
theorem dL_law_332 : decode code 332 = .ok (.aload_n 1, 1) := by decide +kernel
theorem dL_law_333 : decode code 333 = .ok (.aload_n 0, 1) := by decide +kernel
theorem dL_law_334 : decode code 334 = .ok (.iload 4, 2) := by decide +kernel
theorem dL_law_336 : decode code 336 = .ok (.iconst 1, 1) := by decide +kernel
theorem dL_law_337 : decode code 337 = .ok (.iadd, 1) := by decide +kernel
theorem dL_law_338 : decode code 338 = .ok (.iaload, 1) := by decide +kernel
theorem dL_law_339 : decode code 339 = .ok (.aload_n 0, 1) := by decide +kernel
theorem dL_law_340 : decode code 340 = .ok (.iload 4, 2) := by decide +kernel
theorem dL_law_342 : decode code 342 = .ok (.iconst 2, 1) := by decide +kernel
theorem dL_law_343 : decode code 343 = .ok (.iadd, 1) := by decide +kernel
theorem dL_law_344 : decode code 344 = .ok (.iaload, 1) := by decide +kernel
theorem dL_law_345 : decode code 345 = .ok (.aload_n 0, 1) := by decide +kernel
theorem dL_law_346 : decode code 346 = .ok (.iload 4, 2) := by decide +kernel
theorem dL_law_348 : decode code 348 = .ok (.iconst 3, 1) := by decide +kernel
theorem dL_law_349 : decode code 349 = .ok (.iadd, 1) := by decide +kernel
theorem dL_law_350 : decode code 350 = .ok (.iaload, 1) := by decide +kernel
theorem dL_law_351 : decode code 351 = .ok (.invokestatic 103, 3) := by decide +kernel
theorem dL_law_354 : decode code 354 = .ok (.istore 5, 2) := by decide +kernel
theorem dL_law_356 : decode code 356 = .ok (.aload_n 2, 1) := by decide +kernel
theorem dL_law_357 : decode code 357 = .ok (.aload_n 0, 1) := by decide +kernel
theorem dL_law_358 : decode code 358 = .ok (.iload 4, 2) := by decide +kernel
theorem dL_law_360 : decode code 360 = .ok (.iconst 1, 1) := by decide +kernel
theorem dL_law_361 : decode code 361 = .ok (.iadd, 1) := by decide +kernel
theorem dL_law_362 : decode code 362 = .ok (.iaload, 1) := by decide +kernel
theorem dL_law_363 : decode code 363 = .ok (.aload_n 0, 1) := by decide +kernel
theorem dL_law_364 : decode code 364 = .ok (.iload 4, 2) := by decide +kernel
theorem dL_law_366 : decode code 366 = .ok (.iconst 2, 1) := by decide +kernel
theorem dL_law_367 : decode code 367 = .ok (.iadd, 1) := by decide +kernel
theorem dL_law_368 : decode code 368 = .ok (.iaload, 1) := by decide +kernel
theorem dL_law_369 : decode code 369 = .ok (.aload_n 0, 1) := by decide +kernel
theorem dL_law_370 : decode code 370 = .ok (.iload 4, 2) := by decide +kernel
theorem dL_law_372 : decode code 372 = .ok (.iconst 3, 1) := by decide +kernel
theorem dL_law_373 : decode code 373 = .ok (.iadd, 1) := by decide +kernel
theorem dL_law_374 : decode code 374 = .ok (.iaload, 1) := by decide +kernel
theorem dL_law_375 : decode code 375 = .ok (.invokevirtual 106, 3) := by decide +kernel
theorem dL_law_378 : decode code 378 = .ok (.aload_n 2, 1) := by decide +kernel
theorem dL_law_379 : decode code 379 = .ok (.invokevirtual 92, 3) := by decide +kernel
theorem dL_law_382 : decode code 382 = .ok (.iload 5, 2) := by decide +kernel
theorem dL_law_384 : decode code 384 = .ok (.if_icmp .eq 5, 3) := by decide +kernel
theorem dL_law_387 : decode code 387 = .ok (.iconst 0, 1) := by decide +kernel
theorem dL_law_388 : decode code 388 = .ok (.ireturn, 1) := by decide +kernel
theorem dL_law_389 : decode code 389 = .ok (.goto 1058, 3) := by decide +kernel
theorem dL_law_392 : decode code 392 = .ok (.aload_n 1, 1) := by decide +kernel
theorem dL_law_393 : decode code 393 = .ok (.aload_n 0, 1) := by decide +kernel
theorem dL_law_394 : decode code 394 = .ok (.iload 4, 2) := by decide +kernel
theorem dL_law_396 : decode code 396 = .ok (.iconst 1, 1) := by decide +kernel
theorem dL_law_397 : decode code 397 = .ok (.iadd, 1) := by decide +kernel
theorem dL_law_398 : decode code 398 = .ok (.iaload, 1) := by decide +kernel
theorem dL_law_399 : decode code 399 = .ok (.aload_n 0, 1) := by decide +kernel
theorem dL_law_400 : decode code 400 = .ok (.iload 4, 2) := by decide +kernel
theorem dL_law_402 : decode code 402 = .ok (.iconst 2, 1) := by decide +kernel
theorem dL_law_403 : decode code 403 = .ok (.iadd, 1) := by decide +kernel
theorem dL_law_404 : decode code 404 = .ok (.iaload, 1) := by decide +kernel
theorem dL_law_405 : decode code 405 = .ok (.aload_n 3, 1) := by decide +kernel
theorem dL_law_406 : decode code 406 = .ok (.invokestatic 107, 3) := by decide +kernel
theorem dL_law_409 : decode code 409 = .ok (.istore 5, 2) := by decide +kernel
theorem dL_law_411 : decode code 411 = .ok (.aload_n 2, 1) := by decide +kernel
theorem dL_law_412 : decode code 412 = .ok (.aload_n 0, 1) := by decide +kernel
theorem dL_law_413 : decode code 413 = .ok (.iload 4, 2) := by decide +kernel
theorem dL_law_415 : decode code 415 = .ok (.iconst 1, 1) := by decide +kernel
theorem dL_law_416 : decode code 416 = .ok (.iadd, 1) := by decide +kernel
theorem dL_law_417 : decode code 417 = .ok (.iaload, 1) := by decide +kernel
theorem dL_law_418 : decode code 418 = .ok (.aload_n 0, 1) := by decide +kernel
theorem dL_law_419 : decode code 419 = .ok (.iload 4, 2) := by decide +kernel
theorem dL_law_421 : decode code 421 = .ok (.iconst 2, 1) := by decide +kernel
theorem dL_law_422 : decode code 422 = .ok (.iadd, 1) := by decide +kernel
theorem dL_law_423 : decode code 423 = .ok (.iaload, 1) := by decide +kernel
theorem dL_law_424 : decode code 424 = .ok (.invokevirtual 109, 3) := by decide +kernel
theorem dL_law_427 : decode code 427 = .ok (.istore 6, 2) := by decide +kernel
theorem dL_law_429 : decode code 429 = .ok (.aload_n 2, 1) := by decide +kernel
theorem dL_law_430 : decode code 430 = .ok (.invokevirtual 92, 3) := by decide +kernel
theorem dL_law_433 : decode code 433 = .ok (.iload 5, 2) := by decide +kernel
theorem dL_law_435 : decode code 435 = .ok (.if_icmp .eq 5, 3) := by decide +kernel
theorem dL_law_438 : decode code 438 = .ok (.iconst 0, 1) := by decide +kernel
theorem dL_law_439 : decode code 439 = .ok (.ireturn, 1) := by decide +kernel
theorem dL_law_440 : decode code 440 = .ok (.iload 5, 2) := by decide +kernel
theorem dL_law_442 : decode code 442 = .ok (.ifCond .ne 22, 3) := by decide +kernel
theorem dL_law_445 : decode code 445 = .ok (.aload_n 3, 1) := by decide +kernel
theorem dL_law_446 : decode code 446 = .ok (.iconst 0, 1) := by decide +kernel
theorem dL_law_447 : decode code 447 = .ok (.laload, 1) := by decide +kernel
theorem dL_law_448 : decode code 448 = .ok (.iload 6, 2) := by decide +kernel
theorem dL_law_450 : decode code 450 = .ok (.ifCond .eq 7, 3) := by decide +kernel
theorem dL_law_453 : decode code 453 = .ok (.lconst 1, 1) := by decide +kernel
theorem dL_law_454 : decode code 454 = .ok (.goto 4, 3) := by decide +kernel
theorem dL_law_457 : decode code 457 = .ok (.lconst 0, 1) := by decide +kernel
theorem dL_law_458 : decode code 458 = .ok (.lcmp, 1) := by decide +kernel
theorem dL_law_459 : decode code 459 = .ok (.ifCond .eq 5, 3) := by decide +kernel
theorem dL_law_462 : decode code 462 = .ok (.iconst 0, 1) := by decide +kernel
theorem dL_law_463 : decode code 463 = .ok (.ireturn, 1) := by decide +kernel
theorem dL_law_464 : decode code 464 = .ok (.goto 983, 3) := by decide +kernel
theorem dL_law_467 : decode code 467 = .ok (.aload_n 1, 1) := by decide +kernel
theorem dL_law_468 : decode code 468 = .ok (.aload_n 0, 1) := by decide +kernel
theorem dL_law_469 : decode code 469 = .ok (.iload 4, 2) := by decide +kernel
theorem dL_law_471 : decode code 471 = .ok (.iconst 1, 1) := by decide +kernel
theorem dL_law_472 : decode code 472 = .ok (.iadd, 1) := by decide +kernel
theorem dL_law_473 : decode code 473 = .ok (.iaload, 1) := by decide +kernel
theorem dL_law_474 : decode code 474 = .ok (.aload_n 0, 1) := by decide +kernel
theorem dL_law_475 : decode code 475 = .ok (.iload 4, 2) := by decide +kernel
theorem dL_law_477 : decode code 477 = .ok (.iconst 2, 1) := by decide +kernel
theorem dL_law_478 : decode code 478 = .ok (.iadd, 1) := by decide +kernel
theorem dL_law_479 : decode code 479 = .ok (.iaload, 1) := by decide +kernel
theorem dL_law_480 : decode code 480 = .ok (.aload_n 3, 1) := by decide +kernel
theorem dL_law_481 : decode code 481 = .ok (.invokestatic 110, 3) := by decide +kernel
theorem dL_law_484 : decode code 484 = .ok (.istore 5, 2) := by decide +kernel
theorem dL_law_486 : decode code 486 = .ok (.aload_n 2, 1) := by decide +kernel
theorem dL_law_487 : decode code 487 = .ok (.aload_n 0, 1) := by decide +kernel
theorem dL_law_488 : decode code 488 = .ok (.iload 4, 2) := by decide +kernel
theorem dL_law_490 : decode code 490 = .ok (.iconst 1, 1) := by decide +kernel
theorem dL_law_491 : decode code 491 = .ok (.iadd, 1) := by decide +kernel
theorem dL_law_492 : decode code 492 = .ok (.iaload, 1) := by decide +kernel
theorem dL_law_493 : decode code 493 = .ok (.aload_n 0, 1) := by decide +kernel
theorem dL_law_494 : decode code 494 = .ok (.iload 4, 2) := by decide +kernel
theorem dL_law_496 : decode code 496 = .ok (.iconst 2, 1) := by decide +kernel
theorem dL_law_497 : decode code 497 = .ok (.iadd, 1) := by decide +kernel
theorem dL_law_498 : decode code 498 = .ok (.iaload, 1) := by decide +kernel
theorem dL_law_499 : decode code 499 = .ok (.invokevirtual 112, 3) := by decide +kernel
theorem dL_law_502 : decode code 502 = .ok (.istore 6, 2) := by decide +kernel
theorem dL_law_504 : decode code 504 = .ok (.aload_n 2, 1) := by decide +kernel
theorem dL_law_505 : decode code 505 = .ok (.invokevirtual 92, 3) := by decide +kernel
theorem dL_law_508 : decode code 508 = .ok (.iload 5, 2) := by decide +kernel
theorem dL_law_510 : decode code 510 = .ok (.if_icmp .eq 5, 3) := by decide +kernel
theorem dL_law_513 : decode code 513 = .ok (.iconst 0, 1) := by decide +kernel
theorem dL_law_514 : decode code 514 = .ok (.ireturn, 1) := by decide +kernel
theorem dL_law_515 : decode code 515 = .ok (.iload 5, 2) := by decide +kernel
theorem dL_law_517 : decode code 517 = .ok (.ifCond .ne 15, 3) := by decide +kernel
theorem dL_law_520 : decode code 520 = .ok (.aload_n 3, 1) := by decide +kernel
theorem dL_law_521 : decode code 521 = .ok (.iconst 0, 1) := by decide +kernel
theorem dL_law_522 : decode code 522 = .ok (.laload, 1) := by decide +kernel
theorem dL_law_523 : decode code 523 = .ok (.iload 6, 2) := by decide +kernel
theorem dL_law_525 : decode code 525 = .ok (.i2l, 1) := by decide +kernel
theorem dL_law_526 : decode code 526 = .ok (.lcmp, 1) := by decide +kernel
theorem dL_law_527 : decode code 527 = .ok (.ifCond .eq 5, 3) := by decide +kernel
theorem dL_law_530 : decode code 530 = .ok (.iconst 0, 1) := by decide +kernel
theorem dL_law_531 : decode code 531 = .ok (.ireturn, 1) := by decide +kernel
theorem dL_law_532 : decode code 532 = .ok (.goto 915, 3) := by decide +kernel
theorem dL_law_535 : decode code 535 = .ok (.aload_n 1, 1) := by decide +kernel
theorem dL_law_536 : decode code 536 = .ok (.aload_n 0, 1) := by decide +kernel
theorem dL_law_537 : decode code 537 = .ok (.iload 4, 2) := by decide +kernel
theorem dL_law_539 : decode code 539 = .ok (.iconst 1, 1) := by decide +kernel
theorem dL_law_540 : decode code 540 = .ok (.iadd, 1) := by decide +kernel
theorem dL_law_541 : decode code 541 = .ok (.iaload, 1) := by decide +kernel
theorem dL_law_542 : decode code 542 = .ok (.aload_n 0, 1) := by decide +kernel
theorem dL_law_543 : decode code 543 = .ok (.iload 4, 2) := by decide +kernel
theorem dL_law_545 : decode code 545 = .ok (.iconst 2, 1) := by decide +kernel
theorem dL_law_546 : decode code 546 = .ok (.iadd, 1) := by decide +kernel
theorem dL_law_547 : decode code 547 = .ok (.iaload, 1) := by decide +kernel
theorem dL_law_548 : decode code 548 = .ok (.aload_n 3, 1) := by decide +kernel
theorem dL_law_549 : decode code 549 = .ok (.invokestatic 113, 3) := by decide +kernel
theorem dL_law_552 : decode code 552 = .ok (.istore 5, 2) := by decide +kernel
theorem dL_law_554 : decode code 554 = .ok (.aload_n 2, 1) := by decide +kernel
theorem dL_law_555 : decode code 555 = .ok (.aload_n 0, 1) := by decide +kernel
theorem dL_law_556 : decode code 556 = .ok (.iload 4, 2) := by decide +kernel
theorem dL_law_558 : decode code 558 = .ok (.iconst 1, 1) := by decide +kernel
end
section
theorem dL_law_559 : decode code 559 = .ok (.iadd, 1) := by decide +kernel
theorem dL_law_560 : decode code 560 = .ok (.iaload, 1) := by decide +kernel
theorem dL_law_561 : decode code 561 = .ok (.aload_n 0, 1) := by decide +kernel
theorem dL_law_562 : decode code 562 = .ok (.iload 4, 2) := by decide +kernel
theorem dL_law_564 : decode code 564 = .ok (.iconst 2, 1) := by decide +kernel
theorem dL_law_565 : decode code 565 = .ok (.iadd, 1) := by decide +kernel
theorem dL_law_566 : decode code 566 = .ok (.iaload, 1) := by decide +kernel
theorem dL_law_567 : decode code 567 = .ok (.invokevirtual 115, 3) := by decide +kernel
theorem dL_law_570 : decode code 570 = .ok (.istore 6, 2) := by decide +kernel
theorem dL_law_572 : decode code 572 = .ok (.aload_n 2, 1) := by decide +kernel
theorem dL_law_573 : decode code 573 = .ok (.invokevirtual 92, 3) := by decide +kernel
theorem dL_law_576 : decode code 576 = .ok (.iload 5, 2) := by decide +kernel
theorem dL_law_578 : decode code 578 = .ok (.if_icmp .eq 5, 3) := by decide +kernel
theorem dL_law_581 : decode code 581 = .ok (.iconst 0, 1) := by decide +kernel
theorem dL_law_582 : decode code 582 = .ok (.ireturn, 1) := by decide +kernel
theorem dL_law_583 : decode code 583 = .ok (.iload 5, 2) := by decide +kernel
theorem dL_law_585 : decode code 585 = .ok (.ifCond .ne 15, 3) := by decide +kernel
theorem dL_law_588 : decode code 588 = .ok (.aload_n 3, 1) := by decide +kernel
theorem dL_law_589 : decode code 589 = .ok (.iconst 0, 1) := by decide +kernel
theorem dL_law_590 : decode code 590 = .ok (.laload, 1) := by decide +kernel
theorem dL_law_591 : decode code 591 = .ok (.iload 6, 2) := by decide +kernel
theorem dL_law_593 : decode code 593 = .ok (.i2l, 1) := by decide +kernel
theorem dL_law_594 : decode code 594 = .ok (.lcmp, 1) := by decide +kernel
theorem dL_law_595 : decode code 595 = .ok (.ifCond .eq 5, 3) := by decide +kernel
theorem dL_law_598 : decode code 598 = .ok (.iconst 0, 1) := by decide +kernel
theorem dL_law_599 : decode code 599 = .ok (.ireturn, 1) := by decide +kernel
theorem dL_law_600 : decode code 600 = .ok (.goto 847, 3) := by decide +kernel
theorem dL_law_603 : decode code 603 = .ok (.aload_n 1, 1) := by decide +kernel
theorem dL_law_604 : decode code 604 = .ok (.aload_n 0, 1) := by decide +kernel
theorem dL_law_605 : decode code 605 = .ok (.iload 4, 2) := by decide +kernel
theorem dL_law_607 : decode code 607 = .ok (.iconst 1, 1) := by decide +kernel
theorem dL_law_608 : decode code 608 = .ok (.iadd, 1) := by decide +kernel
theorem dL_law_609 : decode code 609 = .ok (.iaload, 1) := by decide +kernel
theorem dL_law_610 : decode code 610 = .ok (.aload_n 3, 1) := by decide +kernel
theorem dL_law_611 : decode code 611 = .ok (.invokestatic 116, 3) := by decide +kernel
theorem dL_law_614 : decode code 614 = .ok (.istore 5, 2) := by decide +kernel
theorem dL_law_616 : decode code 616 = .ok (.aload_n 2, 1) := by decide +kernel
theorem dL_law_617 : decode code 617 = .ok (.aload_n 0, 1) := by decide +kernel
theorem dL_law_618 : decode code 618 = .ok (.iload 4, 2) := by decide +kernel
theorem dL_law_620 : decode code 620 = .ok (.iconst 1, 1) := by decide +kernel
theorem dL_law_621 : decode code 621 = .ok (.iadd, 1) := by decide +kernel
theorem dL_law_622 : decode code 622 = .ok (.iaload, 1) := by decide +kernel
theorem dL_law_623 : decode code 623 = .ok (.invokevirtual 119, 3) := by decide +kernel
theorem dL_law_626 : decode code 626 = .ok (.istore 6, 2) := by decide +kernel
theorem dL_law_628 : decode code 628 = .ok (.aload_n 2, 1) := by decide +kernel
theorem dL_law_629 : decode code 629 = .ok (.invokevirtual 92, 3) := by decide +kernel
theorem dL_law_632 : decode code 632 = .ok (.iload 5, 2) := by decide +kernel
theorem dL_law_634 : decode code 634 = .ok (.if_icmp .eq 5, 3) := by decide +kernel
theorem dL_law_637 : decode code 637 = .ok (.iconst 0, 1) := by decide +kernel
theorem dL_law_638 : decode code 638 = .ok (.ireturn, 1) := by decide +kernel
theorem dL_law_639 : decode code 639 = .ok (.iload 5, 2) := by decide +kernel
theorem dL_law_641 : decode code 641 = .ok (.ifCond .ne 15, 3) := by decide +kernel
theorem dL_law_644 : decode code 644 = .ok (.aload_n 3, 1) := by decide +kernel
theorem dL_law_645 : decode code 645 = .ok (.iconst 0, 1) := by decide +kernel
theorem dL_law_646 : decode code 646 = .ok (.laload, 1) := by decide +kernel
theorem dL_law_647 : decode code 647 = .ok (.iload 6, 2) := by decide +kernel
theorem dL_law_649 : decode code 649 = .ok (.i2l, 1) := by decide +kernel
theorem dL_law_650 : decode code 650 = .ok (.lcmp, 1) := by decide +kernel
theorem dL_law_651 : decode code 651 = .ok (.ifCond .eq 5, 3) := by decide +kernel
theorem dL_law_654 : decode code 654 = .ok (.iconst 0, 1) := by decide +kernel
theorem dL_law_655 : decode code 655 = .ok (.ireturn, 1) := by decide +kernel
theorem dL_law_656 : decode code 656 = .ok (.goto 791, 3) := by decide +kernel
theorem dL_law_659 : decode code 659 = .ok (.aload_n 1, 1) := by decide +kernel
theorem dL_law_660 : decode code 660 = .ok (.aload_n 0, 1) := by decide +kernel
theorem dL_law_661 : decode code 661 = .ok (.iload 4, 2) := by decide +kernel
theorem dL_law_663 : decode code 663 = .ok (.iconst 1, 1) := by decide +kernel
theorem dL_law_664 : decode code 664 = .ok (.iadd, 1) := by decide +kernel
theorem dL_law_665 : decode code 665 = .ok (.iaload, 1) := by decide +kernel
theorem dL_law_666 : decode code 666 = .ok (.aload_n 0, 1) := by decide +kernel
theorem dL_law_667 : decode code 667 = .ok (.iload 4, 2) := by decide +kernel
theorem dL_law_669 : decode code 669 = .ok (.iconst 2, 1) := by decide +kernel
theorem dL_law_670 : decode code 670 = .ok (.iadd, 1) := by decide +kernel
theorem dL_law_671 : decode code 671 = .ok (.iaload, 1) := by decide +kernel
theorem dL_law_672 : decode code 672 = .ok (.aload_n 0, 1) := by decide +kernel
theorem dL_law_673 : decode code 673 = .ok (.iload 4, 2) := by decide +kernel
theorem dL_law_675 : decode code 675 = .ok (.iconst 3, 1) := by decide +kernel
theorem dL_law_676 : decode code 676 = .ok (.iadd, 1) := by decide +kernel
theorem dL_law_677 : decode code 677 = .ok (.iaload, 1) := by decide +kernel
theorem dL_law_678 : decode code 678 = .ok (.aload_n 3, 1) := by decide +kernel
theorem dL_law_679 : decode code 679 = .ok (.invokestatic 120, 3) := by decide +kernel
theorem dL_law_682 : decode code 682 = .ok (.istore 5, 2) := by decide +kernel
theorem dL_law_684 : decode code 684 = .ok (.aload_n 2, 1) := by decide +kernel
theorem dL_law_685 : decode code 685 = .ok (.aload_n 0, 1) := by decide +kernel
theorem dL_law_686 : decode code 686 = .ok (.iload 4, 2) := by decide +kernel
theorem dL_law_688 : decode code 688 = .ok (.iconst 1, 1) := by decide +kernel
theorem dL_law_689 : decode code 689 = .ok (.iadd, 1) := by decide +kernel
theorem dL_law_690 : decode code 690 = .ok (.iaload, 1) := by decide +kernel
theorem dL_law_691 : decode code 691 = .ok (.aload_n 0, 1) := by decide +kernel
theorem dL_law_692 : decode code 692 = .ok (.iload 4, 2) := by decide +kernel
theorem dL_law_694 : decode code 694 = .ok (.iconst 2, 1) := by decide +kernel
theorem dL_law_695 : decode code 695 = .ok (.iadd, 1) := by decide +kernel
theorem dL_law_696 : decode code 696 = .ok (.iaload, 1) := by decide +kernel
theorem dL_law_697 : decode code 697 = .ok (.aload_n 0, 1) := by decide +kernel
theorem dL_law_698 : decode code 698 = .ok (.iload 4, 2) := by decide +kernel
theorem dL_law_700 : decode code 700 = .ok (.iconst 3, 1) := by decide +kernel
theorem dL_law_701 : decode code 701 = .ok (.iadd, 1) := by decide +kernel
theorem dL_law_702 : decode code 702 = .ok (.iaload, 1) := by decide +kernel
theorem dL_law_703 : decode code 703 = .ok (.invokevirtual 123, 3) := by decide +kernel
theorem dL_law_706 : decode code 706 = .ok (.istore 6, 2) := by decide +kernel
theorem dL_law_708 : decode code 708 = .ok (.aload_n 2, 1) := by decide +kernel
theorem dL_law_709 : decode code 709 = .ok (.invokevirtual 92, 3) := by decide +kernel
theorem dL_law_712 : decode code 712 = .ok (.iload 5, 2) := by decide +kernel
theorem dL_law_714 : decode code 714 = .ok (.if_icmp .eq 5, 3) := by decide +kernel
theorem dL_law_717 : decode code 717 = .ok (.iconst 0, 1) := by decide +kernel
theorem dL_law_718 : decode code 718 = .ok (.ireturn, 1) := by decide +kernel
theorem dL_law_719 : decode code 719 = .ok (.iload 5, 2) := by decide +kernel
theorem dL_law_721 : decode code 721 = .ok (.ifCond .ne 15, 3) := by decide +kernel
theorem dL_law_724 : decode code 724 = .ok (.aload_n 3, 1) := by decide +kernel
theorem dL_law_725 : decode code 725 = .ok (.iconst 0, 1) := by decide +kernel
theorem dL_law_726 : decode code 726 = .ok (.laload, 1) := by decide +kernel
theorem dL_law_727 : decode code 727 = .ok (.iload 6, 2) := by decide +kernel
theorem dL_law_729 : decode code 729 = .ok (.i2l, 1) := by decide +kernel
theorem dL_law_730 : decode code 730 = .ok (.lcmp, 1) := by decide +kernel
theorem dL_law_731 : decode code 731 = .ok (.ifCond .eq 5, 3) := by decide +kernel
theorem dL_law_734 : decode code 734 = .ok (.iconst 0, 1) := by decide +kernel
theorem dL_law_735 : decode code 735 = .ok (.ireturn, 1) := by decide +kernel
theorem dL_law_736 : decode code 736 = .ok (.goto 711, 3) := by decide +kernel
theorem dL_law_739 : decode code 739 = .ok (.aload_n 1, 1) := by decide +kernel
theorem dL_law_740 : decode code 740 = .ok (.aload_n 0, 1) := by decide +kernel
theorem dL_law_741 : decode code 741 = .ok (.iload 4, 2) := by decide +kernel
theorem dL_law_743 : decode code 743 = .ok (.iconst 1, 1) := by decide +kernel
theorem dL_law_744 : decode code 744 = .ok (.iadd, 1) := by decide +kernel
theorem dL_law_745 : decode code 745 = .ok (.iaload, 1) := by decide +kernel
theorem dL_law_746 : decode code 746 = .ok (.aload_n 3, 1) := by decide +kernel
theorem dL_law_747 : decode code 747 = .ok (.invokestatic 124, 3) := by decide +kernel
theorem dL_law_750 : decode code 750 = .ok (.istore 5, 2) := by decide +kernel
theorem dL_law_752 : decode code 752 = .ok (.aload_n 2, 1) := by decide +kernel
theorem dL_law_753 : decode code 753 = .ok (.aload_n 0, 1) := by decide +kernel
theorem dL_law_754 : decode code 754 = .ok (.iload 4, 2) := by decide +kernel
theorem dL_law_756 : decode code 756 = .ok (.iconst 1, 1) := by decide +kernel
theorem dL_law_757 : decode code 757 = .ok (.iadd, 1) := by decide +kernel
theorem dL_law_758 : decode code 758 = .ok (.iaload, 1) := by decide +kernel
theorem dL_law_759 : decode code 759 = .ok (.invokevirtual 126, 3) := by decide +kernel
theorem dL_law_762 : decode code 762 = .ok (.istore 6, 2) := by decide +kernel
theorem dL_law_764 : decode code 764 = .ok (.aload_n 2, 1) := by decide +kernel
theorem dL_law_765 : decode code 765 = .ok (.invokevirtual 92, 3) := by decide +kernel
theorem dL_law_768 : decode code 768 = .ok (.iload 5, 2) := by decide +kernel
theorem dL_law_770 : decode code 770 = .ok (.if_icmp .eq 5, 3) := by decide +kernel
theorem dL_law_773 : decode code 773 = .ok (.iconst 0, 1) := by decide +kernel
theorem dL_law_774 : decode code 774 = .ok (.ireturn, 1) := by decide +kernel
theorem dL_law_775 : decode code 775 = .ok (.iload 5, 2) := by decide +kernel
theorem dL_law_777 : decode code 777 = .ok (.ifCond .ne 15, 3) := by decide +kernel
theorem dL_law_780 : decode code 780 = .ok (.aload_n 3, 1) := by decide +kernel
theorem dL_law_781 : decode code 781 = .ok (.iconst 0, 1) := by decide +kernel
theorem dL_law_782 : decode code 782 = .ok (.laload, 1) := by decide +kernel
theorem dL_law_783 : decode code 783 = .ok (.iload 6, 2) := by decide +kernel
theorem dL_law_785 : decode code 785 = .ok (.i2l, 1) := by decide +kernel
theorem dL_law_786 : decode code 786 = .ok (.lcmp, 1) := by decide +kernel
theorem dL_law_787 : decode code 787 = .ok (.ifCond .eq 5, 3) := by decide +kernel
theorem dL_law_790 : decode code 790 = .ok (.iconst 0, 1) := by decide +kernel
theorem dL_law_791 : decode code 791 = .ok (.ireturn, 1) := by decide +kernel
theorem dL_law_792 : decode code 792 = .ok (.goto 655, 3) := by decide +kernel
theorem dL_law_795 : decode code 795 = .ok (.aload_n 1, 1) := by decide +kernel
theorem dL_law_796 : decode code 796 = .ok (.aload_n 0, 1) := by decide +kernel
theorem dL_law_797 : decode code 797 = .ok (.iload 4, 2) := by decide +kernel
theorem dL_law_799 : decode code 799 = .ok (.iconst 1, 1) := by decide +kernel
theorem dL_law_800 : decode code 800 = .ok (.iadd, 1) := by decide +kernel
theorem dL_law_801 : decode code 801 = .ok (.iaload, 1) := by decide +kernel
theorem dL_law_802 : decode code 802 = .ok (.aload_n 3, 1) := by decide +kernel
theorem dL_law_803 : decode code 803 = .ok (.invokestatic 127, 3) := by decide +kernel
theorem dL_law_806 : decode code 806 = .ok (.istore 5, 2) := by decide +kernel
theorem dL_law_808 : decode code 808 = .ok (.aload_n 2, 1) := by decide +kernel
theorem dL_law_809 : decode code 809 = .ok (.aload_n 0, 1) := by decide +kernel
theorem dL_law_810 : decode code 810 = .ok (.iload 4, 2) := by decide +kernel
theorem dL_law_812 : decode code 812 = .ok (.iconst 1, 1) := by decide +kernel
theorem dL_law_813 : decode code 813 = .ok (.iadd, 1) := by decide +kernel
theorem dL_law_814 : decode code 814 = .ok (.iaload, 1) := by decide +kernel
theorem dL_law_815 : decode code 815 = .ok (.invokevirtual 129, 3) := by decide +kernel
theorem dL_law_818 : decode code 818 = .ok (.istore 6, 2) := by decide +kernel
theorem dL_law_820 : decode code 820 = .ok (.aload_n 2, 1) := by decide +kernel
theorem dL_law_821 : decode code 821 = .ok (.invokevirtual 92, 3) := by decide +kernel
theorem dL_law_824 : decode code 824 = .ok (.iload 5, 2) := by decide +kernel
theorem dL_law_826 : decode code 826 = .ok (.if_icmp .eq 5, 3) := by decide +kernel
theorem dL_law_829 : decode code 829 = .ok (.iconst 0, 1) := by decide +kernel
theorem dL_law_830 : decode code 830 = .ok (.ireturn, 1) := by decide +kernel
theorem dL_law_831 : decode code 831 = .ok (.iload 5, 2) := by decide +kernel
theorem dL_law_833 : decode code 833 = .ok (.ifCond .ne 15, 3) := by decide +kernel
theorem dL_law_836 : decode code 836 = .ok (.aload_n 3, 1) := by decide +kernel
theorem dL_law_837 : decode code 837 = .ok (.iconst 0, 1) := by decide +kernel
theorem dL_law_838 : decode code 838 = .ok (.laload, 1) := by decide +kernel
theorem dL_law_839 : decode code 839 = .ok (.iload 6, 2) := by decide +kernel
theorem dL_law_841 : decode code 841 = .ok (.i2l, 1) := by decide +kernel
theorem dL_law_842 : decode code 842 = .ok (.lcmp, 1) := by decide +kernel
theorem dL_law_843 : decode code 843 = .ok (.ifCond .eq 5, 3) := by decide +kernel
theorem dL_law_846 : decode code 846 = .ok (.iconst 0, 1) := by decide +kernel
theorem dL_law_847 : decode code 847 = .ok (.ireturn, 1) := by decide +kernel
theorem dL_law_848 : decode code 848 = .ok (.goto 599, 3) := by decide +kernel
theorem dL_law_851 : decode code 851 = .ok (.aload_n 1, 1) := by decide +kernel
theorem dL_law_852 : decode code 852 = .ok (.aload_n 0, 1) := by decide +kernel
theorem dL_law_853 : decode code 853 = .ok (.iload 4, 2) := by decide +kernel
theorem dL_law_855 : decode code 855 = .ok (.iconst 1, 1) := by decide +kernel
theorem dL_law_856 : decode code 856 = .ok (.iadd, 1) := by decide +kernel
theorem dL_law_857 : decode code 857 = .ok (.iaload, 1) := by decide +kernel
theorem dL_law_858 : decode code 858 = .ok (.aload_n 0, 1) := by decide +kernel
theorem dL_law_859 : decode code 859 = .ok (.iload 4, 2) := by decide +kernel
theorem dL_law_861 : decode code 861 = .ok (.iconst 2, 1) := by decide +kernel
theorem dL_law_862 : decode code 862 = .ok (.iadd, 1) := by decide +kernel
theorem dL_law_863 : decode code 863 = .ok (.iaload, 1) := by decide +kernel
theorem dL_law_864 : decode code 864 = .ok (.aload_n 0, 1) := by decide +kernel
theorem dL_law_865 : decode code 865 = .ok (.iload 4, 2) := by decide +kernel
theorem dL_law_867 : decode code 867 = .ok (.iconst 3, 1) := by decide +kernel
theorem dL_law_868 : decode code 868 = .ok (.iadd, 1) := by decide +kernel
theorem dL_law_869 : decode code 869 = .ok (.iaload, 1) := by decide +kernel
theorem dL_law_870 : decode code 870 = .ok (.aload_n 3, 1) := by decide +kernel
theorem dL_law_871 : decode code 871 = .ok (.invokestatic 130, 3) := by decide +kernel
theorem dL_law_874 : decode code 874 = .ok (.istore 5, 2) := by decide +kernel
theorem dL_law_876 : decode code 876 = .ok (.aload_n 2, 1) := by decide +kernel
theorem dL_law_877 : decode code 877 = .ok (.aload_n 0, 1) := by decide +kernel
theorem dL_law_878 : decode code 878 = .ok (.iload 4, 2) := by decide +kernel
theorem dL_law_880 : decode code 880 = .ok (.iconst 1, 1) := by decide +kernel
theorem dL_law_881 : decode code 881 = .ok (.iadd, 1) := by decide +kernel
theorem dL_law_882 : decode code 882 = .ok (.iaload, 1) := by decide +kernel
theorem dL_law_883 : decode code 883 = .ok (.aload_n 0, 1) := by decide +kernel
theorem dL_law_884 : decode code 884 = .ok (.iload 4, 2) := by decide +kernel
theorem dL_law_886 : decode code 886 = .ok (.iconst 2, 1) := by decide +kernel
theorem dL_law_887 : decode code 887 = .ok (.iadd, 1) := by decide +kernel
theorem dL_law_888 : decode code 888 = .ok (.iaload, 1) := by decide +kernel
theorem dL_law_889 : decode code 889 = .ok (.aload_n 0, 1) := by decide +kernel
theorem dL_law_890 : decode code 890 = .ok (.iload 4, 2) := by decide +kernel
theorem dL_law_892 : decode code 892 = .ok (.iconst 3, 1) := by decide +kernel
theorem dL_law_893 : decode code 893 = .ok (.iadd, 1) := by decide +kernel
theorem dL_law_894 : decode code 894 = .ok (.iaload, 1) := by decide +kernel
theorem dL_law_895 : decode code 895 = .ok (.invokevirtual 132, 3) := by decide +kernel
theorem dL_law_898 : decode code 898 = .ok (.istore 6, 2) := by decide +kernel
theorem dL_law_900 : decode code 900 = .ok (.aload_n 2, 1) := by decide +kernel
theorem dL_law_901 : decode code 901 = .ok (.invokevirtual 92, 3) := by decide +kernel
theorem dL_law_904 : decode code 904 = .ok (.iload 5, 2) := by decide +kernel
theorem dL_law_906 : decode code 906 = .ok (.if_icmp .eq 5, 3) := by decide +kernel
theorem dL_law_909 : decode code 909 = .ok (.iconst 0, 1) := by decide +kernel
theorem dL_law_910 : decode code 910 = .ok (.ireturn, 1) := by decide +kernel
theorem dL_law_911 : decode code 911 = .ok (.iload 5, 2) := by decide +kernel
theorem dL_law_913 : decode code 913 = .ok (.ifCond .ne 15, 3) := by decide +kernel
theorem dL_law_916 : decode code 916 = .ok (.aload_n 3, 1) := by decide +kernel
theorem dL_law_917 : decode code 917 = .ok (.iconst 0, 1) := by decide +kernel
theorem dL_law_918 : decode code 918 = .ok (.laload, 1) := by decide +kernel
theorem dL_law_919 : decode code 919 = .ok (.iload 6, 2) := by decide +kernel
theorem dL_law_921 : decode code 921 = .ok (.i2l, 1) := by decide +kernel
theorem dL_law_922 : decode code 922 = .ok (.lcmp, 1) := by decide +kernel
theorem dL_law_923 : decode code 923 = .ok (.ifCond .eq 5, 3) := by decide +kernel
theorem dL_law_926 : decode code 926 = .ok (.iconst 0, 1) := by decide +kernel
theorem dL_law_927 : decode code 927 = .ok (.ireturn, 1) := by decide +kernel
theorem dL_law_928 : decode code 928 = .ok (.goto 519, 3) := by decide +kernel
theorem dL_law_931 : decode code 931 = .ok (.aload_n 1, 1) := by decide +kernel
theorem dL_law_932 : decode code 932 = .ok (.aload_n 0, 1) := by decide +kernel
theorem dL_law_933 : decode code 933 = .ok (.iload 4, 2) := by decide +kernel
theorem dL_law_935 : decode code 935 = .ok (.iconst 1, 1) := by decide +kernel
theorem dL_law_936 : decode code 936 = .ok (.iadd, 1) := by decide +kernel
theorem dL_law_937 : decode code 937 = .ok (.iaload, 1) := by decide +kernel
theorem dL_law_938 : decode code 938 = .ok (.aload_n 0, 1) := by decide +kernel
theorem dL_law_939 : decode code 939 = .ok (.iload 4, 2) := by decide +kernel
theorem dL_law_941 : decode code 941 = .ok (.iconst 2, 1) := by decide +kernel
theorem dL_law_942 : decode code 942 = .ok (.iadd, 1) := by decide +kernel
theorem dL_law_943 : decode code 943 = .ok (.iaload, 1) := by decide +kernel
theorem dL_law_944 : decode code 944 = .ok (.aload_n 3, 1) := by decide +kernel
theorem dL_law_945 : decode code 945 = .ok (.invokestatic 133, 3) := by decide +kernel
theorem dL_law_948 : decode code 948 = .ok (.istore 5, 2) := by decide +kernel
theorem dL_law_950 : decode code 950 = .ok (.aload_n 2, 1) := by decide +kernel
theorem dL_law_951 : decode code 951 = .ok (.aload_n 0, 1) := by decide +kernel
theorem dL_law_952 : decode code 952 = .ok (.iload 4, 2) := by decide +kernel
theorem dL_law_954 : decode code 954 = .ok (.iconst 1, 1) := by decide +kernel
theorem dL_law_955 : decode code 955 = .ok (.iadd, 1) := by decide +kernel
theorem dL_law_956 : decode code 956 = .ok (.iaload, 1) := by decide +kernel
theorem dL_law_957 : decode code 957 = .ok (.aload_n 0, 1) := by decide +kernel
theorem dL_law_958 : decode code 958 = .ok (.iload 4, 2) := by decide +kernel
theorem dL_law_960 : decode code 960 = .ok (.iconst 2, 1) := by decide +kernel
theorem dL_law_961 : decode code 961 = .ok (.iadd, 1) := by decide +kernel
theorem dL_law_962 : decode code 962 = .ok (.iaload, 1) := by decide +kernel
theorem dL_law_963 : decode code 963 = .ok (.invokevirtual 135, 3) := by decide +kernel
theorem dL_law_966 : decode code 966 = .ok (.istore 6, 2) := by decide +kernel
theorem dL_law_968 : decode code 968 = .ok (.aload_n 2, 1) := by decide +kernel
theorem dL_law_969 : decode code 969 = .ok (.invokevirtual 92, 3) := by decide +kernel
theorem dL_law_972 : decode code 972 = .ok (.iload 5, 2) := by decide +kernel
theorem dL_law_974 : decode code 974 = .ok (.if_icmp .eq 5, 3) := by decide +kernel
theorem dL_law_977 : decode code 977 = .ok (.iconst 0, 1) := by decide +kernel
theorem dL_law_978 : decode code 978 = .ok (.ireturn, 1) := by decide +kernel
theorem dL_law_979 : decode code 979 = .ok (.iload 5, 2) := by decide +kernel
theorem dL_law_981 : decode code 981 = .ok (.ifCond .ne 15, 3) := by decide +kernel
theorem dL_law_984 : decode code 984 = .ok (.aload_n 3, 1) := by decide +kernel
theorem dL_law_985 : decode code 985 = .ok (.iconst 0, 1) := by decide +kernel
theorem dL_law_986 : decode code 986 = .ok (.laload, 1) := by decide +kernel
theorem dL_law_987 : decode code 987 = .ok (.iload 6, 2) := by decide +kernel
theorem dL_law_989 : decode code 989 = .ok (.i2l, 1) := by decide +kernel
theorem dL_law_990 : decode code 990 = .ok (.lcmp, 1) := by decide +kernel
theorem dL_law_991 : decode code 991 = .ok (.ifCond .eq 5, 3) := by decide +kernel
theorem dL_law_994 : decode code 994 = .ok (.iconst 0, 1) := by decide +kernel
theorem dL_law_995 : decode code 995 = .ok (.ireturn, 1) := by decide +kernel
theorem dL_law_996 : decode code 996 = .ok (.goto 451, 3) := by decide +kernel
theorem dL_law_999 : decode code 999 = .ok (.aload_n 1, 1) := by decide +kernel
theorem dL_law_1000 : decode code 1000 = .ok (.aload_n 0, 1) := by decide +kernel
theorem dL_law_1001 : decode code 1001 = .ok (.iload 4, 2) := by decide +kernel
theorem dL_law_1003 : decode code 1003 = .ok (.iconst 1, 1) := by decide +kernel
theorem dL_law_1004 : decode code 1004 = .ok (.iadd, 1) := by decide +kernel
theorem dL_law_1005 : decode code 1005 = .ok (.iaload, 1) := by decide +kernel
theorem dL_law_1006 : decode code 1006 = .ok (.aload_n 0, 1) := by decide +kernel
theorem dL_law_1007 : decode code 1007 = .ok (.iload 4, 2) := by decide +kernel
theorem dL_law_1009 : decode code 1009 = .ok (.iconst 2, 1) := by decide +kernel
theorem dL_law_1010 : decode code 1010 = .ok (.iadd, 1) := by decide +kernel
theorem dL_law_1011 : decode code 1011 = .ok (.iaload, 1) := by decide +kernel
theorem dL_law_1012 : decode code 1012 = .ok (.aload_n 0, 1) := by decide +kernel
theorem dL_law_1013 : decode code 1013 = .ok (.iload 4, 2) := by decide +kernel
end
section
theorem dL_law_1015 : decode code 1015 = .ok (.iconst 3, 1) := by decide +kernel
theorem dL_law_1016 : decode code 1016 = .ok (.iadd, 1) := by decide +kernel
theorem dL_law_1017 : decode code 1017 = .ok (.iaload, 1) := by decide +kernel
theorem dL_law_1018 : decode code 1018 = .ok (.aload_n 0, 1) := by decide +kernel
theorem dL_law_1019 : decode code 1019 = .ok (.iload 4, 2) := by decide +kernel
theorem dL_law_1021 : decode code 1021 = .ok (.iconst 4, 1) := by decide +kernel
theorem dL_law_1022 : decode code 1022 = .ok (.iadd, 1) := by decide +kernel
theorem dL_law_1023 : decode code 1023 = .ok (.iaload, 1) := by decide +kernel
theorem dL_law_1024 : decode code 1024 = .ok (.aload_n 0, 1) := by decide +kernel
theorem dL_law_1025 : decode code 1025 = .ok (.iload 4, 2) := by decide +kernel
theorem dL_law_1027 : decode code 1027 = .ok (.iconst 5, 1) := by decide +kernel
theorem dL_law_1028 : decode code 1028 = .ok (.iadd, 1) := by decide +kernel
theorem dL_law_1029 : decode code 1029 = .ok (.iaload, 1) := by decide +kernel
theorem dL_law_1030 : decode code 1030 = .ok (.aload_n 3, 1) := by decide +kernel
theorem dL_law_1031 : decode code 1031 = .ok (.invokestatic 136, 3) := by decide +kernel
theorem dL_law_1034 : decode code 1034 = .ok (.istore 5, 2) := by decide +kernel
theorem dL_law_1036 : decode code 1036 = .ok (.aload_n 2, 1) := by decide +kernel
theorem dL_law_1037 : decode code 1037 = .ok (.aload_n 0, 1) := by decide +kernel
theorem dL_law_1038 : decode code 1038 = .ok (.iload 4, 2) := by decide +kernel
theorem dL_law_1040 : decode code 1040 = .ok (.iconst 1, 1) := by decide +kernel
theorem dL_law_1041 : decode code 1041 = .ok (.iadd, 1) := by decide +kernel
theorem dL_law_1042 : decode code 1042 = .ok (.iaload, 1) := by decide +kernel
theorem dL_law_1043 : decode code 1043 = .ok (.aload_n 0, 1) := by decide +kernel
theorem dL_law_1044 : decode code 1044 = .ok (.iload 4, 2) := by decide +kernel
theorem dL_law_1046 : decode code 1046 = .ok (.iconst 2, 1) := by decide +kernel
theorem dL_law_1047 : decode code 1047 = .ok (.iadd, 1) := by decide +kernel
theorem dL_law_1048 : decode code 1048 = .ok (.iaload, 1) := by decide +kernel
theorem dL_law_1049 : decode code 1049 = .ok (.aload_n 0, 1) := by decide +kernel
theorem dL_law_1050 : decode code 1050 = .ok (.iload 4, 2) := by decide +kernel
theorem dL_law_1052 : decode code 1052 = .ok (.iconst 3, 1) := by decide +kernel
theorem dL_law_1053 : decode code 1053 = .ok (.iadd, 1) := by decide +kernel
theorem dL_law_1054 : decode code 1054 = .ok (.iaload, 1) := by decide +kernel
theorem dL_law_1055 : decode code 1055 = .ok (.aload_n 0, 1) := by decide +kernel
theorem dL_law_1056 : decode code 1056 = .ok (.iload 4, 2) := by decide +kernel
theorem dL_law_1058 : decode code 1058 = .ok (.iconst 4, 1) := by decide +kernel
theorem dL_law_1059 : decode code 1059 = .ok (.iadd, 1) := by decide +kernel
theorem dL_law_1060 : decode code 1060 = .ok (.iaload, 1) := by decide +kernel
theorem dL_law_1061 : decode code 1061 = .ok (.aload_n 0, 1) := by decide +kernel
theorem dL_law_1062 : decode code 1062 = .ok (.iload 4, 2) := by decide +kernel
theorem dL_law_1064 : decode code 1064 = .ok (.iconst 5, 1) := by decide +kernel
theorem dL_law_1065 : decode code 1065 = .ok (.iadd, 1) := by decide +kernel
theorem dL_law_1066 : decode code 1066 = .ok (.iaload, 1) := by decide +kernel
theorem dL_law_1067 : decode code 1067 = .ok (.invokevirtual 139, 3) := by decide +kernel
theorem dL_law_1070 : decode code 1070 = .ok (.istore 6, 2) := by decide +kernel
theorem dL_law_1072 : decode code 1072 = .ok (.aload_n 2, 1) := by decide +kernel
theorem dL_law_1073 : decode code 1073 = .ok (.invokevirtual 92, 3) := by decide +kernel
theorem dL_law_1076 : decode code 1076 = .ok (.iload 5, 2) := by decide +kernel
theorem dL_law_1078 : decode code 1078 = .ok (.if_icmp .eq 5, 3) := by decide +kernel
theorem dL_law_1081 : decode code 1081 = .ok (.iconst 0, 1) := by decide +kernel
theorem dL_law_1082 : decode code 1082 = .ok (.ireturn, 1) := by decide +kernel
theorem dL_law_1083 : decode code 1083 = .ok (.iload 5, 2) := by decide +kernel
theorem dL_law_1085 : decode code 1085 = .ok (.ifCond .ne 15, 3) := by decide +kernel
theorem dL_law_1088 : decode code 1088 = .ok (.aload_n 3, 1) := by decide +kernel
theorem dL_law_1089 : decode code 1089 = .ok (.iconst 0, 1) := by decide +kernel
theorem dL_law_1090 : decode code 1090 = .ok (.laload, 1) := by decide +kernel
theorem dL_law_1091 : decode code 1091 = .ok (.iload 6, 2) := by decide +kernel
theorem dL_law_1093 : decode code 1093 = .ok (.i2l, 1) := by decide +kernel
theorem dL_law_1094 : decode code 1094 = .ok (.lcmp, 1) := by decide +kernel
theorem dL_law_1095 : decode code 1095 = .ok (.ifCond .eq 5, 3) := by decide +kernel
theorem dL_law_1098 : decode code 1098 = .ok (.iconst 0, 1) := by decide +kernel
theorem dL_law_1099 : decode code 1099 = .ok (.ireturn, 1) := by decide +kernel
theorem dL_law_1100 : decode code 1100 = .ok (.goto 347, 3) := by decide +kernel
theorem dL_law_1103 : decode code 1103 = .ok (.aload_n 1, 1) := by decide +kernel
theorem dL_law_1104 : decode code 1104 = .ok (.aload_n 0, 1) := by decide +kernel
theorem dL_law_1105 : decode code 1105 = .ok (.iload 4, 2) := by decide +kernel
theorem dL_law_1107 : decode code 1107 = .ok (.iconst 1, 1) := by decide +kernel
theorem dL_law_1108 : decode code 1108 = .ok (.iadd, 1) := by decide +kernel
theorem dL_law_1109 : decode code 1109 = .ok (.iaload, 1) := by decide +kernel
theorem dL_law_1110 : decode code 1110 = .ok (.aload_n 0, 1) := by decide +kernel
theorem dL_law_1111 : decode code 1111 = .ok (.iload 4, 2) := by decide +kernel
theorem dL_law_1113 : decode code 1113 = .ok (.iconst 2, 1) := by decide +kernel
theorem dL_law_1114 : decode code 1114 = .ok (.iadd, 1) := by decide +kernel
theorem dL_law_1115 : decode code 1115 = .ok (.iaload, 1) := by decide +kernel
theorem dL_law_1116 : decode code 1116 = .ok (.invokestatic 140, 3) := by decide +kernel
theorem dL_law_1119 : decode code 1119 = .ok (.istore 5, 2) := by decide +kernel
theorem dL_law_1121 : decode code 1121 = .ok (.aload_n 2, 1) := by decide +kernel
theorem dL_law_1122 : decode code 1122 = .ok (.aload_n 0, 1) := by decide +kernel
theorem dL_law_1123 : decode code 1123 = .ok (.iload 4, 2) := by decide +kernel
theorem dL_law_1125 : decode code 1125 = .ok (.iconst 1, 1) := by decide +kernel
theorem dL_law_1126 : decode code 1126 = .ok (.iadd, 1) := by decide +kernel
theorem dL_law_1127 : decode code 1127 = .ok (.iaload, 1) := by decide +kernel
theorem dL_law_1128 : decode code 1128 = .ok (.aload_n 0, 1) := by decide +kernel
theorem dL_law_1129 : decode code 1129 = .ok (.iload 4, 2) := by decide +kernel
theorem dL_law_1131 : decode code 1131 = .ok (.iconst 2, 1) := by decide +kernel
theorem dL_law_1132 : decode code 1132 = .ok (.iadd, 1) := by decide +kernel
theorem dL_law_1133 : decode code 1133 = .ok (.iaload, 1) := by decide +kernel
theorem dL_law_1134 : decode code 1134 = .ok (.invokevirtual 142, 3) := by decide +kernel
theorem dL_law_1137 : decode code 1137 = .ok (.aload_n 2, 1) := by decide +kernel
theorem dL_law_1138 : decode code 1138 = .ok (.invokevirtual 92, 3) := by decide +kernel
theorem dL_law_1141 : decode code 1141 = .ok (.iload 5, 2) := by decide +kernel
theorem dL_law_1143 : decode code 1143 = .ok (.if_icmp .eq 5, 3) := by decide +kernel
theorem dL_law_1146 : decode code 1146 = .ok (.iconst 0, 1) := by decide +kernel
theorem dL_law_1147 : decode code 1147 = .ok (.ireturn, 1) := by decide +kernel
theorem dL_law_1148 : decode code 1148 = .ok (.goto 299, 3) := by decide +kernel
theorem dL_law_1151 : decode code 1151 = .ok (.aload_n 1, 1) := by decide +kernel
theorem dL_law_1152 : decode code 1152 = .ok (.aload_n 0, 1) := by decide +kernel
theorem dL_law_1153 : decode code 1153 = .ok (.iload 4, 2) := by decide +kernel
theorem dL_law_1155 : decode code 1155 = .ok (.iconst 1, 1) := by decide +kernel
theorem dL_law_1156 : decode code 1156 = .ok (.iadd, 1) := by decide +kernel
theorem dL_law_1157 : decode code 1157 = .ok (.iaload, 1) := by decide +kernel
theorem dL_law_1158 : decode code 1158 = .ok (.aload_n 0, 1) := by decide +kernel
theorem dL_law_1159 : decode code 1159 = .ok (.iload 4, 2) := by decide +kernel
theorem dL_law_1161 : decode code 1161 = .ok (.iconst 2, 1) := by decide +kernel
theorem dL_law_1162 : decode code 1162 = .ok (.iadd, 1) := by decide +kernel
theorem dL_law_1163 : decode code 1163 = .ok (.iaload, 1) := by decide +kernel
theorem dL_law_1164 : decode code 1164 = .ok (.aload_n 3, 1) := by decide +kernel
theorem dL_law_1165 : decode code 1165 = .ok (.invokestatic 143, 3) := by decide +kernel
theorem dL_law_1168 : decode code 1168 = .ok (.istore 5, 2) := by decide +kernel
theorem dL_law_1170 : decode code 1170 = .ok (.aload_n 2, 1) := by decide +kernel
theorem dL_law_1171 : decode code 1171 = .ok (.aload_n 0, 1) := by decide +kernel
theorem dL_law_1172 : decode code 1172 = .ok (.iload 4, 2) := by decide +kernel
theorem dL_law_1174 : decode code 1174 = .ok (.iconst 1, 1) := by decide +kernel
theorem dL_law_1175 : decode code 1175 = .ok (.iadd, 1) := by decide +kernel
theorem dL_law_1176 : decode code 1176 = .ok (.iaload, 1) := by decide +kernel
theorem dL_law_1177 : decode code 1177 = .ok (.aload_n 0, 1) := by decide +kernel
theorem dL_law_1178 : decode code 1178 = .ok (.iload 4, 2) := by decide +kernel
theorem dL_law_1180 : decode code 1180 = .ok (.iconst 2, 1) := by decide +kernel
theorem dL_law_1181 : decode code 1181 = .ok (.iadd, 1) := by decide +kernel
theorem dL_law_1182 : decode code 1182 = .ok (.iaload, 1) := by decide +kernel
theorem dL_law_1183 : decode code 1183 = .ok (.invokevirtual 145, 3) := by decide +kernel
theorem dL_law_1186 : decode code 1186 = .ok (.istore 6, 2) := by decide +kernel
theorem dL_law_1188 : decode code 1188 = .ok (.aload_n 2, 1) := by decide +kernel
theorem dL_law_1189 : decode code 1189 = .ok (.invokevirtual 92, 3) := by decide +kernel
theorem dL_law_1192 : decode code 1192 = .ok (.iload 5, 2) := by decide +kernel
theorem dL_law_1194 : decode code 1194 = .ok (.if_icmp .eq 5, 3) := by decide +kernel
theorem dL_law_1197 : decode code 1197 = .ok (.iconst 0, 1) := by decide +kernel
theorem dL_law_1198 : decode code 1198 = .ok (.ireturn, 1) := by decide +kernel
theorem dL_law_1199 : decode code 1199 = .ok (.iload 5, 2) := by decide +kernel
theorem dL_law_1201 : decode code 1201 = .ok (.ifCond .ne 15, 3) := by decide +kernel
theorem dL_law_1204 : decode code 1204 = .ok (.aload_n 3, 1) := by decide +kernel
theorem dL_law_1205 : decode code 1205 = .ok (.iconst 0, 1) := by decide +kernel
theorem dL_law_1206 : decode code 1206 = .ok (.laload, 1) := by decide +kernel
theorem dL_law_1207 : decode code 1207 = .ok (.iload 6, 2) := by decide +kernel
theorem dL_law_1209 : decode code 1209 = .ok (.i2l, 1) := by decide +kernel
theorem dL_law_1210 : decode code 1210 = .ok (.lcmp, 1) := by decide +kernel
theorem dL_law_1211 : decode code 1211 = .ok (.ifCond .eq 5, 3) := by decide +kernel
theorem dL_law_1214 : decode code 1214 = .ok (.iconst 0, 1) := by decide +kernel
theorem dL_law_1215 : decode code 1215 = .ok (.ireturn, 1) := by decide +kernel
theorem dL_law_1216 : decode code 1216 = .ok (.goto 231, 3) := by decide +kernel
theorem dL_law_1219 : decode code 1219 = .ok (.aload_n 1, 1) := by decide +kernel
theorem dL_law_1220 : decode code 1220 = .ok (.invokevirtual 146, 3) := by decide +kernel
theorem dL_law_1223 : decode code 1223 = .ok (.aload_n 2, 1) := by decide +kernel
theorem dL_law_1224 : decode code 1224 = .ok (.invokevirtual 150, 3) := by decide +kernel
theorem dL_law_1227 : decode code 1227 = .ok (.if_icmp .eq 220, 3) := by decide +kernel
theorem dL_law_1230 : decode code 1230 = .ok (.iconst 0, 1) := by decide +kernel
theorem dL_law_1231 : decode code 1231 = .ok (.ireturn, 1) := by decide +kernel
theorem dL_law_1232 : decode code 1232 = .ok (.aload_n 1, 1) := by decide +kernel
theorem dL_law_1233 : decode code 1233 = .ok (.invokevirtual 151, 3) := by decide +kernel
theorem dL_law_1236 : decode code 1236 = .ok (.aload_n 2, 1) := by decide +kernel
theorem dL_law_1237 : decode code 1237 = .ok (.invokevirtual 154, 3) := by decide +kernel
theorem dL_law_1240 : decode code 1240 = .ok (.if_icmp .eq 207, 3) := by decide +kernel
theorem dL_law_1243 : decode code 1243 = .ok (.iconst 0, 1) := by decide +kernel
theorem dL_law_1244 : decode code 1244 = .ok (.ireturn, 1) := by decide +kernel
theorem dL_law_1245 : decode code 1245 = .ok (.aload_n 1, 1) := by decide +kernel
theorem dL_law_1246 : decode code 1246 = .ok (.aload_n 0, 1) := by decide +kernel
theorem dL_law_1247 : decode code 1247 = .ok (.iload 4, 2) := by decide +kernel
theorem dL_law_1249 : decode code 1249 = .ok (.iconst 1, 1) := by decide +kernel
theorem dL_law_1250 : decode code 1250 = .ok (.iadd, 1) := by decide +kernel
theorem dL_law_1251 : decode code 1251 = .ok (.iaload, 1) := by decide +kernel
theorem dL_law_1252 : decode code 1252 = .ok (.invokestatic 155, 3) := by decide +kernel
theorem dL_law_1255 : decode code 1255 = .ok (.istore 5, 2) := by decide +kernel
theorem dL_law_1257 : decode code 1257 = .ok (.aload_n 2, 1) := by decide +kernel
theorem dL_law_1258 : decode code 1258 = .ok (.aload_n 0, 1) := by decide +kernel
theorem dL_law_1259 : decode code 1259 = .ok (.iload 4, 2) := by decide +kernel
theorem dL_law_1261 : decode code 1261 = .ok (.iconst 1, 1) := by decide +kernel
theorem dL_law_1262 : decode code 1262 = .ok (.iadd, 1) := by decide +kernel
theorem dL_law_1263 : decode code 1263 = .ok (.iaload, 1) := by decide +kernel
theorem dL_law_1264 : decode code 1264 = .ok (.invokevirtual 158, 3) := by decide +kernel
theorem dL_law_1267 : decode code 1267 = .ok (.aload_n 2, 1) := by decide +kernel
theorem dL_law_1268 : decode code 1268 = .ok (.invokevirtual 92, 3) := by decide +kernel
theorem dL_law_1271 : decode code 1271 = .ok (.iload 5, 2) := by decide +kernel
theorem dL_law_1273 : decode code 1273 = .ok (.if_icmp .eq 5, 3) := by decide +kernel
theorem dL_law_1276 : decode code 1276 = .ok (.iconst 0, 1) := by decide +kernel
theorem dL_law_1277 : decode code 1277 = .ok (.ireturn, 1) := by decide +kernel
theorem dL_law_1278 : decode code 1278 = .ok (.goto 169, 3) := by decide +kernel
theorem dL_law_1281 : decode code 1281 = .ok (.aload_n 1, 1) := by decide +kernel
theorem dL_law_1282 : decode code 1282 = .ok (.aload_n 0, 1) := by decide +kernel
theorem dL_law_1283 : decode code 1283 = .ok (.iload 4, 2) := by decide +kernel
theorem dL_law_1285 : decode code 1285 = .ok (.iconst 1, 1) := by decide +kernel
theorem dL_law_1286 : decode code 1286 = .ok (.iadd, 1) := by decide +kernel
theorem dL_law_1287 : decode code 1287 = .ok (.iaload, 1) := by decide +kernel
theorem dL_law_1288 : decode code 1288 = .ok (.invokestatic 159, 3) := by decide +kernel
theorem dL_law_1291 : decode code 1291 = .ok (.istore 5, 2) := by decide +kernel
theorem dL_law_1293 : decode code 1293 = .ok (.aload_n 2, 1) := by decide +kernel
theorem dL_law_1294 : decode code 1294 = .ok (.aload_n 0, 1) := by decide +kernel
theorem dL_law_1295 : decode code 1295 = .ok (.iload 4, 2) := by decide +kernel
theorem dL_law_1297 : decode code 1297 = .ok (.iconst 1, 1) := by decide +kernel
theorem dL_law_1298 : decode code 1298 = .ok (.iadd, 1) := by decide +kernel
theorem dL_law_1299 : decode code 1299 = .ok (.iaload, 1) := by decide +kernel
theorem dL_law_1300 : decode code 1300 = .ok (.invokevirtual 161, 3) := by decide +kernel
theorem dL_law_1303 : decode code 1303 = .ok (.aload_n 2, 1) := by decide +kernel
theorem dL_law_1304 : decode code 1304 = .ok (.invokevirtual 92, 3) := by decide +kernel
theorem dL_law_1307 : decode code 1307 = .ok (.iload 5, 2) := by decide +kernel
theorem dL_law_1309 : decode code 1309 = .ok (.if_icmp .eq 5, 3) := by decide +kernel
theorem dL_law_1312 : decode code 1312 = .ok (.iconst 0, 1) := by decide +kernel
theorem dL_law_1313 : decode code 1313 = .ok (.ireturn, 1) := by decide +kernel
theorem dL_law_1314 : decode code 1314 = .ok (.goto 133, 3) := by decide +kernel
theorem dL_law_1317 : decode code 1317 = .ok (.aload_n 1, 1) := by decide +kernel
theorem dL_law_1318 : decode code 1318 = .ok (.aload_n 0, 1) := by decide +kernel
theorem dL_law_1319 : decode code 1319 = .ok (.iload 4, 2) := by decide +kernel
theorem dL_law_1321 : decode code 1321 = .ok (.iconst 1, 1) := by decide +kernel
theorem dL_law_1322 : decode code 1322 = .ok (.iadd, 1) := by decide +kernel
theorem dL_law_1323 : decode code 1323 = .ok (.iaload, 1) := by decide +kernel
theorem dL_law_1324 : decode code 1324 = .ok (.invokevirtual 162, 3) := by decide +kernel
theorem dL_law_1327 : decode code 1327 = .ok (.aload_n 2, 1) := by decide +kernel
theorem dL_law_1328 : decode code 1328 = .ok (.aload_n 0, 1) := by decide +kernel
theorem dL_law_1329 : decode code 1329 = .ok (.iload 4, 2) := by decide +kernel
theorem dL_law_1331 : decode code 1331 = .ok (.iconst 1, 1) := by decide +kernel
theorem dL_law_1332 : decode code 1332 = .ok (.iadd, 1) := by decide +kernel
theorem dL_law_1333 : decode code 1333 = .ok (.iaload, 1) := by decide +kernel
theorem dL_law_1334 : decode code 1334 = .ok (.invokevirtual 165, 3) := by decide +kernel
theorem dL_law_1337 : decode code 1337 = .ok (.if_icmp .eq 110, 3) := by decide +kernel
theorem dL_law_1340 : decode code 1340 = .ok (.iconst 0, 1) := by decide +kernel
theorem dL_law_1341 : decode code 1341 = .ok (.ireturn, 1) := by decide +kernel
theorem dL_law_1342 : decode code 1342 = .ok (.aload_n 1, 1) := by decide +kernel
theorem dL_law_1343 : decode code 1343 = .ok (.aload_n 0, 1) := by decide +kernel
theorem dL_law_1344 : decode code 1344 = .ok (.iload 4, 2) := by decide +kernel
theorem dL_law_1346 : decode code 1346 = .ok (.iconst 1, 1) := by decide +kernel
theorem dL_law_1347 : decode code 1347 = .ok (.iadd, 1) := by decide +kernel
theorem dL_law_1348 : decode code 1348 = .ok (.iaload, 1) := by decide +kernel
theorem dL_law_1349 : decode code 1349 = .ok (.aload_n 0, 1) := by decide +kernel
theorem dL_law_1350 : decode code 1350 = .ok (.iload 4, 2) := by decide +kernel
theorem dL_law_1352 : decode code 1352 = .ok (.iconst 2, 1) := by decide +kernel
theorem dL_law_1353 : decode code 1353 = .ok (.iadd, 1) := by decide +kernel
theorem dL_law_1354 : decode code 1354 = .ok (.iaload, 1) := by decide +kernel
theorem dL_law_1355 : decode code 1355 = .ok (.aload_n 3, 1) := by decide +kernel
theorem dL_law_1356 : decode code 1356 = .ok (.invokestatic 166, 3) := by decide +kernel
theorem dL_law_1359 : decode code 1359 = .ok (.istore 5, 2) := by decide +kernel
theorem dL_law_1361 : decode code 1361 = .ok (.aload_n 2, 1) := by decide +kernel
theorem dL_law_1362 : decode code 1362 = .ok (.aload_n 0, 1) := by decide +kernel
theorem dL_law_1363 : decode code 1363 = .ok (.iload 4, 2) := by decide +kernel
theorem dL_law_1365 : decode code 1365 = .ok (.iconst 1, 1) := by decide +kernel
theorem dL_law_1366 : decode code 1366 = .ok (.iadd, 1) := by decide +kernel
theorem dL_law_1367 : decode code 1367 = .ok (.iaload, 1) := by decide +kernel
theorem dL_law_1368 : decode code 1368 = .ok (.aload_n 0, 1) := by decide +kernel
theorem dL_law_1369 : decode code 1369 = .ok (.iload 4, 2) := by decide +kernel
theorem dL_law_1371 : decode code 1371 = .ok (.iconst 2, 1) := by decide +kernel
theorem dL_law_1372 : decode code 1372 = .ok (.iadd, 1) := by decide +kernel
theorem dL_law_1373 : decode code 1373 = .ok (.iaload, 1) := by decide +kernel
theorem dL_law_1374 : decode code 1374 = .ok (.invokevirtual 168, 3) := by decide +kernel
theorem dL_law_1377 : decode code 1377 = .ok (.istore 6, 2) := by decide +kernel
theorem dL_law_1379 : decode code 1379 = .ok (.aload_n 2, 1) := by decide +kernel
theorem dL_law_1380 : decode code 1380 = .ok (.invokevirtual 92, 3) := by decide +kernel
theorem dL_law_1383 : decode code 1383 = .ok (.iload 5, 2) := by decide +kernel
theorem dL_law_1385 : decode code 1385 = .ok (.if_icmp .eq 5, 3) := by decide +kernel
theorem dL_law_1388 : decode code 1388 = .ok (.iconst 0, 1) := by decide +kernel
theorem dL_law_1389 : decode code 1389 = .ok (.ireturn, 1) := by decide +kernel
theorem dL_law_1390 : decode code 1390 = .ok (.iload 5, 2) := by decide +kernel
theorem dL_law_1392 : decode code 1392 = .ok (.ifCond .ne 15, 3) := by decide +kernel
theorem dL_law_1395 : decode code 1395 = .ok (.aload_n 3, 1) := by decide +kernel
theorem dL_law_1396 : decode code 1396 = .ok (.iconst 0, 1) := by decide +kernel
theorem dL_law_1397 : decode code 1397 = .ok (.laload, 1) := by decide +kernel
theorem dL_law_1398 : decode code 1398 = .ok (.iload 6, 2) := by decide +kernel
theorem dL_law_1400 : decode code 1400 = .ok (.i2l, 1) := by decide +kernel
theorem dL_law_1401 : decode code 1401 = .ok (.lcmp, 1) := by decide +kernel
theorem dL_law_1402 : decode code 1402 = .ok (.ifCond .eq 5, 3) := by decide +kernel
theorem dL_law_1405 : decode code 1405 = .ok (.iconst 0, 1) := by decide +kernel
theorem dL_law_1406 : decode code 1406 = .ok (.ireturn, 1) := by decide +kernel
theorem dL_law_1407 : decode code 1407 = .ok (.goto 40, 3) := by decide +kernel
theorem dL_law_1410 : decode code 1410 = .ok (.aload_n 1, 1) := by decide +kernel
theorem dL_law_1411 : decode code 1411 = .ok (.aload_n 0, 1) := by decide +kernel
theorem dL_law_1412 : decode code 1412 = .ok (.iload 4, 2) := by decide +kernel
theorem dL_law_1414 : decode code 1414 = .ok (.iconst 1, 1) := by decide +kernel
theorem dL_law_1415 : decode code 1415 = .ok (.iadd, 1) := by decide +kernel
theorem dL_law_1416 : decode code 1416 = .ok (.iaload, 1) := by decide +kernel
theorem dL_law_1417 : decode code 1417 = .ok (.aload_n 0, 1) := by decide +kernel
theorem dL_law_1418 : decode code 1418 = .ok (.iload 4, 2) := by decide +kernel
theorem dL_law_1420 : decode code 1420 = .ok (.iconst 2, 1) := by decide +kernel
theorem dL_law_1421 : decode code 1421 = .ok (.iadd, 1) := by decide +kernel
theorem dL_law_1422 : decode code 1422 = .ok (.iaload, 1) := by decide +kernel
theorem dL_law_1423 : decode code 1423 = .ok (.invokevirtual 169, 3) := by decide +kernel
theorem dL_law_1426 : decode code 1426 = .ok (.aload_n 2, 1) := by decide +kernel
theorem dL_law_1427 : decode code 1427 = .ok (.aload_n 0, 1) := by decide +kernel
theorem dL_law_1428 : decode code 1428 = .ok (.iload 4, 2) := by decide +kernel
theorem dL_law_1430 : decode code 1430 = .ok (.iconst 1, 1) := by decide +kernel
theorem dL_law_1431 : decode code 1431 = .ok (.iadd, 1) := by decide +kernel
theorem dL_law_1432 : decode code 1432 = .ok (.iaload, 1) := by decide +kernel
theorem dL_law_1433 : decode code 1433 = .ok (.aload_n 0, 1) := by decide +kernel
theorem dL_law_1434 : decode code 1434 = .ok (.iload 4, 2) := by decide +kernel
theorem dL_law_1436 : decode code 1436 = .ok (.iconst 2, 1) := by decide +kernel
theorem dL_law_1437 : decode code 1437 = .ok (.iadd, 1) := by decide +kernel
theorem dL_law_1438 : decode code 1438 = .ok (.iaload, 1) := by decide +kernel
theorem dL_law_1439 : decode code 1439 = .ok (.invokevirtual 172, 3) := by decide +kernel
theorem dL_law_1442 : decode code 1442 = .ok (.if_icmp .eq 5, 3) := by decide +kernel
theorem dL_law_1445 : decode code 1445 = .ok (.iconst 0, 1) := by decide +kernel
theorem dL_law_1446 : decode code 1446 = .ok (.ireturn, 1) := by decide +kernel
theorem dL_law_1447 : decode code 1447 = .ok (.iinc 4 6, 3) := by decide +kernel
theorem dL_law_1450 : decode code 1450 = .ok (.goto (-1427), 3) := by decide +kernel
theorem dL_law_1453 : decode code 1453 = .ok (.iconst 1, 1) := by decide +kernel
theorem dL_law_1454 : decode code 1454 = .ok (.ireturn, 1) := by decide +kernel
end
section
/-! the tables: the fields of each kind of cell, the words that stay true under warmer tables -/
def t_S : u_T := fun k => match k with
  | 0 => ("SlideStage", "themeValues", "[I", true)
  | 1 => ("SlideStage", "pages", "Ljava/util/List;", true)
  | 2 => ("SlideStage", "slides", "Ljava/util/List;", true)
  | 3 => ("SlideStage", "shapes", "Ljava/util/List;", true)
  | 4 => ("SlideStage", "effects", "Ljava/util/List;", true)
  | 5 => ("SlideStage", "rows", "LSlideStage$LineRows;", true)
  | 6 => ("SlideStage", "slideAt", "I", false)
  | 7 => ("SlideStage", "clicks", "I", false)
  | _ => ("SlideStage", "time", "I", false)
def t_Sy : Nat → FieldType := fun k => match k with
  | 0 => (.array .int)
  | 1 => (.object "java/util/List")
  | 2 => (.object "java/util/List")
  | 3 => (.object "java/util/List")
  | 4 => (.object "java/util/List")
  | 5 => (.object "SlideStage$LineRows")
  | 6 => .int
  | 7 => .int
  | _ => .int
def t_P : u_T := fun k => match k with
  | 0 => ("SlideStage$Page", "kind", "I", true)
  | 1 => ("SlideStage$Page", "parent", "LSlideStage$Page;", true)
  | 2 => ("SlideStage$Page", "shapes", "Ljava/util/List;", true)
  | _ => ("SlideStage$Page", "effects", "Ljava/util/List;", true)
def t_Py : Nat → FieldType := fun k => match k with
  | 0 => .int
  | 1 => (.object "SlideStage$Page")
  | 2 => (.object "java/util/List")
  | _ => (.object "java/util/List")
def t_H : u_T := fun k => match k with
  | 0 => ("SlideStage$Shape", "index", "I", true)
  | 1 => ("SlideStage$Shape", "page", "LSlideStage$Page;", true)
  | 2 => ("SlideStage$Shape", "slot", "I", true)
  | 3 => ("SlideStage$Shape", "owns", "[Z", true)
  | 4 => ("SlideStage$Shape", "values", "[I", true)
  | 5 => ("SlideStage$Shape", "paragraphs", "Ljava/util/List;", true)
  | _ => ("SlideStage$Shape", "effects", "Ljava/util/List;", true)
def t_Hy : Nat → FieldType := fun k => match k with
  | 0 => .int
  | 1 => (.object "SlideStage$Page")
  | 2 => .int
  | 3 => (.array .boolean)
  | 4 => (.array .int)
  | 5 => (.object "java/util/List")
  | _ => (.object "java/util/List")
def t_G : u_T := fun k => match k with
  | 0 => ("SlideStage$Paragraph", "level", "I", true)
  | _ => ("SlideStage$Paragraph", "words", "I", true)
def t_Gy : Nat → FieldType := fun k => match k with
  | 0 => .int
  | _ => .int
def t_F : u_T := fun k => match k with
  | 0 => ("SlideStage$Effect", "slide", "LSlideStage$Page;", true)
  | 1 => ("SlideStage$Effect", "kind", "I", true)
  | 2 => ("SlideStage$Effect", "build", "I", true)
  | 3 => ("SlideStage$Effect", "base", "I", true)
  | 4 => ("SlideStage$Effect", "start", "I", true)
  | 5 => ("SlideStage$Effect", "end", "I", true)
  | 6 => ("SlideStage$Effect", "duration", "I", true)
  | _ => ("SlideStage$Effect", "amount", "I", false)
def t_Fy : Nat → FieldType := fun k => match k with
  | 0 => (.object "SlideStage$Page")
  | 1 => .int
  | 2 => .int
  | 3 => .int
  | 4 => .int
  | 5 => .int
  | 6 => .int
  | _ => .int
def t_R : u_T := fun k => match k with
  | 0 => ("SlideStage$LineRows", "paragraph", "[I", true)
  | 1 => ("SlideStage$LineRows", "firstWord", "[I", true)
  | 2 => ("SlideStage$LineRows", "words", "[I", true)
  | 3 => ("SlideStage$LineRows", "width", "[I", true)
  | _ => ("SlideStage$LineRows", "count", "I", false)
def t_Ry : Nat → FieldType := fun k => match k with
  | 0 => (.array .int)
  | 1 => (.array .int)
  | 2 => (.array .int)
  | 3 => (.array .int)
  | _ => .int
def t_A : u_T := fun k => match k with
  | 0 => ("java/util/ArrayList", "elementData", "[Ljava/lang/Object;", false)
  | 1 => ("java/util/ArrayList", "size", "I", false)
  | _ => ("java/util/AbstractList", "modCount", "I", false)
def t_Ay : Nat → FieldType := fun k => match k with
  | 0 => (.array (.object "java/lang/Object"))
  | 1 => .int
  | _ => .int
def t_M : u_T := fun k => match k with
  | 0 => ("SlideStageModel", "code", "I", false)
  | 1 => ("SlideStageModel", "pages", "I", false)
  | 2 => ("SlideStageModel", "kind", "[I", true)
  | 3 => ("SlideStageModel", "parent", "[I", true)
  | 4 => ("SlideStageModel", "shapes", "I", false)
  | 5 => ("SlideStageModel", "home", "[I", true)
  | 6 => ("SlideStageModel", "slot", "[I", true)
  | 7 => ("SlideStageModel", "has", "[Z", true)
  | 8 => ("SlideStageModel", "own", "[I", true)
  | 9 => ("SlideStageModel", "theme", "[I", true)
  | 10 => ("SlideStageModel", "paragraphs", "[I", true)
  | 11 => ("SlideStageModel", "level", "[I", true)
  | 12 => ("SlideStageModel", "words", "[I", true)
  | 13 => ("SlideStageModel", "letters", "[I", true)
  | 14 => ("SlideStageModel", "effects", "I", false)
  | 15 => ("SlideStageModel", "actor", "[I", true)
  | 16 => ("SlideStageModel", "deed", "[I", true)
  | 17 => ("SlideStageModel", "trigger", "[I", true)
  | 18 => ("SlideStageModel", "delay", "[I", true)
  | 19 => ("SlideStageModel", "duration", "[I", true)
  | 20 => ("SlideStageModel", "amounts", "[I", true)
  | 21 => ("SlideStageModel", "at", "I", false)
  | 22 => ("SlideStageModel", "clicks", "I", false)
  | 23 => ("SlideStageModel", "time", "I", false)
  | 24 => ("SlideStageModel", "lineCount", "I", false)
  | 25 => ("SlideStageModel", "linePart", "[I", true)
  | 26 => ("SlideStageModel", "lineFirst", "[I", true)
  | 27 => ("SlideStageModel", "lineWords", "[I", true)
  | _ => ("SlideStageModel", "lineWide", "[I", true)
def t_My : Nat → FieldType := fun k => match k with
  | 0 => .int
  | 1 => .int
  | 2 => (.array .int)
  | 3 => (.array .int)
  | 4 => .int
  | 5 => (.array .int)
  | 6 => (.array .int)
  | 7 => (.array .boolean)
  | 8 => (.array .int)
  | 9 => (.array .int)
  | 10 => (.array .int)
  | 11 => (.array .int)
  | 12 => (.array .int)
  | 13 => (.array .int)
  | 14 => .int
  | 15 => (.array .int)
  | 16 => (.array .int)
  | 17 => (.array .int)
  | 18 => (.array .int)
  | 19 => (.array .int)
  | 20 => (.array .int)
  | 21 => .int
  | 22 => .int
  | 23 => .int
  | 24 => .int
  | 25 => (.array .int)
  | 26 => (.array .int)
  | 27 => (.array .int)
  | _ => (.array .int)
def g_cl : List vw_C := [("SlideStage", t_S, 9), ("SlideStage$Page", t_P, 4), ("SlideStage$Shape", t_H, 7), ("SlideStage$Paragraph", t_G, 2), ("SlideStage$Effect", t_F, 8), ("SlideStage$LineRows", t_R, 5), ("java/util/ArrayList", t_A, 3), ("SlideStageModel", t_M, 29)]
def g_good (w : Cond) : Bool := goodWord w || (w.faceAtom || (w.castAtom || match w with
  | .methodLinkNest .. => true
  | _ => false))
theorem g_stable {w : Cond} (h : g_good w = true) {s U : State} (hW : s.WarmedH U.vm) (hw : ∀ A : Array Value, w.before A s = true) : ∀ A : Array Value, w.before A U = true := by
  unfold g_good at h
  simp only [Bool.or_eq_true] at h
  rcases h with h | h | h | h
  · exact fun A => word_at hW (good_of_word h) (hw #[])
  · intro A
    have h1 := Cond.faceAtom_setVm (args := A) hW.alike w h (hw A)
    have ho : w.onTables = true := by
      cases w <;> first | rfl | simp [Cond.faceAtom] at h
    have h2 := Cond.onTables_vm (A := A) (A' := A) (U := s) (U' := U) U.vm w ho
    rw [h2] at h1
    exact h1
  · intro A
    have h1 := Cond.castAtom_setVm (args := A) hW.alike w h (hw A)
    match w, h with
    | .not (.castable a b), _ =>
      simp only [Cond.before, Cond.holds, Cond.value] at h1 ⊢
      exact h1
  · intro A
    cases w with
    | methodLinkNest a i x hh =>
      have h1 := va_Nw.warmM hW (show va_Nw (.methodLinkNest a i x hh) s from hw #[])
      exact va_any rfl h1
    | _ => cases h
def g_nc : List Cond := [.not (.castable "java/lang/IllegalArgumentException" "java/lang/IndexOutOfBoundsException"), .not (.castable "java/lang/IllegalArgumentException" "java/lang/IllegalStateException"), .not (.castable "java/lang/IllegalArgumentException" "java/lang/UnsupportedOperationException"), .not (.castable "java/lang/IndexOutOfBoundsException" "java/lang/IllegalArgumentException"), .not (.castable "java/lang/IndexOutOfBoundsException" "java/lang/IllegalStateException"), .not (.castable "java/lang/IndexOutOfBoundsException" "java/lang/UnsupportedOperationException"), .not (.castable "java/lang/IllegalStateException" "java/lang/IllegalArgumentException"), .not (.castable "java/lang/IllegalStateException" "java/lang/IndexOutOfBoundsException"), .not (.castable "java/lang/IllegalStateException" "java/lang/UnsupportedOperationException"), .not (.castable "java/lang/UnsupportedOperationException" "java/lang/IllegalArgumentException"), .not (.castable "java/lang/UnsupportedOperationException" "java/lang/IndexOutOfBoundsException"), .not (.castable "java/lang/UnsupportedOperationException" "java/lang/IllegalStateException")]
def g_wl : List Cond := lw_tbl.filter g_good ++ g_nc
theorem g_nc_ok : g_nc.all g_good = true := by decide +kernel
theorem g_wl_ok (w : Cond) (hw : w ∈ g_wl) {s U : State} (hW : s.WarmedH U.vm) (h : ∀ A : Array Value, w.before A s = true) : ∀ A : Array Value, w.before A U = true := by
  rcases List.mem_append.mp hw with h1 | h1
  · exact g_stable (List.mem_filter.mp h1).2 hW h
  · exact g_stable (List.all_eq_true.mp g_nc_ok w h1) hW h
theorem g_in {w : Cond} (i : Nat) (hi : lw_tbl[i]? = some w) (hg : g_good w = true) : w ∈ g_wl := List.mem_append_left _ (List.mem_filter.mpr ⟨List.mem_of_getElem? hi, hg⟩)
theorem g_inc {w : Cond} (i : Nat) (hi : g_nc[i]? = some w) : w ∈ g_wl := List.mem_append_right _ (List.mem_of_getElem? hi)
theorem g_ins {ws : List Cond} (ps : List Nat) (hp : ws = ps.filterMap (fun i => lw_tbl[i]?)) (hg : ws.all g_good = true) : ∀ w ∈ ws, w ∈ g_wl := by
  intro w hw
  have h1 := List.all_eq_true.mp hg w hw
  rw [hp] at hw
  obtain ⟨i, -, hi⟩ := List.mem_filterMap.mp hw
  exact g_in i hi h1
def g_strs : List (Nat × String) := [(53, "no such kind of page"), (68, "no such parent for this kind"), (79, "no more pages"), (95, "no such page"), (97, "no such slot"), (103, "the slot is taken"), (107, "no more shapes"), (301, "no such property"), (309, "no such value for the property"), (311, "no such shape"), (160, "no such level"), (166, "no such words"), (171, "no more paragraphs"), (202, "no such kind or trigger"), (204, "no such delay or duration"), (209, "the shape is on no slide"), (211, "no more effects"), (313, "no such effect"), (235, "no such amount"), (274, "no such slide"), (276, "no such time to pass")]
/-- a static field of the tables' that holds v, its cell as the heap H0 has it -/
def g_SZ (C n d : String) (v : Value) (H0 : Heap) (U : State) : Prop :=
  ∃ (c : ClassId) (k : Class) (i : Nat) (f : Field) (a : Nat) (cell : Cell), U.vm.findClass C = some c ∧ U.fieldFound? C n d = some (c, k, i, f) ∧ f.isStatic = true ∧ k.statics = some a ∧ H0[a]? = some cell ∧ cell.vm.isStatics = true ∧ cell.cls = c ∧ f.slot < cell.slots.size ∧ k.staticTypes[f.slot]? = some f.type ∧ k.init = .initialized ∧ cell.slots[f.slot]? = some v
theorem g_SZ.moved {C n d : String} {v : Value} {H0 : Heap} {u U : State} (hvm : u.vm.Alike U.vm) (h : g_SZ C n d v H0 u) : g_SZ C n d v H0 U := by
  obtain ⟨c, k, i, f, a, cell, h1, h2, h3, h4, h5, h6, h7, h8, h9, h10, h11⟩ := h
  obtain ⟨k', hi', he⟩ := State.fieldFound?_setVm hvm h2
  exact ⟨c, k', i, f, a, cell, by rw [hvm.findClass]; exact h1, hi', h3, by rw [he]; exact h4, h5, h6, h7, h8, by rw [he]; exact h9, by rw [he]; exact h10, h11⟩
def g_least (j : Nat) : Int32 := ([-40, -40, 0, 0, 0, 0, 1] : List Int32).getD j 0
def g_great (j : Nat) : Int32 := ([40, 40, 40, 40, 16777215, 255, 4] : List Int32).getD j 0
def g_K4 (H0 : Heap) (ad : Nat → Nat) (U : State) : Prop :=
  va_T .int (ad 0) 7 (fun j => .int (g_least j)) (fun q => H0.size ≤ q) U H0 ∧ va_T .int (ad 1) 7 (fun j => .int (g_great j)) (fun q => H0.size ≤ q) U H0 ∧ va_T (.object "java/lang/Object") (ad 2) 0 (fun _ => .null) (fun q => H0.size ≤ q) U H0 ∧ va_Mi "[Ljava/lang/Object;" (ad 3) U ∧ va_AO "java/lang/Object" U
/-- statics (places ad 0, 1, 2: LEAST, GREATEST, ArrayList's empty array; two of Throwable's) and strings (place ad (100 + entry)) -/
def g_K3 (H0 : Heap) (ad : Nat → Nat) (U : State) : Prop :=
  g_SZ "SlideStage" "LEAST" "[I" (.ref (ad 0)) H0 U ∧ g_SZ "SlideStage" "GREATEST" "[I" (.ref (ad 1)) H0 U ∧ g_SZ "java/util/ArrayList" "DEFAULTCAPACITY_EMPTY_ELEMENTDATA" "[Ljava/lang/Object;" (.ref (ad 2)) H0 U ∧
  (∃ v : Value, v.isRef = true ∧ g_SZ "java/lang/Throwable" "UNASSIGNED_STACK" "[Ljava/lang/StackTraceElement;" v H0 U) ∧ (∃ v : Value, v.isRef = true ∧ g_SZ "java/lang/Throwable" "SUPPRESSED_SENTINEL" "Ljava/util/List;" v H0 U) ∧ g_K4 H0 ad U ∧
  ∀ q ∈ g_strs, vk_R "SlideStage" q.1 q.2 (ad (100 + q.1)) U
theorem g_K3_warm {H0 : Heap} {ad : Nat → Nat} {s U : State} (hW : s.WarmedH U.vm) (h : g_K3 H0 ad s) : g_K3 H0 ad U := by
  obtain ⟨h1, h2, h3, ⟨v4, r4, h4⟩, ⟨v5, r5, h5⟩, ⟨k1, k2, k3, k4, k5⟩, h6⟩ := h
  exact ⟨h1.moved hW.alike, h2.moved hW.alike, h3.moved hW.alike, ⟨v4, r4, h4.moved hW.alike⟩, ⟨v5, r5, h5.moved hW.alike⟩, ⟨k1.moved hW.alike, k2.moved hW.alike, k3.moved hW.alike, k4.moved hW.alike, k5.moved hW.alike⟩, fun q hq => (h6 q hq).warm hW⟩
def g_hw : List Cond := [.laysStatic "java/lang/Throwable" "UNASSIGNED_STACK" "[Ljava/lang/StackTraceElement;", .laysStatic "java/lang/Throwable" "SUPPRESSED_SENTINEL" "Ljava/util/List;", .isRef (.static "java/lang/Throwable" "UNASSIGNED_STACK" "[Ljava/lang/StackTraceElement;"), .isRef (.static "java/lang/Throwable" "SUPPRESSED_SENTINEL" "Ljava/util/List;")]
theorem g_ow {ws : List Cond} (ps : List Nat) (hp : ws = ps.filterMap (fun i => (lw_tbl ++ g_hw)[i]?)) (hg : ws.all (fun w => g_good w || g_hw.contains w) = true) : ∀ w ∈ ws, w ∈ g_wl ∨ w ∈ g_hw := by
  intro w hw
  have h1 := List.all_eq_true.mp hg w hw
  simp only [Bool.or_eq_true] at h1
  rw [hp] at hw
  obtain ⟨i, -, hi⟩ := List.mem_filterMap.mp hw
  have hm : w ∈ lw_tbl ++ g_hw := List.mem_of_getElem? hi
  rcases List.mem_append.mp hm with h2 | h2
  · rcases h1 with h3 | h3
    · exact Or.inl (List.mem_append_left _ (List.mem_filter.mpr ⟨h2, h3⟩))
    · exact Or.inr (List.contains_iff_mem.mp h3)
  · exact Or.inr h2
theorem g_own0 : ∀ w ∈ Jvm.Bundle.ownAtoms "SlideStage" 55 "java/lang/IllegalArgumentException" ["java/lang/RuntimeException", "java/lang/Exception"], w ∈ g_wl ∨ w ∈ g_hw := g_ow [52, 327, 336, 341, 344, 346, 328, 329, 75, 76, 330, 335, 342, 362, 317, 363, 319, 364, 321, 331, 1122, 333, 1123, 323, 358, 359, 361, 323, 349, 350, 351, 352, 309, 352, 353, 354, 355, 311, 355, 356, 357, 358, 313, 348, 306, 307, 314, 315, 316, 318, 320, 322, 1124, 1125, 326, 325, 324] (by decide +kernel) (by decide +kernel)
theorem g_own1 : ∀ w ∈ Jvm.Bundle.ownAtoms "SlideStage" 70 "java/lang/IndexOutOfBoundsException" ["java/lang/RuntimeException", "java/lang/Exception"], w ∈ g_wl ∨ w ∈ g_hw := g_ow [52, 327, 336, 341, 344, 346, 328, 329, 75, 76, 330, 335, 342, 362, 317, 363, 319, 364, 321, 331, 1122, 333, 1123, 323, 358, 359, 361, 323, 392, 393, 394, 352, 309, 352, 353, 354, 355, 311, 355, 356, 357, 358, 313, 391, 382, 383, 384, 339, 385, 386, 387, 388, 1124, 1125, 326, 325, 389] (by decide +kernel) (by decide +kernel)
theorem g_own2 : ∀ w ∈ Jvm.Bundle.ownAtoms "SlideStage" 81 "java/lang/IllegalStateException" ["java/lang/RuntimeException", "java/lang/Exception"], w ∈ g_wl ∨ w ∈ g_hw := g_ow [52, 327, 336, 341, 344, 346, 328, 329, 75, 76, 330, 335, 342, 362, 317, 363, 319, 364, 321, 331, 1122, 333, 1123, 323, 358, 359, 361, 323, 408, 409, 410, 352, 309, 352, 353, 354, 355, 311, 355, 356, 357, 358, 313, 407, 398, 399, 400, 338, 401, 402, 403, 404, 1124, 1125, 326, 325, 405] (by decide +kernel) (by decide +kernel)
theorem g_own3 : ∀ w ∈ Jvm.Bundle.ownAtoms "SlideStage" 109 "java/lang/UnsupportedOperationException" ["java/lang/RuntimeException", "java/lang/Exception"], w ∈ g_wl ∨ w ∈ g_hw := g_ow [52, 327, 336, 341, 344, 346, 328, 329, 75, 76, 330, 335, 342, 362, 317, 363, 319, 364, 321, 331, 1122, 333, 1123, 323, 358, 359, 361, 323, 525, 526, 527, 352, 309, 352, 353, 354, 355, 311, 355, 356, 357, 358, 313, 524, 515, 516, 517, 340, 518, 519, 520, 521, 1124, 1125, 326, 325, 522] (by decide +kernel) (by decide +kernel)
end
section
/-! the light layer: a view of the heap (address to cell), a walk over views -/
abbrev g_H : Type := Nat → Option va_E
def g_set (h : g_H) (a : Nat) (e : va_E) : g_H := fun q => if q = a then some e else h q
theorem g_set_same (h : g_H) (a : Nat) (e : va_E) : g_set h a e a = some e := by simp [g_set]
theorem g_set_ne (h : g_H) {a b : Nat} (e : va_E) (hn : b ≠ a) : g_set h a e b = h b := by simp [g_set, hn]
/-- the tables' numbers, the heap at the law's start, places of constants in it -/
abbrev g_E : Type := va_G × Heap × (Nat → Nat)
abbrev g_E.D (E : g_E) : va_G := E.1
abbrev g_E.H0 (E : g_E) : Heap := E.2.1
abbrev g_E.ad (E : g_E) : Nat → Nat := E.2.2
abbrev g_X : Type := Program × Launch × Env × Room × State × MethodId × Array Value × List Frame × Method × Code
abbrev g_X.p (X : g_X) : Program := X.1
abbrev g_X.l (X : g_X) : Launch := X.2.1
abbrev g_X.e (X : g_X) : Env := X.2.2.1
abbrev g_X.R (X : g_X) : Room := X.2.2.2.1
abbrev g_X.s (X : g_X) : State := X.2.2.2.2.1
abbrev g_X.m (X : g_X) : MethodId := X.2.2.2.2.2.1
abbrev g_X.args (X : g_X) : Array Value := X.2.2.2.2.2.2.1
abbrev g_X.below (X : g_X) : List Frame := X.2.2.2.2.2.2.2.1
abbrev g_X.meth (X : g_X) : Method := X.2.2.2.2.2.2.2.2.1
abbrev g_X.c (X : g_X) : Code := X.2.2.2.2.2.2.2.2.2
/-- a method: its name, its bytes, its locals, what it returns, its handlers -/
abbrev g_M : Type := MethodName × ByteArray × Nat × Option FieldType × List (Nat × Nat × Nat × Nat)
abbrev g_M.y (M : g_M) : MethodName := M.1
abbrev g_M.cc (M : g_M) : ByteArray := M.2.1
abbrev g_M.nl (M : g_M) : Nat := M.2.2.1
abbrev g_M.ret (M : g_M) : Option FieldType := M.2.2.2.1
abbrev g_M.tb (M : g_M) : List (Nat × Nat × Nat × Nat) := M.2.2.2.2
def g_cw (M : g_M) : Cond := match M.tb with
  | [] => .code M.y M.cc M.nl M.ret
  | _ :: _ => .codeWith M.y M.cc M.nl M.ret M.tb
/-- threw an exception of this number; or returned -/
abbrev g_R : Type := Nat ⊕ Option Value
/-- what is promised: whether nothing at all is written or made; the outcome and the view -/
abbrev g_P : Type := Bool × (g_R → g_H → Prop)
def g_xn (k : Nat) : String := ["java/lang/IllegalArgumentException", "java/lang/IndexOutOfBoundsException", "java/lang/IllegalStateException", "java/lang/UnsupportedOperationException"].getD k ""
def g_tys (D : va_G) : List (ClassId × FieldType) := [(D.1 100, .int), (D.1 101, .boolean), (D.1 102, .long), (D.1 103, .object "java/lang/Object")]
def g_V (D : va_G) (h : g_H) (H : Heap) : Prop := ∀ (a : Nat) (e : va_E), h a = some e → va_at D g_cl (a, e) H
def g_B (H0 H : Heap) : Prop := H0.size ≤ H.size ∧ ∀ a : Nat, a < H0.size → H[a]? = H0[a]?
theorem g_V.lt {D : va_G} {h : g_H} {H : Heap} (hV : g_V D h H) {a : Nat} {e : va_E} (ha : h a = some e) : a < H.size := (hV a e ha).lt
theorem g_V.put {D : va_G} {h : g_H} {H H1 : Heap} {a : Nat} {e : va_E} (hV : g_V D h H) (he : va_at D g_cl (a, e) H1) (oq : ∀ q : Nat, q ≠ a → H1[q]? = H[q]?) : g_V D (g_set h a e) H1 := by
  intro b e' hb
  by_cases hba : b = a
  · subst hba
    rw [g_set_same] at hb
    cases hb
    exact he
  · rw [g_set_ne h e hba] at hb
    exact (hV b e' hb).kept (oq b hba)
theorem g_V.grow {D : va_G} {h : g_H} {H H1 : Heap} (hV : g_V D h H) (oq : ∀ q : Nat, q < H.size → H1[q]? = H[q]?) : g_V D h H1 := fun a e ha => (hV a e ha).kept (oq a (hV.lt ha))
theorem g_V.new {D : va_G} {h : g_H} {H H1 : Heap} {e : va_E} (hV : g_V D h H) (he : va_at D g_cl (H.size, e) H1) (oq : ∀ q : Nat, q < H.size → H1[q]? = H[q]?) : g_V D (g_set h H.size e) H1 := by
  intro b e' hb
  by_cases hba : b = H.size
  · subst hba
    rw [g_set_same] at hb
    cases hb
    exact he
  · rw [g_set_ne h e hba] at hb
    exact (hV b e' hb).kept (oq b (hV.lt hb))
theorem g_V.fresh {D : va_G} {h : g_H} {H : Heap} (hV : g_V D h H) : h H.size = none := by
  cases hq : h H.size with
  | none => rfl
  | some e => exact absurd (hV.lt hq) (Nat.lt_irrefl _)
theorem g_B.put {H0 H H1 : Heap} {a : Nat} (hB : g_B H0 H) (z : H1.size = H.size) (oq : ∀ q : Nat, q ≠ a → H1[q]? = H[q]?) (ha : H0.size ≤ a) : g_B H0 H1 :=
  ⟨by rw [z]; exact hB.1, fun b hb => (oq b (by omega)).trans (hB.2 b hb)⟩
theorem g_B.grow {H0 H H1 : Heap} (hB : g_B H0 H) (z : H.size ≤ H1.size) (oq : ∀ q : Nat, q < H.size → H1[q]? = H[q]?) : g_B H0 H1 :=
  ⟨Nat.le_trans hB.1 z, fun b hb => (oq b (Nat.lt_of_lt_of_le hb hB.1)).trans (hB.2 b hb)⟩
/-- what the tables say: the fields' slots, the arrays, the words of g_wl, and g_K3 (statics, strings) -/
def g_K (E : g_E) (U : State) : Prop := va_K E.D g_cl (g_tys E.D) U ∧ (∀ w ∈ g_wl, ∀ A : Array Value, w.before A U = true) ∧ g_K3 E.H0 E.ad U
theorem g_K.warm {E : g_E} {s U : State} (hW : s.WarmedH U.vm) (h : g_K E s) : g_K E U := ⟨h.1.moved hW.alike, fun w hw => g_wl_ok w hw hW (h.2.1 w hw), g_K3_warm hW h.2.2⟩
theorem g_K.w {E : g_E} {U : State} (h : g_K E U) {w : Cond} (hw : w ∈ g_wl) {A : Array Value} : w.before A U = true := h.2.1 w hw A
/-- locals: a list, none where nothing is known -/
def g_L (ls : Array Slot) (n : Nat) (L : List (Option Value)) : Prop := ls.size = n ∧ lv_wf ls ∧ ∀ (i : Nat) (v : Value), L[i]? = some (some v) → ls[i]? = some (.val v) ∧ v.category = 1
theorem g_L.store {ls : Array Slot} {n i : Nat} {L : List (Option Value)} {v : Value} (h : g_L ls n L) (hi : i < n) (hc : v.category = 1) : ∃ ls', storeLocals ls i v = some ls' ∧ g_L ls' n (L.set i (some v)) := by
  obtain ⟨h1, h2, h3⟩ := h
  obtain ⟨ls', e', hs, hw, hm⟩ := lv_store1 (l := []) (v := v) ⟨h1, h2, fun q hq => by cases hq⟩ hi hc
  refine ⟨ls', e', hs, hw, fun j w hj => ?_⟩
  by_cases hji : j = i
  · subst hji
    have hw2 : w = v := by
      by_cases hlt : j < L.length
      · rw [List.getElem?_set_self hlt] at hj
        exact (Option.some.inj (Option.some.inj hj)).symm
      · rw [List.getElem?_eq_none (by simpa using Nat.not_lt.mp hlt)] at hj
        cases hj
    subst hw2
    exact ⟨hm (j, w) List.mem_cons_self, hc⟩
  · have hj' : L[j]? = some (some w) := by
      rw [List.getElem?_set_ne (fun q => hji q.symm)] at hj
      exact hj
    obtain ⟨g1, g2⟩ := h3 j w hj'
    obtain ⟨ls2, e2, hs2, hw2, hm2⟩ := lv_store1 (l := [(j, w)]) (v := v) ⟨h1, h2, fun q hq => by
      rw [List.mem_singleton] at hq
      subst hq
      exact g1⟩ hi hc
    have he : ls2 = ls' := Option.some.inj (e2.symm.trans e')
    subst he
    refine ⟨hm2 (j, w) (List.mem_cons_of_mem _ (List.mem_filter.mpr ⟨List.mem_cons_self, ?_⟩)), g2⟩
    simp [hji, g2]
theorem g_L.get {ls : Array Slot} {n i : Nat} {L : List (Option Value)} {v : Value} (h : g_L ls n L) (hi : L[i]? = some (some v)) : ls[i]? = some (.val v) := (h.2.2 i v hi).1
theorem g_L.lt {ls : Array Slot} {n i : Nat} {L : List (Option Value)} {v : Value} (h : g_L ls n L) (hi : L[i]? = some (some v)) : i < n := by
  have h1 := h.get hi
  have h2 := (Array.getElem?_eq_some_iff.mp h1).1
  rw [h.1] at h2
  exact h2
/-- what came out, in the machine's words -/
def g_o (r : g_R) (o : Outcome) (t : State) : Prop := match r with
  | .inr v => o = .returned v
  | .inl k => ∃ (a : Addr) (cell : Cell), o = .threw a ∧ t.heap[a]? = some cell ∧ cell.vm = .none ∧ t.vm.findClass (g_xn k) = some cell.cls
def g_Z (E : g_E) (mc ms : Nat) (P : g_P) (s : State) (o : Outcome) (t : State) : Prop :=
  (∃ (r : g_R) (h' : g_H), P.2 r h' ∧ g_o r o t ∧ g_V E.D h' t.heap ∧ g_B E.H0 t.heap) ∧ s.WarmedH t.vm ∧ ∃ L : List Loc, s.sameButNew ({ t with vm := s.vm } : State) L mc ms ∧ (∀ q ∈ L, E.H0.size ≤ q.base) ∧ (P.1 = true → L = [] ∧ t.heap = s.heap)
def g_Q (E : g_E) (X : g_X) (P : g_P) : State → Prop := fun t => ∃ o, t.status = .running ∧ Ended t X.below o ∧ g_Z E X.R.cells X.R.slots P X.s o t
def g_Wk (X : g_X) (H : Heap) (locs : List Loc) (cs ss : Nat) (Q : State → Prop) (g : JFrame) : Prop := W X.p X.l X.e X.R X.s X.m X.args X.below X.meth X.c H locs cs ss Q g
/-- z: nothing has been written or made so far -/
def g_Go (E : g_E) (X : g_X) (P : g_P) (h : g_H) (z : Bool) (cs ss pc : Nat) (L : List (Option Value)) (st : List Value) : Prop :=
  ∀ (H : Heap) (locs : List Loc) (ls : Array Slot), g_V E.D h H → g_B E.H0 H → (∀ q ∈ locs, E.H0.size ≤ q.base) → g_L ls X.c.maxLocals L → (z = true → locs = [] ∧ H = X.s.heap ∧ cs = 0 ∧ ss = 0) →
    W X.p X.l X.e X.R X.s X.m X.args X.below X.meth X.c H locs cs ss (g_Q E X P) (F0 X.m pc ls st)
def g_ok (E : g_E) (X : g_X) (M : g_M) : Prop :=
  X.p.tables.exec = Jvm.exec ∧ X.c.code = M.cc ∧ X.meth.sig.returnType = M.ret ∧ X.c.maxLocals = M.nl ∧ X.s.vm.findClass M.y.cls = some X.m.cls ∧ g_K E X.s ∧ X.l.stackTraces = false ∧ X.meth.locks = false ∧
    g_B E.H0 X.s.heap ∧ X.meth.name = M.y.name ∧ X.c.exceptionTable.toList = tableOf M.tb
theorem g_ok.exec {E : g_E} {X : g_X} {M : g_M} (h : g_ok E X M) : X.p.tables.exec = Jvm.exec := h.1
theorem g_ok.code {E : g_E} {X : g_X} {M : g_M} (h : g_ok E X M) : X.c.code = M.cc := h.2.1
theorem g_ok.ret {E : g_E} {X : g_X} {M : g_M} (h : g_ok E X M) : X.meth.sig.returnType = M.ret := h.2.2.1
theorem g_ok.nl {E : g_E} {X : g_X} {M : g_M} (h : g_ok E X M) : X.c.maxLocals = M.nl := h.2.2.2.1
theorem g_ok.own {E : g_E} {X : g_X} {M : g_M} (h : g_ok E X M) : X.s.vm.findClass M.y.cls = some X.m.cls := h.2.2.2.2.1
theorem g_ok.K {E : g_E} {X : g_X} {M : g_M} (h : g_ok E X M) : g_K E X.s := h.2.2.2.2.2.1
theorem g_ok.tr {E : g_E} {X : g_X} {M : g_M} (h : g_ok E X M) : X.l.stackTraces = false := h.2.2.2.2.2.2.1
theorem g_ok.locks {E : g_E} {X : g_X} {M : g_M} (h : g_ok E X M) : X.meth.locks = false := h.2.2.2.2.2.2.2.1
theorem g_ok.base {E : g_E} {X : g_X} {M : g_M} (h : g_ok E X M) : g_B E.H0 X.s.heap := h.2.2.2.2.2.2.2.2.1
theorem g_ok.name {E : g_E} {X : g_X} {M : g_M} (h : g_ok E X M) : X.meth.name = M.y.name := h.2.2.2.2.2.2.2.2.2.1
theorem g_ok.tb {E : g_E} {X : g_X} {M : g_M} (h : g_ok E X M) : X.c.exceptionTable.toList = tableOf M.tb := h.2.2.2.2.2.2.2.2.2.2
theorem g_ok.w {E : g_E} {X : g_X} {M : g_M} (h : g_ok E X M) {w : Cond} (hw : w ∈ g_wl) {A : Array Value} : w.before A X.s = true := h.K.w hw
/-- a contract: from the view h with these arguments, the method ends as P says; it makes at most mc cells of ms slots; fr frames deep, of lo words -/
def g_Ct (l : Launch) (M : g_M) (fr lo mc ms : Nat) (as : List Value) (E : g_E) (h : g_H) (P : g_P) : Prop :=
  MetFree l M.y (headSpec [g_cw M] { frames := fr, cells := mc, slots := ms, locals := lo }) (fun a U => a = as.toArray ∧ g_K E U ∧ g_V E.D h U.heap ∧ g_B E.H0 U.heap) (fun _ _ _ _ _ => True) (fun _ st o t => g_Z E mc ms P st o t)
theorem g_cw_spec {M : g_M} {A : Array Value} {s : State} {m : MethodId} (hn : s.methodNamed? M.y = some m) (h : (g_cw M).before A s = true) :
    ∃ meth c, s.vm.method? m = some meth ∧ meth.code = some c ∧ c.code = M.cc ∧ c.maxLocals = M.nl ∧ meth.sig.returnType = M.ret ∧ meth.locks = false ∧ c.exceptionTable.toList = tableOf M.tb ∧ parseMethodDescriptor M.y.desc = some meth.sig := by
  obtain ⟨y, cc, nl, ret, tb⟩ := M
  cases tb with
  | nil =>
    obtain ⟨meth, c, h1, h2, h3, h4, h5, h6, h7, h8⟩ := Cond.code_spec hn (show (Cond.code y cc nl ret).before A s = true from h)
    have h0 : c.exceptionTable.size = 0 := by simpa [Array.isEmpty] using h7
    exact ⟨meth, c, h1, h2, h3, h4, h5, h6, List.eq_nil_of_length_eq_zero (by simpa using h0), h8⟩
  | cons q r =>
    obtain ⟨m', meth, c, h0, h1, h2, h3, h4, h7, h5, h6, h8⟩ := Cond.codeWith_spec (show (Cond.codeWith y cc nl ret (q :: r)).before A s = true from h)
    cases hn.symm.trans h0
    exact ⟨meth, c, h1, h2, h3, h4, h5, h6, by show c.exceptionTable.toList = tableOf (q :: r); rw [← h7, table_eq], h8⟩
theorem g_entry (m : MethodId) (vs : List Value) (n : Nat) (hv : ∀ v ∈ vs, v.category = 1) (hn : vs.length ≤ n) : ∃ ls, entryFrame m vs.toArray n = F0 m 0 ls [] ∧ g_L ls n (vs.map some ++ List.replicate (n - vs.length) none) := by
  have hsl : ∀ ws : List Value, (∀ v ∈ ws, v.category = 1) → lg_sl ws = ws.map Slot.val := by
    intro ws
    induction ws with
    | nil => intro _; rfl
    | cons a r ih =>
      intro h
      have ha : ¬ a.category = 2 := by rw [h a List.mem_cons_self]; decide
      show (if a.category = 2 then [Slot.val a, .second] else [.val a]) ++ lg_sl r = _
      rw [if_neg ha, ih fun v hv => h v (List.mem_cons_of_mem _ hv)]
      rfl
  have e1 := hsl vs hv
  have hl : (lg_sl vs).length ≤ n := by rw [e1, List.length_map]; exact hn
  have h2 := lv_entry vs hl
  refine ⟨_, lg_entry_eq m vs n, h2.1, h2.2.1, fun i v hi => ?_⟩
  have hlt : i < vs.length := by
    apply Classical.byContradiction
    intro hge
    rw [List.getElem?_append_right (by rw [List.length_map]; omega), List.getElem?_replicate] at hi
    split at hi
    · cases hi
    · cases hi
  rw [List.getElem?_append_left (by rw [List.length_map]; exact hlt), List.getElem?_map] at hi
  cases hq : vs[i]? with
  | none => rw [hq] at hi; cases hi
  | some w =>
    rw [hq] at hi
    have hw : w = v := Option.some.inj (Option.some.inj hi)
    subst hw
    refine ⟨?_, hv w (List.mem_of_getElem? hq)⟩
    rw [e1, List.getElem?_toArray, List.getElem?_append_left (by rw [List.length_map]; exact hlt), List.getElem?_map, hq]
    rfl
theorem g_Ct.of {l : Launch} {M : g_M} {fr lo mc ms : Nat} {as : List Value} {E : g_E} {h : g_H} {P : g_P} (hl : l.stackTraces = false) (hy : plainName M.y.cls = true) (hv0 : as.all (fun v => v.category == 1) = true) (hn : as.length ≤ M.nl)
    (body : ∀ X : g_X, g_ok E X M → X.l = l → X.R = { frames := fr, cells := mc, slots := ms, locals := lo } → g_Go E X P h true 0 0 0 (as.map some ++ List.replicate (M.nl - as.length) none) []) : g_Ct l M fr lo mc ms as E h P := by
  have hv : ∀ v ∈ as, v.category = 1 := fun v hv => by
    have h1 := List.all_eq_true.mp hv0 v hv
    simpa using h1
  refine MetFree.of_bodyS (code := M.cc) (maxLocals := M.nl) (ret := M.ret) hy ?_ ?_
  · intro args s m h hn
    obtain ⟨meth, c, h1, h2, h3, h4, h5, h6, -, -⟩ := g_cw_spec hn (atoms_spec (ws := [g_cw M]) h _ List.mem_cons_self)
    exact ⟨meth, c, h1, h2, h3, h4, h5, h6⟩
  · intro p e s m args below meth c s₁ B hml hP _
    obtain ⟨rfl, hK, hV, hB⟩ := hP
    have hpre := atoms_spec (ws := [g_cw M]) B.pre _ List.mem_cons_self
    obtain ⟨meth', c', h1, h2, h3, h4, h5, h6, h7, -⟩ := g_cw_spec B.named hpre
    have X₀ := Stand.of_body B
    cases B.method.symm.trans h1
    cases X₀.code.symm.trans h2
    have hown : s.vm.findClass M.y.cls = some m.cls := findClass_of_methodNamed B.named
    have hnm : meth.name = M.y.name := (name_of_methodNamed B.named B.method).1
    obtain ⟨ls, he, hL⟩ := g_entry m as M.nl hv hn
    have hok : g_ok E (p, l, e, { frames := fr, cells := mc, slots := ms, locals := lo }, s, m, as.toArray, below, meth, c) M :=
      ⟨B.exec, h3, h5, h4, hown, hK, hl, h6, hB, hnm, h7⟩
    have hgo := body (p, l, e, { frames := fr, cells := mc, slots := ms, locals := lo }, s, m, as.toArray, below, meth, c) hok rfl rfl
    have hh0 : s₁.heap = s.heap := by rw [B.state]; rfl
    rw [he]
    obtain ⟨t, a1, o, b1, b2, b3⟩ := hgo s₁.heap [] ls (by rw [hh0]; exact hV) (by rw [hh0]; exact hB) (fun q hq => by cases hq) (by show g_L ls c.maxLocals _; rw [h4]; exact hL) (fun _ => ⟨rfl, hh0, rfl, rfl⟩) s₁ rfl X₀
    exact ⟨t, o, a1, b1, b2, b3⟩
theorem g_pu {P : g_P} {z : Bool} {locs : List Loc} {H : Heap} {cs ss : Nat} {s T : State} (hpu : (!P.1 || z) = true) (h1 : P.1 = true) (hz : z = true → locs = [] ∧ H = s.heap ∧ cs = 0 ∧ ss = 0) (hT : T.heap = H) : locs = [] ∧ T.heap = s.heap := by
  rw [h1] at hpu
  have h2 : z = true := by simpa using hpu
  obtain ⟨q1, q2, -, -⟩ := hz h2
  exact ⟨q1, hT.trans q2⟩
theorem g_rfr (r : Option Nat) : (va_rf r).isRef = true := by cases r <;> rfl
theorem g_rfc (r : Option Nat) : ((va_rf r).category == 1) = true := by cases r <;> rfl
end
section
section GROWS
variable {E : g_E} {X : g_X} {M : g_M} {P : g_P} {h : g_H} {z : Bool} {cs ss pc : Nat} {L : List (Option Value)} {rest : List Value}
theorem g_iconst (hX : g_ok E X M) {n : Int} {v : Int32} (hdg : decode M.cc pc = .ok (.iconst n, 1)) (hv : Int32.ofInt n = v) (pn : Nat) (hpn : pc + 1 = pn)
    (k : g_Go E X P h z cs ss pn L (.int v :: rest)) : g_Go E X P h z cs ss pc L rest := by
  subst hpn
  exact fun H locs ls hV hB hl hL hz => lv_iconst hX.exec hX.code hdg hv (k H locs ls hV hB hl hL hz)
theorem g_bipush (hX : g_ok E X M) {n : Int} {v : Int32} (hdg : decode M.cc pc = .ok (.bipush n, 2)) (hv : (Int8.ofInt n).toInt32 = v) (pn : Nat) (hpn : pc + 2 = pn)
    (k : g_Go E X P h z cs ss pn L (.int v :: rest)) : g_Go E X P h z cs ss pc L rest := by
  subst hpn
  exact fun H locs ls hV hB hl hL hz => lv_bipush hX.exec hX.code hdg hv (k H locs ls hV hB hl hL hz)
theorem g_sipush (hX : g_ok E X M) {n : Int} {v : Int32} (hdg : decode M.cc pc = .ok (.sipush n, 3)) (hv : (Int16.ofInt n).toInt32 = v) (pn : Nat) (hpn : pc + 3 = pn)
    (k : g_Go E X P h z cs ss pn L (.int v :: rest)) : g_Go E X P h z cs ss pc L rest := by
  subst hpn
  exact fun H locs ls hV hB hl hL hz => lv_sipush hX.exec hX.code hdg hv (k H locs ls hV hB hl hL hz)
theorem g_lconst (hX : g_ok E X M) {n : Fin 2} {v : Int64} (hdg : decode M.cc pc = .ok (.lconst n, 1)) (hv : Int64.ofNat (n : Nat) = v) (pn : Nat) (hpn : pc + 1 = pn)
    (k : g_Go E X P h z cs ss pn L (.long v :: rest)) : g_Go E X P h z cs ss pc L rest := by
  subst hpn
  exact fun H locs ls hV hB hl hL hz => lv_lconst hX.exec hX.code hdg hv (k H locs ls hV hB hl hL hz)
theorem g_null (hX : g_ok E X M)  (hdg : decode M.cc pc = .ok (.aconst_null, 1))  (pn : Nat) (hpn : pc + 1 = pn)
    (k : g_Go E X P h z cs ss pn L (.null :: rest)) : g_Go E X P h z cs ss pc L rest := by
  subst hpn
  exact fun H locs ls hV hB hl hL hz => lv_null hX.exec hX.code hdg (k H locs ls hV hB hl hL hz)
theorem g_ldc (hX : g_ok E X M) {index : Nat} {v : Int32} (hdg : decode M.cc pc = .ok (.ldc index, 2)) (hw : Cond.constant M.y.cls index v ∈ g_wl) (pn : Nat) (hpn : pc + 2 = pn)
    (k : g_Go E X P h z cs ss pn L (.int v :: rest)) : g_Go E X P h z cs ss pc L rest := by
  subst hpn
  exact fun H locs ls hV hB hl hL hz => lv_ldc hX.exec hX.code hX.own (hX.w hw) hdg (k H locs ls hV hB hl hL hz)
theorem g_iload_n (hX : g_ok E X M) {k : Fin 4} {i : Nat} {x : Int32} (hdg : decode M.cc pc = .ok (.iload_n k, 1)) (hi : (k : Nat) = i) (hl : L[i]? = some (some (.int x))) (pn : Nat) (hpn : pc + 1 = pn)
    (k : g_Go E X P h z cs ss pn L (.int x :: rest)) : g_Go E X P h z cs ss pc L rest := by
  subst hpn
  exact fun H locs ls hV hB hlo hL hz => lv_iload_n hX.exec hX.code hdg hi (hL.get hl) (k H locs ls hV hB hlo hL hz)
theorem g_iload (hX : g_ok E X M) {i : Nat} {x : Int32} (hdg : decode M.cc pc = .ok (.iload i, 2)) (hl : L[i]? = some (some (.int x))) (pn : Nat) (hpn : pc + 2 = pn)
    (k : g_Go E X P h z cs ss pn L (.int x :: rest)) : g_Go E X P h z cs ss pc L rest := by
  subst hpn
  exact fun H locs ls hV hB hlo hL hz => lv_iload hX.exec hX.code hdg (hL.get hl) (k H locs ls hV hB hlo hL hz)
theorem g_aload_n (hX : g_ok E X M) {k : Fin 4} {i : Nat} {v : Value} (hdg : decode M.cc pc = .ok (.aload_n k, 1)) (hi : (k : Nat) = i) (hl : L[i]? = some (some v)) (hr : v.isRef = true) (pn : Nat) (hpn : pc + 1 = pn)
    (kk : g_Go E X P h z cs ss pn L (v :: rest)) : g_Go E X P h z cs ss pc L rest := by
  subst hpn
  intro H locs ls hV hB hlo hL hz
  cases v with
  | ref a => exact lv_aload_n hX.exec hX.code hdg hi (hL.get hl) (kk H locs ls hV hB hlo hL hz)
  | null => exact lv_aload_nN hX.exec hX.code hdg hi (hL.get hl) (kk H locs ls hV hB hlo hL hz)
  | int _ => cases hr
  | long _ => cases hr
  | float _ => cases hr
  | double _ => cases hr
  | retAddr _ => cases hr
theorem g_aload (hX : g_ok E X M) {i : Nat} {v : Value} (hdg : decode M.cc pc = .ok (.aload i, 2)) (hl : L[i]? = some (some v)) (hr : v.isRef = true) (pn : Nat) (hpn : pc + 2 = pn)
    (kk : g_Go E X P h z cs ss pn L (v :: rest)) : g_Go E X P h z cs ss pc L rest := by
  subst hpn
  intro H locs ls hV hB hlo hL hz
  cases v with
  | ref a => exact lv_aload hX.exec hX.code hdg (hL.get hl) (kk H locs ls hV hB hlo hL hz)
  | null => exact lv_aloadN hX.exec hX.code hdg (hL.get hl) (kk H locs ls hV hB hlo hL hz)
  | int _ => cases hr
  | long _ => cases hr
  | float _ => cases hr
  | double _ => cases hr
  | retAddr _ => cases hr
theorem g_istore_n (hX : g_ok E X M) {k : Fin 4} {i : Nat} {x : Int32} {L' : List (Option Value)} (hdg : decode M.cc pc = .ok (.istore_n k, 1)) (hi : (k : Nat) = i) (hn : i < M.nl) (hs : L.set i (some (.int x)) = L') (pn : Nat) (hpn : pc + 1 = pn)
    (kk : g_Go E X P h z cs ss pn L' rest) : g_Go E X P h z cs ss pc L (.int x :: rest) := by
  subst hpn
  subst hi
  subst hs
  intro H locs ls hV hB hlo hL hz
  have hexec := hX.exec
  have hb := hX.code
  obtain ⟨ls', e', h'⟩ := hL.store (v := .int x) (by rw [hX.nl]; exact hn) rfl
  intro T hT X'
  obtain ⟨t, a, b⟩ := kk H locs ls' hV hB hlo h' hz T hT X'
  refine ⟨t, ?_, b⟩
  jvm_step X'.here [X'.here.top, ↓top_set X'.here.top, hexec, hb, hdg, e']
  exact a
theorem g_istore (hX : g_ok E X M) {i : Nat} {x : Int32} {L' : List (Option Value)} (hdg : decode M.cc pc = .ok (.istore i, 2))  (hn : i < M.nl) (hs : L.set i (some (.int x)) = L') (pn : Nat) (hpn : pc + 2 = pn)
    (kk : g_Go E X P h z cs ss pn L' rest) : g_Go E X P h z cs ss pc L (.int x :: rest) := by
  subst hpn
  subst hs
  intro H locs ls hV hB hlo hL hz
  have hexec := hX.exec
  have hb := hX.code
  obtain ⟨ls', e', h'⟩ := hL.store (v := .int x) (by rw [hX.nl]; exact hn) rfl
  intro T hT X'
  obtain ⟨t, a, b⟩ := kk H locs ls' hV hB hlo h' hz T hT X'
  refine ⟨t, ?_, b⟩
  jvm_step X'.here [X'.here.top, ↓top_set X'.here.top, hexec, hb, hdg, e']
  exact a
theorem g_astore_n (hX : g_ok E X M) {k : Fin 4} {i : Nat} {v : Value} {L' : List (Option Value)} (hdg : decode M.cc pc = .ok (.astore_n k, 1)) (hi : (k : Nat) = i) (hn : i < M.nl) (hr : v.isRef = true) (hs : L.set i (some v) = L') (pn : Nat) (hpn : pc + 1 = pn)
    (kk : g_Go E X P h z cs ss pn L' rest) : g_Go E X P h z cs ss pc L (v :: rest) := by
  subst hpn
  subst hi
  subst hs
  intro H locs ls hV hB hlo hL hz
  have hexec := hX.exec
  have hb := hX.code
  cases v with
  | ref x => 
    obtain ⟨ls', e', h'⟩ := hL.store (v := .ref x) (by rw [hX.nl]; exact hn) rfl
    intro T hT X'
    obtain ⟨t, a, b⟩ := kk H locs ls' hV hB hlo h' hz T hT X'
    refine ⟨t, ?_, b⟩
    jvm_step X'.here [X'.here.top, ↓top_set X'.here.top, hexec, hb, hdg, e', Value.isRef]
    exact a
  | null => 
    obtain ⟨ls', e', h'⟩ := hL.store (v := .null) (by rw [hX.nl]; exact hn) rfl
    intro T hT X'
    obtain ⟨t, a, b⟩ := kk H locs ls' hV hB hlo h' hz T hT X'
    refine ⟨t, ?_, b⟩
    jvm_step X'.here [X'.here.top, ↓top_set X'.here.top, hexec, hb, hdg, e', Value.isRef]
    exact a
  | int _ => cases hr
  | long _ => cases hr
  | float _ => cases hr
  | double _ => cases hr
  | retAddr _ => cases hr
theorem g_astore (hX : g_ok E X M) {i : Nat} {v : Value} {L' : List (Option Value)} (hdg : decode M.cc pc = .ok (.astore i, 2))  (hn : i < M.nl) (hr : v.isRef = true) (hs : L.set i (some v) = L') (pn : Nat) (hpn : pc + 2 = pn)
    (kk : g_Go E X P h z cs ss pn L' rest) : g_Go E X P h z cs ss pc L (v :: rest) := by
  subst hpn
  subst hs
  intro H locs ls hV hB hlo hL hz
  have hexec := hX.exec
  have hb := hX.code
  cases v with
  | ref x => 
    obtain ⟨ls', e', h'⟩ := hL.store (v := .ref x) (by rw [hX.nl]; exact hn) rfl
    intro T hT X'
    obtain ⟨t, a, b⟩ := kk H locs ls' hV hB hlo h' hz T hT X'
    refine ⟨t, ?_, b⟩
    jvm_step X'.here [X'.here.top, ↓top_set X'.here.top, hexec, hb, hdg, e', Value.isRef]
    exact a
  | null => 
    obtain ⟨ls', e', h'⟩ := hL.store (v := .null) (by rw [hX.nl]; exact hn) rfl
    intro T hT X'
    obtain ⟨t, a, b⟩ := kk H locs ls' hV hB hlo h' hz T hT X'
    refine ⟨t, ?_, b⟩
    jvm_step X'.here [X'.here.top, ↓top_set X'.here.top, hexec, hb, hdg, e', Value.isRef]
    exact a
  | int _ => cases hr
  | long _ => cases hr
  | float _ => cases hr
  | double _ => cases hr
  | retAddr _ => cases hr
theorem g_iinc (hX : g_ok E X M) {i : Nat} {n : Int} {x v : Int32} {L' : List (Option Value)} (hdg : decode M.cc pc = .ok (.iinc i n, 3)) (hl : L[i]? = some (some (.int x))) (hv : x + Int32.ofInt n = v) (hs : L.set i (some (.int v)) = L') (pn : Nat) (hpn : pc + 3 = pn)
    (kk : g_Go E X P h z cs ss pn L' rest) : g_Go E X P h z cs ss pc L rest := by
  subst hpn
  subst hs
  intro H locs ls hV hB hlo hL hz
  subst hv
  have hi : i < X.c.maxLocals := hL.lt hl
  have hg := hL.get hl
  have hexec := hX.exec
  have hb := hX.code
  obtain ⟨ls', e', h'⟩ := hL.store (v := .int (x + Int32.ofInt n)) hi rfl
  intro T hT X'
  obtain ⟨t, a, b⟩ := kk H locs ls' hV hB hlo h' hz T hT X'
  refine ⟨t, ?_, b⟩
  jvm_step X'.here [X'.here.top, ↓top_set X'.here.top, hexec, hb, hdg, hg, e']
  exact a
theorem g_iadd (hX : g_ok E X M) {x y : Int32} (hdg : decode M.cc pc = .ok (.iadd, 1))  (pn : Nat) (hpn : pc + 1 = pn)
    (k : g_Go E X P h z cs ss pn L (.int (x + y) :: rest)) : g_Go E X P h z cs ss pc L (.int y :: .int x :: rest) := by
  subst hpn
  exact fun H locs ls hV hB hl hL hz => lv_iadd hX.exec hX.code hdg (k H locs ls hV hB hl hL hz)
theorem g_isub (hX : g_ok E X M) {x y : Int32} (hdg : decode M.cc pc = .ok (.isub, 1))  (pn : Nat) (hpn : pc + 1 = pn)
    (k : g_Go E X P h z cs ss pn L (.int (x - y) :: rest)) : g_Go E X P h z cs ss pc L (.int y :: .int x :: rest) := by
  subst hpn
  exact fun H locs ls hV hB hl hL hz => lv_isub hX.exec hX.code hdg (k H locs ls hV hB hl hL hz)
theorem g_imul (hX : g_ok E X M) {x y : Int32} (hdg : decode M.cc pc = .ok (.imul, 1))  (pn : Nat) (hpn : pc + 1 = pn)
    (k : g_Go E X P h z cs ss pn L (.int (x * y) :: rest)) : g_Go E X P h z cs ss pc L (.int y :: .int x :: rest) := by
  subst hpn
  exact fun H locs ls hV hB hl hL hz => lv_imul hX.exec hX.code hdg (k H locs ls hV hB hl hL hz)
theorem g_iand (hX : g_ok E X M) {x y : Int32} (hdg : decode M.cc pc = .ok (.iand, 1))  (pn : Nat) (hpn : pc + 1 = pn)
    (k : g_Go E X P h z cs ss pn L (.int (x &&& y) :: rest)) : g_Go E X P h z cs ss pc L (.int y :: .int x :: rest) := by
  subst hpn
  exact fun H locs ls hV hB hl hL hz => lv_iand hX.exec hX.code hdg (k H locs ls hV hB hl hL hz)
theorem g_ior (hX : g_ok E X M) {x y : Int32} (hdg : decode M.cc pc = .ok (.ior, 1))  (pn : Nat) (hpn : pc + 1 = pn)
    (k : g_Go E X P h z cs ss pn L (.int (x ||| y) :: rest)) : g_Go E X P h z cs ss pc L (.int y :: .int x :: rest) := by
  subst hpn
  exact fun H locs ls hV hB hl hL hz => lv_ior hX.exec hX.code hdg (k H locs ls hV hB hl hL hz)
theorem g_ishl (hX : g_ok E X M) {x y : Int32} (hdg : decode M.cc pc = .ok (.ishl, 1))  (pn : Nat) (hpn : pc + 1 = pn)
    (k : g_Go E X P h z cs ss pn L (.int (x <<< (y &&& 31)) :: rest)) : g_Go E X P h z cs ss pc L (.int y :: .int x :: rest) := by
  subst hpn
  exact fun H locs ls hV hB hl hL hz => lv_ishl hX.exec hX.code hdg (k H locs ls hV hB hl hL hz)
theorem g_ishr (hX : g_ok E X M) {x y : Int32} (hdg : decode M.cc pc = .ok (.ishr, 1))  (pn : Nat) (hpn : pc + 1 = pn)
    (k : g_Go E X P h z cs ss pn L (.int (x >>> (y &&& 31)) :: rest)) : g_Go E X P h z cs ss pc L (.int y :: .int x :: rest) := by
  subst hpn
  exact fun H locs ls hV hB hl hL hz => lv_ishr hX.exec hX.code hdg (k H locs ls hV hB hl hL hz)
theorem g_iushr (hX : g_ok E X M) {x y v : Int32} (hdg : decode M.cc pc = .ok (.iushr, 1)) (hv : (x.toUInt32 >>> (y.toUInt32 &&& Int32.toUInt32 31)).toInt32 = v) (pn : Nat) (hpn : pc + 1 = pn)
    (k : g_Go E X P h z cs ss pn L (.int v :: rest)) : g_Go E X P h z cs ss pc L (.int y :: .int x :: rest) := by
  subst hpn
  exact fun H locs ls hV hB hl hL hz => lv_iushr hX.exec hX.code hdg hv (k H locs ls hV hB hl hL hz)
theorem g_idiv (hX : g_ok E X M) {x y : Int32} (hdg : decode M.cc pc = .ok (.idiv, 1)) (hne : ¬ y = 0) (pn : Nat) (hpn : pc + 1 = pn)
    (k : g_Go E X P h z cs ss pn L (.int (x / y) :: rest)) : g_Go E X P h z cs ss pc L (.int y :: .int x :: rest) := by
  subst hpn
  exact fun H locs ls hV hB hl hL hz => lv_idiv hX.exec hX.code hdg hne (k H locs ls hV hB hl hL hz)
theorem g_ineg (hX : g_ok E X M) {x : Int32} (hdg : decode M.cc pc = .ok (.ineg, 1))  (pn : Nat) (hpn : pc + 1 = pn)
    (k : g_Go E X P h z cs ss pn L (.int (-x) :: rest)) : g_Go E X P h z cs ss pc L (.int x :: rest) := by
  subst hpn
  exact fun H locs ls hV hB hl hL hz => lv_ineg hX.exec hX.code hdg (k H locs ls hV hB hl hL hz)
theorem g_i2l (hX : g_ok E X M) {x : Int32} {v : Int64} (hdg : decode M.cc pc = .ok (.i2l, 1)) (hv : x.toInt64 = v) (pn : Nat) (hpn : pc + 1 = pn)
    (k : g_Go E X P h z cs ss pn L (.long v :: rest)) : g_Go E X P h z cs ss pc L (.int x :: rest) := by
  subst hpn
  exact fun H locs ls hV hB hl hL hz => lv_i2l hX.exec hX.code hdg hv (k H locs ls hV hB hl hL hz)
theorem g_lcmp (hX : g_ok E X M) {x y : Int64} (hdg : decode M.cc pc = .ok (.lcmp, 1))  (pn : Nat) (hpn : pc + 1 = pn)
    (k : g_Go E X P h z cs ss pn L (.int (lg_cmp x y) :: rest)) : g_Go E X P h z cs ss pc L (.long y :: .long x :: rest) := by
  subst hpn
  exact fun H locs ls hV hB hl hL hz => W.lcmp hX.exec hX.code hdg (k H locs ls hV hB hl hL hz)
theorem g_dup (hX : g_ok E X M) {va : Value} (hdg : decode M.cc pc = .ok (.dup, 1)) (hva : va.category = 1) (pn : Nat) (hpn : pc + 1 = pn)
    (k : g_Go E X P h z cs ss pn L (va :: va :: rest)) : g_Go E X P h z cs ss pc L (va :: rest) := by
  subst hpn
  exact fun H locs ls hV hB hl hL hz => lv_dup hX.exec hX.code hdg hva (k H locs ls hV hB hl hL hz)
theorem g_pop (hX : g_ok E X M) {va : Value} (hdg : decode M.cc pc = .ok (.pop, 1)) (hva : va.category = 1) (pn : Nat) (hpn : pc + 1 = pn)
    (k : g_Go E X P h z cs ss pn L rest) : g_Go E X P h z cs ss pc L (va :: rest) := by
  subst hpn
  exact fun H locs ls hV hB hl hL hz => lv_pop hX.exec hX.code hdg hva (k H locs ls hV hB hl hL hz)
theorem g_dup_x1 (hX : g_ok E X M) {va vb : Value} (hdg : decode M.cc pc = .ok (.dup_x1, 1)) (hva : va.category = 1) (hvb : vb.category = 1) (pn : Nat) (hpn : pc + 1 = pn)
    (k : g_Go E X P h z cs ss pn L (va :: vb :: va :: rest)) : g_Go E X P h z cs ss pc L (va :: vb :: rest) := by
  subst hpn
  exact fun H locs ls hV hB hl hL hz => lv_dup_x1 hX.exec hX.code hdg hva hvb (k H locs ls hV hB hl hL hz)
theorem g_dup2 (hX : g_ok E X M) {va vb : Value} (hdg : decode M.cc pc = .ok (.dup2, 1)) (hva : va.category = 1) (hvb : vb.category = 1) (pn : Nat) (hpn : pc + 1 = pn)
    (k : g_Go E X P h z cs ss pn L (va :: vb :: va :: vb :: rest)) : g_Go E X P h z cs ss pc L (va :: vb :: rest) := by
  subst hpn
  exact fun H locs ls hV hB hl hL hz => lv_dup2_11 hX.exec hX.code hdg hva hvb (k H locs ls hV hB hl hL hz)
theorem g_if_eq (hX : g_ok E X M) {x : Int32} {off : Int} (hdg : decode M.cc pc = .ok (.ifCond .eq off, 3)) (tgt pn : Nat) (ht : (pc : Int) + off = (tgt : Int)) (hpn : pc + 3 = pn)
    (kt : x = 0 → g_Go E X P h z cs ss tgt L rest) (kf : ¬ x = 0 → g_Go E X P h z cs ss pn L rest) : g_Go E X P h z cs ss pc L (.int x :: rest) := by
  subst hpn
  exact fun H locs ls hV hB hl hL hz => lv_if_eq hX.exec hX.code hdg ht (fun q => kt q H locs ls hV hB hl hL hz) (fun q => kf q H locs ls hV hB hl hL hz)
theorem g_icmp_eq (hX : g_ok E X M) {x y : Int32} {off : Int} (hdg : decode M.cc pc = .ok (.if_icmp .eq off, 3)) (tgt pn : Nat) (ht : (pc : Int) + off = (tgt : Int)) (hpn : pc + 3 = pn)
    (kt : x = y → g_Go E X P h z cs ss tgt L rest) (kf : ¬ x = y → g_Go E X P h z cs ss pn L rest) : g_Go E X P h z cs ss pc L (.int y :: .int x :: rest) := by
  subst hpn
  exact fun H locs ls hV hB hl hL hz => lv_icmp_eq hX.exec hX.code hdg ht (fun q => kt q H locs ls hV hB hl hL hz) (fun q => kf q H locs ls hV hB hl hL hz)
theorem g_if_ne (hX : g_ok E X M) {x : Int32} {off : Int} (hdg : decode M.cc pc = .ok (.ifCond .ne off, 3)) (tgt pn : Nat) (ht : (pc : Int) + off = (tgt : Int)) (hpn : pc + 3 = pn)
    (kt : ¬ x = 0 → g_Go E X P h z cs ss tgt L rest) (kf : x = 0 → g_Go E X P h z cs ss pn L rest) : g_Go E X P h z cs ss pc L (.int x :: rest) := by
  subst hpn
  exact fun H locs ls hV hB hl hL hz => lv_if_ne hX.exec hX.code hdg ht (fun q => kt q H locs ls hV hB hl hL hz) (fun q => kf q H locs ls hV hB hl hL hz)
theorem g_icmp_ne (hX : g_ok E X M) {x y : Int32} {off : Int} (hdg : decode M.cc pc = .ok (.if_icmp .ne off, 3)) (tgt pn : Nat) (ht : (pc : Int) + off = (tgt : Int)) (hpn : pc + 3 = pn)
    (kt : ¬ x = y → g_Go E X P h z cs ss tgt L rest) (kf : x = y → g_Go E X P h z cs ss pn L rest) : g_Go E X P h z cs ss pc L (.int y :: .int x :: rest) := by
  subst hpn
  exact fun H locs ls hV hB hl hL hz => lv_icmp_ne hX.exec hX.code hdg ht (fun q => kt q H locs ls hV hB hl hL hz) (fun q => kf q H locs ls hV hB hl hL hz)
theorem g_if_lt (hX : g_ok E X M) {x : Int32} {off : Int} (hdg : decode M.cc pc = .ok (.ifCond .lt off, 3)) (tgt pn : Nat) (ht : (pc : Int) + off = (tgt : Int)) (hpn : pc + 3 = pn)
    (kt : x < 0 → g_Go E X P h z cs ss tgt L rest) (kf : ¬ x < 0 → g_Go E X P h z cs ss pn L rest) : g_Go E X P h z cs ss pc L (.int x :: rest) := by
  subst hpn
  exact fun H locs ls hV hB hl hL hz => lv_if_lt hX.exec hX.code hdg ht (fun q => kt q H locs ls hV hB hl hL hz) (fun q => kf q H locs ls hV hB hl hL hz)
theorem g_icmp_lt (hX : g_ok E X M) {x y : Int32} {off : Int} (hdg : decode M.cc pc = .ok (.if_icmp .lt off, 3)) (tgt pn : Nat) (ht : (pc : Int) + off = (tgt : Int)) (hpn : pc + 3 = pn)
    (kt : x < y → g_Go E X P h z cs ss tgt L rest) (kf : ¬ x < y → g_Go E X P h z cs ss pn L rest) : g_Go E X P h z cs ss pc L (.int y :: .int x :: rest) := by
  subst hpn
  exact fun H locs ls hV hB hl hL hz => lv_icmp_lt hX.exec hX.code hdg ht (fun q => kt q H locs ls hV hB hl hL hz) (fun q => kf q H locs ls hV hB hl hL hz)
theorem g_if_ge (hX : g_ok E X M) {x : Int32} {off : Int} (hdg : decode M.cc pc = .ok (.ifCond .ge off, 3)) (tgt pn : Nat) (ht : (pc : Int) + off = (tgt : Int)) (hpn : pc + 3 = pn)
    (kt : 0 ≤ x → g_Go E X P h z cs ss tgt L rest) (kf : ¬ 0 ≤ x → g_Go E X P h z cs ss pn L rest) : g_Go E X P h z cs ss pc L (.int x :: rest) := by
  subst hpn
  exact fun H locs ls hV hB hl hL hz => lv_if_ge hX.exec hX.code hdg ht (fun q => kt q H locs ls hV hB hl hL hz) (fun q => kf q H locs ls hV hB hl hL hz)
theorem g_icmp_ge (hX : g_ok E X M) {x y : Int32} {off : Int} (hdg : decode M.cc pc = .ok (.if_icmp .ge off, 3)) (tgt pn : Nat) (ht : (pc : Int) + off = (tgt : Int)) (hpn : pc + 3 = pn)
    (kt : y ≤ x → g_Go E X P h z cs ss tgt L rest) (kf : ¬ y ≤ x → g_Go E X P h z cs ss pn L rest) : g_Go E X P h z cs ss pc L (.int y :: .int x :: rest) := by
  subst hpn
  exact fun H locs ls hV hB hl hL hz => lv_icmp_ge hX.exec hX.code hdg ht (fun q => kt q H locs ls hV hB hl hL hz) (fun q => kf q H locs ls hV hB hl hL hz)
theorem g_if_gt (hX : g_ok E X M) {x : Int32} {off : Int} (hdg : decode M.cc pc = .ok (.ifCond .gt off, 3)) (tgt pn : Nat) (ht : (pc : Int) + off = (tgt : Int)) (hpn : pc + 3 = pn)
    (kt : 0 < x → g_Go E X P h z cs ss tgt L rest) (kf : ¬ 0 < x → g_Go E X P h z cs ss pn L rest) : g_Go E X P h z cs ss pc L (.int x :: rest) := by
  subst hpn
  exact fun H locs ls hV hB hl hL hz => lv_if_gt hX.exec hX.code hdg ht (fun q => kt q H locs ls hV hB hl hL hz) (fun q => kf q H locs ls hV hB hl hL hz)
theorem g_icmp_gt (hX : g_ok E X M) {x y : Int32} {off : Int} (hdg : decode M.cc pc = .ok (.if_icmp .gt off, 3)) (tgt pn : Nat) (ht : (pc : Int) + off = (tgt : Int)) (hpn : pc + 3 = pn)
    (kt : y < x → g_Go E X P h z cs ss tgt L rest) (kf : ¬ y < x → g_Go E X P h z cs ss pn L rest) : g_Go E X P h z cs ss pc L (.int y :: .int x :: rest) := by
  subst hpn
  exact fun H locs ls hV hB hl hL hz => lv_icmp_gt hX.exec hX.code hdg ht (fun q => kt q H locs ls hV hB hl hL hz) (fun q => kf q H locs ls hV hB hl hL hz)
theorem g_if_le (hX : g_ok E X M) {x : Int32} {off : Int} (hdg : decode M.cc pc = .ok (.ifCond .le off, 3)) (tgt pn : Nat) (ht : (pc : Int) + off = (tgt : Int)) (hpn : pc + 3 = pn)
    (kt : x ≤ 0 → g_Go E X P h z cs ss tgt L rest) (kf : ¬ x ≤ 0 → g_Go E X P h z cs ss pn L rest) : g_Go E X P h z cs ss pc L (.int x :: rest) := by
  subst hpn
  exact fun H locs ls hV hB hl hL hz => lv_if_le hX.exec hX.code hdg ht (fun q => kt q H locs ls hV hB hl hL hz) (fun q => kf q H locs ls hV hB hl hL hz)
theorem g_icmp_le (hX : g_ok E X M) {x y : Int32} {off : Int} (hdg : decode M.cc pc = .ok (.if_icmp .le off, 3)) (tgt pn : Nat) (ht : (pc : Int) + off = (tgt : Int)) (hpn : pc + 3 = pn)
    (kt : x ≤ y → g_Go E X P h z cs ss tgt L rest) (kf : ¬ x ≤ y → g_Go E X P h z cs ss pn L rest) : g_Go E X P h z cs ss pc L (.int y :: .int x :: rest) := by
  subst hpn
  exact fun H locs ls hV hB hl hL hz => lv_icmp_le hX.exec hX.code hdg ht (fun q => kt q H locs ls hV hB hl hL hz) (fun q => kf q H locs ls hV hB hl hL hz)
theorem g_goto (hX : g_ok E X M) {off : Int} (hdg : decode M.cc pc = .ok (.goto off, 3)) (tgt : Nat) (ht : (pc : Int) + off = (tgt : Int)) (k : g_Go E X P h z cs ss tgt L rest) : g_Go E X P h z cs ss pc L rest :=
  fun H locs ls hV hB hl hL hz => lv_goto hX.exec hX.code hdg ht (k H locs ls hV hB hl hL hz)
theorem g_ifnull (hX : g_ok E X M) {r : Option Nat} {off : Int} (hdg : decode M.cc pc = .ok (.ifnull off, 3)) (tgt pn : Nat) (ht : (pc : Int) + off = (tgt : Int)) (hpn : pc + 3 = pn)
    (kt : r = none → g_Go E X P h z cs ss tgt L rest) (kf : ∀ a, r = some a → g_Go E X P h z cs ss pn L rest) : g_Go E X P h z cs ss pc L (va_rf r :: rest) := by
  subst hpn
  intro H locs ls hV hB hl hL hz
  cases r with
  | none => exact lv_ifnullN hX.exec hX.code hdg ht (kt rfl H locs ls hV hB hl hL hz)
  | some a => exact lv_ifnull hX.exec hX.code hdg (kf a rfl H locs ls hV hB hl hL hz)
theorem g_ifnonnull (hX : g_ok E X M) {r : Option Nat} {off : Int} (hdg : decode M.cc pc = .ok (.ifnonnull off, 3)) (tgt pn : Nat) (ht : (pc : Int) + off = (tgt : Int)) (hpn : pc + 3 = pn)
    (kt : ∀ a, r = some a → g_Go E X P h z cs ss tgt L rest) (kf : r = none → g_Go E X P h z cs ss pn L rest) : g_Go E X P h z cs ss pc L (va_rf r :: rest) := by
  subst hpn
  intro H locs ls hV hB hl hL hz
  cases r with
  | none => exact lv_ifnonnullN hX.exec hX.code hdg (kf rfl H locs ls hV hB hl hL hz)
  | some a => exact lv_ifnonnull hX.exec hX.code hdg ht (kt a rfl H locs ls hV hB hl hL hz)
theorem g_acmp_eq (hX : g_ok E X M) {rx ry : Option Nat} {off : Int} (hdg : decode M.cc pc = .ok (.if_acmp .eq off, 3)) (tgt pn : Nat) (ht : (pc : Int) + off = (tgt : Int)) (hpn : pc + 3 = pn)
    (kt : rx = ry → g_Go E X P h z cs ss tgt L rest) (kf : ¬ rx = ry → g_Go E X P h z cs ss pn L rest) : g_Go E X P h z cs ss pc L (va_rf ry :: va_rf rx :: rest) := by
  subst hpn
  exact fun H locs ls hV hB hl hL hz => lv_acmp_eq hX.exec hX.code hdg ht (fun q => kt q H locs ls hV hB hl hL hz) (fun q => kf q H locs ls hV hB hl hL hz)
theorem g_acmp_ne (hX : g_ok E X M) {rx ry : Option Nat} {off : Int} (hdg : decode M.cc pc = .ok (.if_acmp .ne off, 3)) (tgt pn : Nat) (ht : (pc : Int) + off = (tgt : Int)) (hpn : pc + 3 = pn)
    (kt : ¬ rx = ry → g_Go E X P h z cs ss tgt L rest) (kf : rx = ry → g_Go E X P h z cs ss pn L rest) : g_Go E X P h z cs ss pc L (va_rf ry :: va_rf rx :: rest) := by
  subst hpn
  exact fun H locs ls hV hB hl hL hz => lv_acmp_ne hX.exec hX.code hdg ht (fun q => kt q H locs ls hV hB hl hL hz) (fun q => kf q H locs ls hV hB hl hL hz)
theorem g_tableOut (hX : g_ok E X M) {dflt lo hi : Int} {offs : Array Int} {len : Nat} {x : Int32} (tgt : Nat) (hdg : decode M.cc pc = .ok (.tableswitch dflt lo hi offs, len)) (hx : x.toInt < lo ∨ hi < x.toInt) (ht : (pc : Int) + dflt = (tgt : Int))
    (k : g_Go E X P h z cs ss tgt L rest) : g_Go E X P h z cs ss pc L (.int x :: rest) :=
  fun H locs ls hV hB hl hL hz => lv_tableOut hX.exec hX.code hdg hx ht (k H locs ls hV hB hl hL hz)
theorem g_tableIn (hX : g_ok E X M) {dflt lo hi : Int} {offs : Array Int} {len : Nat} {x : Int32} {off : Int} (tgt : Nat) (hdg : decode M.cc pc = .ok (.tableswitch dflt lo hi offs, len)) (h1 : ¬ x.toInt < lo) (h2 : ¬ hi < x.toInt) (ho : offs[(x.toInt - lo).toNat]? = some off) (ht : (pc : Int) + off = (tgt : Int))
    (k : g_Go E X P h z cs ss tgt L rest) : g_Go E X P h z cs ss pc L (.int x :: rest) :=
  fun H locs ls hV hB hl hL hz => lv_tableIn hX.exec hX.code hdg h1 h2 ho ht (k H locs ls hV hB hl hL hz)
theorem g_lookup (hX : g_ok E X M) {dflt : Int} {ps : Array (Int × Int)} {len : Nat} {x : Int32} {off : Int} (tgt : Nat) (hdg : decode M.cc pc = .ok (.lookupswitch dflt ps, len)) (hp : (ps.toList.zip (ps.toList.drop 1)).all (fun (a, next) => a.1 < next.1) = true) (ho : Op.lookupswitch.offset ps.toList dflt x.toInt = off) (ht : (pc : Int) + off = (tgt : Int))
    (k : g_Go E X P h z cs ss tgt L rest) : g_Go E X P h z cs ss pc L (.int x :: rest) :=
  fun H locs ls hV hB hl hL hz => lv_lookup hX.exec hX.code hdg hp ho ht (k H locs ls hV hB hl hL hz)
theorem g_iret (hX : g_ok E X M) {v : Int32} {ty : FieldType} (hrt : M.ret = some ty) (hn : narrow ty (.int v) = .int v) (hdg : decode M.cc pc = .ok (.ireturn, 1)) (hP : P.2 (.inr (some (.int v))) h) (hpu : (!P.1 || z) = true) (hc : cs ≤ X.R.cells) (hs : ss ≤ X.R.slots) : g_Go E X P h z cs ss pc L [.int v] := by
  intro H locs ls hV hB hlo hL hz
  refine W.widen hc hs ?_
  intro T hT X'
  have hlocks : X.meth.locks = false := hX.locks
  have hexec := hX.exec
  have hb := hX.code
  have hr : X.meth.sig.returnType = some ty := hX.ret.trans hrt
  obtain ⟨fs, hret, hrun, hended, hW, hframe⟩ := X'.leave (v := some (.int v)) (fun q => by rw [hr] at q; cases q)
  have hmeth' : T.vm.method? X.m = some X.meth := X'.method'
  refine ⟨T.setFrames fs, ?_, .returned (some (.int v)), hrun, hended, ⟨⟨.inr (some (.int v)), h, hP, rfl, by rw [← hT] at hV; exact hV, by rw [← hT] at hB; exact hB⟩, hW, locs, hframe, hlo, fun q => g_pu hpu q hz hT⟩⟩
  jvm_step X'.here [X'.here.top, hexec, hb, hdg, hmeth', hr, hn]
  (try refine ⟨rfl, ?_⟩); (try refine ⟨rfl, ?_⟩)
  first | (intro acts; rw [hret _ acts rfl rfl rfl]) | rw [hret _ _ rfl rfl rfl]
  exact Steps.refl _
theorem g_vret (hX : g_ok E X M) (hrt : M.ret = none) (hdg : decode M.cc pc = .ok (.return_, 1)) (hP : P.2 (.inr none) h) (hpu : (!P.1 || z) = true) (hc : cs ≤ X.R.cells) (hs : ss ≤ X.R.slots) : g_Go E X P h z cs ss pc L [] := by
  intro H locs ls hV hB hlo hL hz
  refine W.widen hc hs ?_
  intro T hT X'
  have hlocks : X.meth.locks = false := hX.locks
  have hexec := hX.exec
  have hb := hX.code
  have hr : X.meth.sig.returnType = none := hX.ret.trans hrt
  obtain ⟨fs, hret, hrun, hended, hW, hframe⟩ := X'.leave (v := none) (fun _ => rfl)
  have hmeth' : T.vm.method? X.m = some X.meth := X'.method'
  refine ⟨T.setFrames fs, ?_, .returned none, hrun, hended, ⟨⟨.inr none, h, hP, rfl, by rw [← hT] at hV; exact hV, by rw [← hT] at hB; exact hB⟩, hW, locs, hframe, hlo, fun q => g_pu hpu q hz hT⟩⟩
  jvm_step X'.here [X'.here.top, hexec, hb, hdg, hmeth', hr]
  (try refine ⟨rfl, ?_⟩); (try refine ⟨rfl, ?_⟩)
  first | (intro acts; rw [hret _ acts rfl rfl rfl]) | rw [hret _ _ rfl rfl rfl]
  exact Steps.refl _
theorem g_aret (hX : g_ok E X M) {v : Value} {rt : FieldType} (hrt : M.ret = some rt) (hrr : (∃ n, rt = .object n) ∨ ∃ t, rt = .array t) (hv : v.isRef = true) (hdg : decode M.cc pc = .ok (.areturn, 1)) (hP : P.2 (.inr (some v)) h) (hpu : (!P.1 || z) = true) (hc : cs ≤ X.R.cells) (hs : ss ≤ X.R.slots) : g_Go E X P h z cs ss pc L [v] := by
  intro H locs ls hV hB hlo hL hz
  refine W.widen hc hs ?_
  intro T hT X'
  have hlocks : X.meth.locks = false := hX.locks
  have hexec := hX.exec
  have hb := hX.code
  have hr : X.meth.sig.returnType = some rt := hX.ret.trans hrt
  obtain ⟨fs, hret, hrun, hended, hW, hframe⟩ := X'.leave (v := some v) (fun q => by rw [hr] at q; cases q)
  have hmeth' : T.vm.method? X.m = some X.meth := X'.method'
  refine ⟨T.setFrames fs, ?_, .returned (some v), hrun, hended, ⟨⟨.inr (some v), h, hP, rfl, by rw [← hT] at hV; exact hV, by rw [← hT] at hB; exact hB⟩, hW, locs, hframe, hlo, fun q => g_pu hpu q hz hT⟩⟩
  have hv2 : v = .null ∨ ∃ a, v = .ref a := by
    cases v with
    | ref a => exact Or.inr ⟨a, rfl⟩
    | null => exact Or.inl rfl
    | int _ => cases hv
    | long _ => cases hv
    | float _ => cases hv
    | double _ => cases hv
    | retAddr _ => cases hv
  rcases hrr with ⟨n, rfl⟩ | ⟨t, rfl⟩ <;> rcases hv2 with rfl | ⟨a, rfl⟩ <;>
    (jvm_step X'.here [X'.here.top, hexec, hb, hdg, hmeth', hr]
     (try refine ⟨rfl, ?_⟩); (try refine ⟨rfl, ?_⟩)
     first | (intro acts; rw [hret _ acts rfl rfl rfl]) | rw [hret _ _ rfl rfl rfl]
     exact Steps.refl _)
end GROWS
end
section
/-- a table's row: the fields of the view's kind ci -/
def g_cf (ci : Nat) (C : String) (T : u_T) (N : Nat) (ty : Nat → FieldType) : Prop :=
  g_cl[ci]? = some (C, T, N) ∧ (∀ w ∈ u_ws C T N, w ∈ g_wl) ∧ (∀ k, k < N → parseFieldDescriptor (T k).2.2.1 = some (ty k)) ∧ ∀ a, a < N → ∀ b, b < N → a ≠ b → (T a).2.1 ≠ (T b).2.1
/-- the pool's entry 'index' of 'own' is field k of kind ci, of this type, final or not, declared by dc -/
def g_fd (own : String) (index ci k : Nat) (ty : FieldType) (fin : Bool) (dc : String) : Prop :=
  ∃ (C : String) (T : u_T) (N : Nat) (ty0 : Nat → FieldType) (ref : String), g_cf ci C T N ty0 ∧ k < N ∧ Cond.fieldLink own index ref (T k).2.1 (T k).2.2.1 ∈ g_wl ∧
    (ref = (T k).1 ∨ Cond.sameField ref (T k).1 (T k).2.1 (T k).2.2.1 ∈ g_wl) ∧ ty0 k = ty ∧ (T k).2.2.2 = fin ∧ (T k).1 = dc
def g_nw (own : String) (index ci N : Nat) (fs : List Value) : Prop :=
  ∃ (C : String) (T : u_T) (ty : Nat → FieldType), g_cf ci C T N ty ∧ Cond.classLink own index C ∈ g_wl ∧ Cond.instantiable C N ∈ g_wl ∧ Cond.initialized C ∈ g_wl ∧ ∀ j, j < N → defaultValue (ty j) = vp_V fs j
/-- an int that is the index k of an array of n -/
def g_ix (i : Int32) (k n : Nat) : Prop := vp_in i n ∧ i.toNatClampNeg = k
theorem g_ix.nat {k n : Nat} (h : k < n) (hn : n < 2 ^ 31) : g_ix (nI k) k n := ⟨nI_in h hn, nI_clamp (by omega)⟩
theorem g_ix.lt {i : Int32} {k n : Nat} (h : g_ix i k n) : k < n := by
  obtain ⟨h1, h2⟩ := h
  subst h2
  exact Nat.not_le.mp fun q => h1 (Or.inr q)
section GHEAP
variable {E : g_E} {X : g_X} {M : g_M} {P : g_P} {h : g_H} {z : Bool} {cs ss pc : Nat} {L : List (Option Value)} {rest : List Value}
theorem g_same {own ref dc n d : String} {s : State} (hw : ∀ w ∈ g_wl, ∀ A : Array Value, w.before A s = true) (hs : ref = dc ∨ Cond.sameField ref dc n d ∈ g_wl) : ∀ x, s.fieldFound? dc n d = some x → s.fieldFound? ref n d = some x := by
  intro x hx
  rcases hs with rfl | hs
  · exact hx
  · exact u_same (hw _ hs #[]) x hx
theorem g_get (hX : g_ok E X M) {index ci k : Nat} {ty : FieldType} {fin : Bool} {dc : String} {a : Nat} {fs : List Value} {v : Value} (hdg : decode M.cc pc = .ok (.getfield index, 3)) (hf : g_fd M.y.cls index ci k ty fin dc) (ha : h a = some (.inr (ci, fs))) (hv : fs[k]? = some v) (pn : Nat) (hpn : pc + 3 = pn)
    (kk : g_Go E X P h z cs ss pn L (v :: rest)) : g_Go E X P h z cs ss pc L (.ref a :: rest) := by
  subst hpn
  intro H locs ls hV hB hlo hL hz
  obtain ⟨C, T, N, ty0, ref, ⟨hc, hin, -, -⟩, hk, hlink, hsame, -, -, -⟩ := hf
  exact va_get (C := C) (T := T) (N := N) (ref := ref) (index := index) (ws := [(a, .inr (ci, fs))]) (Ts := u_ws C T N) hX.exec hX.code (fun w hw => hX.w (hin w hw)) (fun w hw => hw) hX.own hX.K.1
    (fun q e hq => by
      cases q with
      | zero => cases hq; exact hV a _ ha
      | succ q => cases hq) 0 rfl hc k hk (hX.w hlink) (g_same (own := M.y.cls) hX.K.2.1 hsame) hv hdg (kk H locs ls hV hB hlo hL hz)
theorem g_put0 (hX : g_ok E X M) {index ci k : Nat} {ty : FieldType} {dc : String} {a : Nat} {fs : List Value} {v : Value} (hdg : decode M.cc pc = .ok (.putfield index, 3)) (hf : g_fd M.y.cls index ci k ty false dc) (ha : h a = some (.inr (ci, fs))) (hb0 : E.H0.size ≤ a) (hn : narrow ty v = v) (hfit : fits ty v = true) (hl : k < fs.length) (pn : Nat) (hpn : pc + 3 = pn)
    (kk : g_Go E X P (g_set h a (.inr (ci, fs.set k v))) false cs ss pn L rest) : g_Go E X P h z cs ss pc L (v :: .ref a :: rest) := by
  subst hpn
  intro H locs ls hV hB hlo hL hz
  obtain ⟨C, T, N, ty0, ref, ⟨hc, hin, hty, hnm⟩, hk, hlink, hsame, rfl, hfin, -⟩ := hf
  have hts : ∀ w ∈ u_ws C T N, w.before X.args X.s = true := fun w hw => hX.w (hin w hw)
  have hap := va_apart (own := M.y.cls) hts (fun w hw => hw) ty0 hty hnm hX.K.1 hc
  obtain ⟨r, h1, cell, q1, q2, q3, q4⟩ := hV a _ ha
  have hr : r = (C, T, N) := Option.some.inj (h1.symm.trans hc)
  subst hr
  obtain ⟨hS, hfc, kC, hkC, hkind⟩ := hX.K.1.1 ci _ hc
  obtain ⟨cf, kf, fi, f, hi, hsl⟩ := hS k hk
  have hlay := hts _ (u_in_lay hk)
  unfold u_lay at hlay
  rw [if_neg (by rw [hfin]; decide)] at hlay
  have hst := (u_facts hfc hkC (u_lays hts (fun w hw => hw) hk) hi).1
  have h6 := u_store hfc hkC hkind hlay hi (hty k hk) hn hfit
  refine W.putK hX.exec hX.code (f := f) ⟨hX.own, hX.w hlink, ⟨_, _, _, g_same (own := M.y.cls) hX.K.2.1 hsame _ hi⟩, hst⟩ (by rw [q2]; exact h6) q1 q3 (by rw [hsl]; exact k2_hasslot (q4 k hk)) rfl rfl hdg fun H' e1 e2 e3 => ?_
  rw [hsl] at e1 ⊢
  refine kk H' _ ls (hV.put ⟨_, hc, t_OB.to (V := updV (vp_V fs) k v) ⟨_, e1, q2, q3, t_set q4 hap hk v⟩ (fun j _ => vp_updV_set hl v j)⟩ e3) (hB.put e2 e3 hb0) (t_lc (free := fun q => E.H0.size ≤ q) hlo hb0) hL (fun q => by cases q)
theorem g_putF0 (hX : g_ok E X M) {index ci k : Nat} {ty : FieldType} {a : Nat} {fs : List Value} {v : Value} (hdg : decode M.cc pc = .ok (.putfield index, 3)) (hf : g_fd M.y.cls index ci k ty true M.y.cls) (hin2 : M.y.name = "<init>") (ha : h a = some (.inr (ci, fs))) (hb0 : E.H0.size ≤ a) (hn : narrow ty v = v) (hfit : fits ty v = true) (hl : k < fs.length) (pn : Nat) (hpn : pc + 3 = pn)
    (kk : g_Go E X P (g_set h a (.inr (ci, fs.set k v))) false cs ss pn L rest) : g_Go E X P h z cs ss pc L (v :: .ref a :: rest) := by
  subst hpn
  intro H locs ls hV hB hlo hL hz
  obtain ⟨C, T, N, ty0, ref, ⟨hc, hin, hty, hnm⟩, hk, hlink, hsame, rfl, hfin, hdecl⟩ := hf
  have hts : ∀ w ∈ u_ws C T N, w.before X.args X.s = true := fun w hw => hX.w (hin w hw)
  have hap := va_apart (own := M.y.cls) hts (fun w hw => hw) ty0 hty hnm hX.K.1 hc
  obtain ⟨r, h1, cell, q1, q2, q3, q4⟩ := hV a _ ha
  have hr : r = (C, T, N) := Option.some.inj (h1.symm.trans hc)
  subst hr
  obtain ⟨hS, hfc, kC, hkC, hkind⟩ := hX.K.1.1 ci _ hc
  obtain ⟨cf, kf, fi, f, hi, hsl⟩ := hS k hk
  have hlay := hts _ (u_in_lay hk)
  unfold u_lay at hlay
  rw [if_pos hfin] at hlay
  have hst := (u_facts hfc hkC (u_lays hts (fun w hw => hw) hk) hi).1
  have hcf : X.m.cls = cf := by
    obtain ⟨_, _, c', _, _, _, -, -, hf', -, -, -, hown2, -⟩ := Cond.laysFinal_spec hlay
    have e1 : c' = cf := by have := hi.symm.trans hf'; simp at this; exact this.1.symm
    rw [hdecl] at hown2
    rw [← e1]; exact Option.some.inj (hX.own.symm.trans hown2)
  have h6 := u_fits hfc hkC hkind (Or.inr hlay) hi (hty k hk) hn hfit
  refine W.putFinK hX.exec hX.code hX.own (hX.w hlink) (g_same (own := M.y.cls) hX.K.2.1 hsame _ hi) hst hcf (hX.name.trans hin2) (by rw [q2]; exact h6) q1 q3 (by rw [hsl]; exact k2_hasslot (q4 k hk)) rfl rfl hdg fun H' e1 e2 e3 => ?_
  rw [hsl] at e1 ⊢
  refine kk H' _ ls (hV.put ⟨_, hc, t_OB.to (V := updV (vp_V fs) k v) ⟨_, e1, q2, q3, t_set q4 hap hk v⟩ (fun j _ => vp_updV_set hl v j)⟩ e3) (hB.put e2 e3 hb0) (t_lc (free := fun q => E.H0.size ≤ q) hlo hb0) hL (fun q => by cases q)
theorem g_iald (hX : g_ok E X M) {a k n : Nat} {f : Nat → Int32} {i : Int32} (hdg : decode M.cc pc = .ok (.iaload, 1)) (ha : h a = some (.inl (E.D.1 100, n, .inl f))) (hi : g_ix i k n) (pn : Nat) (hpn : pc + 1 = pn)
    (kk : g_Go E X P h z cs ss pn L (.int (f k) :: rest)) : g_Go E X P h z cs ss pc L (.int i :: .ref a :: rest) := by
  subst hpn
  intro H locs ls hV hB hlo hL hz
  obtain ⟨h1, rfl⟩ := hi
  exact va_iald (ws := [(a, .inl (E.D.1 100, n, .inl f))]) hX.exec hX.code hX.K.1 (fun q e hq => by
      cases q with
      | zero => cases hq; exact hV a _ ha
      | succ q => cases hq) 0 0 rfl rfl h1 hdg (kk H locs ls hV hB hlo hL hz)
theorem g_zald (hX : g_ok E X M) {a k n : Nat} {f : Nat → Int32} {i : Int32} (hdg : decode M.cc pc = .ok (.baload, 1)) (ha : h a = some (.inl (E.D.1 101, n, .inl f))) (hi : g_ix i k n) (pn : Nat) (hpn : pc + 1 = pn)
    (kk : g_Go E X P h z cs ss pn L (.int (f k) :: rest)) : g_Go E X P h z cs ss pc L (.int i :: .ref a :: rest) := by
  subst hpn
  intro H locs ls hV hB hlo hL hz
  obtain ⟨h1, rfl⟩ := hi
  exact va_zald (ws := [(a, .inl (E.D.1 101, n, .inl f))]) hX.exec hX.code hX.K.1 (fun q e hq => by
      cases q with
      | zero => cases hq; exact hV a _ ha
      | succ q => cases hq) 0 1 rfl rfl h1 hdg (kk H locs ls hV hB hlo hL hz)
theorem g_lald (hX : g_ok E X M) {a k n : Nat} {f : Nat → Int64} {i : Int32} (hdg : decode M.cc pc = .ok (.laload, 1)) (ha : h a = some (.inl (E.D.1 102, n, .inr (.inl f)))) (hi : g_ix i k n) (pn : Nat) (hpn : pc + 1 = pn)
    (kk : g_Go E X P h z cs ss pn L (.long (f k) :: rest)) : g_Go E X P h z cs ss pc L (.int i :: .ref a :: rest) := by
  subst hpn
  intro H locs ls hV hB hlo hL hz
  obtain ⟨h1, rfl⟩ := hi
  exact va_lald (ws := [(a, .inl (E.D.1 102, n, .inr (.inl f)))]) hX.exec hX.code hX.K.1 (fun q e hq => by
      cases q with
      | zero => cases hq; exact hV a _ ha
      | succ q => cases hq) 0 2 rfl rfl h1 hdg (kk H locs ls hV hB hlo hL hz)
theorem g_iast (hX : g_ok E X M) {a k n : Nat} {f : Nat → Int32} {i x : Int32} (hdg : decode M.cc pc = .ok (.iastore, 1)) (ha : h a = some (.inl (E.D.1 100, n, .inl f))) (hb0 : E.H0.size ≤ a) (hi : g_ix i k n) (pn : Nat) (hpn : pc + 1 = pn)
    (kk : g_Go E X P (g_set h a (.inl (E.D.1 100, n, .inl (upd f k x)))) false cs ss pn L rest) : g_Go E X P h z cs ss pc L (.int x :: .int i :: .ref a :: rest) := by
  subst hpn
  intro H locs ls hV hB hlo hL hz
  obtain ⟨h1, rfl⟩ := hi
  refine W.iast hX.exec hX.code (hV a _ ha) ((hX.K.1.2 0 _ rfl).1 n (fun j => .int (f j))) (fun q => by cases q) (by show ¬ (i < 0 ∨ (arrV _ _ _).slots.size ≤ _); rw [arrV_size]; exact h1) rfl rfl hdg fun H1 e z oq => ?_
  refine kk H1 _ ls (hV.put ?_ oq) (hB.put z oq hb0) (t_lc (free := fun q => E.H0.size ≤ q) hlo hb0) hL (fun q => by cases q)
  show H1[a]? = some (vp_cell _ _)
  rw [e]
  rw [vp_cell_i, vp_cell_i, arrV_store]
  congr 2
  funext q
  by_cases hq : q = i.toNatClampNeg
  · subst hq
    simp [updV, upd]
  · simp [updV, upd, hq]
theorem g_zast (hX : g_ok E X M) {a k n : Nat} {f : Nat → Int32} {i x : Int32} (hdg : decode M.cc pc = .ok (.bastore, 1)) (ha : h a = some (.inl (E.D.1 101, n, .inl f))) (hb0 : E.H0.size ≤ a) (hi : g_ix i k n) (hx : narrow .boolean (.int x) = .int x) (pn : Nat) (hpn : pc + 1 = pn)
    (kk : g_Go E X P (g_set h a (.inl (E.D.1 101, n, .inl (upd f k x)))) false cs ss pn L rest) : g_Go E X P h z cs ss pc L (.int x :: .int i :: .ref a :: rest) := by
  subst hpn
  intro H locs ls hV hB hlo hL hz
  obtain ⟨h1, rfl⟩ := hi
  refine W.zast hX.exec hX.code (hV a _ ha) ((hX.K.1.2 1 _ rfl).1 n (fun j => .int (f j))) (fun q => by cases q) (by show ¬ (i < 0 ∨ (arrV _ _ _).slots.size ≤ _); rw [arrV_size]; exact h1) rfl rfl hdg fun H1 e z oq => ?_
  refine kk H1 _ ls (hV.put ?_ oq) (hB.put z oq hb0) (t_lc (free := fun q => E.H0.size ≤ q) hlo hb0) hL (fun q => by cases q)
  show H1[a]? = some (vp_cell _ _)
  rw [e, hx]
  rw [vp_cell_i, vp_cell_i, arrV_store]
  congr 2
  funext q
  by_cases hq : q = i.toNatClampNeg
  · subst hq
    simp [updV, upd]
  · simp [updV, upd, hq]
theorem g_last (hX : g_ok E X M) {a k n : Nat} {f : Nat → Int64} {i : Int32} {x : Int64} (hdg : decode M.cc pc = .ok (.lastore, 1)) (ha : h a = some (.inl (E.D.1 102, n, .inr (.inl f)))) (hb0 : E.H0.size ≤ a) (hi : g_ix i k n) (pn : Nat) (hpn : pc + 1 = pn)
    (kk : g_Go E X P (g_set h a (.inl (E.D.1 102, n, .inr (.inl (fun j => if j = k then x else f j))))) false cs ss pn L rest) : g_Go E X P h z cs ss pc L (.long x :: .int i :: .ref a :: rest) := by
  subst hpn
  intro H locs ls hV hB hlo hL hz
  obtain ⟨h1, rfl⟩ := hi
  refine W.last hX.exec hX.code (hV a _ ha) ((hX.K.1.2 2 _ rfl).1 n (fun j => .long (f j))) (fun q => by cases q) (by show ¬ (i < 0 ∨ (arrV _ _ _).slots.size ≤ _); rw [arrV_size]; exact h1) rfl rfl hdg fun H1 e z oq => ?_
  refine kk H1 _ ls (hV.put ?_ oq) (hB.put z oq hb0) (t_lc (free := fun q => E.H0.size ≤ q) hlo hb0) hL (fun q => by cases q)
  show H1[a]? = some (vp_cell _ _)
  rw [e]
  show some ((arrV (E.D.1 102) n (fun j => .long (f j))).setSlot i.toNatClampNeg (.long x)) = some (arrV (E.D.1 102) n (fun j => .long (if j = i.toNatClampNeg then x else f j)))
  rw [arrV_store]
  congr 2
  funext q
  by_cases hq : q = i.toNatClampNeg
  · subst hq
    simp [updV]
  · simp [updV, hq]
theorem g_alen (hX : g_ok E X M) {a t n : Nat} {ty : FieldType} {x : vp_A} {cA : ClassId} (hdg : decode M.cc pc = .ok (.arraylength, 1)) (ha : h a = some (.inl (cA, x))) (ht : (g_tys E.D)[t]? = some (cA, ty)) (hn : x.1 = n) (pn : Nat) (hpn : pc + 1 = pn)
    (kk : g_Go E X P h z cs ss pn L (.int (nI n) :: rest)) : g_Go E X P h z cs ss pc L (.ref a :: rest) := by
  subst hpn
  intro H locs ls hV hB hlo hL hz
  subst hn
  exact va_alen (ws := [(a, .inl (cA, x))]) hX.exec hX.code hX.K.1 (fun q e hq => by
      cases q with
      | zero => cases hq; exact hV a _ ha
      | succ q => cases hq) 0 t rfl ht rfl hdg (kk H locs ls hV hB hlo hL hz)
theorem g_new (hX : g_ok E X M) {index ci N : Nat} {fs : List Value} (hdg : decode M.cc pc = .ok (.new index, 3)) (hn : g_nw M.y.cls index ci N fs) (hc1 : cs + 1 ≤ X.R.cells) (hs1 : ss + N ≤ X.R.slots) (pn : Nat) (hpn : pc + 3 = pn)
    (kk : ∀ q : Nat, h q = none → E.H0.size ≤ q → g_Go E X P (g_set h q (.inr (ci, fs))) false (cs + 1) (ss + N) pn L (.ref q :: rest)) : g_Go E X P h z cs ss pc L rest := by
  subst hpn
  intro H locs ls hV hB hlo hL hz
  obtain ⟨C, T, ty, ⟨hc, hin, hty, -⟩, hlink, hins, hini, hfs⟩ := hn
  have hts : ∀ w ∈ u_ws C T N, w.before X.args X.s = true := fun w hw => hX.w (hin w hw)
  have hKn := hX.K.1.1 ci _ hc
  refine W.newcK hX.exec hX.code hX.own (hX.w hlink) (hX.w hins) (hX.w hini) rfl hdg hc1 hs1 hKn.2.1 rfl fun H1 kC hkC e1 z1 o1 => ?_
  exact kk H.size hV.fresh hB.1 H1 locs ls (hV.new ⟨_, hc, (u_born ty hts (fun w hw => hw) hKn hkC e1 hty).to hfs⟩ o1) (hB.grow (by omega) o1) hlo hL (fun q => by cases q)
theorem g_newa (hX : g_ok E X M) {atype : ArrayType} {t : Nat} {ty : FieldType} {n : Int32} {N : Nat} {a0 : vp_A} (hdg : decode M.cc pc = .ok (.newarray atype, 2)) (hw : Cond.arrayClass (newarray.typeOf atype) ∈ g_wl) (hty : newarray.typeOf atype = ty) (ht : (g_tys E.D)[t]? = some (E.D.1 (100 + t), ty)) (hobj : ∀ C, ty ≠ .object C)
    (hcell : ∀ cA : ClassId, vp_cell cA a0 = arrV cA N (fun _ => defaultValue ty)) (hn : ¬ n < 0) (hN : n.toNatClampNeg = N) (hbytes : N * componentBytes ty ≤ 536870912) (hc1 : cs + 1 ≤ X.R.cells) (hs1 : ss + N ≤ X.R.slots) (pn : Nat) (hpn : pc + 2 = pn)
    (kk : ∀ q : Nat, h q = none → E.H0.size ≤ q → g_Go E X P (g_set h q (.inl (E.D.1 (100 + t), a0))) false (cs + 1) (ss + N) pn L (.ref q :: rest)) : g_Go E X P h z cs ss pc L (.int n :: rest) := by
  subst hpn
  intro H locs ls hV hB hlo hL hz
  subst hty
  refine va_newaK hX.exec hX.code (hX.w hw) rfl hdg rfl hn hN hbytes hc1 hs1 rfl fun H1 cA e1 z1 o1 hAr hNm => ?_
  have hRA := (hX.K.1.2 t _ ht).2
  have hcA : cA = E.D.1 (100 + t) := by
    have h2 : X.s.vm.findClass ("[" ++ (newarray.typeOf atype).toString) = some (E.D.1 (100 + t)) := by
      generalize newarray.typeOf atype = ty at hRA hobj
      cases ty with
      | object C => exact absurd rfl (hobj C)
      | _ => exact hRA
    exact Option.some.inj (hNm.symm.trans h2)
  subst hcA
  refine kk H.size hV.fresh hB.1 H1 locs ls (hV.new ?_ o1) (hB.grow (by omega) o1) hlo hL (fun q => by cases q)
  show H1[H.size]? = some (vp_cell _ _)
  rw [hcell]
  exact e1
theorem g_castN (hX : g_ok E X M) {index : Nat} (hdg : decode M.cc pc = .ok (.checkcast index, 3)) (pn : Nat) (hpn : pc + 3 = pn) (kk : g_Go E X P h z cs ss pn L (.null :: rest)) : g_Go E X P h z cs ss pc L (.null :: rest) := by
  subst hpn
  exact fun H locs ls hV hB hlo hL hz => lv_castN hX.exec hX.code hdg (kk H locs ls hV hB hlo hL hz)
theorem g_recv {D : va_G} {s : State} {H : Heap} {ci a : Nat} {C : String} {T : u_T} {N : Nat} {fs : List Value} (hK : va_K D g_cl (g_tys D) s) (hV : g_V D h H) (hc : g_cl[ci]? = some (C, T, N)) (ha : h a = some (.inr (ci, fs))) : ∃ cell : Cell, H[a]? = some cell ∧ cell.vm.isStatics = false ∧ s.vm.findClass C = some cell.cls := by
  obtain ⟨r, h1, cell, q1, q2, q3, q4⟩ := hV a _ ha
  obtain ⟨-, hfc, -⟩ := hK.1 ci _ hc
  exact ⟨cell, q1, by rw [q3]; rfl, by rw [q2]; exact hfc⟩
theorem g_cast (hX : g_ok E X M) {index ci a N : Nat} {C : String} {T : u_T} {fs : List Value} (hdg : decode M.cc pc = .ok (.checkcast index, 3)) (hc : g_cl[ci]? = some (C, T, N)) (hlink : Cond.classLink M.y.cls index C ∈ g_wl) (ha : h a = some (.inr (ci, fs))) (pn : Nat) (hpn : pc + 3 = pn)
    (kk : g_Go E X P h z cs ss pn L (.ref a :: rest)) : g_Go E X P h z cs ss pc L (.ref a :: rest) := by
  subst hpn
  intro H locs ls hV hB hlo hL hz
  exact va_castS hX.exec hX.code hX.own (hX.w hlink) (hX.K.1.1 ci _ hc).2 (g_recv hX.K.1 hV hc ha) hdg (kk H locs ls hV hB hlo hL hz)
end GHEAP
end
section
/-! calls: the callee's contract, both ends -/
set_option maxHeartbeats 4000000 in
theorem g_enter {E : g_E} {l : Launch} {M' : g_M} {fr lo mc ms : Nat} {as : List Value} {h : g_H} {P' : g_P} (hct : g_Ct l M' fr lo mc ms as E h P')
    {p : Program} {e : Env} {R : Room} {s : State} {m : MethodId} {args : Array Value} {below : List Frame} {meth : Method} {c : Code} {U : State} {locs : List Loc} {cs ss : Nat} (X : Stand p l e R s m args below meth c U locs cs ss)
    (hfr : fr + 1 ≤ R.frames) {wt : Nat} (hlo : wt + (M'.nl + 11) + lo ≤ R.locals) (hc : cs + mc ≤ R.cells) (hs : ss + ms ≤ R.slots)
    (hK : g_K E U) (hcw : g_cw M' ∈ g_wl) (hini : Cond.initialized M'.y.cls ∈ g_wl) (hV : g_V E.D h U.heap) (hB : g_B E.H0 U.heap)
    {g : JFrame} (hg : g.method = m) (hsize : g.locals.size = c.maxLocals) {ig : Instr} {len : Nat} (hdg : decode c.code g.pc = .ok (ig, len)) (hW : 2 * g.monitorRoom + (g.stack.map fun v => v.category).sum ≤ wt) {mk : MethodId} (hn : U.methodNamed? M'.y = some mk) :
    ∃ (r : g_R) (h' : g_H) (T' : State) (L : List Loc), P'.2 r h' ∧ Stand p l e R s m args below meth c T' (locs ++ L) (cs + mc) (ss + ms) ∧ (∀ q ∈ L, E.H0.size ≤ q.base) ∧ (P'.1 = true → L = [] ∧ T'.heap = U.heap) ∧ g_V E.D h' T'.heap ∧ g_B E.H0 T'.heap ∧
      ((∃ v : Option Value, r = .inr v ∧ Steps p.tables e below (doInvoke e (U.setTop g) [] mk as.toArray).1 (T'.setTop { g with pc := g.pc + len, stack := v.toList ++ g.stack })) ∨
       (∃ (k : Nat) (a : Addr) (cell : Cell), r = .inl k ∧ T'.heap[a]? = some cell ∧ cell.vm = .none ∧ T'.vm.findClass (g_xn k) = some cell.cls ∧ Steps p.tables e below (doInvoke e (U.setTop g) [] mk as.toArray).1 ((T'.setTop g).pushFrame (.throwing a)))) := by
  have h2 : (g_cw M').before as.toArray U = true := hK.w hcw
  have h3 : (Cond.initialized M'.y.cls).before as.toArray U = true := hK.w hini
  obtain ⟨methY, cY, hmY, hcY, -, hlY, -, -, -, -⟩ := g_cw_spec hn h2
  obtain ⟨kY, hkY, -⟩ := className_of_methodNamed hn
  have hinitY : kY.init = .initialized := Cond.initialized_spec (findClass_of_methodNamed hn) hkY h3
  have hA : At U g.method c below := by rw [hg]; exact X.here
  have hpre : (headSpec [g_cw M'] { frames := fr, cells := mc, slots := ms, locals := lo }).pre.before as.toArray U = true := atoms_intro fun w hw => by
    rw [List.mem_singleton] at hw
    subst hw
    exact h2
  have happ : (headSpec [g_cw M'] { frames := fr, cells := mc, slots := ms, locals := lo }).appliesLoose M'.y e.platform (U.calling g mk as.toArray) = true :=
    Spec.appliesLoose_calling (g := g) hA hdg hn hkY hinitY
      (X.room_calling (g := g) (R' := { frames := fr, cells := mc, slots := ms, locals := lo }) hsize hmY hcY hfr (by rw [hlY]; show _ + _ + lo ≤ _; omega) hc hs) hpre
  obtain ⟨mid, hmid⟩ := hA.above
  have hfr2 : (U.setTop g).frames = (.java g :: mid) ++ below := by rw [State.frames_setTop' g hA.top, hmid]; rfl
  have hP : as.toArray = as.toArray ∧ g_K E (U.calling g mk as.toArray) ∧ g_V E.D h (U.calling g mk as.toArray).heap ∧ g_B E.H0 (U.calling g mk as.toArray).heap :=
    ⟨rfl, hK.warm (State.WarmedH.refl U), hV, hB⟩
  obtain ⟨o, s₂, hsteps, -, hend, hq⟩ := Steps.callFree hct p X.admits X.cas X.clock (acts := []) hfr2 happ hP trivial
  have hq' : g_Z E mc ms P' (U.calling g mk as.toArray) o s₂ := hq
  rw [State.frames_setTop' g hA.top] at hend
  obtain ⟨⟨r, h', hPr, ho, hV', hB'⟩, hW₂, L, ⟨e2, q2, q3, q4, q5, q6⟩, hL, hpu⟩ := hq'
  have e3 : s₂ = ({ (U.calling g mk as.toArray).setFrames s₂.frames with heap := s₂.heap, slotsUsed := s₂.slotsUsed } : State).setVm s₂.vm := by
    have : s₂ = ({ s₂ with vm := (U.calling g mk as.toArray).vm } : State).setVm s₂.vm := rfl
    rw [e2] at this
    exact this
  have hW' : U.WarmedH s₂.vm := hW₂
  obtain ⟨g₀, hg0⟩ := Option.isSome_iff_exists.mp hA.top
  obtain ⟨rr, hr⟩ := State.topJava?_eq_some.mp hg0
  have hsame : U.sameButNew ({ U with heap := s₂.heap, slotsUsed := s₂.slotsUsed } : State) L mc ms := by
    refine ⟨?_, q2, q3, q4, q5, q6⟩
    obtain ⟨t, ht, -⟩ := State.frames_cons hr
    show ({ U with heap := s₂.heap, slotsUsed := s₂.slotsUsed } : State) = { U.setFrames U.frames with heap := s₂.heap, slotsUsed := s₂.slotsUsed }
    rw [State.setFrames_self ht]
  have hst : Stand p l e R s m args below meth c (({ U with heap := s₂.heap, slotsUsed := s₂.slotsUsed } : State).setVm s₂.vm) (locs ++ L) (cs + mc) (ss + ms) :=
    ⟨X.admits, X.cas, X.clock, X.frames, X.room, X.hears, X.method, X.code, (X.here.setHeapUsed s₂.heap s₂.slotsUsed).setVm hW'.alike, X.tail, State.WarmedH.trans X.warmed hW', X.limits, X.bytes, X.same.trans (hsame.setVm s.vm)⟩
  have hr' : (({ U with heap := s₂.heap, slotsUsed := s₂.slotsUsed } : State).setVm s₂.vm).frames = .java g₀ :: rr := hr
  refine ⟨r, h', (({ U with heap := s₂.heap, slotsUsed := s₂.slotsUsed } : State).setVm s₂.vm), L, hPr, hst, hL, hpu, hV', hB', ?_⟩
  cases r with
  | inr v =>
    refine Or.inl ⟨v, rfl, ?_⟩
    have ho' : o = .returned v := ho
    subst ho'
    obtain ⟨c₂, i₂, len₂, hc₂, hd₂, hf₂⟩ := hend
    have hcc : c₂ = c := by
      have h1 : s₂.code? g.method = U.code? g.method := by
        rw [State.code?_eq, State.code?_eq, hW'.alike.method?]
      exact Option.some.inj (hc₂.symm.trans (h1.trans hA.code))
    subst hcc
    have hlen : len₂ = len := by rw [hdg] at hd₂; cases hd₂; rfl
    subst hlen
    have hs₂ : s₂ = (({ U with heap := s₂.heap, slotsUsed := s₂.slotsUsed } : State).setVm s₂.vm).setTop { g with pc := g.pc + len₂, stack := v.toList ++ g.stack } := by
      refine e3.trans ?_
      rw [hf₂, State.calling_eq hA.top, State.setFrames_setFrames, State.setTop_of_frames _ hr', hr]
      rfl
    rw [← hs₂]
    exact hsteps
  | inl k =>
    obtain ⟨a, cell, ho', hcell, hcv, hfc⟩ := ho
    subst ho'
    refine Or.inr ⟨k, a, cell, rfl, hcell, hcv, hfc, ?_⟩
    have hf₂ : s₂.frames = .throwing a :: .java g :: U.frames.tail := hend
    have hs₂ : s₂ = ((({ U with heap := s₂.heap, slotsUsed := s₂.slotsUsed } : State).setVm s₂.vm).setTop g).pushFrame (.throwing a) := by
      refine e3.trans ?_
      rw [hf₂, State.calling_eq hA.top, State.setFrames_setFrames, State.pushFrame, State.frames_setTop _ hr', State.setTop_of_frames _ hr', State.setFrames_setFrames, hr]
      rfl
    rw [← hs₂]
    exact hsteps
/-- an exception of number k is thrown at pc: what comes of it -/
def g_Th (E : g_E) (X : g_X) (P : g_P) (h : g_H) (cs ss pc : Nat) (L : List (Option Value)) (k : Nat) : Prop :=
  ∀ (T : State) (locs : List Loc) (ls : Array Slot) (st : List Value) (a : Addr) (cell : Cell), g_V E.D h T.heap → g_B E.H0 T.heap → (∀ q ∈ locs, E.H0.size ≤ q.base) → g_L ls X.c.maxLocals L → T.heap[a]? = some cell → cell.vm = .none → T.vm.findClass (g_xn k) = some cell.cls →
    Stand X.p X.l X.e X.R X.s X.m X.args X.below X.meth X.c T locs cs ss → ∃ t, Steps X.p.tables X.e X.below ((T.setTop (F0 X.m pc ls st)).pushFrame (.throwing a)) t ∧ g_Q E X P t
theorem g_Th.out {E : g_E} {X : g_X} {M : g_M} {P : g_P} {h : g_H} {cs ss pc : Nat} {L : List (Option Value)} {k : Nat} (hX : g_ok E X M) (hout : (tableOf M.tb).all (fun x => !covers x pc) = true) (hP : P.2 (.inl k) h) (hpu : P.1 = false) (hc : cs ≤ X.R.cells) (hs : ss ≤ X.R.slots) : g_Th E X P h cs ss pc L k := by
  intro T locs ls st a cell hV hB hlo hL hcell hcv hfc X'
  have X2 := stand_widen X' hc hs
  have hlocks : X.meth.locks = false := hX.locks
  obtain ⟨hst, hrun, hend, hW, hsame⟩ := X2.leaveThrown a (g := F0 X.m pc ls st) rfl rfl rfl (fun x hx => by
    rw [hX.tb] at hx
    have h9 := List.all_eq_true.mp hout x hx
    show covers x pc = false
    cases hq : covers x pc with
    | false => rfl
    | true => rw [hq] at h9; cases h9)
  exact ⟨_, hst, .threw a, hrun, hend, ⟨⟨.inl k, h, hP, ⟨a, cell, rfl, hcell, hcv, hfc⟩, hV, hB⟩, hW, locs, hsame, hlo, fun q => by rw [hpu] at q; cases q⟩⟩
theorem g_room {m : MethodId} {pc wt : Nat} {ls : Array Slot} {st : List Value} (h : (st.map fun v => v.category).sum ≤ wt) : 2 * (F0 m pc ls st).monitorRoom + (st.map fun v => v.category).sum ≤ wt := by
  have h0 : (F0 m pc ls st).monitorRoom = 0 := by first | rfl | simp [JFrame.monitorRoom]
  rw [h0]
  omega
section GCALL
variable {E : g_E} {X : g_X} {M M' : g_M} {P P' : g_P} {h : g_H} {z : Bool} {cs ss pc : Nat} {L : List (Option Value)} {rest : List Value} {fr lo mc ms index : Nat} {as : List Value}
theorem g_after {g : JFrame} {T U : State} {locs : List Loc} {ls : Array Slot} {len : Nat} {mk : MethodId} (hX : g_ok E X M) (hT : T.heap = U.heap)
    (kr : ∀ (v : Option Value) (h' : g_H), P'.2 (.inr v) h' → g_Go E X P h' (P'.1 && z) (cs + mc) (ss + ms) (pc + len) L (v.toList ++ rest)) (kt : ∀ (k : Nat) (h' : g_H), P'.2 (.inl k) h' → g_Th E X P h' (cs + mc) (ss + ms) pc L k)
    (hlo : ∀ q ∈ locs, E.H0.size ≤ q.base) (hL : g_L ls X.c.maxLocals L) (hz : z = true → locs = [] ∧ U.heap = X.s.heap ∧ cs = 0 ∧ ss = 0) (hmc : P'.1 = true → mc = 0 ∧ ms = 0)
    (hstep : ∀ target, (∀ acts, Steps X.p.tables X.e X.below (doInvoke X.e (U.setTop (F0 X.m pc ls rest)) acts mk as.toArray).1 target) → Steps X.p.tables X.e X.below (T.setTop g) target)
    (hen : ∃ (r : g_R) (h' : g_H) (T' : State) (L' : List Loc), P'.2 r h' ∧ Stand X.p X.l X.e X.R X.s X.m X.args X.below X.meth X.c T' (locs ++ L') (cs + mc) (ss + ms) ∧ (∀ q ∈ L', E.H0.size ≤ q.base) ∧ (P'.1 = true → L' = [] ∧ T'.heap = U.heap) ∧ g_V E.D h' T'.heap ∧ g_B E.H0 T'.heap ∧
      ((∃ v : Option Value, r = .inr v ∧ Steps X.p.tables X.e X.below (doInvoke X.e (U.setTop (F0 X.m pc ls rest)) [] mk as.toArray).1 (T'.setTop { F0 X.m pc ls rest with pc := pc + len, stack := v.toList ++ rest })) ∨
       (∃ (k : Nat) (a : Addr) (cell : Cell), r = .inl k ∧ T'.heap[a]? = some cell ∧ cell.vm = .none ∧ T'.vm.findClass (g_xn k) = some cell.cls ∧ Steps X.p.tables X.e X.below (doInvoke X.e (U.setTop (F0 X.m pc ls rest)) [] mk as.toArray).1 ((T'.setTop (F0 X.m pc ls rest)).pushFrame (.throwing a))))) :
    ∃ t, Steps X.p.tables X.e X.below (T.setTop g) t ∧ g_Q E X P t := by
  obtain ⟨r, h', T', L', hPr, hst, hL', hpu, hV', hB', hor⟩ := hen
  have hlo' : ∀ q ∈ locs ++ L', E.H0.size ≤ q.base := t_lL (free := fun q => E.H0.size ≤ q) hlo hL'
  rcases hor with ⟨v, rfl, hs⟩ | ⟨k, a, cell, rfl, hcell, hcv, hfc, hs⟩
  · obtain ⟨t, a1, b1⟩ := kr v h' hPr T'.heap (locs ++ L') ls hV' hB' hlo' hL (fun q => by
      rw [Bool.and_eq_true] at q
      obtain ⟨p1, p2⟩ := hpu q.1
      obtain ⟨z1, z2, z3, z4⟩ := hz q.2
      obtain ⟨m1, m2⟩ := hmc q.1
      exact ⟨by rw [z1, p1]; rfl, p2.trans z2, by omega, by omega⟩) T' rfl hst
    exact ⟨t, hstep _ fun acts => by rw [doInvoke_state]; exact hs.trans a1, b1⟩
  · obtain ⟨t, a1, b1⟩ := kt k h' hPr T' (locs ++ L') ls rest a cell hV' hB' hlo' hL hcell hcv hfc hst
    exact ⟨t, hstep _ fun acts => by rw [doInvoke_state]; exact hs.trans a1, b1⟩
def g_np (y : MethodName) (n : Nat) : Bool := y.cls != "java/lang/invoke/MethodHandle" && (y.cls != "java/lang/invoke/VarHandle" && decide ((parseMethodDescriptor y.desc).map (fun q => q.parameters.length) = some n))
theorem g_np_hy {y : MethodName} {n : Nat} (h : g_np y n = true) : y.cls ≠ "java/lang/invoke/MethodHandle" ∧ y.cls ≠ "java/lang/invoke/VarHandle" := by
  simp only [g_np, Bool.and_eq_true, bne_iff_ne] at h
  exact ⟨h.1, h.2.1⟩
theorem g_np_len {y : MethodName} {n : Nat} (h : g_np y n = true) (sig : MethodDescriptor) (hs : parseMethodDescriptor y.desc = some sig) : n = sig.parameters.length := by
  simp only [g_np, Bool.and_eq_true, decide_eq_true_eq] at h
  have h2 := h.2.2
  rw [hs] at h2
  exact (Option.some.inj h2).symm
theorem g_callS (hX : g_ok E X M) (hct : g_Ct X.l M' fr lo mc ms as E h P') (hdg : decode M.cc pc = .ok (.invokestatic index, 3)) (hlink : Cond.methodLink M.y.cls index M'.y ∈ g_wl) (hstat : Cond.static M'.y ∈ g_wl) (hini : Cond.initialized M'.y.cls ∈ g_wl) (hcw : g_cw M' ∈ g_wl) (hnp : g_np M'.y as.length = true)
    (hfr : fr + 1 ≤ X.R.frames) {wt : Nat} (hlo : wt + (M'.nl + 11) + lo ≤ X.R.locals) (hc : cs + mc ≤ X.R.cells) (hs : ss + ms ≤ X.R.slots) (hW : (rest.map fun v => v.category).sum ≤ wt) (hmc : P'.1 = true → mc = 0 ∧ ms = 0) (pn : Nat) (hpn : pc + 3 = pn)
    (kr : ∀ (v : Option Value) (h' : g_H), P'.2 (.inr v) h' → g_Go E X P h' (P'.1 && z) (cs + mc) (ss + ms) pn L (v.toList ++ rest)) (kt : ∀ (k : Nat) (h' : g_H), P'.2 (.inl k) h' → g_Th E X P h' (cs + mc) (ss + ms) pc L k) :
    g_Go E X P h z cs ss pc L (as.reverse ++ rest) := by
  subst hpn
  intro H locs ls hV hB hlc hL hz T hT X'
  have hcodeS : (g_cw M').before X.args X.s = true := hX.w hcw
  have hst0 : (Cond.static M'.y).before X.args X.s = true := hX.w hstat
  obtain ⟨mk, hnamed⟩ : ∃ mk, X.s.methodNamed? M'.y = some mk := by
    obtain ⟨y, cc, nl, rt, tb⟩ := M'
    cases tb with
    | nil => exact Cond.code_named (show (Cond.code y cc nl rt).before X.args X.s = true from hcodeS)
    | cons q r =>
      obtain ⟨m', meth, c, h0, -⟩ := Cond.codeWith_spec (show (Cond.codeWith y cc nl rt (q :: r)).before X.args X.s = true from hcodeS)
      exact ⟨m', h0⟩
  obtain ⟨methM, cM, hmethM, -, -, -, -, -, -, hsigM⟩ := g_cw_spec hnamed hcodeS
  have hstatic : methM.isStatic = true := Cond.static_spec hnamed hmethM hst0
  obtain ⟨kP, hkP, -⟩ := className_of_methodNamed hnamed
  have hinitP : kP.init = .initialized := Cond.initialized_spec (findClass_of_methodNamed hnamed) hkP (hX.w hini (A := X.args))
  obtain ⟨vm₁, X₁, hstep₁⟩ := X'.invokestatic hX.exec hX.own (hX.w hlink) hnamed hmethM hstatic hkP hinitP (g_np_hy hnp) (g := F0 X.m pc ls (as.reverse ++ rest)) rfl (argsL := as) (rest := rest) (g_np_len hnp _ hsigM) rfl (by rw [hX.code]; exact hdg)
  have hT1 : (T.setVm vm₁).heap = H := hT
  exact g_after (P' := P') (as := as) (mc := mc) (ms := ms) hX (U := T.setVm vm₁) rfl kr kt hlc hL (by rw [hT1]; exact hz) hmc hstep₁
    (g_enter hct X₁ hfr hlo hc hs (hX.K.warm X₁.warmed) hcw hini (by rw [hT1]; exact hV) (by rw [hT1]; exact hB) (g := F0 X.m pc ls rest) rfl hL.1 (by rw [hX.code]; exact hdg) (g_room hW) (X₁.named hnamed))
theorem g_callV (hX : g_ok E X M) {b ci N : Nat} {C : String} {T0 : u_T} {fs : List Value} (hct : g_Ct X.l M' fr lo mc ms (.ref b :: as) E h P') (hdg : decode M.cc pc = .ok (.invokevirtual index, 3)) (hb : h b = some (.inr (ci, fs))) (hcl : g_cl[ci]? = some (C, T0, N)) (hlink : Cond.methodLink M.y.cls index M'.y ∈ g_wl) (hinst : Cond.instanceMethod M'.y ∈ g_wl) (hsel : Cond.selects C M'.y M'.y ∈ g_wl) (hini : Cond.initialized M'.y.cls ∈ g_wl) (hcw : g_cw M' ∈ g_wl) (hnp : g_np M'.y as.length = true)
    (hfr : fr + 1 ≤ X.R.frames) {wt : Nat} (hlo : wt + (M'.nl + 11) + lo ≤ X.R.locals) (hc : cs + mc ≤ X.R.cells) (hs : ss + ms ≤ X.R.slots) (hW : (rest.map fun v => v.category).sum ≤ wt) (hmc : P'.1 = true → mc = 0 ∧ ms = 0) (pn : Nat) (hpn : pc + 3 = pn)
    (kr : ∀ (v : Option Value) (h' : g_H), P'.2 (.inr v) h' → g_Go E X P h' (P'.1 && z) (cs + mc) (ss + ms) pn L (v.toList ++ rest)) (kt : ∀ (k : Nat) (h' : g_H), P'.2 (.inl k) h' → g_Th E X P h' (cs + mc) (ss + ms) pc L k) :
    g_Go E X P h z cs ss pc L (as.reverse ++ .ref b :: rest) := by
  subst hpn
  intro H locs ls hV hB hlc hL hz T hT X'
  obtain ⟨cellB, hcell, hobj, hcls⟩ := g_recv hX.K.1 hV hcl hb
  obtain ⟨mk, methM, hnamed, hmethM, hstM, habM⟩ := Cond.instanceMethod_spec (hX.w hinst (A := X.args))
  obtain ⟨methM', cM, hmethM', -, -, -, -, -, -, hsigM⟩ := g_cw_spec hnamed (hX.w hcw (A := X.args))
  cases hmethM.symm.trans hmethM'
  obtain ⟨c2, r2, m2, q1, q2, q3, q4, kP, hkP, hkPi⟩ := Cond.selects_spec (hX.w hsel (A := X.args))
  cases hcls.symm.trans q1
  cases (State.methodFound?_of_named hnamed (g_np_hy hnp)).symm.trans q2
  cases hnamed.symm.trans q3
  have hselP : selectMethod X.e.platform X.s.vm cellB.cls mk = .method mk := by rw [Launch.admits_selectMethod X'.admits]; exact q4
  obtain ⟨vm₁, X₁, hstep₁⟩ := X'.invokevirtual hX.exec hX.own (hX.w hlink) hnamed hmethM hstM hkP hkPi (g_np_hy hnp) (a := b) (cell := cellB) (by rw [hT]; exact hcell)
    (fun z q => by rw [q] at hobj; cases hobj) hselP hmethM habM hkP hkPi (g := F0 X.m pc ls (as.reverse ++ .ref b :: rest)) rfl (argsL := as) (rest := rest) (g_np_len hnp _ hsigM) rfl (by rw [hX.code]; exact hdg)
  have hT1 : (T.setVm vm₁).heap = H := hT
  exact g_after (P' := P') (as := .ref b :: as) (mc := mc) (ms := ms) hX (U := T.setVm vm₁) rfl kr kt hlc hL (by rw [hT1]; exact hz) hmc hstep₁
    (g_enter hct X₁ hfr hlo hc hs (hX.K.warm X₁.warmed) hcw hini (by rw [hT1]; exact hV) (by rw [hT1]; exact hB) (g := F0 X.m pc ls rest) rfl hL.1 (by rw [hX.code]; exact hdg) (g_room hW) (X₁.named hnamed))
theorem g_callI (hX : g_ok E X M) {b : Nat} (htb : M'.tb = []) (hrn : M'.ret = none) (hy1 : M'.y.name = "<init>") (hct : g_Ct X.l M' fr lo mc ms (.ref b :: as) E h P') (hdg : decode M.cc pc = .ok (.invokespecial index, 3)) (hlink : Cond.methodLink M.y.cls index M'.y ∈ g_wl) (hinst : Cond.instanceMethod M'.y ∈ g_wl) (hini : Cond.initialized M'.y.cls ∈ g_wl) (hcw : g_cw M' ∈ g_wl) (hnp : g_np M'.y as.length = true)
    (hfr : fr + 1 ≤ X.R.frames) {wt : Nat} (hlo : wt + (M'.nl + 11) + lo ≤ X.R.locals) (hc : cs + mc ≤ X.R.cells) (hs : ss + ms ≤ X.R.slots) (hW : (rest.map fun v => v.category).sum ≤ wt) (hmc : P'.1 = true → mc = 0 ∧ ms = 0) (pn : Nat) (hpn : pc + 3 = pn)
    (kr : ∀ (v : Option Value) (h' : g_H), P'.2 (.inr v) h' → g_Go E X P h' (P'.1 && z) (cs + mc) (ss + ms) pn L (v.toList ++ rest)) (kt : ∀ (k : Nat) (h' : g_H), P'.2 (.inl k) h' → g_Th E X P h' (cs + mc) (ss + ms) pc L k) :
    g_Go E X P h z cs ss pc L (as.reverse ++ .ref b :: rest) := by
  subst hpn
  intro H locs ls hV hB hlc hL hz T hT X'
  have hpl : X.e.platform.magicAccessors = ({} : Platform).magicAccessors := by rw [X'.admits.platform]
  have hcode : (Cond.code M'.y M'.cc M'.nl none).before X.args X.s = true := by
    have h1 := hX.w hcw (A := X.args)
    obtain ⟨y, cc, nl, rt, tb⟩ := M'
    cases htb
    cases hrn
    exact h1
  obtain ⟨mk, methM, cM, kP, vm₁, hnamed, hmethM, hcodeM, -, hlocalsM, -, hkP, -, hW₁, hstep₁⟩ := Steps.initColdArgs (e := X.e) X'.here hX.exec X'.warmed hpl hX.own hy1 (g_np_hy hnp) (hX.w hlink (A := X.args)) (hX.w hinst (A := X.args)) hcode (f := F0 X.m pc ls (as.reverse ++ .ref b :: rest)) rfl (fun sig hsig => g_np_len hnp sig hsig) rfl (by rw [hX.code]; exact hdg)
  have X₁ := X'.noted hW₁
  have hT1 : (T.setVm vm₁).heap = H := hT
  exact g_after (P' := P') (as := .ref b :: as) (mc := mc) (ms := ms) hX (U := T.setVm vm₁) rfl kr kt hlc hL (by rw [hT1]; exact hz) hmc hstep₁
    (g_enter hct X₁ hfr hlo hc hs (hX.K.warm X₁.warmed) hcw hini (by rw [hT1]; exact hV) (by rw [hT1]; exact hB) (g := F0 X.m pc ls rest) rfl hL.1 (by rw [hX.code]; exact hdg) (g_room hW) (X₁.named hnamed))
/-- what an interface's call asks of the words -/
def g_fw (C : String) (x y : MethodName) : Prop := Cond.declares x ∈ g_wl ∧ Cond.interfaceMethod x.cls x.cls x.name x.desc ∈ g_wl ∧ Cond.publicMethod y ∈ g_wl ∧ Cond.unhidden C x.name x.desc ∈ g_wl ∧ Cond.castable C x.cls ∈ g_wl ∧ Cond.selects C x y ∈ g_wl ∧ Cond.instanceMethod y ∈ g_wl
theorem g_callF (hX : g_ok E X M) {x : MethodName} {b ci N count : Nat} {C : String} {T0 : u_T} {fs : List Value} (hct : g_Ct X.l M' fr lo mc ms (.ref b :: as) E h P') (hdg : decode M.cc pc = .ok (.invokeinterface index count, 5)) (hb : h b = some (.inr (ci, fs))) (hcl : g_cl[ci]? = some (C, T0, N)) (hlink : Cond.methodLink M.y.cls index x ∈ g_wl) (hfw : g_fw C x M'.y) (hini : Cond.initialized M'.y.cls ∈ g_wl) (hcw : g_cw M' ∈ g_wl) (hnp : g_np x as.length = true)
    (hfr : fr + 1 ≤ X.R.frames) {wt : Nat} (hlo : wt + (M'.nl + 11) + lo ≤ X.R.locals) (hc : cs + mc ≤ X.R.cells) (hs : ss + ms ≤ X.R.slots) (hW : (rest.map fun v => v.category).sum ≤ wt) (hmc : P'.1 = true → mc = 0 ∧ ms = 0) (pn : Nat) (hpn : pc + 5 = pn)
    (kr : ∀ (v : Option Value) (h' : g_H), P'.2 (.inr v) h' → g_Go E X P h' (P'.1 && z) (cs + mc) (ss + ms) pn L (v.toList ++ rest)) (kt : ∀ (k : Nat) (h' : g_H), P'.2 (.inl k) h' → g_Th E X P h' (cs + mc) (ss + ms) pc L k) :
    g_Go E X P h z cs ss pc L (as.reverse ++ .ref b :: rest) := by
  subst hpn
  intro H locs ls hV hB hlc hL hz T hT X'
  obtain ⟨w1, w2, w3, w4, w5, w6, w7⟩ := hfw
  obtain ⟨cellB, hcell, hobj, hcls⟩ := g_recv hX.K.1 hV hcl hb
  obtain ⟨-, -, kB, hkB, -⟩ := hX.K.1.1 ci _ hcl
  have hkB' : X.s.vm.classes[cellB.cls]? = some kB := by
    obtain ⟨-, hfc, -⟩ := hX.K.1.1 ci _ hcl
    have h9 : E.D.1 ci = cellB.cls := Option.some.inj (hfc.symm.trans hcls)
    rw [← h9]
    exact hkB
  obtain ⟨r0, r, hn, hrm, hstR, hsigR⟩ := Cond.declares_spec (hX.w w1 (A := X.args))
  have hface : (Cond.interfaceMethod x.cls x.cls x.name x.desc).before X.args X.s = true := hX.w w2
  obtain ⟨cL, kL, r1, hcL, hkL, hiL, hfoundL, hn1⟩ := Cond.interfaceMethod_spec hface
  cases hn.symm.trans hn1
  have hr0cls : r0.cls = cL := Option.some.inj ((findClass_of_methodNamed hn).symm.trans hcL)
  obtain ⟨hnameR, hdescR⟩ := name_of_methodNamed hn hrm
  obtain ⟨mk, methM, hnamed, hmethM, -, habM⟩ := Cond.instanceMethod_spec (hX.w w7 (A := X.args))
  obtain ⟨c2, r2, m2, q1, q2, q3, q4, -⟩ := Cond.selects_spec (hX.w w6 (A := X.args))
  cases hcls.symm.trans q1
  cases hfoundL.symm.trans q2
  cases hnamed.symm.trans q3
  have hselP : selectMethod X.e.platform X.s.vm cellB.cls r0 = .method mk := by rw [Launch.admits_selectMethod X'.admits]; exact q4
  have hpubM : hasFlag methM.accessFlags Acc.public_ = true := Cond.publicMethod_spec hnamed hmethM (hX.w w3 (A := X.args))
  have hway : ((cellB.cls :: X.s.vm.superclasses cellB.cls).any fun k => (declaredIn X.s.vm r.name r.desc k).any fun (_, z) => z.isPrivate || z.isStatic) = false := by
    rw [hnameR, hdescR]; exact Cond.unhidden_spec hcls (hX.w w4 (A := X.args))
  obtain ⟨c3, t3, u1, u2, u3⟩ := Cond.castable_spec (hX.w w5 (A := X.args))
  cases hcls.symm.trans u1
  cases hcL.symm.trans u2
  obtain ⟨vm₁, X₁, hstep₁⟩ := X'.invokeinterface hX.exec hX.own (hX.w hlink) hn hrm hstR (by rw [hr0cls]; exact hkL) hiL (g_np_hy hnp) (a := b) (cell := cellB) (kcell := kB) (by rw [hT]; exact hcell)
    (fun z q => by rw [q] at hobj; cases hobj) hkB' (by rw [hr0cls]; exact u3) hselP hmethM hway hpubM habM (g := F0 X.m pc ls (as.reverse ++ .ref b :: rest)) rfl (argsL := as) (rest := rest) (g_np_len hnp _ hsigR) rfl (by rw [hX.code]; exact hdg)
  have hT1 : (T.setVm vm₁).heap = H := hT
  exact g_after (P' := P') (as := .ref b :: as) (mc := mc) (ms := ms) hX (U := T.setVm vm₁) rfl kr kt hlc hL (by rw [hT1]; exact hz) hmc hstep₁
    (g_enter hct X₁ hfr hlo hc hs (hX.K.warm X₁.warmed) hcw hini (by rw [hT1]; exact hV) (by rw [hT1]; exact hB) (g := F0 X.m pc ls rest) rfl hL.1 (by rw [hX.code]; exact hdg) (g_room hW) (X₁.named hnamed))
end GCALL
end
section
/-! a catch type that isn't resolved yet: the search resolves it, and goes on -/
def g_Sr (e : Env) (f : JFrame) (a : Addr) (tb : List ExceptionTableEntry) (r : Handler) (u u' : State) : Prop :=
  ∀ (Q : Handler → Pre) (Z : CtlPost) (d : Bool) (acts : List Action), wp (findHandler.go f a tb) Q Z e d acts u ↔ Q r d acts u'
theorem g_go_cold {e : Env} {s : State} {f : JFrame} {a : Addr} {Q : Handler → Pre} {Z : CtlPost} {d : Bool} {acts : List Action} {x : ExceptionTableEntry} {t : List ExceptionTableEntry} {c : ClassId} {cell : Cell} {vm' : Vm}
    (hx : covers x f.pc = true) (h0 : x.catchType ≠ 0) (hg : (Jvm.resolveClass f.method.cls x.catchType).Gives e.toSetting s.vm (.ok c) vm') (hcell : s.heap[a]? = some cell) (hobj : ∀ k, cell.vm ≠ .statics k)
    (hk : ∃ k, vm'.classes[cell.cls]? = some k) (hc : ∃ k, vm'.classes[c]? = some k) (hsz : vm'.classes.size ≤ s.vm.classes.size) :
    wp (findHandler.go f a (x :: t)) Q Z e d acts s ↔ if vm'.assignable cell.cls c = true then Q (.found x.handlerPc) d acts (s.setVm vm') else wp (findHandler.go f a t) Q Z e d acts (s.setVm vm') := by
  simp only [covers] at hx
  have hop : (VmOp.resolveClass f.method.cls x.catchType).answer e s.vm = .ok c ∧ (VmOp.resolveClass f.method.cls x.catchType).tables e s.vm = vm' := hg.op rfl
  have hla : (VmOp.resolveClass f.method.cls x.catchType).lands e s = .done (s.setVm vm') := VmOp.lands_eq hop.2 hsz
  cases hfit : vm'.assignable cell.cls c <;>
    simp [findHandler.go, hx, h0, hop, hla, hcell, hobj, hk, hc, hfit, VmOp.dirties, VmOp.acts]
theorem g_stepCatch {e : Env} {s : State} {a : Addr} {f : JFrame} {r : List Frame} {pc : Nat} {vm' : Vm} (hfind : ∀ (Q : Handler → Pre) (Z : CtlPost) (d : Bool) (acts : List Action), wp (findHandler f a) Q Z e d acts s ↔ Q (.found pc) d acts (s.setVm vm')) :
    (stepThrowing e s a (.java f :: r)).Is ((s.setVm vm').setFrames (.java { f with pc := pc, stack := [.ref a] } :: r)) [] := by
  simp only [stepThrowing, searchFrame, vmDo]
  generalize hr : Sem.go _ e false [] s = res
  obtain ⟨as, rfl, ha⟩ := Sem.eq_ok_of hr (a := Handler.found pc) (s' := s.setVm vm') (acts' := []) (by simp [hfind _ _ _ _])
  exact ⟨rfl, ha⟩
theorem g_caught {tb : Tables} {e : Env} {s target : State} {g : JFrame} {c : Code} {below : List Frame} {a : Addr} (h : At s g.method c below) {pc : Nat} {vm' : Vm}
    (hfind : ∀ (Q : Handler → Pre) (Z : CtlPost) (d : Bool) (acts : List Action), wp (findHandler g a) Q Z e d acts ((s.setTop g).pushFrame (.throwing a)) ↔ Q (.found pc) d acts (((s.setTop g).pushFrame (.throwing a)).setVm vm'))
    (hrest : Steps tb e below ((s.setVm vm').setTop { g with pc := pc, stack := [.ref a] }) target) :
    Steps tb e below ((s.setTop g).pushFrame (.throwing a)) target := by
  obtain ⟨hgo, hw⟩ := h.throwing a
  refine Steps.head hgo hw ?_
  rw [stepThread_throwing (frames_entered h.top _), (g_stepCatch (s := (s.setTop g).pushFrame (.throwing a)) hfind).1]
  obtain ⟨g₀, hg⟩ := Option.isSome_iff_exists.mp h.top
  obtain ⟨r, hr⟩ := State.topJava?_eq_some.mp hg
  have hr' : (s.setVm vm').frames = .java g₀ :: r := hr
  rw [State.setTop_of_frames _ hr'] at hrest
  rw [State.pushFrame, State.setTop_of_frames _ hr, State.setFrames_setFrames, hr]
  have he : ∀ fs fs' : List Frame, ((s.setFrames fs).setVm vm').setFrames fs' = (s.setVm vm').setFrames fs' := fun fs fs' => by
    show ((s.setVm vm').setFrames fs).setFrames fs' = _
    rw [State.setFrames_setFrames]
  rw [he]
  exact hrest
/-- how the search goes through a method's own table: the entries' names, and whether each takes the exception of number k -/
def g_hit (own : String) (k : Nat) (x : ExceptionTableEntry) (nm : String) (b : Bool) : Prop :=
  x.catchType ≠ 0 ∧ Cond.classLink own x.catchType nm ∈ g_wl ∧ ((b = true ∧ nm = g_xn k) ∨ (b = false ∧ Cond.not (.castable (g_xn k) nm) ∈ g_wl))
theorem g_Sr.step {E : g_E} {X : g_X} {M : g_M} (hX : g_ok E X M) {u : State} {g : JFrame} {a : Addr} {cell : Cell} {k : Nat} {x : ExceptionTableEntry} {t : List ExceptionTableEntry} {nm : String} {b : Bool} (hg : g.method = X.m) (hpl : X.e.platform.magicAccessors = ({} : Platform).magicAccessors) (hW : X.s.WarmedH u.vm)
    (hx : covers x g.pc = true) (hh : g_hit M.y.cls k x nm b) (hcell : u.heap[a]? = some cell) (hcv : cell.vm = .none) (hfc : u.vm.findClass (g_xn k) = some cell.cls) :
    ∃ vm' : Vm, X.s.WarmedH vm' ∧ ∀ (Q : Handler → Pre) (Z : CtlPost) (d : Bool) (acts : List Action), wp (findHandler.go g a (x :: t)) Q Z X.e d acts u ↔ if b = true then Q (.found x.handlerPc) d acts (u.setVm vm') else wp (findHandler.go g a t) Q Z X.e d acts (u.setVm vm') := by
  obtain ⟨h0, hlink, hb⟩ := hh
  obtain ⟨cC, hfcC, hcl⟩ := Cond.classLink_spec hX.own (hX.w hlink (A := X.args)) X.e.platform hpl
  obtain ⟨hg₁, hwarm₁, hready₁⟩ := State.classEntry (e := X.e) hW hcl
  have hal : u.vm.Alike (u.vm.noted X.m.cls x.catchType (.cls cC)) := hW.alike.symm.trans hwarm₁.alike
  have hfcC' : (u.vm.noted X.m.cls x.catchType (.cls cC)).findClass nm = some cC := by rw [hwarm₁.alike.findClass]; exact hfcC
  have hfc' : (u.vm.noted X.m.cls x.catchType (.cls cC)).findClass (g_xn k) = some cell.cls := by rw [hal.findClass]; exact hfc
  refine ⟨_, hwarm₁, fun Q Z d acts => ?_⟩
  rw [g_go_cold (vm' := u.vm.noted X.m.cls x.catchType (.cls cC)) hx h0 (by rw [hg]; exact hg₁) hcell (fun k q => by rw [hcv] at q; cases q) (Vm.classAt_of_findClass hfc') (Vm.classAt_of_findClass hfcC') (by no_record)]
  rcases hb with ⟨rfl, rfl⟩ | ⟨rfl, hno⟩
  · have : cell.cls = cC := Option.some.inj (hfc'.symm.trans hfcC')
    subst this
    rw [va_asg]
  · obtain ⟨c1, t1, e1, e2, e3⟩ := va_Nc.of (hX.w hno (A := X.args))
    have hfcs : X.s.vm.findClass (g_xn k) = some cell.cls := by rw [← hW.alike.findClass]; exact hfc
    cases hfcs.symm.trans e1
    cases hfcC.symm.trans e2
    have hno' : (u.vm.noted X.m.cls x.catchType (.cls cC)).assignable cell.cls cC = false := by rw [hwarm₁.alike.assignable]; exact e3
    rw [hno']
end
section
/-! packaged words of a call site; rows by the number of arguments -/
def g_kS (own : String) (idx : Nat) (M' : g_M) (n : Nat) : Prop := Cond.methodLink own idx M'.y ∈ g_wl ∧ Cond.static M'.y ∈ g_wl ∧ Cond.initialized M'.y.cls ∈ g_wl ∧ g_cw M' ∈ g_wl ∧ g_np M'.y n = true
def g_kV (own : String) (idx : Nat) (M' : g_M) (n ci : Nat) : Prop := ∃ (C : String) (T0 : u_T) (N : Nat), g_cl[ci]? = some (C, T0, N) ∧ Cond.methodLink own idx M'.y ∈ g_wl ∧ Cond.instanceMethod M'.y ∈ g_wl ∧ Cond.selects C M'.y M'.y ∈ g_wl ∧ Cond.initialized M'.y.cls ∈ g_wl ∧ g_cw M' ∈ g_wl ∧ g_np M'.y n = true
def g_kI (own : String) (idx : Nat) (M' : g_M) (n : Nat) : Prop := (M'.tb = [] ∧ M'.ret = none ∧ M'.y.name = "<init>") ∧ Cond.methodLink own idx M'.y ∈ g_wl ∧ Cond.instanceMethod M'.y ∈ g_wl ∧ Cond.initialized M'.y.cls ∈ g_wl ∧ g_cw M' ∈ g_wl ∧ g_np M'.y n = true
def g_kF (own : String) (idx : Nat) (x : MethodName) (M' : g_M) (n ci : Nat) : Prop := ∃ (C : String) (T0 : u_T) (N : Nat), g_cl[ci]? = some (C, T0, N) ∧ Cond.methodLink own idx x ∈ g_wl ∧ g_fw C x M'.y ∧ Cond.initialized M'.y.cls ∈ g_wl ∧ g_cw M' ∈ g_wl ∧ g_np x n = true
def g_rm (X : g_X) (fr lo nl wt : Nat) : Prop := fr + 1 ≤ X.R.frames ∧ wt + (nl + 11) + lo ≤ X.R.locals
theorem g_rm.of {X : g_X} {F G mc ms fr lo nl wt : Nat} (hR : X.R = { frames := F, cells := mc, slots := ms, locals := G }) (hd : fr + 1 ≤ F) (hn : wt + (nl + 11) + lo ≤ G) : g_rm X fr lo nl wt := by
  unfold g_rm
  rw [hR]
  exact ⟨hd, hn⟩
/-- it answers v, and changes and makes nothing -/
def g_Rd (l : Launch) (M : g_M) (fr lo : Nat) (as : List Value) (E : g_E) (h : g_H) (v : Option Value) : Prop := g_Ct l M fr lo 0 0 as E h (true, fun r h' => r = .inr v ∧ h' = h)
theorem g_Rd.of {l : Launch} {M : g_M} {fr lo : Nat} {as : List Value} {E : g_E} {h : g_H} {v : Option Value} (hl : l.stackTraces = false) (hy : plainName M.y.cls = true) (hv : as.all (fun v => v.category == 1) = true) (hn : as.length ≤ M.nl)
    (body : ∀ X : g_X, g_ok E X M → X.l = l → X.R = { frames := fr, cells := 0, slots := 0, locals := lo } → g_Go E X (true, fun r h' => r = .inr v ∧ h' = h) h true 0 0 0 (as.map some ++ List.replicate (M.nl - as.length) none) []) : g_Rd l M fr lo as E h v := g_Ct.of hl hy hv hn body
section GCALLR
variable {E : g_E} {X : g_X} {M M' : g_M} {P P' : g_P} {h : g_H} {z : Bool} {cs ss pc : Nat} {L : List (Option Value)} {rest : List Value} {fr lo mc ms index wt : Nat}
theorem g_cS0 (hX : g_ok E X M) (hct : g_Ct X.l M' fr lo mc ms [] E h P') (hdg : decode M.cc pc = .ok (.invokestatic index, 3)) (hk : g_kS M.y.cls index M' 0) (hrm : g_rm X fr lo M'.nl wt) (hc : cs + mc ≤ X.R.cells) (hs : ss + ms ≤ X.R.slots) (hW : (rest.map fun v => v.category).sum ≤ wt) (hmc : P'.1 = true → mc = 0 ∧ ms = 0) (pn : Nat) (hpn : pc + 3 = pn)
    (kr : ∀ (v : Option Value) (h' : g_H), P'.2 (.inr v) h' → g_Go E X P h' (P'.1 && z) (cs + mc) (ss + ms) pn L (v.toList ++ rest)) (kt : ∀ (k : Nat) (h' : g_H), P'.2 (.inl k) h' → g_Th E X P h' (cs + mc) (ss + ms) pc L k) : g_Go E X P h z cs ss pc L (rest) :=
  g_callS (as := []) hX hct hdg hk.1 hk.2.1 hk.2.2.1 hk.2.2.2.1 hk.2.2.2.2 hrm.1 hrm.2 hc hs hW hmc pn hpn kr kt
theorem g_cS0r (hX : g_ok E X M) {v : Value} (hct : g_Rd X.l M' fr lo [] E h (some v)) (hdg : decode M.cc pc = .ok (.invokestatic index, 3)) (hk : g_kS M.y.cls index M' 0) (hrm : g_rm X fr lo M'.nl wt) (hc : cs ≤ X.R.cells) (hs : ss ≤ X.R.slots) (hW : (rest.map fun v => v.category).sum ≤ wt) (pn : Nat) (hpn : pc + 3 = pn)
    (kr : g_Go E X P h z cs ss pn L (v :: rest)) : g_Go E X P h z cs ss pc L (rest) :=
  g_cS0 (mc := 0) (ms := 0) hX hct hdg hk hrm hc hs hW (fun _ => ⟨rfl, rfl⟩) pn hpn (fun v' h' q => by
    obtain ⟨q1, q2⟩ := q
    cases q1
    subst q2
    exact kr) (fun k h' q => by cases q.1)
theorem g_cS0v (hX : g_ok E X M) (hct : g_Rd X.l M' fr lo [] E h none) (hdg : decode M.cc pc = .ok (.invokestatic index, 3)) (hk : g_kS M.y.cls index M' 0) (hrm : g_rm X fr lo M'.nl wt) (hc : cs ≤ X.R.cells) (hs : ss ≤ X.R.slots) (hW : (rest.map fun v => v.category).sum ≤ wt) (pn : Nat) (hpn : pc + 3 = pn)
    (kr : g_Go E X P h z cs ss pn L (rest)) : g_Go E X P h z cs ss pc L (rest) :=
  g_cS0 (mc := 0) (ms := 0) hX hct hdg hk hrm hc hs hW (fun _ => ⟨rfl, rfl⟩) pn hpn (fun v' h' q => by
    obtain ⟨q1, q2⟩ := q
    cases q1
    subst q2
    exact kr) (fun k h' q => by cases q.1)
theorem g_cV0 (hX : g_ok E X M) {b ci : Nat} {fs : List Value} (hct : g_Ct X.l M' fr lo mc ms (.ref b :: []) E h P') (hdg : decode M.cc pc = .ok (.invokevirtual index, 3)) (hb : h b = some (.inr (ci, fs))) (hk : g_kV M.y.cls index M' 0 ci) (hrm : g_rm X fr lo M'.nl wt) (hc : cs + mc ≤ X.R.cells) (hs : ss + ms ≤ X.R.slots) (hW : (rest.map fun v => v.category).sum ≤ wt) (hmc : P'.1 = true → mc = 0 ∧ ms = 0) (pn : Nat) (hpn : pc + 3 = pn)
    (kr : ∀ (v : Option Value) (h' : g_H), P'.2 (.inr v) h' → g_Go E X P h' (P'.1 && z) (cs + mc) (ss + ms) pn L (v.toList ++ rest)) (kt : ∀ (k : Nat) (h' : g_H), P'.2 (.inl k) h' → g_Th E X P h' (cs + mc) (ss + ms) pc L k) : g_Go E X P h z cs ss pc L (.ref b :: rest) :=
  by
  obtain ⟨C, T0, N, k1, k2, k3, k4, k5, k6, k7⟩ := hk
  exact g_callV (as := []) hX hct hdg hb k1 k2 k3 k4 k5 k6 k7 hrm.1 hrm.2 hc hs hW hmc pn hpn kr kt
theorem g_cV0r (hX : g_ok E X M) {b ci : Nat} {fs : List Value} {v : Value} (hct : g_Rd X.l M' fr lo (.ref b :: []) E h (some v)) (hdg : decode M.cc pc = .ok (.invokevirtual index, 3)) (hb : h b = some (.inr (ci, fs))) (hk : g_kV M.y.cls index M' 0 ci) (hrm : g_rm X fr lo M'.nl wt) (hc : cs ≤ X.R.cells) (hs : ss ≤ X.R.slots) (hW : (rest.map fun v => v.category).sum ≤ wt) (pn : Nat) (hpn : pc + 3 = pn)
    (kr : g_Go E X P h z cs ss pn L (v :: rest)) : g_Go E X P h z cs ss pc L (.ref b :: rest) :=
  g_cV0 (mc := 0) (ms := 0) hX hct hdg hb hk hrm hc hs hW (fun _ => ⟨rfl, rfl⟩) pn hpn (fun v' h' q => by
    obtain ⟨q1, q2⟩ := q
    cases q1
    subst q2
    exact kr) (fun k h' q => by cases q.1)
theorem g_cV0v (hX : g_ok E X M) {b ci : Nat} {fs : List Value} (hct : g_Rd X.l M' fr lo (.ref b :: []) E h none) (hdg : decode M.cc pc = .ok (.invokevirtual index, 3)) (hb : h b = some (.inr (ci, fs))) (hk : g_kV M.y.cls index M' 0 ci) (hrm : g_rm X fr lo M'.nl wt) (hc : cs ≤ X.R.cells) (hs : ss ≤ X.R.slots) (hW : (rest.map fun v => v.category).sum ≤ wt) (pn : Nat) (hpn : pc + 3 = pn)
    (kr : g_Go E X P h z cs ss pn L (rest)) : g_Go E X P h z cs ss pc L (.ref b :: rest) :=
  g_cV0 (mc := 0) (ms := 0) hX hct hdg hb hk hrm hc hs hW (fun _ => ⟨rfl, rfl⟩) pn hpn (fun v' h' q => by
    obtain ⟨q1, q2⟩ := q
    cases q1
    subst q2
    exact kr) (fun k h' q => by cases q.1)
theorem g_cI0 (hX : g_ok E X M) {b : Nat} (hct : g_Ct X.l M' fr lo mc ms (.ref b :: []) E h P') (hdg : decode M.cc pc = .ok (.invokespecial index, 3)) (hk : g_kI M.y.cls index M' 0) (hrm : g_rm X fr lo M'.nl wt) (hc : cs + mc ≤ X.R.cells) (hs : ss + ms ≤ X.R.slots) (hW : (rest.map fun v => v.category).sum ≤ wt) (hmc : P'.1 = true → mc = 0 ∧ ms = 0) (pn : Nat) (hpn : pc + 3 = pn)
    (kr : ∀ (v : Option Value) (h' : g_H), P'.2 (.inr v) h' → g_Go E X P h' (P'.1 && z) (cs + mc) (ss + ms) pn L (v.toList ++ rest)) (kt : ∀ (k : Nat) (h' : g_H), P'.2 (.inl k) h' → g_Th E X P h' (cs + mc) (ss + ms) pc L k) : g_Go E X P h z cs ss pc L (.ref b :: rest) :=
  g_callI (as := []) hX hk.1.1 hk.1.2.1 hk.1.2.2 hct hdg hk.2.1 hk.2.2.1 hk.2.2.2.1 hk.2.2.2.2.1 hk.2.2.2.2.2 hrm.1 hrm.2 hc hs hW hmc pn hpn kr kt
theorem g_cI0r (hX : g_ok E X M) {b : Nat} {v : Value} (hct : g_Rd X.l M' fr lo (.ref b :: []) E h (some v)) (hdg : decode M.cc pc = .ok (.invokespecial index, 3)) (hk : g_kI M.y.cls index M' 0) (hrm : g_rm X fr lo M'.nl wt) (hc : cs ≤ X.R.cells) (hs : ss ≤ X.R.slots) (hW : (rest.map fun v => v.category).sum ≤ wt) (pn : Nat) (hpn : pc + 3 = pn)
    (kr : g_Go E X P h z cs ss pn L (v :: rest)) : g_Go E X P h z cs ss pc L (.ref b :: rest) :=
  g_cI0 (mc := 0) (ms := 0) hX hct hdg hk hrm hc hs hW (fun _ => ⟨rfl, rfl⟩) pn hpn (fun v' h' q => by
    obtain ⟨q1, q2⟩ := q
    cases q1
    subst q2
    exact kr) (fun k h' q => by cases q.1)
theorem g_cI0v (hX : g_ok E X M) {b : Nat} (hct : g_Rd X.l M' fr lo (.ref b :: []) E h none) (hdg : decode M.cc pc = .ok (.invokespecial index, 3)) (hk : g_kI M.y.cls index M' 0) (hrm : g_rm X fr lo M'.nl wt) (hc : cs ≤ X.R.cells) (hs : ss ≤ X.R.slots) (hW : (rest.map fun v => v.category).sum ≤ wt) (pn : Nat) (hpn : pc + 3 = pn)
    (kr : g_Go E X P h z cs ss pn L (rest)) : g_Go E X P h z cs ss pc L (.ref b :: rest) :=
  g_cI0 (mc := 0) (ms := 0) hX hct hdg hk hrm hc hs hW (fun _ => ⟨rfl, rfl⟩) pn hpn (fun v' h' q => by
    obtain ⟨q1, q2⟩ := q
    cases q1
    subst q2
    exact kr) (fun k h' q => by cases q.1)
theorem g_cF0 (hX : g_ok E X M) {b ci count : Nat} {x : MethodName} {fs : List Value} (hct : g_Ct X.l M' fr lo mc ms (.ref b :: []) E h P') (hdg : decode M.cc pc = .ok (.invokeinterface index count, 5)) (hb : h b = some (.inr (ci, fs))) (hk : g_kF M.y.cls index x M' 0 ci) (hrm : g_rm X fr lo M'.nl wt) (hc : cs + mc ≤ X.R.cells) (hs : ss + ms ≤ X.R.slots) (hW : (rest.map fun v => v.category).sum ≤ wt) (hmc : P'.1 = true → mc = 0 ∧ ms = 0) (pn : Nat) (hpn : pc + 5 = pn)
    (kr : ∀ (v : Option Value) (h' : g_H), P'.2 (.inr v) h' → g_Go E X P h' (P'.1 && z) (cs + mc) (ss + ms) pn L (v.toList ++ rest)) (kt : ∀ (k : Nat) (h' : g_H), P'.2 (.inl k) h' → g_Th E X P h' (cs + mc) (ss + ms) pc L k) : g_Go E X P h z cs ss pc L (.ref b :: rest) :=
  by
  obtain ⟨C, T0, N, k1, k2, k3, k4, k5, k6⟩ := hk
  exact g_callF (as := []) hX hct hdg hb k1 k2 k3 k4 k5 k6 hrm.1 hrm.2 hc hs hW hmc pn hpn kr kt
theorem g_cF0r (hX : g_ok E X M) {b ci count : Nat} {x : MethodName} {fs : List Value} {v : Value} (hct : g_Rd X.l M' fr lo (.ref b :: []) E h (some v)) (hdg : decode M.cc pc = .ok (.invokeinterface index count, 5)) (hb : h b = some (.inr (ci, fs))) (hk : g_kF M.y.cls index x M' 0 ci) (hrm : g_rm X fr lo M'.nl wt) (hc : cs ≤ X.R.cells) (hs : ss ≤ X.R.slots) (hW : (rest.map fun v => v.category).sum ≤ wt) (pn : Nat) (hpn : pc + 5 = pn)
    (kr : g_Go E X P h z cs ss pn L (v :: rest)) : g_Go E X P h z cs ss pc L (.ref b :: rest) :=
  g_cF0 (mc := 0) (ms := 0) hX hct hdg hb hk hrm hc hs hW (fun _ => ⟨rfl, rfl⟩) pn hpn (fun v' h' q => by
    obtain ⟨q1, q2⟩ := q
    cases q1
    subst q2
    exact kr) (fun k h' q => by cases q.1)
theorem g_cF0v (hX : g_ok E X M) {b ci count : Nat} {x : MethodName} {fs : List Value} (hct : g_Rd X.l M' fr lo (.ref b :: []) E h none) (hdg : decode M.cc pc = .ok (.invokeinterface index count, 5)) (hb : h b = some (.inr (ci, fs))) (hk : g_kF M.y.cls index x M' 0 ci) (hrm : g_rm X fr lo M'.nl wt) (hc : cs ≤ X.R.cells) (hs : ss ≤ X.R.slots) (hW : (rest.map fun v => v.category).sum ≤ wt) (pn : Nat) (hpn : pc + 5 = pn)
    (kr : g_Go E X P h z cs ss pn L (rest)) : g_Go E X P h z cs ss pc L (.ref b :: rest) :=
  g_cF0 (mc := 0) (ms := 0) hX hct hdg hb hk hrm hc hs hW (fun _ => ⟨rfl, rfl⟩) pn hpn (fun v' h' q => by
    obtain ⟨q1, q2⟩ := q
    cases q1
    subst q2
    exact kr) (fun k h' q => by cases q.1)
theorem g_cS1 (hX : g_ok E X M) {a1 : Value} (hct : g_Ct X.l M' fr lo mc ms [a1] E h P') (hdg : decode M.cc pc = .ok (.invokestatic index, 3)) (hk : g_kS M.y.cls index M' 1) (hrm : g_rm X fr lo M'.nl wt) (hc : cs + mc ≤ X.R.cells) (hs : ss + ms ≤ X.R.slots) (hW : (rest.map fun v => v.category).sum ≤ wt) (hmc : P'.1 = true → mc = 0 ∧ ms = 0) (pn : Nat) (hpn : pc + 3 = pn)
    (kr : ∀ (v : Option Value) (h' : g_H), P'.2 (.inr v) h' → g_Go E X P h' (P'.1 && z) (cs + mc) (ss + ms) pn L (v.toList ++ rest)) (kt : ∀ (k : Nat) (h' : g_H), P'.2 (.inl k) h' → g_Th E X P h' (cs + mc) (ss + ms) pc L k) : g_Go E X P h z cs ss pc L (a1 :: rest) :=
  g_callS (as := [a1]) hX hct hdg hk.1 hk.2.1 hk.2.2.1 hk.2.2.2.1 hk.2.2.2.2 hrm.1 hrm.2 hc hs hW hmc pn hpn kr kt
theorem g_cS1r (hX : g_ok E X M) {a1 : Value} {v : Value} (hct : g_Rd X.l M' fr lo [a1] E h (some v)) (hdg : decode M.cc pc = .ok (.invokestatic index, 3)) (hk : g_kS M.y.cls index M' 1) (hrm : g_rm X fr lo M'.nl wt) (hc : cs ≤ X.R.cells) (hs : ss ≤ X.R.slots) (hW : (rest.map fun v => v.category).sum ≤ wt) (pn : Nat) (hpn : pc + 3 = pn)
    (kr : g_Go E X P h z cs ss pn L (v :: rest)) : g_Go E X P h z cs ss pc L (a1 :: rest) :=
  g_cS1 (mc := 0) (ms := 0) hX hct hdg hk hrm hc hs hW (fun _ => ⟨rfl, rfl⟩) pn hpn (fun v' h' q => by
    obtain ⟨q1, q2⟩ := q
    cases q1
    subst q2
    exact kr) (fun k h' q => by cases q.1)
theorem g_cS1v (hX : g_ok E X M) {a1 : Value} (hct : g_Rd X.l M' fr lo [a1] E h none) (hdg : decode M.cc pc = .ok (.invokestatic index, 3)) (hk : g_kS M.y.cls index M' 1) (hrm : g_rm X fr lo M'.nl wt) (hc : cs ≤ X.R.cells) (hs : ss ≤ X.R.slots) (hW : (rest.map fun v => v.category).sum ≤ wt) (pn : Nat) (hpn : pc + 3 = pn)
    (kr : g_Go E X P h z cs ss pn L (rest)) : g_Go E X P h z cs ss pc L (a1 :: rest) :=
  g_cS1 (mc := 0) (ms := 0) hX hct hdg hk hrm hc hs hW (fun _ => ⟨rfl, rfl⟩) pn hpn (fun v' h' q => by
    obtain ⟨q1, q2⟩ := q
    cases q1
    subst q2
    exact kr) (fun k h' q => by cases q.1)
theorem g_cV1 (hX : g_ok E X M) {a1 : Value} {b ci : Nat} {fs : List Value} (hct : g_Ct X.l M' fr lo mc ms (.ref b :: [a1]) E h P') (hdg : decode M.cc pc = .ok (.invokevirtual index, 3)) (hb : h b = some (.inr (ci, fs))) (hk : g_kV M.y.cls index M' 1 ci) (hrm : g_rm X fr lo M'.nl wt) (hc : cs + mc ≤ X.R.cells) (hs : ss + ms ≤ X.R.slots) (hW : (rest.map fun v => v.category).sum ≤ wt) (hmc : P'.1 = true → mc = 0 ∧ ms = 0) (pn : Nat) (hpn : pc + 3 = pn)
    (kr : ∀ (v : Option Value) (h' : g_H), P'.2 (.inr v) h' → g_Go E X P h' (P'.1 && z) (cs + mc) (ss + ms) pn L (v.toList ++ rest)) (kt : ∀ (k : Nat) (h' : g_H), P'.2 (.inl k) h' → g_Th E X P h' (cs + mc) (ss + ms) pc L k) : g_Go E X P h z cs ss pc L (a1 :: .ref b :: rest) :=
  by
  obtain ⟨C, T0, N, k1, k2, k3, k4, k5, k6, k7⟩ := hk
  exact g_callV (as := [a1]) hX hct hdg hb k1 k2 k3 k4 k5 k6 k7 hrm.1 hrm.2 hc hs hW hmc pn hpn kr kt
theorem g_cV1r (hX : g_ok E X M) {a1 : Value} {b ci : Nat} {fs : List Value} {v : Value} (hct : g_Rd X.l M' fr lo (.ref b :: [a1]) E h (some v)) (hdg : decode M.cc pc = .ok (.invokevirtual index, 3)) (hb : h b = some (.inr (ci, fs))) (hk : g_kV M.y.cls index M' 1 ci) (hrm : g_rm X fr lo M'.nl wt) (hc : cs ≤ X.R.cells) (hs : ss ≤ X.R.slots) (hW : (rest.map fun v => v.category).sum ≤ wt) (pn : Nat) (hpn : pc + 3 = pn)
    (kr : g_Go E X P h z cs ss pn L (v :: rest)) : g_Go E X P h z cs ss pc L (a1 :: .ref b :: rest) :=
  g_cV1 (mc := 0) (ms := 0) hX hct hdg hb hk hrm hc hs hW (fun _ => ⟨rfl, rfl⟩) pn hpn (fun v' h' q => by
    obtain ⟨q1, q2⟩ := q
    cases q1
    subst q2
    exact kr) (fun k h' q => by cases q.1)
theorem g_cV1v (hX : g_ok E X M) {a1 : Value} {b ci : Nat} {fs : List Value} (hct : g_Rd X.l M' fr lo (.ref b :: [a1]) E h none) (hdg : decode M.cc pc = .ok (.invokevirtual index, 3)) (hb : h b = some (.inr (ci, fs))) (hk : g_kV M.y.cls index M' 1 ci) (hrm : g_rm X fr lo M'.nl wt) (hc : cs ≤ X.R.cells) (hs : ss ≤ X.R.slots) (hW : (rest.map fun v => v.category).sum ≤ wt) (pn : Nat) (hpn : pc + 3 = pn)
    (kr : g_Go E X P h z cs ss pn L (rest)) : g_Go E X P h z cs ss pc L (a1 :: .ref b :: rest) :=
  g_cV1 (mc := 0) (ms := 0) hX hct hdg hb hk hrm hc hs hW (fun _ => ⟨rfl, rfl⟩) pn hpn (fun v' h' q => by
    obtain ⟨q1, q2⟩ := q
    cases q1
    subst q2
    exact kr) (fun k h' q => by cases q.1)
theorem g_cI1 (hX : g_ok E X M) {a1 : Value} {b : Nat} (hct : g_Ct X.l M' fr lo mc ms (.ref b :: [a1]) E h P') (hdg : decode M.cc pc = .ok (.invokespecial index, 3)) (hk : g_kI M.y.cls index M' 1) (hrm : g_rm X fr lo M'.nl wt) (hc : cs + mc ≤ X.R.cells) (hs : ss + ms ≤ X.R.slots) (hW : (rest.map fun v => v.category).sum ≤ wt) (hmc : P'.1 = true → mc = 0 ∧ ms = 0) (pn : Nat) (hpn : pc + 3 = pn)
    (kr : ∀ (v : Option Value) (h' : g_H), P'.2 (.inr v) h' → g_Go E X P h' (P'.1 && z) (cs + mc) (ss + ms) pn L (v.toList ++ rest)) (kt : ∀ (k : Nat) (h' : g_H), P'.2 (.inl k) h' → g_Th E X P h' (cs + mc) (ss + ms) pc L k) : g_Go E X P h z cs ss pc L (a1 :: .ref b :: rest) :=
  g_callI (as := [a1]) hX hk.1.1 hk.1.2.1 hk.1.2.2 hct hdg hk.2.1 hk.2.2.1 hk.2.2.2.1 hk.2.2.2.2.1 hk.2.2.2.2.2 hrm.1 hrm.2 hc hs hW hmc pn hpn kr kt
theorem g_cI1r (hX : g_ok E X M) {a1 : Value} {b : Nat} {v : Value} (hct : g_Rd X.l M' fr lo (.ref b :: [a1]) E h (some v)) (hdg : decode M.cc pc = .ok (.invokespecial index, 3)) (hk : g_kI M.y.cls index M' 1) (hrm : g_rm X fr lo M'.nl wt) (hc : cs ≤ X.R.cells) (hs : ss ≤ X.R.slots) (hW : (rest.map fun v => v.category).sum ≤ wt) (pn : Nat) (hpn : pc + 3 = pn)
    (kr : g_Go E X P h z cs ss pn L (v :: rest)) : g_Go E X P h z cs ss pc L (a1 :: .ref b :: rest) :=
  g_cI1 (mc := 0) (ms := 0) hX hct hdg hk hrm hc hs hW (fun _ => ⟨rfl, rfl⟩) pn hpn (fun v' h' q => by
    obtain ⟨q1, q2⟩ := q
    cases q1
    subst q2
    exact kr) (fun k h' q => by cases q.1)
theorem g_cI1v (hX : g_ok E X M) {a1 : Value} {b : Nat} (hct : g_Rd X.l M' fr lo (.ref b :: [a1]) E h none) (hdg : decode M.cc pc = .ok (.invokespecial index, 3)) (hk : g_kI M.y.cls index M' 1) (hrm : g_rm X fr lo M'.nl wt) (hc : cs ≤ X.R.cells) (hs : ss ≤ X.R.slots) (hW : (rest.map fun v => v.category).sum ≤ wt) (pn : Nat) (hpn : pc + 3 = pn)
    (kr : g_Go E X P h z cs ss pn L (rest)) : g_Go E X P h z cs ss pc L (a1 :: .ref b :: rest) :=
  g_cI1 (mc := 0) (ms := 0) hX hct hdg hk hrm hc hs hW (fun _ => ⟨rfl, rfl⟩) pn hpn (fun v' h' q => by
    obtain ⟨q1, q2⟩ := q
    cases q1
    subst q2
    exact kr) (fun k h' q => by cases q.1)
theorem g_cF1 (hX : g_ok E X M) {a1 : Value} {b ci count : Nat} {x : MethodName} {fs : List Value} (hct : g_Ct X.l M' fr lo mc ms (.ref b :: [a1]) E h P') (hdg : decode M.cc pc = .ok (.invokeinterface index count, 5)) (hb : h b = some (.inr (ci, fs))) (hk : g_kF M.y.cls index x M' 1 ci) (hrm : g_rm X fr lo M'.nl wt) (hc : cs + mc ≤ X.R.cells) (hs : ss + ms ≤ X.R.slots) (hW : (rest.map fun v => v.category).sum ≤ wt) (hmc : P'.1 = true → mc = 0 ∧ ms = 0) (pn : Nat) (hpn : pc + 5 = pn)
    (kr : ∀ (v : Option Value) (h' : g_H), P'.2 (.inr v) h' → g_Go E X P h' (P'.1 && z) (cs + mc) (ss + ms) pn L (v.toList ++ rest)) (kt : ∀ (k : Nat) (h' : g_H), P'.2 (.inl k) h' → g_Th E X P h' (cs + mc) (ss + ms) pc L k) : g_Go E X P h z cs ss pc L (a1 :: .ref b :: rest) :=
  by
  obtain ⟨C, T0, N, k1, k2, k3, k4, k5, k6⟩ := hk
  exact g_callF (as := [a1]) hX hct hdg hb k1 k2 k3 k4 k5 k6 hrm.1 hrm.2 hc hs hW hmc pn hpn kr kt
theorem g_cF1r (hX : g_ok E X M) {a1 : Value} {b ci count : Nat} {x : MethodName} {fs : List Value} {v : Value} (hct : g_Rd X.l M' fr lo (.ref b :: [a1]) E h (some v)) (hdg : decode M.cc pc = .ok (.invokeinterface index count, 5)) (hb : h b = some (.inr (ci, fs))) (hk : g_kF M.y.cls index x M' 1 ci) (hrm : g_rm X fr lo M'.nl wt) (hc : cs ≤ X.R.cells) (hs : ss ≤ X.R.slots) (hW : (rest.map fun v => v.category).sum ≤ wt) (pn : Nat) (hpn : pc + 5 = pn)
    (kr : g_Go E X P h z cs ss pn L (v :: rest)) : g_Go E X P h z cs ss pc L (a1 :: .ref b :: rest) :=
  g_cF1 (mc := 0) (ms := 0) hX hct hdg hb hk hrm hc hs hW (fun _ => ⟨rfl, rfl⟩) pn hpn (fun v' h' q => by
    obtain ⟨q1, q2⟩ := q
    cases q1
    subst q2
    exact kr) (fun k h' q => by cases q.1)
theorem g_cF1v (hX : g_ok E X M) {a1 : Value} {b ci count : Nat} {x : MethodName} {fs : List Value} (hct : g_Rd X.l M' fr lo (.ref b :: [a1]) E h none) (hdg : decode M.cc pc = .ok (.invokeinterface index count, 5)) (hb : h b = some (.inr (ci, fs))) (hk : g_kF M.y.cls index x M' 1 ci) (hrm : g_rm X fr lo M'.nl wt) (hc : cs ≤ X.R.cells) (hs : ss ≤ X.R.slots) (hW : (rest.map fun v => v.category).sum ≤ wt) (pn : Nat) (hpn : pc + 5 = pn)
    (kr : g_Go E X P h z cs ss pn L (rest)) : g_Go E X P h z cs ss pc L (a1 :: .ref b :: rest) :=
  g_cF1 (mc := 0) (ms := 0) hX hct hdg hb hk hrm hc hs hW (fun _ => ⟨rfl, rfl⟩) pn hpn (fun v' h' q => by
    obtain ⟨q1, q2⟩ := q
    cases q1
    subst q2
    exact kr) (fun k h' q => by cases q.1)
theorem g_cS2 (hX : g_ok E X M) {a1 a2 : Value} (hct : g_Ct X.l M' fr lo mc ms [a1, a2] E h P') (hdg : decode M.cc pc = .ok (.invokestatic index, 3)) (hk : g_kS M.y.cls index M' 2) (hrm : g_rm X fr lo M'.nl wt) (hc : cs + mc ≤ X.R.cells) (hs : ss + ms ≤ X.R.slots) (hW : (rest.map fun v => v.category).sum ≤ wt) (hmc : P'.1 = true → mc = 0 ∧ ms = 0) (pn : Nat) (hpn : pc + 3 = pn)
    (kr : ∀ (v : Option Value) (h' : g_H), P'.2 (.inr v) h' → g_Go E X P h' (P'.1 && z) (cs + mc) (ss + ms) pn L (v.toList ++ rest)) (kt : ∀ (k : Nat) (h' : g_H), P'.2 (.inl k) h' → g_Th E X P h' (cs + mc) (ss + ms) pc L k) : g_Go E X P h z cs ss pc L (a2 :: a1 :: rest) :=
  g_callS (as := [a1, a2]) hX hct hdg hk.1 hk.2.1 hk.2.2.1 hk.2.2.2.1 hk.2.2.2.2 hrm.1 hrm.2 hc hs hW hmc pn hpn kr kt
theorem g_cS2r (hX : g_ok E X M) {a1 a2 : Value} {v : Value} (hct : g_Rd X.l M' fr lo [a1, a2] E h (some v)) (hdg : decode M.cc pc = .ok (.invokestatic index, 3)) (hk : g_kS M.y.cls index M' 2) (hrm : g_rm X fr lo M'.nl wt) (hc : cs ≤ X.R.cells) (hs : ss ≤ X.R.slots) (hW : (rest.map fun v => v.category).sum ≤ wt) (pn : Nat) (hpn : pc + 3 = pn)
    (kr : g_Go E X P h z cs ss pn L (v :: rest)) : g_Go E X P h z cs ss pc L (a2 :: a1 :: rest) :=
  g_cS2 (mc := 0) (ms := 0) hX hct hdg hk hrm hc hs hW (fun _ => ⟨rfl, rfl⟩) pn hpn (fun v' h' q => by
    obtain ⟨q1, q2⟩ := q
    cases q1
    subst q2
    exact kr) (fun k h' q => by cases q.1)
theorem g_cS2v (hX : g_ok E X M) {a1 a2 : Value} (hct : g_Rd X.l M' fr lo [a1, a2] E h none) (hdg : decode M.cc pc = .ok (.invokestatic index, 3)) (hk : g_kS M.y.cls index M' 2) (hrm : g_rm X fr lo M'.nl wt) (hc : cs ≤ X.R.cells) (hs : ss ≤ X.R.slots) (hW : (rest.map fun v => v.category).sum ≤ wt) (pn : Nat) (hpn : pc + 3 = pn)
    (kr : g_Go E X P h z cs ss pn L (rest)) : g_Go E X P h z cs ss pc L (a2 :: a1 :: rest) :=
  g_cS2 (mc := 0) (ms := 0) hX hct hdg hk hrm hc hs hW (fun _ => ⟨rfl, rfl⟩) pn hpn (fun v' h' q => by
    obtain ⟨q1, q2⟩ := q
    cases q1
    subst q2
    exact kr) (fun k h' q => by cases q.1)
theorem g_cV2 (hX : g_ok E X M) {a1 a2 : Value} {b ci : Nat} {fs : List Value} (hct : g_Ct X.l M' fr lo mc ms (.ref b :: [a1, a2]) E h P') (hdg : decode M.cc pc = .ok (.invokevirtual index, 3)) (hb : h b = some (.inr (ci, fs))) (hk : g_kV M.y.cls index M' 2 ci) (hrm : g_rm X fr lo M'.nl wt) (hc : cs + mc ≤ X.R.cells) (hs : ss + ms ≤ X.R.slots) (hW : (rest.map fun v => v.category).sum ≤ wt) (hmc : P'.1 = true → mc = 0 ∧ ms = 0) (pn : Nat) (hpn : pc + 3 = pn)
    (kr : ∀ (v : Option Value) (h' : g_H), P'.2 (.inr v) h' → g_Go E X P h' (P'.1 && z) (cs + mc) (ss + ms) pn L (v.toList ++ rest)) (kt : ∀ (k : Nat) (h' : g_H), P'.2 (.inl k) h' → g_Th E X P h' (cs + mc) (ss + ms) pc L k) : g_Go E X P h z cs ss pc L (a2 :: a1 :: .ref b :: rest) :=
  by
  obtain ⟨C, T0, N, k1, k2, k3, k4, k5, k6, k7⟩ := hk
  exact g_callV (as := [a1, a2]) hX hct hdg hb k1 k2 k3 k4 k5 k6 k7 hrm.1 hrm.2 hc hs hW hmc pn hpn kr kt
theorem g_cV2r (hX : g_ok E X M) {a1 a2 : Value} {b ci : Nat} {fs : List Value} {v : Value} (hct : g_Rd X.l M' fr lo (.ref b :: [a1, a2]) E h (some v)) (hdg : decode M.cc pc = .ok (.invokevirtual index, 3)) (hb : h b = some (.inr (ci, fs))) (hk : g_kV M.y.cls index M' 2 ci) (hrm : g_rm X fr lo M'.nl wt) (hc : cs ≤ X.R.cells) (hs : ss ≤ X.R.slots) (hW : (rest.map fun v => v.category).sum ≤ wt) (pn : Nat) (hpn : pc + 3 = pn)
    (kr : g_Go E X P h z cs ss pn L (v :: rest)) : g_Go E X P h z cs ss pc L (a2 :: a1 :: .ref b :: rest) :=
  g_cV2 (mc := 0) (ms := 0) hX hct hdg hb hk hrm hc hs hW (fun _ => ⟨rfl, rfl⟩) pn hpn (fun v' h' q => by
    obtain ⟨q1, q2⟩ := q
    cases q1
    subst q2
    exact kr) (fun k h' q => by cases q.1)
theorem g_cV2v (hX : g_ok E X M) {a1 a2 : Value} {b ci : Nat} {fs : List Value} (hct : g_Rd X.l M' fr lo (.ref b :: [a1, a2]) E h none) (hdg : decode M.cc pc = .ok (.invokevirtual index, 3)) (hb : h b = some (.inr (ci, fs))) (hk : g_kV M.y.cls index M' 2 ci) (hrm : g_rm X fr lo M'.nl wt) (hc : cs ≤ X.R.cells) (hs : ss ≤ X.R.slots) (hW : (rest.map fun v => v.category).sum ≤ wt) (pn : Nat) (hpn : pc + 3 = pn)
    (kr : g_Go E X P h z cs ss pn L (rest)) : g_Go E X P h z cs ss pc L (a2 :: a1 :: .ref b :: rest) :=
  g_cV2 (mc := 0) (ms := 0) hX hct hdg hb hk hrm hc hs hW (fun _ => ⟨rfl, rfl⟩) pn hpn (fun v' h' q => by
    obtain ⟨q1, q2⟩ := q
    cases q1
    subst q2
    exact kr) (fun k h' q => by cases q.1)
theorem g_cI2 (hX : g_ok E X M) {a1 a2 : Value} {b : Nat} (hct : g_Ct X.l M' fr lo mc ms (.ref b :: [a1, a2]) E h P') (hdg : decode M.cc pc = .ok (.invokespecial index, 3)) (hk : g_kI M.y.cls index M' 2) (hrm : g_rm X fr lo M'.nl wt) (hc : cs + mc ≤ X.R.cells) (hs : ss + ms ≤ X.R.slots) (hW : (rest.map fun v => v.category).sum ≤ wt) (hmc : P'.1 = true → mc = 0 ∧ ms = 0) (pn : Nat) (hpn : pc + 3 = pn)
    (kr : ∀ (v : Option Value) (h' : g_H), P'.2 (.inr v) h' → g_Go E X P h' (P'.1 && z) (cs + mc) (ss + ms) pn L (v.toList ++ rest)) (kt : ∀ (k : Nat) (h' : g_H), P'.2 (.inl k) h' → g_Th E X P h' (cs + mc) (ss + ms) pc L k) : g_Go E X P h z cs ss pc L (a2 :: a1 :: .ref b :: rest) :=
  g_callI (as := [a1, a2]) hX hk.1.1 hk.1.2.1 hk.1.2.2 hct hdg hk.2.1 hk.2.2.1 hk.2.2.2.1 hk.2.2.2.2.1 hk.2.2.2.2.2 hrm.1 hrm.2 hc hs hW hmc pn hpn kr kt
theorem g_cI2r (hX : g_ok E X M) {a1 a2 : Value} {b : Nat} {v : Value} (hct : g_Rd X.l M' fr lo (.ref b :: [a1, a2]) E h (some v)) (hdg : decode M.cc pc = .ok (.invokespecial index, 3)) (hk : g_kI M.y.cls index M' 2) (hrm : g_rm X fr lo M'.nl wt) (hc : cs ≤ X.R.cells) (hs : ss ≤ X.R.slots) (hW : (rest.map fun v => v.category).sum ≤ wt) (pn : Nat) (hpn : pc + 3 = pn)
    (kr : g_Go E X P h z cs ss pn L (v :: rest)) : g_Go E X P h z cs ss pc L (a2 :: a1 :: .ref b :: rest) :=
  g_cI2 (mc := 0) (ms := 0) hX hct hdg hk hrm hc hs hW (fun _ => ⟨rfl, rfl⟩) pn hpn (fun v' h' q => by
    obtain ⟨q1, q2⟩ := q
    cases q1
    subst q2
    exact kr) (fun k h' q => by cases q.1)
theorem g_cI2v (hX : g_ok E X M) {a1 a2 : Value} {b : Nat} (hct : g_Rd X.l M' fr lo (.ref b :: [a1, a2]) E h none) (hdg : decode M.cc pc = .ok (.invokespecial index, 3)) (hk : g_kI M.y.cls index M' 2) (hrm : g_rm X fr lo M'.nl wt) (hc : cs ≤ X.R.cells) (hs : ss ≤ X.R.slots) (hW : (rest.map fun v => v.category).sum ≤ wt) (pn : Nat) (hpn : pc + 3 = pn)
    (kr : g_Go E X P h z cs ss pn L (rest)) : g_Go E X P h z cs ss pc L (a2 :: a1 :: .ref b :: rest) :=
  g_cI2 (mc := 0) (ms := 0) hX hct hdg hk hrm hc hs hW (fun _ => ⟨rfl, rfl⟩) pn hpn (fun v' h' q => by
    obtain ⟨q1, q2⟩ := q
    cases q1
    subst q2
    exact kr) (fun k h' q => by cases q.1)
theorem g_cF2 (hX : g_ok E X M) {a1 a2 : Value} {b ci count : Nat} {x : MethodName} {fs : List Value} (hct : g_Ct X.l M' fr lo mc ms (.ref b :: [a1, a2]) E h P') (hdg : decode M.cc pc = .ok (.invokeinterface index count, 5)) (hb : h b = some (.inr (ci, fs))) (hk : g_kF M.y.cls index x M' 2 ci) (hrm : g_rm X fr lo M'.nl wt) (hc : cs + mc ≤ X.R.cells) (hs : ss + ms ≤ X.R.slots) (hW : (rest.map fun v => v.category).sum ≤ wt) (hmc : P'.1 = true → mc = 0 ∧ ms = 0) (pn : Nat) (hpn : pc + 5 = pn)
    (kr : ∀ (v : Option Value) (h' : g_H), P'.2 (.inr v) h' → g_Go E X P h' (P'.1 && z) (cs + mc) (ss + ms) pn L (v.toList ++ rest)) (kt : ∀ (k : Nat) (h' : g_H), P'.2 (.inl k) h' → g_Th E X P h' (cs + mc) (ss + ms) pc L k) : g_Go E X P h z cs ss pc L (a2 :: a1 :: .ref b :: rest) :=
  by
  obtain ⟨C, T0, N, k1, k2, k3, k4, k5, k6⟩ := hk
  exact g_callF (as := [a1, a2]) hX hct hdg hb k1 k2 k3 k4 k5 k6 hrm.1 hrm.2 hc hs hW hmc pn hpn kr kt
theorem g_cF2r (hX : g_ok E X M) {a1 a2 : Value} {b ci count : Nat} {x : MethodName} {fs : List Value} {v : Value} (hct : g_Rd X.l M' fr lo (.ref b :: [a1, a2]) E h (some v)) (hdg : decode M.cc pc = .ok (.invokeinterface index count, 5)) (hb : h b = some (.inr (ci, fs))) (hk : g_kF M.y.cls index x M' 2 ci) (hrm : g_rm X fr lo M'.nl wt) (hc : cs ≤ X.R.cells) (hs : ss ≤ X.R.slots) (hW : (rest.map fun v => v.category).sum ≤ wt) (pn : Nat) (hpn : pc + 5 = pn)
    (kr : g_Go E X P h z cs ss pn L (v :: rest)) : g_Go E X P h z cs ss pc L (a2 :: a1 :: .ref b :: rest) :=
  g_cF2 (mc := 0) (ms := 0) hX hct hdg hb hk hrm hc hs hW (fun _ => ⟨rfl, rfl⟩) pn hpn (fun v' h' q => by
    obtain ⟨q1, q2⟩ := q
    cases q1
    subst q2
    exact kr) (fun k h' q => by cases q.1)
theorem g_cF2v (hX : g_ok E X M) {a1 a2 : Value} {b ci count : Nat} {x : MethodName} {fs : List Value} (hct : g_Rd X.l M' fr lo (.ref b :: [a1, a2]) E h none) (hdg : decode M.cc pc = .ok (.invokeinterface index count, 5)) (hb : h b = some (.inr (ci, fs))) (hk : g_kF M.y.cls index x M' 2 ci) (hrm : g_rm X fr lo M'.nl wt) (hc : cs ≤ X.R.cells) (hs : ss ≤ X.R.slots) (hW : (rest.map fun v => v.category).sum ≤ wt) (pn : Nat) (hpn : pc + 5 = pn)
    (kr : g_Go E X P h z cs ss pn L (rest)) : g_Go E X P h z cs ss pc L (a2 :: a1 :: .ref b :: rest) :=
  g_cF2 (mc := 0) (ms := 0) hX hct hdg hb hk hrm hc hs hW (fun _ => ⟨rfl, rfl⟩) pn hpn (fun v' h' q => by
    obtain ⟨q1, q2⟩ := q
    cases q1
    subst q2
    exact kr) (fun k h' q => by cases q.1)
theorem g_cS3 (hX : g_ok E X M) {a1 a2 a3 : Value} (hct : g_Ct X.l M' fr lo mc ms [a1, a2, a3] E h P') (hdg : decode M.cc pc = .ok (.invokestatic index, 3)) (hk : g_kS M.y.cls index M' 3) (hrm : g_rm X fr lo M'.nl wt) (hc : cs + mc ≤ X.R.cells) (hs : ss + ms ≤ X.R.slots) (hW : (rest.map fun v => v.category).sum ≤ wt) (hmc : P'.1 = true → mc = 0 ∧ ms = 0) (pn : Nat) (hpn : pc + 3 = pn)
    (kr : ∀ (v : Option Value) (h' : g_H), P'.2 (.inr v) h' → g_Go E X P h' (P'.1 && z) (cs + mc) (ss + ms) pn L (v.toList ++ rest)) (kt : ∀ (k : Nat) (h' : g_H), P'.2 (.inl k) h' → g_Th E X P h' (cs + mc) (ss + ms) pc L k) : g_Go E X P h z cs ss pc L (a3 :: a2 :: a1 :: rest) :=
  g_callS (as := [a1, a2, a3]) hX hct hdg hk.1 hk.2.1 hk.2.2.1 hk.2.2.2.1 hk.2.2.2.2 hrm.1 hrm.2 hc hs hW hmc pn hpn kr kt
theorem g_cS3r (hX : g_ok E X M) {a1 a2 a3 : Value} {v : Value} (hct : g_Rd X.l M' fr lo [a1, a2, a3] E h (some v)) (hdg : decode M.cc pc = .ok (.invokestatic index, 3)) (hk : g_kS M.y.cls index M' 3) (hrm : g_rm X fr lo M'.nl wt) (hc : cs ≤ X.R.cells) (hs : ss ≤ X.R.slots) (hW : (rest.map fun v => v.category).sum ≤ wt) (pn : Nat) (hpn : pc + 3 = pn)
    (kr : g_Go E X P h z cs ss pn L (v :: rest)) : g_Go E X P h z cs ss pc L (a3 :: a2 :: a1 :: rest) :=
  g_cS3 (mc := 0) (ms := 0) hX hct hdg hk hrm hc hs hW (fun _ => ⟨rfl, rfl⟩) pn hpn (fun v' h' q => by
    obtain ⟨q1, q2⟩ := q
    cases q1
    subst q2
    exact kr) (fun k h' q => by cases q.1)
theorem g_cS3v (hX : g_ok E X M) {a1 a2 a3 : Value} (hct : g_Rd X.l M' fr lo [a1, a2, a3] E h none) (hdg : decode M.cc pc = .ok (.invokestatic index, 3)) (hk : g_kS M.y.cls index M' 3) (hrm : g_rm X fr lo M'.nl wt) (hc : cs ≤ X.R.cells) (hs : ss ≤ X.R.slots) (hW : (rest.map fun v => v.category).sum ≤ wt) (pn : Nat) (hpn : pc + 3 = pn)
    (kr : g_Go E X P h z cs ss pn L (rest)) : g_Go E X P h z cs ss pc L (a3 :: a2 :: a1 :: rest) :=
  g_cS3 (mc := 0) (ms := 0) hX hct hdg hk hrm hc hs hW (fun _ => ⟨rfl, rfl⟩) pn hpn (fun v' h' q => by
    obtain ⟨q1, q2⟩ := q
    cases q1
    subst q2
    exact kr) (fun k h' q => by cases q.1)
theorem g_cV3 (hX : g_ok E X M) {a1 a2 a3 : Value} {b ci : Nat} {fs : List Value} (hct : g_Ct X.l M' fr lo mc ms (.ref b :: [a1, a2, a3]) E h P') (hdg : decode M.cc pc = .ok (.invokevirtual index, 3)) (hb : h b = some (.inr (ci, fs))) (hk : g_kV M.y.cls index M' 3 ci) (hrm : g_rm X fr lo M'.nl wt) (hc : cs + mc ≤ X.R.cells) (hs : ss + ms ≤ X.R.slots) (hW : (rest.map fun v => v.category).sum ≤ wt) (hmc : P'.1 = true → mc = 0 ∧ ms = 0) (pn : Nat) (hpn : pc + 3 = pn)
    (kr : ∀ (v : Option Value) (h' : g_H), P'.2 (.inr v) h' → g_Go E X P h' (P'.1 && z) (cs + mc) (ss + ms) pn L (v.toList ++ rest)) (kt : ∀ (k : Nat) (h' : g_H), P'.2 (.inl k) h' → g_Th E X P h' (cs + mc) (ss + ms) pc L k) : g_Go E X P h z cs ss pc L (a3 :: a2 :: a1 :: .ref b :: rest) :=
  by
  obtain ⟨C, T0, N, k1, k2, k3, k4, k5, k6, k7⟩ := hk
  exact g_callV (as := [a1, a2, a3]) hX hct hdg hb k1 k2 k3 k4 k5 k6 k7 hrm.1 hrm.2 hc hs hW hmc pn hpn kr kt
theorem g_cV3r (hX : g_ok E X M) {a1 a2 a3 : Value} {b ci : Nat} {fs : List Value} {v : Value} (hct : g_Rd X.l M' fr lo (.ref b :: [a1, a2, a3]) E h (some v)) (hdg : decode M.cc pc = .ok (.invokevirtual index, 3)) (hb : h b = some (.inr (ci, fs))) (hk : g_kV M.y.cls index M' 3 ci) (hrm : g_rm X fr lo M'.nl wt) (hc : cs ≤ X.R.cells) (hs : ss ≤ X.R.slots) (hW : (rest.map fun v => v.category).sum ≤ wt) (pn : Nat) (hpn : pc + 3 = pn)
    (kr : g_Go E X P h z cs ss pn L (v :: rest)) : g_Go E X P h z cs ss pc L (a3 :: a2 :: a1 :: .ref b :: rest) :=
  g_cV3 (mc := 0) (ms := 0) hX hct hdg hb hk hrm hc hs hW (fun _ => ⟨rfl, rfl⟩) pn hpn (fun v' h' q => by
    obtain ⟨q1, q2⟩ := q
    cases q1
    subst q2
    exact kr) (fun k h' q => by cases q.1)
theorem g_cV3v (hX : g_ok E X M) {a1 a2 a3 : Value} {b ci : Nat} {fs : List Value} (hct : g_Rd X.l M' fr lo (.ref b :: [a1, a2, a3]) E h none) (hdg : decode M.cc pc = .ok (.invokevirtual index, 3)) (hb : h b = some (.inr (ci, fs))) (hk : g_kV M.y.cls index M' 3 ci) (hrm : g_rm X fr lo M'.nl wt) (hc : cs ≤ X.R.cells) (hs : ss ≤ X.R.slots) (hW : (rest.map fun v => v.category).sum ≤ wt) (pn : Nat) (hpn : pc + 3 = pn)
    (kr : g_Go E X P h z cs ss pn L (rest)) : g_Go E X P h z cs ss pc L (a3 :: a2 :: a1 :: .ref b :: rest) :=
  g_cV3 (mc := 0) (ms := 0) hX hct hdg hb hk hrm hc hs hW (fun _ => ⟨rfl, rfl⟩) pn hpn (fun v' h' q => by
    obtain ⟨q1, q2⟩ := q
    cases q1
    subst q2
    exact kr) (fun k h' q => by cases q.1)
theorem g_cI3 (hX : g_ok E X M) {a1 a2 a3 : Value} {b : Nat} (hct : g_Ct X.l M' fr lo mc ms (.ref b :: [a1, a2, a3]) E h P') (hdg : decode M.cc pc = .ok (.invokespecial index, 3)) (hk : g_kI M.y.cls index M' 3) (hrm : g_rm X fr lo M'.nl wt) (hc : cs + mc ≤ X.R.cells) (hs : ss + ms ≤ X.R.slots) (hW : (rest.map fun v => v.category).sum ≤ wt) (hmc : P'.1 = true → mc = 0 ∧ ms = 0) (pn : Nat) (hpn : pc + 3 = pn)
    (kr : ∀ (v : Option Value) (h' : g_H), P'.2 (.inr v) h' → g_Go E X P h' (P'.1 && z) (cs + mc) (ss + ms) pn L (v.toList ++ rest)) (kt : ∀ (k : Nat) (h' : g_H), P'.2 (.inl k) h' → g_Th E X P h' (cs + mc) (ss + ms) pc L k) : g_Go E X P h z cs ss pc L (a3 :: a2 :: a1 :: .ref b :: rest) :=
  g_callI (as := [a1, a2, a3]) hX hk.1.1 hk.1.2.1 hk.1.2.2 hct hdg hk.2.1 hk.2.2.1 hk.2.2.2.1 hk.2.2.2.2.1 hk.2.2.2.2.2 hrm.1 hrm.2 hc hs hW hmc pn hpn kr kt
theorem g_cI3r (hX : g_ok E X M) {a1 a2 a3 : Value} {b : Nat} {v : Value} (hct : g_Rd X.l M' fr lo (.ref b :: [a1, a2, a3]) E h (some v)) (hdg : decode M.cc pc = .ok (.invokespecial index, 3)) (hk : g_kI M.y.cls index M' 3) (hrm : g_rm X fr lo M'.nl wt) (hc : cs ≤ X.R.cells) (hs : ss ≤ X.R.slots) (hW : (rest.map fun v => v.category).sum ≤ wt) (pn : Nat) (hpn : pc + 3 = pn)
    (kr : g_Go E X P h z cs ss pn L (v :: rest)) : g_Go E X P h z cs ss pc L (a3 :: a2 :: a1 :: .ref b :: rest) :=
  g_cI3 (mc := 0) (ms := 0) hX hct hdg hk hrm hc hs hW (fun _ => ⟨rfl, rfl⟩) pn hpn (fun v' h' q => by
    obtain ⟨q1, q2⟩ := q
    cases q1
    subst q2
    exact kr) (fun k h' q => by cases q.1)
theorem g_cI3v (hX : g_ok E X M) {a1 a2 a3 : Value} {b : Nat} (hct : g_Rd X.l M' fr lo (.ref b :: [a1, a2, a3]) E h none) (hdg : decode M.cc pc = .ok (.invokespecial index, 3)) (hk : g_kI M.y.cls index M' 3) (hrm : g_rm X fr lo M'.nl wt) (hc : cs ≤ X.R.cells) (hs : ss ≤ X.R.slots) (hW : (rest.map fun v => v.category).sum ≤ wt) (pn : Nat) (hpn : pc + 3 = pn)
    (kr : g_Go E X P h z cs ss pn L (rest)) : g_Go E X P h z cs ss pc L (a3 :: a2 :: a1 :: .ref b :: rest) :=
  g_cI3 (mc := 0) (ms := 0) hX hct hdg hk hrm hc hs hW (fun _ => ⟨rfl, rfl⟩) pn hpn (fun v' h' q => by
    obtain ⟨q1, q2⟩ := q
    cases q1
    subst q2
    exact kr) (fun k h' q => by cases q.1)
theorem g_cS4 (hX : g_ok E X M) {a1 a2 a3 a4 : Value} (hct : g_Ct X.l M' fr lo mc ms [a1, a2, a3, a4] E h P') (hdg : decode M.cc pc = .ok (.invokestatic index, 3)) (hk : g_kS M.y.cls index M' 4) (hrm : g_rm X fr lo M'.nl wt) (hc : cs + mc ≤ X.R.cells) (hs : ss + ms ≤ X.R.slots) (hW : (rest.map fun v => v.category).sum ≤ wt) (hmc : P'.1 = true → mc = 0 ∧ ms = 0) (pn : Nat) (hpn : pc + 3 = pn)
    (kr : ∀ (v : Option Value) (h' : g_H), P'.2 (.inr v) h' → g_Go E X P h' (P'.1 && z) (cs + mc) (ss + ms) pn L (v.toList ++ rest)) (kt : ∀ (k : Nat) (h' : g_H), P'.2 (.inl k) h' → g_Th E X P h' (cs + mc) (ss + ms) pc L k) : g_Go E X P h z cs ss pc L (a4 :: a3 :: a2 :: a1 :: rest) :=
  g_callS (as := [a1, a2, a3, a4]) hX hct hdg hk.1 hk.2.1 hk.2.2.1 hk.2.2.2.1 hk.2.2.2.2 hrm.1 hrm.2 hc hs hW hmc pn hpn kr kt
theorem g_cS4r (hX : g_ok E X M) {a1 a2 a3 a4 : Value} {v : Value} (hct : g_Rd X.l M' fr lo [a1, a2, a3, a4] E h (some v)) (hdg : decode M.cc pc = .ok (.invokestatic index, 3)) (hk : g_kS M.y.cls index M' 4) (hrm : g_rm X fr lo M'.nl wt) (hc : cs ≤ X.R.cells) (hs : ss ≤ X.R.slots) (hW : (rest.map fun v => v.category).sum ≤ wt) (pn : Nat) (hpn : pc + 3 = pn)
    (kr : g_Go E X P h z cs ss pn L (v :: rest)) : g_Go E X P h z cs ss pc L (a4 :: a3 :: a2 :: a1 :: rest) :=
  g_cS4 (mc := 0) (ms := 0) hX hct hdg hk hrm hc hs hW (fun _ => ⟨rfl, rfl⟩) pn hpn (fun v' h' q => by
    obtain ⟨q1, q2⟩ := q
    cases q1
    subst q2
    exact kr) (fun k h' q => by cases q.1)
theorem g_cS4v (hX : g_ok E X M) {a1 a2 a3 a4 : Value} (hct : g_Rd X.l M' fr lo [a1, a2, a3, a4] E h none) (hdg : decode M.cc pc = .ok (.invokestatic index, 3)) (hk : g_kS M.y.cls index M' 4) (hrm : g_rm X fr lo M'.nl wt) (hc : cs ≤ X.R.cells) (hs : ss ≤ X.R.slots) (hW : (rest.map fun v => v.category).sum ≤ wt) (pn : Nat) (hpn : pc + 3 = pn)
    (kr : g_Go E X P h z cs ss pn L (rest)) : g_Go E X P h z cs ss pc L (a4 :: a3 :: a2 :: a1 :: rest) :=
  g_cS4 (mc := 0) (ms := 0) hX hct hdg hk hrm hc hs hW (fun _ => ⟨rfl, rfl⟩) pn hpn (fun v' h' q => by
    obtain ⟨q1, q2⟩ := q
    cases q1
    subst q2
    exact kr) (fun k h' q => by cases q.1)
theorem g_cV4 (hX : g_ok E X M) {a1 a2 a3 a4 : Value} {b ci : Nat} {fs : List Value} (hct : g_Ct X.l M' fr lo mc ms (.ref b :: [a1, a2, a3, a4]) E h P') (hdg : decode M.cc pc = .ok (.invokevirtual index, 3)) (hb : h b = some (.inr (ci, fs))) (hk : g_kV M.y.cls index M' 4 ci) (hrm : g_rm X fr lo M'.nl wt) (hc : cs + mc ≤ X.R.cells) (hs : ss + ms ≤ X.R.slots) (hW : (rest.map fun v => v.category).sum ≤ wt) (hmc : P'.1 = true → mc = 0 ∧ ms = 0) (pn : Nat) (hpn : pc + 3 = pn)
    (kr : ∀ (v : Option Value) (h' : g_H), P'.2 (.inr v) h' → g_Go E X P h' (P'.1 && z) (cs + mc) (ss + ms) pn L (v.toList ++ rest)) (kt : ∀ (k : Nat) (h' : g_H), P'.2 (.inl k) h' → g_Th E X P h' (cs + mc) (ss + ms) pc L k) : g_Go E X P h z cs ss pc L (a4 :: a3 :: a2 :: a1 :: .ref b :: rest) :=
  by
  obtain ⟨C, T0, N, k1, k2, k3, k4, k5, k6, k7⟩ := hk
  exact g_callV (as := [a1, a2, a3, a4]) hX hct hdg hb k1 k2 k3 k4 k5 k6 k7 hrm.1 hrm.2 hc hs hW hmc pn hpn kr kt
theorem g_cV4r (hX : g_ok E X M) {a1 a2 a3 a4 : Value} {b ci : Nat} {fs : List Value} {v : Value} (hct : g_Rd X.l M' fr lo (.ref b :: [a1, a2, a3, a4]) E h (some v)) (hdg : decode M.cc pc = .ok (.invokevirtual index, 3)) (hb : h b = some (.inr (ci, fs))) (hk : g_kV M.y.cls index M' 4 ci) (hrm : g_rm X fr lo M'.nl wt) (hc : cs ≤ X.R.cells) (hs : ss ≤ X.R.slots) (hW : (rest.map fun v => v.category).sum ≤ wt) (pn : Nat) (hpn : pc + 3 = pn)
    (kr : g_Go E X P h z cs ss pn L (v :: rest)) : g_Go E X P h z cs ss pc L (a4 :: a3 :: a2 :: a1 :: .ref b :: rest) :=
  g_cV4 (mc := 0) (ms := 0) hX hct hdg hb hk hrm hc hs hW (fun _ => ⟨rfl, rfl⟩) pn hpn (fun v' h' q => by
    obtain ⟨q1, q2⟩ := q
    cases q1
    subst q2
    exact kr) (fun k h' q => by cases q.1)
theorem g_cV4v (hX : g_ok E X M) {a1 a2 a3 a4 : Value} {b ci : Nat} {fs : List Value} (hct : g_Rd X.l M' fr lo (.ref b :: [a1, a2, a3, a4]) E h none) (hdg : decode M.cc pc = .ok (.invokevirtual index, 3)) (hb : h b = some (.inr (ci, fs))) (hk : g_kV M.y.cls index M' 4 ci) (hrm : g_rm X fr lo M'.nl wt) (hc : cs ≤ X.R.cells) (hs : ss ≤ X.R.slots) (hW : (rest.map fun v => v.category).sum ≤ wt) (pn : Nat) (hpn : pc + 3 = pn)
    (kr : g_Go E X P h z cs ss pn L (rest)) : g_Go E X P h z cs ss pc L (a4 :: a3 :: a2 :: a1 :: .ref b :: rest) :=
  g_cV4 (mc := 0) (ms := 0) hX hct hdg hb hk hrm hc hs hW (fun _ => ⟨rfl, rfl⟩) pn hpn (fun v' h' q => by
    obtain ⟨q1, q2⟩ := q
    cases q1
    subst q2
    exact kr) (fun k h' q => by cases q.1)
theorem g_cI4 (hX : g_ok E X M) {a1 a2 a3 a4 : Value} {b : Nat} (hct : g_Ct X.l M' fr lo mc ms (.ref b :: [a1, a2, a3, a4]) E h P') (hdg : decode M.cc pc = .ok (.invokespecial index, 3)) (hk : g_kI M.y.cls index M' 4) (hrm : g_rm X fr lo M'.nl wt) (hc : cs + mc ≤ X.R.cells) (hs : ss + ms ≤ X.R.slots) (hW : (rest.map fun v => v.category).sum ≤ wt) (hmc : P'.1 = true → mc = 0 ∧ ms = 0) (pn : Nat) (hpn : pc + 3 = pn)
    (kr : ∀ (v : Option Value) (h' : g_H), P'.2 (.inr v) h' → g_Go E X P h' (P'.1 && z) (cs + mc) (ss + ms) pn L (v.toList ++ rest)) (kt : ∀ (k : Nat) (h' : g_H), P'.2 (.inl k) h' → g_Th E X P h' (cs + mc) (ss + ms) pc L k) : g_Go E X P h z cs ss pc L (a4 :: a3 :: a2 :: a1 :: .ref b :: rest) :=
  g_callI (as := [a1, a2, a3, a4]) hX hk.1.1 hk.1.2.1 hk.1.2.2 hct hdg hk.2.1 hk.2.2.1 hk.2.2.2.1 hk.2.2.2.2.1 hk.2.2.2.2.2 hrm.1 hrm.2 hc hs hW hmc pn hpn kr kt
theorem g_cI4r (hX : g_ok E X M) {a1 a2 a3 a4 : Value} {b : Nat} {v : Value} (hct : g_Rd X.l M' fr lo (.ref b :: [a1, a2, a3, a4]) E h (some v)) (hdg : decode M.cc pc = .ok (.invokespecial index, 3)) (hk : g_kI M.y.cls index M' 4) (hrm : g_rm X fr lo M'.nl wt) (hc : cs ≤ X.R.cells) (hs : ss ≤ X.R.slots) (hW : (rest.map fun v => v.category).sum ≤ wt) (pn : Nat) (hpn : pc + 3 = pn)
    (kr : g_Go E X P h z cs ss pn L (v :: rest)) : g_Go E X P h z cs ss pc L (a4 :: a3 :: a2 :: a1 :: .ref b :: rest) :=
  g_cI4 (mc := 0) (ms := 0) hX hct hdg hk hrm hc hs hW (fun _ => ⟨rfl, rfl⟩) pn hpn (fun v' h' q => by
    obtain ⟨q1, q2⟩ := q
    cases q1
    subst q2
    exact kr) (fun k h' q => by cases q.1)
theorem g_cI4v (hX : g_ok E X M) {a1 a2 a3 a4 : Value} {b : Nat} (hct : g_Rd X.l M' fr lo (.ref b :: [a1, a2, a3, a4]) E h none) (hdg : decode M.cc pc = .ok (.invokespecial index, 3)) (hk : g_kI M.y.cls index M' 4) (hrm : g_rm X fr lo M'.nl wt) (hc : cs ≤ X.R.cells) (hs : ss ≤ X.R.slots) (hW : (rest.map fun v => v.category).sum ≤ wt) (pn : Nat) (hpn : pc + 3 = pn)
    (kr : g_Go E X P h z cs ss pn L (rest)) : g_Go E X P h z cs ss pc L (a4 :: a3 :: a2 :: a1 :: .ref b :: rest) :=
  g_cI4 (mc := 0) (ms := 0) hX hct hdg hk hrm hc hs hW (fun _ => ⟨rfl, rfl⟩) pn hpn (fun v' h' q => by
    obtain ⟨q1, q2⟩ := q
    cases q1
    subst q2
    exact kr) (fun k h' q => by cases q.1)
theorem g_cS5 (hX : g_ok E X M) {a1 a2 a3 a4 a5 : Value} (hct : g_Ct X.l M' fr lo mc ms [a1, a2, a3, a4, a5] E h P') (hdg : decode M.cc pc = .ok (.invokestatic index, 3)) (hk : g_kS M.y.cls index M' 5) (hrm : g_rm X fr lo M'.nl wt) (hc : cs + mc ≤ X.R.cells) (hs : ss + ms ≤ X.R.slots) (hW : (rest.map fun v => v.category).sum ≤ wt) (hmc : P'.1 = true → mc = 0 ∧ ms = 0) (pn : Nat) (hpn : pc + 3 = pn)
    (kr : ∀ (v : Option Value) (h' : g_H), P'.2 (.inr v) h' → g_Go E X P h' (P'.1 && z) (cs + mc) (ss + ms) pn L (v.toList ++ rest)) (kt : ∀ (k : Nat) (h' : g_H), P'.2 (.inl k) h' → g_Th E X P h' (cs + mc) (ss + ms) pc L k) : g_Go E X P h z cs ss pc L (a5 :: a4 :: a3 :: a2 :: a1 :: rest) :=
  g_callS (as := [a1, a2, a3, a4, a5]) hX hct hdg hk.1 hk.2.1 hk.2.2.1 hk.2.2.2.1 hk.2.2.2.2 hrm.1 hrm.2 hc hs hW hmc pn hpn kr kt
theorem g_cS5r (hX : g_ok E X M) {a1 a2 a3 a4 a5 : Value} {v : Value} (hct : g_Rd X.l M' fr lo [a1, a2, a3, a4, a5] E h (some v)) (hdg : decode M.cc pc = .ok (.invokestatic index, 3)) (hk : g_kS M.y.cls index M' 5) (hrm : g_rm X fr lo M'.nl wt) (hc : cs ≤ X.R.cells) (hs : ss ≤ X.R.slots) (hW : (rest.map fun v => v.category).sum ≤ wt) (pn : Nat) (hpn : pc + 3 = pn)
    (kr : g_Go E X P h z cs ss pn L (v :: rest)) : g_Go E X P h z cs ss pc L (a5 :: a4 :: a3 :: a2 :: a1 :: rest) :=
  g_cS5 (mc := 0) (ms := 0) hX hct hdg hk hrm hc hs hW (fun _ => ⟨rfl, rfl⟩) pn hpn (fun v' h' q => by
    obtain ⟨q1, q2⟩ := q
    cases q1
    subst q2
    exact kr) (fun k h' q => by cases q.1)
theorem g_cS5v (hX : g_ok E X M) {a1 a2 a3 a4 a5 : Value} (hct : g_Rd X.l M' fr lo [a1, a2, a3, a4, a5] E h none) (hdg : decode M.cc pc = .ok (.invokestatic index, 3)) (hk : g_kS M.y.cls index M' 5) (hrm : g_rm X fr lo M'.nl wt) (hc : cs ≤ X.R.cells) (hs : ss ≤ X.R.slots) (hW : (rest.map fun v => v.category).sum ≤ wt) (pn : Nat) (hpn : pc + 3 = pn)
    (kr : g_Go E X P h z cs ss pn L (rest)) : g_Go E X P h z cs ss pc L (a5 :: a4 :: a3 :: a2 :: a1 :: rest) :=
  g_cS5 (mc := 0) (ms := 0) hX hct hdg hk hrm hc hs hW (fun _ => ⟨rfl, rfl⟩) pn hpn (fun v' h' q => by
    obtain ⟨q1, q2⟩ := q
    cases q1
    subst q2
    exact kr) (fun k h' q => by cases q.1)
theorem g_cV5 (hX : g_ok E X M) {a1 a2 a3 a4 a5 : Value} {b ci : Nat} {fs : List Value} (hct : g_Ct X.l M' fr lo mc ms (.ref b :: [a1, a2, a3, a4, a5]) E h P') (hdg : decode M.cc pc = .ok (.invokevirtual index, 3)) (hb : h b = some (.inr (ci, fs))) (hk : g_kV M.y.cls index M' 5 ci) (hrm : g_rm X fr lo M'.nl wt) (hc : cs + mc ≤ X.R.cells) (hs : ss + ms ≤ X.R.slots) (hW : (rest.map fun v => v.category).sum ≤ wt) (hmc : P'.1 = true → mc = 0 ∧ ms = 0) (pn : Nat) (hpn : pc + 3 = pn)
    (kr : ∀ (v : Option Value) (h' : g_H), P'.2 (.inr v) h' → g_Go E X P h' (P'.1 && z) (cs + mc) (ss + ms) pn L (v.toList ++ rest)) (kt : ∀ (k : Nat) (h' : g_H), P'.2 (.inl k) h' → g_Th E X P h' (cs + mc) (ss + ms) pc L k) : g_Go E X P h z cs ss pc L (a5 :: a4 :: a3 :: a2 :: a1 :: .ref b :: rest) :=
  by
  obtain ⟨C, T0, N, k1, k2, k3, k4, k5, k6, k7⟩ := hk
  exact g_callV (as := [a1, a2, a3, a4, a5]) hX hct hdg hb k1 k2 k3 k4 k5 k6 k7 hrm.1 hrm.2 hc hs hW hmc pn hpn kr kt
theorem g_cV5r (hX : g_ok E X M) {a1 a2 a3 a4 a5 : Value} {b ci : Nat} {fs : List Value} {v : Value} (hct : g_Rd X.l M' fr lo (.ref b :: [a1, a2, a3, a4, a5]) E h (some v)) (hdg : decode M.cc pc = .ok (.invokevirtual index, 3)) (hb : h b = some (.inr (ci, fs))) (hk : g_kV M.y.cls index M' 5 ci) (hrm : g_rm X fr lo M'.nl wt) (hc : cs ≤ X.R.cells) (hs : ss ≤ X.R.slots) (hW : (rest.map fun v => v.category).sum ≤ wt) (pn : Nat) (hpn : pc + 3 = pn)
    (kr : g_Go E X P h z cs ss pn L (v :: rest)) : g_Go E X P h z cs ss pc L (a5 :: a4 :: a3 :: a2 :: a1 :: .ref b :: rest) :=
  g_cV5 (mc := 0) (ms := 0) hX hct hdg hb hk hrm hc hs hW (fun _ => ⟨rfl, rfl⟩) pn hpn (fun v' h' q => by
    obtain ⟨q1, q2⟩ := q
    cases q1
    subst q2
    exact kr) (fun k h' q => by cases q.1)
theorem g_cV5v (hX : g_ok E X M) {a1 a2 a3 a4 a5 : Value} {b ci : Nat} {fs : List Value} (hct : g_Rd X.l M' fr lo (.ref b :: [a1, a2, a3, a4, a5]) E h none) (hdg : decode M.cc pc = .ok (.invokevirtual index, 3)) (hb : h b = some (.inr (ci, fs))) (hk : g_kV M.y.cls index M' 5 ci) (hrm : g_rm X fr lo M'.nl wt) (hc : cs ≤ X.R.cells) (hs : ss ≤ X.R.slots) (hW : (rest.map fun v => v.category).sum ≤ wt) (pn : Nat) (hpn : pc + 3 = pn)
    (kr : g_Go E X P h z cs ss pn L (rest)) : g_Go E X P h z cs ss pc L (a5 :: a4 :: a3 :: a2 :: a1 :: .ref b :: rest) :=
  g_cV5 (mc := 0) (ms := 0) hX hct hdg hb hk hrm hc hs hW (fun _ => ⟨rfl, rfl⟩) pn hpn (fun v' h' q => by
    obtain ⟨q1, q2⟩ := q
    cases q1
    subst q2
    exact kr) (fun k h' q => by cases q.1)
theorem g_cI5 (hX : g_ok E X M) {a1 a2 a3 a4 a5 : Value} {b : Nat} (hct : g_Ct X.l M' fr lo mc ms (.ref b :: [a1, a2, a3, a4, a5]) E h P') (hdg : decode M.cc pc = .ok (.invokespecial index, 3)) (hk : g_kI M.y.cls index M' 5) (hrm : g_rm X fr lo M'.nl wt) (hc : cs + mc ≤ X.R.cells) (hs : ss + ms ≤ X.R.slots) (hW : (rest.map fun v => v.category).sum ≤ wt) (hmc : P'.1 = true → mc = 0 ∧ ms = 0) (pn : Nat) (hpn : pc + 3 = pn)
    (kr : ∀ (v : Option Value) (h' : g_H), P'.2 (.inr v) h' → g_Go E X P h' (P'.1 && z) (cs + mc) (ss + ms) pn L (v.toList ++ rest)) (kt : ∀ (k : Nat) (h' : g_H), P'.2 (.inl k) h' → g_Th E X P h' (cs + mc) (ss + ms) pc L k) : g_Go E X P h z cs ss pc L (a5 :: a4 :: a3 :: a2 :: a1 :: .ref b :: rest) :=
  g_callI (as := [a1, a2, a3, a4, a5]) hX hk.1.1 hk.1.2.1 hk.1.2.2 hct hdg hk.2.1 hk.2.2.1 hk.2.2.2.1 hk.2.2.2.2.1 hk.2.2.2.2.2 hrm.1 hrm.2 hc hs hW hmc pn hpn kr kt
theorem g_cI5r (hX : g_ok E X M) {a1 a2 a3 a4 a5 : Value} {b : Nat} {v : Value} (hct : g_Rd X.l M' fr lo (.ref b :: [a1, a2, a3, a4, a5]) E h (some v)) (hdg : decode M.cc pc = .ok (.invokespecial index, 3)) (hk : g_kI M.y.cls index M' 5) (hrm : g_rm X fr lo M'.nl wt) (hc : cs ≤ X.R.cells) (hs : ss ≤ X.R.slots) (hW : (rest.map fun v => v.category).sum ≤ wt) (pn : Nat) (hpn : pc + 3 = pn)
    (kr : g_Go E X P h z cs ss pn L (v :: rest)) : g_Go E X P h z cs ss pc L (a5 :: a4 :: a3 :: a2 :: a1 :: .ref b :: rest) :=
  g_cI5 (mc := 0) (ms := 0) hX hct hdg hk hrm hc hs hW (fun _ => ⟨rfl, rfl⟩) pn hpn (fun v' h' q => by
    obtain ⟨q1, q2⟩ := q
    cases q1
    subst q2
    exact kr) (fun k h' q => by cases q.1)
theorem g_cI5v (hX : g_ok E X M) {a1 a2 a3 a4 a5 : Value} {b : Nat} (hct : g_Rd X.l M' fr lo (.ref b :: [a1, a2, a3, a4, a5]) E h none) (hdg : decode M.cc pc = .ok (.invokespecial index, 3)) (hk : g_kI M.y.cls index M' 5) (hrm : g_rm X fr lo M'.nl wt) (hc : cs ≤ X.R.cells) (hs : ss ≤ X.R.slots) (hW : (rest.map fun v => v.category).sum ≤ wt) (pn : Nat) (hpn : pc + 3 = pn)
    (kr : g_Go E X P h z cs ss pn L (rest)) : g_Go E X P h z cs ss pc L (a5 :: a4 :: a3 :: a2 :: a1 :: .ref b :: rest) :=
  g_cI5 (mc := 0) (ms := 0) hX hct hdg hk hrm hc hs hW (fun _ => ⟨rfl, rfl⟩) pn hpn (fun v' h' q => by
    obtain ⟨q1, q2⟩ := q
    cases q1
    subst q2
    exact kr) (fun k h' q => by cases q.1)
theorem g_cS6 (hX : g_ok E X M) {a1 a2 a3 a4 a5 a6 : Value} (hct : g_Ct X.l M' fr lo mc ms [a1, a2, a3, a4, a5, a6] E h P') (hdg : decode M.cc pc = .ok (.invokestatic index, 3)) (hk : g_kS M.y.cls index M' 6) (hrm : g_rm X fr lo M'.nl wt) (hc : cs + mc ≤ X.R.cells) (hs : ss + ms ≤ X.R.slots) (hW : (rest.map fun v => v.category).sum ≤ wt) (hmc : P'.1 = true → mc = 0 ∧ ms = 0) (pn : Nat) (hpn : pc + 3 = pn)
    (kr : ∀ (v : Option Value) (h' : g_H), P'.2 (.inr v) h' → g_Go E X P h' (P'.1 && z) (cs + mc) (ss + ms) pn L (v.toList ++ rest)) (kt : ∀ (k : Nat) (h' : g_H), P'.2 (.inl k) h' → g_Th E X P h' (cs + mc) (ss + ms) pc L k) : g_Go E X P h z cs ss pc L (a6 :: a5 :: a4 :: a3 :: a2 :: a1 :: rest) :=
  g_callS (as := [a1, a2, a3, a4, a5, a6]) hX hct hdg hk.1 hk.2.1 hk.2.2.1 hk.2.2.2.1 hk.2.2.2.2 hrm.1 hrm.2 hc hs hW hmc pn hpn kr kt
theorem g_cS6r (hX : g_ok E X M) {a1 a2 a3 a4 a5 a6 : Value} {v : Value} (hct : g_Rd X.l M' fr lo [a1, a2, a3, a4, a5, a6] E h (some v)) (hdg : decode M.cc pc = .ok (.invokestatic index, 3)) (hk : g_kS M.y.cls index M' 6) (hrm : g_rm X fr lo M'.nl wt) (hc : cs ≤ X.R.cells) (hs : ss ≤ X.R.slots) (hW : (rest.map fun v => v.category).sum ≤ wt) (pn : Nat) (hpn : pc + 3 = pn)
    (kr : g_Go E X P h z cs ss pn L (v :: rest)) : g_Go E X P h z cs ss pc L (a6 :: a5 :: a4 :: a3 :: a2 :: a1 :: rest) :=
  g_cS6 (mc := 0) (ms := 0) hX hct hdg hk hrm hc hs hW (fun _ => ⟨rfl, rfl⟩) pn hpn (fun v' h' q => by
    obtain ⟨q1, q2⟩ := q
    cases q1
    subst q2
    exact kr) (fun k h' q => by cases q.1)
theorem g_cS6v (hX : g_ok E X M) {a1 a2 a3 a4 a5 a6 : Value} (hct : g_Rd X.l M' fr lo [a1, a2, a3, a4, a5, a6] E h none) (hdg : decode M.cc pc = .ok (.invokestatic index, 3)) (hk : g_kS M.y.cls index M' 6) (hrm : g_rm X fr lo M'.nl wt) (hc : cs ≤ X.R.cells) (hs : ss ≤ X.R.slots) (hW : (rest.map fun v => v.category).sum ≤ wt) (pn : Nat) (hpn : pc + 3 = pn)
    (kr : g_Go E X P h z cs ss pn L (rest)) : g_Go E X P h z cs ss pc L (a6 :: a5 :: a4 :: a3 :: a2 :: a1 :: rest) :=
  g_cS6 (mc := 0) (ms := 0) hX hct hdg hk hrm hc hs hW (fun _ => ⟨rfl, rfl⟩) pn hpn (fun v' h' q => by
    obtain ⟨q1, q2⟩ := q
    cases q1
    subst q2
    exact kr) (fun k h' q => by cases q.1)
theorem g_cV6 (hX : g_ok E X M) {a1 a2 a3 a4 a5 a6 : Value} {b ci : Nat} {fs : List Value} (hct : g_Ct X.l M' fr lo mc ms (.ref b :: [a1, a2, a3, a4, a5, a6]) E h P') (hdg : decode M.cc pc = .ok (.invokevirtual index, 3)) (hb : h b = some (.inr (ci, fs))) (hk : g_kV M.y.cls index M' 6 ci) (hrm : g_rm X fr lo M'.nl wt) (hc : cs + mc ≤ X.R.cells) (hs : ss + ms ≤ X.R.slots) (hW : (rest.map fun v => v.category).sum ≤ wt) (hmc : P'.1 = true → mc = 0 ∧ ms = 0) (pn : Nat) (hpn : pc + 3 = pn)
    (kr : ∀ (v : Option Value) (h' : g_H), P'.2 (.inr v) h' → g_Go E X P h' (P'.1 && z) (cs + mc) (ss + ms) pn L (v.toList ++ rest)) (kt : ∀ (k : Nat) (h' : g_H), P'.2 (.inl k) h' → g_Th E X P h' (cs + mc) (ss + ms) pc L k) : g_Go E X P h z cs ss pc L (a6 :: a5 :: a4 :: a3 :: a2 :: a1 :: .ref b :: rest) :=
  by
  obtain ⟨C, T0, N, k1, k2, k3, k4, k5, k6, k7⟩ := hk
  exact g_callV (as := [a1, a2, a3, a4, a5, a6]) hX hct hdg hb k1 k2 k3 k4 k5 k6 k7 hrm.1 hrm.2 hc hs hW hmc pn hpn kr kt
theorem g_cV6r (hX : g_ok E X M) {a1 a2 a3 a4 a5 a6 : Value} {b ci : Nat} {fs : List Value} {v : Value} (hct : g_Rd X.l M' fr lo (.ref b :: [a1, a2, a3, a4, a5, a6]) E h (some v)) (hdg : decode M.cc pc = .ok (.invokevirtual index, 3)) (hb : h b = some (.inr (ci, fs))) (hk : g_kV M.y.cls index M' 6 ci) (hrm : g_rm X fr lo M'.nl wt) (hc : cs ≤ X.R.cells) (hs : ss ≤ X.R.slots) (hW : (rest.map fun v => v.category).sum ≤ wt) (pn : Nat) (hpn : pc + 3 = pn)
    (kr : g_Go E X P h z cs ss pn L (v :: rest)) : g_Go E X P h z cs ss pc L (a6 :: a5 :: a4 :: a3 :: a2 :: a1 :: .ref b :: rest) :=
  g_cV6 (mc := 0) (ms := 0) hX hct hdg hb hk hrm hc hs hW (fun _ => ⟨rfl, rfl⟩) pn hpn (fun v' h' q => by
    obtain ⟨q1, q2⟩ := q
    cases q1
    subst q2
    exact kr) (fun k h' q => by cases q.1)
theorem g_cV6v (hX : g_ok E X M) {a1 a2 a3 a4 a5 a6 : Value} {b ci : Nat} {fs : List Value} (hct : g_Rd X.l M' fr lo (.ref b :: [a1, a2, a3, a4, a5, a6]) E h none) (hdg : decode M.cc pc = .ok (.invokevirtual index, 3)) (hb : h b = some (.inr (ci, fs))) (hk : g_kV M.y.cls index M' 6 ci) (hrm : g_rm X fr lo M'.nl wt) (hc : cs ≤ X.R.cells) (hs : ss ≤ X.R.slots) (hW : (rest.map fun v => v.category).sum ≤ wt) (pn : Nat) (hpn : pc + 3 = pn)
    (kr : g_Go E X P h z cs ss pn L (rest)) : g_Go E X P h z cs ss pc L (a6 :: a5 :: a4 :: a3 :: a2 :: a1 :: .ref b :: rest) :=
  g_cV6 (mc := 0) (ms := 0) hX hct hdg hb hk hrm hc hs hW (fun _ => ⟨rfl, rfl⟩) pn hpn (fun v' h' q => by
    obtain ⟨q1, q2⟩ := q
    cases q1
    subst q2
    exact kr) (fun k h' q => by cases q.1)
theorem g_cI6 (hX : g_ok E X M) {a1 a2 a3 a4 a5 a6 : Value} {b : Nat} (hct : g_Ct X.l M' fr lo mc ms (.ref b :: [a1, a2, a3, a4, a5, a6]) E h P') (hdg : decode M.cc pc = .ok (.invokespecial index, 3)) (hk : g_kI M.y.cls index M' 6) (hrm : g_rm X fr lo M'.nl wt) (hc : cs + mc ≤ X.R.cells) (hs : ss + ms ≤ X.R.slots) (hW : (rest.map fun v => v.category).sum ≤ wt) (hmc : P'.1 = true → mc = 0 ∧ ms = 0) (pn : Nat) (hpn : pc + 3 = pn)
    (kr : ∀ (v : Option Value) (h' : g_H), P'.2 (.inr v) h' → g_Go E X P h' (P'.1 && z) (cs + mc) (ss + ms) pn L (v.toList ++ rest)) (kt : ∀ (k : Nat) (h' : g_H), P'.2 (.inl k) h' → g_Th E X P h' (cs + mc) (ss + ms) pc L k) : g_Go E X P h z cs ss pc L (a6 :: a5 :: a4 :: a3 :: a2 :: a1 :: .ref b :: rest) :=
  g_callI (as := [a1, a2, a3, a4, a5, a6]) hX hk.1.1 hk.1.2.1 hk.1.2.2 hct hdg hk.2.1 hk.2.2.1 hk.2.2.2.1 hk.2.2.2.2.1 hk.2.2.2.2.2 hrm.1 hrm.2 hc hs hW hmc pn hpn kr kt
theorem g_cI6r (hX : g_ok E X M) {a1 a2 a3 a4 a5 a6 : Value} {b : Nat} {v : Value} (hct : g_Rd X.l M' fr lo (.ref b :: [a1, a2, a3, a4, a5, a6]) E h (some v)) (hdg : decode M.cc pc = .ok (.invokespecial index, 3)) (hk : g_kI M.y.cls index M' 6) (hrm : g_rm X fr lo M'.nl wt) (hc : cs ≤ X.R.cells) (hs : ss ≤ X.R.slots) (hW : (rest.map fun v => v.category).sum ≤ wt) (pn : Nat) (hpn : pc + 3 = pn)
    (kr : g_Go E X P h z cs ss pn L (v :: rest)) : g_Go E X P h z cs ss pc L (a6 :: a5 :: a4 :: a3 :: a2 :: a1 :: .ref b :: rest) :=
  g_cI6 (mc := 0) (ms := 0) hX hct hdg hk hrm hc hs hW (fun _ => ⟨rfl, rfl⟩) pn hpn (fun v' h' q => by
    obtain ⟨q1, q2⟩ := q
    cases q1
    subst q2
    exact kr) (fun k h' q => by cases q.1)
theorem g_cI6v (hX : g_ok E X M) {a1 a2 a3 a4 a5 a6 : Value} {b : Nat} (hct : g_Rd X.l M' fr lo (.ref b :: [a1, a2, a3, a4, a5, a6]) E h none) (hdg : decode M.cc pc = .ok (.invokespecial index, 3)) (hk : g_kI M.y.cls index M' 6) (hrm : g_rm X fr lo M'.nl wt) (hc : cs ≤ X.R.cells) (hs : ss ≤ X.R.slots) (hW : (rest.map fun v => v.category).sum ≤ wt) (pn : Nat) (hpn : pc + 3 = pn)
    (kr : g_Go E X P h z cs ss pn L (rest)) : g_Go E X P h z cs ss pc L (a6 :: a5 :: a4 :: a3 :: a2 :: a1 :: .ref b :: rest) :=
  g_cI6 (mc := 0) (ms := 0) hX hct hdg hk hrm hc hs hW (fun _ => ⟨rfl, rfl⟩) pn hpn (fun v' h' q => by
    obtain ⟨q1, q2⟩ := q
    cases q1
    subst q2
    exact kr) (fun k h' q => by cases q.1)
end GCALLR
end
section
/-! statics, strings, Object's constructor, nest mates, a throw, a catch -/
section GSPEC
variable {E : g_E} {X : g_X} {M M' : g_M} {P P' : g_P} {h : g_H} {z : Bool} {cs ss pc : Nat} {L : List (Option Value)} {rest : List Value} {fr lo mc ms index : Nat} {as : List Value}
theorem g_gets (hX : g_ok E X M) {C n d : String} {v : Value} (hdg : decode M.cc pc = .ok (.getstatic index, 3)) (hlink : Cond.fieldLink M.y.cls index C n d ∈ g_wl) (hsz : g_SZ C n d v E.H0 X.s) (pn : Nat) (hpn : pc + 3 = pn)
    (kk : g_Go E X P h z cs ss pn L (v :: rest)) : g_Go E X P h z cs ss pc L rest := by
  subst hpn
  intro H locs ls hV hB hlo hL hz
  obtain ⟨c, k, i, f, a, cell, h1, h2, h3, h4, h5, h6, h7, h8, h9, h10, h11⟩ := hsz
  exact W.gets hX.exec hX.code hX.own (hX.w hlink) h2 h3 h10 h4 (by rw [hB.2 a (Array.getElem?_eq_some_iff.mp h5).1]; exact h5) (fun q => by rw [q] at h6; cases h6) h11 rfl hdg (kk H locs ls hV hB hlo hL hz)
theorem g_ldcs (hX : g_ok E X M) (hcls : M.y.cls = "SlideStage") {tx : String} (hdg : decode M.cc pc = .ok (.ldc index, 2)) (hs : (index, tx) ∈ g_strs) (pn : Nat) (hpn : pc + 2 = pn)
    (kk : g_Go E X P h z cs ss pn L (.ref (E.ad (100 + index)) :: rest)) : g_Go E X P h z cs ss pc L rest := by
  subst hpn
  intro H locs ls hV hB hlo hL hz
  have hown := hX.own
  rw [hcls] at hown
  exact va_ldcS hX.exec hX.code hown (hX.K.2.2.2.2.2.2.2.2 _ hs) hdg (kk H locs ls hV hB hlo hL hz)
theorem g_ldcw (hX : g_ok E X M) {v : Int32} (hdg : decode M.cc pc = .ok (.ldc_w index, 3)) (hw : Cond.constant M.y.cls index v ∈ g_wl) (pn : Nat) (hpn : pc + 3 = pn)
    (kk : g_Go E X P h z cs ss pn L (.int v :: rest)) : g_Go E X P h z cs ss pc L rest := by
  subst hpn
  exact fun H locs ls hV hB hlo hL hz => lv_ldcw hX.exec hX.code hX.own (hX.w hw) hdg (kk H locs ls hV hB hlo hL hz)
def g_oi (own : String) (idx : Nat) : Prop := Cond.methodLink own idx Lib.objectInit ∈ g_wl ∧ Cond.instanceMethod Lib.objectInit ∈ g_wl ∧ Cond.code Lib.objectInit ⟨#[0xb1]⟩ 1 none ∈ g_wl
theorem g_objInit (hX : g_ok E X M) {a wt : Nat} (hdg : decode M.cc pc = .ok (.invokespecial index, 3)) (hk : g_oi M.y.cls index) (hW : (rest.map fun v => v.category).sum ≤ wt) (hfr : 1 ≤ X.R.frames) (hlc : wt + 12 ≤ X.R.locals) (pn : Nat) (hpn : pc + 3 = pn)
    (kk : g_Go E X P h z cs ss pn L rest) : g_Go E X P h z cs ss pc L (.ref a :: rest) := by
  subst hpn
  intro H locs ls hV hB hlo hL hz
  exact W.objInit hX.exec hX.code hX.own (hX.w hk.1) (hX.w hk.2.1) (hX.w hk.2.2) (g := F0 X.m pc ls (.ref a :: rest)) rfl hL.1 rfl hdg hfr (by
    have h9 := g_room (m := X.m) (pc := pc) (ls := ls) hW
    have h8 : (F0 X.m pc ls (.ref a :: rest)).monitorRoom = (F0 X.m pc ls rest).monitorRoom := by first | rfl | simp [JFrame.monitorRoom]
    rw [h8]
    omega) (kk H locs ls hV hB hlo hL hz)
theorem g_callSN (hX : g_ok E X M) {host : String} (hct : g_Ct X.l M' fr lo mc ms as E h P') (hdg : decode M.cc pc = .ok (.invokestatic index, 3)) (hlink : Cond.methodLinkNest M.y.cls index M'.y host ∈ g_wl) (hstat : Cond.static M'.y ∈ g_wl) (hini : Cond.initialized M'.y.cls ∈ g_wl) (hcw : g_cw M' ∈ g_wl) (hcn : ∃ mk, X.s.methodNamed? M'.y = some mk) (hnp : g_np M'.y as.length = true)
    (hfr : fr + 1 ≤ X.R.frames) {wt : Nat} (hlo : wt + (M'.nl + 11) + lo ≤ X.R.locals) (hc : cs + mc ≤ X.R.cells) (hs : ss + ms ≤ X.R.slots) (hW : (rest.map fun v => v.category).sum ≤ wt) (hmc : P'.1 = true → mc = 0 ∧ ms = 0) (pn : Nat) (hpn : pc + 3 = pn)
    (kr : ∀ (v : Option Value) (h' : g_H), P'.2 (.inr v) h' → g_Go E X P h' (P'.1 && z) (cs + mc) (ss + ms) pn L (v.toList ++ rest)) (kt : ∀ (k : Nat) (h' : g_H), P'.2 (.inl k) h' → g_Th E X P h' (cs + mc) (ss + ms) pc L k) :
    g_Go E X P h z cs ss pc L (as.reverse ++ rest) := by
  subst hpn
  intro H locs ls hV hB hlc hL hz T hT X'
  obtain ⟨mk, hnamed⟩ := hcn
  obtain ⟨methM, cM, hmethM, -, -, -, -, -, -, hsigM⟩ := g_cw_spec hnamed (hX.w hcw (A := X.args))
  have hstatic : methM.isStatic = true := Cond.static_spec hnamed hmethM (hX.w hstat (A := X.args))
  obtain ⟨kP, hkP, -⟩ := className_of_methodNamed hnamed
  have hinitP : kP.init = .initialized := Cond.initialized_spec (findClass_of_methodNamed hnamed) hkP (hX.w hini (A := X.args))
  obtain ⟨vm₁, X₁, hstep₁⟩ := X'.invokestaticNest hX.exec hX.own (hX.w hlink) hnamed hmethM hstatic hkP hinitP (g_np_hy hnp) (g := F0 X.m pc ls (as.reverse ++ rest)) rfl (argsL := as) (rest := rest) (g_np_len hnp _ hsigM) rfl (by rw [hX.code]; exact hdg)
  have hT1 : (T.setVm vm₁).heap = H := hT
  exact g_after (P' := P') (as := as) (mc := mc) (ms := ms) hX (U := T.setVm vm₁) rfl kr kt hlc hL (by rw [hT1]; exact hz) hmc hstep₁
    (g_enter hct X₁ hfr hlo hc hs (hX.K.warm X₁.warmed) hcw hini (by rw [hT1]; exact hV) (by rw [hT1]; exact hB) (g := F0 X.m pc ls rest) rfl hL.1 (by rw [hX.code]; exact hdg) (g_room hW) (X₁.named hnamed))
theorem g_callIN (hX : g_ok E X M) {b : Nat} {host : String} (htb : M'.tb = []) (hrn : M'.ret = none) (hy1 : M'.y.name = "<init>") (hct : g_Ct X.l M' fr lo mc ms (.ref b :: as) E h P') (hdg : decode M.cc pc = .ok (.invokespecial index, 3)) (hlink : Cond.methodLinkNest M.y.cls index M'.y host ∈ g_wl) (hinst : Cond.instanceMethod M'.y ∈ g_wl) (hini : Cond.initialized M'.y.cls ∈ g_wl) (hcw : g_cw M' ∈ g_wl) (hnp : g_np M'.y as.length = true)
    (hfr : fr + 1 ≤ X.R.frames) {wt : Nat} (hlo : wt + (M'.nl + 11) + lo ≤ X.R.locals) (hc : cs + mc ≤ X.R.cells) (hs : ss + ms ≤ X.R.slots) (hW : (rest.map fun v => v.category).sum ≤ wt) (hmc : P'.1 = true → mc = 0 ∧ ms = 0) (pn : Nat) (hpn : pc + 3 = pn)
    (kr : ∀ (v : Option Value) (h' : g_H), P'.2 (.inr v) h' → g_Go E X P h' (P'.1 && z) (cs + mc) (ss + ms) pn L (v.toList ++ rest)) (kt : ∀ (k : Nat) (h' : g_H), P'.2 (.inl k) h' → g_Th E X P h' (cs + mc) (ss + ms) pc L k) :
    g_Go E X P h z cs ss pc L (as.reverse ++ .ref b :: rest) := by
  subst hpn
  intro H locs ls hV hB hlc hL hz T hT X'
  have hpl : X.e.platform.magicAccessors = ({} : Platform).magicAccessors := by rw [X'.admits.platform]
  have hcode : (Cond.code M'.y M'.cc M'.nl none).before X.args X.s = true := by
    have h1 := hX.w hcw (A := X.args)
    obtain ⟨y, cc, nl, rt, tb⟩ := M'
    cases htb
    cases hrn
    exact h1
  obtain ⟨mk, methM, cM, kP, vm₁, hnamed, hmethM, hcodeM, -, hlocalsM, -, hkP, -, hW₁, hstep₁⟩ := Steps.initColdArgsNest (e := X.e) X'.here hX.exec X'.warmed hpl hX.own hy1 (g_np_hy hnp) (hX.w hlink (A := X.args)) (hX.w hinst (A := X.args)) hcode (f := F0 X.m pc ls (as.reverse ++ .ref b :: rest)) rfl (fun sig hsig => g_np_len hnp sig hsig) rfl (by rw [hX.code]; exact hdg)
  have X₁ := X'.noted hW₁
  have hT1 : (T.setVm vm₁).heap = H := hT
  exact g_after (P' := P') (as := .ref b :: as) (mc := mc) (ms := ms) hX (U := T.setVm vm₁) rfl kr kt hlc hL (by rw [hT1]; exact hz) hmc hstep₁
    (g_enter hct X₁ hfr hlo hc hs (hX.K.warm X₁.warmed) hcw hini (by rw [hT1]; exact hV) (by rw [hT1]; exact hB) (g := F0 X.m pc ls rest) rfl hL.1 (by rw [hX.code]; exact hdg) (g_room hW) (X₁.named hnamed))
end GSPEC
theorem g_SZ.cell {C n d : String} {v : Value} {H0 : Heap} {U : State} (h : g_SZ C n d v H0 U) (hB : g_B H0 U.heap) (A : Array Value) : (Cond.laysStatic C n d).before A U = true ∧ (v.isRef = true → (Cond.isRef (.static C n d)).before A U = true) := by
  obtain ⟨c, k, i, f, a, cell, h1, h2, h3, h4, h5, h6, h7, h8, h9, h10, h11⟩ := h
  have h5' : U.heap[a]? = some cell := by rw [hB.2 a (Array.getElem?_eq_some_iff.mp h5).1]; exact h5
  refine ⟨Cond.laysStatic_of h1 h2 h3 h4 h5' h6 h7 h8 h9, fun hv => ?_⟩
  have ev : (Term.static C n d).eval A U none [] U = some v := by
    simp [Term.eval, State.fieldNamed?, h2, h3, h4, h5', h6, h11]
  cases v <;> first | (simp [Cond.before, Cond.holds, Cond.value, ev]; done) | cases hv
theorem g_hw_ok {E : g_E} {U : State} (hK : g_K E U) (hB : g_B E.H0 U.heap) (A : Array Value) : ∀ w ∈ g_hw, w.before A U = true := by
  obtain ⟨-, -, -, -, -, ⟨v4, r4, h4⟩, ⟨v5, r5, h5⟩, -, -⟩ := hK
  intro w hw
  simp only [g_hw, List.mem_cons, List.not_mem_nil, or_false] at hw
  rcases hw with rfl | rfl | rfl | rfl
  · exact (h4.cell hB A).1
  · exact (h5.cell hB A).1
  · exact (h4.cell hB A).2 r4
  · exact (h5.cell hB A).2 r5
/-- what a throw of number k, by the constructor at the pool's entry ic, asks of the words -/
def g_tw (k i1 ic : Nat) : Prop := Cond.classLink "SlideStage" i1 (g_xn k) ∈ g_wl ∧ Cond.instantiable (g_xn k) 6 ∈ g_wl ∧ Cond.initialized (g_xn k) ∈ g_wl ∧ Jvm.Bundle.fit (g_xn k) = true ∧ ∀ w ∈ Jvm.Bundle.ownAtoms "SlideStage" ic (g_xn k) ["java/lang/RuntimeException", "java/lang/Exception"], w ∈ g_wl ∨ w ∈ g_hw
set_option maxHeartbeats 4000000 in
theorem g_throw {E : g_E} {X : g_X} {M : g_M} {P : g_P} {h : g_H} {pc p3 p4 p6 p9 : Nat} {L : List (Option Value)} {rest : List Value} (hX : g_ok E X M) (hcls : M.y.cls = "SlideStage") {k i1 i2 ic wt : Nat} {tx : String} (h0 : decode M.cc pc = .ok (.new i1, 3)) (h3 : decode M.cc p3 = .ok (.dup, 1)) (h4 : decode M.cc p4 = .ok (.ldc i2, 2)) (h6 : decode M.cc p6 = .ok (.invokespecial ic, 3)) (h9 : decode M.cc p9 = .ok (.athrow, 1))
    (e3 : pc + 3 = p3) (e4 : p3 + 1 = p4) (e6 : p4 + 2 = p6) (e9 : p6 + 3 = p9) (hs : (i2, tx) ∈ g_strs) (ht : g_tw k i1 ic) (hout : M.tb = []) (hP : P.2 (.inl k) h) (hpu : P.1 = false) (hc : 1 ≤ X.R.cells) (hss : 6 ≤ X.R.slots)
    (hRf : 5 < X.R.frames) (hW : (rest.map fun v => v.category).sum ≤ wt) (hRl : wt + 82 ≤ X.R.locals) : g_Go E X P h true 0 0 pc L rest := by
  subst e3
  subst e4
  subst e6
  subst e9
  intro H locs ls hV hB hlo hL hz
  obtain ⟨rfl, rfl, -, -⟩ := hz rfl
  obtain ⟨w1, w2, w3, w4, w5⟩ := ht
  have hown := hX.own
  rw [hcls] at hown
  obtain ⟨cX, kX, hfX, hkX, hordX, hszX⟩ : ∃ cX kX, X.s.vm.findClass (g_xn k) = some cX ∧ X.s.vm.classes[cX]? = some kX ∧ kX.kind = .ordinary ∧ kX.instanceTypes.size = 6 := by
    obtain ⟨c1, k1, q1, q2, q3, -, -, q6⟩ := Cond.instantiable_spec (hX.w w2 (A := X.args))
    exact ⟨c1, k1, q1, q2, q3, q6⟩
  refine W.newcK hX.exec hX.code hown (hX.w w1) (hX.w w2) (hX.w w3) rfl h0 (by omega) (by omega) hfX rfl fun H1 kC hkC c1 z1 o1 => ?_
  have hkk : kX = kC := Option.some.inj (hkX.symm.trans hkC)
  subst hkk
  refine lv_dup hX.exec hX.code h3 rfl ?_
  refine va_ldcS hX.exec hX.code hown (hX.K.2.2.2.2.2.2.2.2 _ hs) h4 ?_
  intro T hT X'
  have htr : X.e.platform.stackTraces = false := by rw [X'.admits.platform]; exact hX.tr
  have hlocks : X.meth.locks = false := hX.locks
  have hout2 : ∀ x ∈ X.c.exceptionTable.toList, covers x (pc + 3 + 1 + 2 + 3) = false := by
    rw [hX.tb, hout]
    intro x hx
    cases hx
  obtain ⟨U, hst, hrun, hend, hWU, hsame, ce, hce, hoc⟩ := X'.ctorThrowS hX.exec htr hown w4 (names := ["java/lang/RuntimeException", "java/lang/Exception"]) (ic := ic) (by
      intro n hn
      simp only [List.mem_cons, List.not_mem_nil, or_false] at hn
      rcases hn with rfl | rfl <;> decide +kernel)
    (fun w hw => (w5 w hw).elim (fun q => hX.w q) (fun q => g_hw_ok hX.K hX.base X.args w q)) (fun x hx => by cases hx) hfX hkX (a := X.s.heap.size) (by rw [hT]; exact c1) (Nat.le_refl _) (msg := .ref (E.ad (100 + i2))) rfl
    (g := F0 X.m (pc + 3 + 1 + 2) ls (.ref (E.ad (100 + i2)) :: .ref X.s.heap.size :: .ref X.s.heap.size :: rest)) rfl hL.1 rfl rfl rfl (by rw [hX.code]; exact h6) (by rw [hX.code]; exact h9) hout2 (by show 2 + 3 < _; omega)
    (by
      have h7 : (F0 X.m (pc + 3 + 1 + 2) ls (.ref (E.ad (100 + i2)) :: .ref X.s.heap.size :: .ref X.s.heap.size :: rest)).monitorRoom = 0 := by first | rfl | simp [JFrame.monitorRoom]
      rw [h7, List.map_cons, List.sum_cons]
      show 2 * 0 + (1 + _) + (13 * (2 + 1) + 42) ≤ _
      omega) hlocks
  have hold : ∀ q : Nat, q < X.s.heap.size → U.heap[q]? = X.s.heap[q]? := fun q hq => by
    have h1 : X.s.heap[q]? = some X.s.heap[q] := Array.getElem?_eq_getElem hq
    rw [h1]
    exact hsame.old_cell h1
  refine ⟨U, hst, .threw X.s.heap.size, hrun, hend, ⟨⟨.inl k, h, hP, ⟨_, ce, rfl, hce, hoc.vm, by rw [hWU.alike.findClass]; exact hoc.cls⟩, hV.grow hold, hB.grow hsame.2.1 hold⟩, hWU, [], hsame.mono (by omega) (by omega), (fun q hq => by cases hq), (fun q => by rw [hpu] at q; cases q)⟩⟩
/-- the search through a method's own table of handlers: the names of its types; it ends at hp -/
def g_tbw (own : String) (k pc : Nat) : List ExceptionTableEntry → List String → Nat → Prop
  | x :: t, nm :: r, hp => covers x pc = true ∧ ((g_hit own k x nm true ∧ hp = x.handlerPc) ∨ (g_hit own k x nm false ∧ g_tbw own k pc t r hp))
  | _, _, _ => False
theorem g_tbw.finds {E : g_E} {X : g_X} {M : g_M} (hX : g_ok E X M) {k hp : Nat} {g : JFrame} (hg : g.method = X.m) (hpl : X.e.platform.magicAccessors = ({} : Platform).magicAccessors) {a : Addr} {cell : Cell} (hcv : cell.vm = .none) : ∀ (tb : List ExceptionTableEntry) (nms : List String) (u : State), X.s.WarmedH u.vm → u.heap[a]? = some cell → u.vm.findClass (g_xn k) = some cell.cls → g_tbw M.y.cls k g.pc tb nms hp →
    ∃ vm' : Vm, X.s.WarmedH vm' ∧ ∀ (Q : Handler → Pre) (Z : CtlPost) (d : Bool) (acts : List Action), wp (findHandler.go g a tb) Q Z X.e d acts u ↔ Q (.found hp) d acts (u.setVm vm') := by
  intro tb
  induction tb with
  | nil => intro nms u _ _ _ h; cases h
  | cons x t ih =>
    intro nms u hW hcell hfc h
    cases nms with
    | nil => cases h
    | cons nm r =>
      obtain ⟨hx, hor⟩ := h
      rcases hor with ⟨hh, rfl⟩ | ⟨hh, h2⟩
      · obtain ⟨vm', hw', hs⟩ := g_Sr.step (t := t) hX hg hpl hW hx hh hcell hcv hfc
        exact ⟨vm', hw', fun Q Z d acts => by rw [hs]; rfl⟩
      · obtain ⟨vm', hw', hs⟩ := g_Sr.step (t := t) hX hg hpl hW hx hh hcell hcv hfc
        obtain ⟨vm2, hw2, hs2⟩ := ih r (u.setVm vm') hw' hcell (by
          show vm'.findClass (g_xn k) = some cell.cls
          rw [hw'.alike.findClass, ← hW.alike.findClass]
          exact hfc) h2
        exact ⟨vm2, hw2, fun Q Z d acts => by
          rw [hs]
          exact hs2 Q Z d acts⟩
theorem g_Th.caught {E : g_E} {X : g_X} {M : g_M} {P : g_P} {h : g_H} {cs ss pc hp : Nat} {L : List (Option Value)} {k : Nat} {nms : List String} (hX : g_ok E X M) (ht : g_tbw M.y.cls k pc (tableOf M.tb) nms hp) (kk : ∀ a : Nat, g_Go E X P h false cs ss hp L [.ref a]) : g_Th E X P h cs ss pc L k := by
  intro T locs ls st a cell hV hB hlo hL hcell hcv hfc X'
  have hpl : X.e.platform.magicAccessors = ({} : Platform).magicAccessors := by rw [X'.admits.platform]
  obtain ⟨vm', hw', hs⟩ := g_tbw.finds (M := M) (k := k) (hp := hp) (g := F0 X.m pc ls st) (a := a) (cell := cell) hX rfl hpl hcv (tableOf M.tb) nms ((T.setTop (F0 X.m pc ls st)).pushFrame (.throwing a))
    (by rw [Stand.throwing_vm]; exact X'.warmed) (by rw [Stand.throwing_heap]; exact hcell) (by rw [Stand.throwing_vm]; exact hfc) ht
  obtain ⟨t, a1, b1⟩ := kk a T.heap locs ls hV hB hlo hL (fun q => by cases q) (T.setVm vm') rfl (X'.noted hw')
  refine ⟨t, g_caught (g := F0 X.m pc ls st) (pc := hp) (vm' := vm') X'.here (fun Q Z d acts => ?_) a1, b1⟩
  rw [Jvm.W.findHandler_eq (meth := X.meth) (code := X.c) (by rw [Stand.throwing_vm]; exact X'.method') X'.code, hX.tb]
  exact hs Q Z d acts
end
section
/-! methods, fields, call sites, by name -/
abbrev mS_init : g_M := (⟨"SlideStage", "<init>", "()V"⟩, prog_1_method_1_code, 1, (none : Option Jvm.ClassFile.FieldType), [])
abbrev mA_init : g_M := (⟨"java/util/ArrayList", "<init>", "()V"⟩, prog_24_method_2_code, 1, (none : Option Jvm.ClassFile.FieldType), [])
abbrev mAL_init : g_M := (⟨"java/util/AbstractList", "<init>", "()V"⟩, prog_23_method_1_code, 1, (none : Option Jvm.ClassFile.FieldType), [])
abbrev mAC_init : g_M := (⟨"java/util/AbstractCollection", "<init>", "()V"⟩, prog_22_method_1_code, 1, (none : Option Jvm.ClassFile.FieldType), [])
abbrev mR_init : g_M := (⟨"SlideStage$LineRows", "<init>", "()V"⟩, prog_3_method_1_code, 1, (none : Option Jvm.ClassFile.FieldType), [])
abbrev mS_click : g_M := (⟨"SlideStage", "click", "()Z"⟩, prog_1_method_18_code, 1, (some .boolean), [])
abbrev mS_slideShown : g_M := (⟨"SlideStage", "slideShown", "()LSlideStage$Page;"⟩, prog_1_method_46_code, 1, (some (.object "SlideStage$Page")), [])
abbrev mS_findSlide : g_M := (⟨"SlideStage", "findSlide", "(I)LSlideStage$Page;"⟩, prog_1_method_45_code, 2, (some (.object "SlideStage$Page")), [])
abbrev mA_size : g_M := (⟨"java/util/ArrayList", "size", "()I"⟩, prog_24_method_8_code, 1, (some .int), [])
abbrev mA_get : g_M := (⟨"java/util/ArrayList", "get", "(I)Ljava/lang/Object;"⟩, prog_24_method_20_code, 2, (some (.object "java/lang/Object")), [])
abbrev mO_checkIndex : g_M := (⟨"java/util/Objects", "checkIndex", "(II)I"⟩, prog_28_method_17_code, 2, (some .int), [])
abbrev mPC_checkIndex : g_M := (⟨"jdk/internal/util/Preconditions", "checkIndex", "(IILjava/util/function/BiFunction;)I"⟩, prog_32_method_11_code, 3, (some .int), [])
abbrev mA_elementData : g_M := (⟨"java/util/ArrayList", "elementData", "(I)Ljava/lang/Object;"⟩, prog_24_method_18_code, 2, (some (.object "java/lang/Object")), [])
abbrev mS_lastBuild : g_M := (⟨"SlideStage", "lastBuild", "(LSlideStage$Page;)I"⟩, prog_1_method_41_code, 2, (some .int), [])
abbrev mS_lastEffect : g_M := (⟨"SlideStage", "lastEffect", "(LSlideStage$Page;)LSlideStage$Effect;"⟩, prog_1_method_40_code, 1, (some (.object "SlideStage$Effect")), [])
abbrev mA_isEmpty : g_M := (⟨"java/util/ArrayList", "isEmpty", "()Z"⟩, prog_24_method_9_code, 1, (some .boolean), [])
abbrev mS_show : g_M := (⟨"SlideStage", "show", "(III)V"⟩, prog_1_method_47_code, 4, (none : Option Jvm.ClassFile.FieldType), [])
abbrev mS_back : g_M := (⟨"SlideStage", "back", "()Z"⟩, prog_1_method_19_code, 2, (some .boolean), [])
abbrev mS_showEnd : g_M := (⟨"SlideStage", "showEnd", "(II)V"⟩, prog_1_method_48_code, 3, (none : Option Jvm.ClassFile.FieldType), [])
abbrev mS_lengthOfBuild : g_M := (⟨"SlideStage", "lengthOfBuild", "(LSlideStage$Page;I)I"⟩, prog_1_method_44_code, 5, (some .int), [])
abbrev mMA_max : g_M := (⟨"java/lang/Math", "max", "(II)I"⟩, prog_16_method_65_code, 2, (some .int), [])
abbrev mS_state : g_M := (⟨"SlideStage", "state", "(I)I"⟩, prog_1_method_22_code, 2, (some .int), [])
abbrev mS_pixel : g_M := (⟨"SlideStage", "pixel", "(II)I"⟩, prog_1_method_24_code, 5, (some .int), [])
abbrev mS_isWithin : g_M := (⟨"SlideStage", "isWithin", "(III)Z"⟩, prog_1_method_25_code, 3, (some .boolean), [])
abbrev mS_pageUnder : g_M := (⟨"SlideStage", "pageUnder", "(LSlideStage$Page;I)LSlideStage$Page;"⟩, prog_1_method_55_code, 3, (some (.object "SlideStage$Page")), [])
abbrev mS_paintPage : g_M := (⟨"SlideStage", "paintPage", "(LSlideStage$Page;III)I"⟩, prog_1_method_56_code, 9, (some .int), [])
abbrev mS_valueNow : g_M := (⟨"SlideStage", "valueNow", "(LSlideStage$Shape;I)I"⟩, prog_1_method_51_code, 4, (some .int), [])
abbrev mS_resolve : g_M := (⟨"SlideStage", "resolve", "(LSlideStage$Shape;I)I"⟩, prog_1_method_36_code, 4, (some .int), [])
abbrev mS_source : g_M := (⟨"SlideStage", "source", "(LSlideStage$Shape;I)LSlideStage$Shape;"⟩, prog_1_method_35_code, 4, (some (.object "SlideStage$Shape")), [])
abbrev mS_shapeInSlot : g_M := (⟨"SlideStage", "shapeInSlot", "(LSlideStage$Page;I)LSlideStage$Shape;"⟩, prog_1_method_33_code, 3, (some (.object "SlideStage$Shape")), [])
abbrev mS_moved : g_M := (⟨"SlideStage", "moved", "(LSlideStage$Shape;I)I"⟩, prog_1_method_52_code, 6, (some .int), [])
abbrev mS_part : g_M := (⟨"SlideStage", "part", "(LSlideStage$Effect;I)I"⟩, prog_1_method_50_code, 4, (some .int), [])
abbrev mS_progress : g_M := (⟨"SlideStage", "progress", "(LSlideStage$Effect;)I"⟩, prog_1_method_49_code, 2, (some .int), [])
abbrev mS_alphaNow : g_M := (⟨"SlideStage", "alphaNow", "(LSlideStage$Shape;I)I"⟩, prog_1_method_53_code, 6, (some .int), [])
abbrev mS_entersFirst : g_M := (⟨"SlideStage", "entersFirst", "(LSlideStage$Shape;)Z"⟩, prog_1_method_54_code, 3, (some .boolean), [])
abbrev mS_covers : g_M := (⟨"SlideStage", "covers", "(III)Z"⟩, prog_1_method_57_code, 3, (some .boolean), [])
abbrev mS_blend : g_M := (⟨"SlideStage", "blend", "(III)I"⟩, prog_1_method_58_code, 7, (some .int), [])
abbrev mL_page : g_M := (⟨"SlideStageLaw", "page", "(LSlideStage;II[J)I"⟩, method_3_code, 5, (some .int), [(0, 10, 13, 13), (0, 10, 17, 15), (0, 10, 21, 17)])
abbrev mS_page : g_M := (⟨"SlideStage", "page", "(II)I"⟩, prog_1_method_2_code, 5, (some .int), [])
abbrev mS_findPage : g_M := (⟨"SlideStage", "findPage", "(I)LSlideStage$Page;"⟩, prog_1_method_30_code, 2, (some (.object "SlideStage$Page")), [])
abbrev mS_isOfKind : g_M := (⟨"SlideStage", "isOfKind", "(LSlideStage$Page;I)Z"⟩, prog_1_method_31_code, 2, (some .boolean), [])
abbrev mP_init : g_M := (⟨"SlideStage$Page", "<init>", "(ILSlideStage$Page;)V"⟩, prog_4_method_1_code, 3, (none : Option Jvm.ClassFile.FieldType), [])
abbrev mA_add1 : g_M := (⟨"java/util/ArrayList", "add", "(Ljava/lang/Object;)Z"⟩, prog_24_method_25_code, 2, (some .boolean), [])
abbrev mA_add3 : g_M := (⟨"java/util/ArrayList", "add", "(Ljava/lang/Object;[Ljava/lang/Object;I)V"⟩, prog_24_method_24_code, 4, (none : Option Jvm.ClassFile.FieldType), [])
abbrev mA_grow0 : g_M := (⟨"java/util/ArrayList", "grow", "()[Ljava/lang/Object;"⟩, prog_24_method_7_code, 1, (some (.array (.object "java/lang/Object"))), [])
abbrev mA_grow1 : g_M := (⟨"java/util/ArrayList", "grow", "(I)[Ljava/lang/Object;"⟩, prog_24_method_6_code, 4, (some (.array (.object "java/lang/Object"))), [])
abbrev mAS_newLength : g_M := (⟨"jdk/internal/util/ArraysSupport", "newLength", "(III)I"⟩, prog_31_method_27_code, 4, (some .int), [])
abbrev mAS_hugeLength : g_M := (⟨"jdk/internal/util/ArraysSupport", "hugeLength", "(II)I"⟩, prog_31_method_28_code, 3, (some .int), [])
abbrev mMA_min : g_M := (⟨"java/lang/Math", "min", "(II)I"⟩, prog_16_method_69_code, 2, (some .int), [])
abbrev mS_addSlide : g_M := (⟨"SlideStage", "addSlide", "(LSlideStage$Page;)V"⟩, prog_1_method_32_code, 2, (none : Option Jvm.ClassFile.FieldType), [])
abbrev mL_shape : g_M := (⟨"SlideStageLaw", "shape", "(LSlideStage;II[J)I"⟩, method_4_code, 5, (some .int), [(0, 10, 13, 15), (0, 10, 17, 13), (0, 10, 21, 17), (0, 10, 25, 22)])
abbrev mS_shape : g_M := (⟨"SlideStage", "shape", "(II)I"⟩, prog_1_method_3_code, 5, (some .int), [])
abbrev mH_init : g_M := (⟨"SlideStage$Shape", "<init>", "(ILSlideStage$Page;I)V"⟩, prog_6_method_1_code, 4, (none : Option Jvm.ClassFile.FieldType), [])
abbrev mL_theme : g_M := (⟨"SlideStageLaw", "theme", "(LSlideStage;II)I"⟩, method_5_code, 4, (some .int), [(0, 6, 9, 13)])
abbrev mS_theme : g_M := (⟨"SlideStage", "theme", "(II)V"⟩, prog_1_method_4_code, 3, (none : Option Jvm.ClassFile.FieldType), [])
abbrev mS_checkValue : g_M := (⟨"SlideStage", "checkValue", "(II)V"⟩, prog_1_method_27_code, 2, (none : Option Jvm.ClassFile.FieldType), [])
abbrev mS_checkProperty : g_M := (⟨"SlideStage", "checkProperty", "(I)V"⟩, prog_1_method_26_code, 1, (none : Option Jvm.ClassFile.FieldType), [])
abbrev mL_set : g_M := (⟨"SlideStageLaw", "set", "(LSlideStage;III)I"⟩, method_6_code, 5, (some .int), [(0, 7, 10, 15), (0, 7, 14, 13)])
abbrev mS_set : g_M := (⟨"SlideStage", "set", "(III)V"⟩, prog_1_method_5_code, 5, (none : Option Jvm.ClassFile.FieldType), [])
abbrev mS_findShape : g_M := (⟨"SlideStage", "findShape", "(I)LSlideStage$Shape;"⟩, prog_1_method_28_code, 2, (some (.object "SlideStage$Shape")), [])
abbrev mL_unset : g_M := (⟨"SlideStageLaw", "unset", "(LSlideStage;II[J)I"⟩, method_7_code, 5, (some .int), [(0, 17, 20, 15), (0, 17, 24, 13)])
abbrev mS_unset : g_M := (⟨"SlideStage", "unset", "(II)Z"⟩, prog_1_method_6_code, 5, (some .boolean), [])
abbrev mL_resolved : g_M := (⟨"SlideStageLaw", "resolved", "(LSlideStage;II[J)I"⟩, method_8_code, 5, (some .int), [(0, 10, 13, 15), (0, 10, 17, 13)])
abbrev mS_resolved : g_M := (⟨"SlideStage", "resolved", "(II)I"⟩, prog_1_method_7_code, 4, (some .int), [])
abbrev mL_origin : g_M := (⟨"SlideStageLaw", "origin", "(LSlideStage;II[J)I"⟩, method_9_code, 5, (some .int), [(0, 10, 13, 15), (0, 10, 17, 13)])
abbrev mS_origin : g_M := (⟨"SlideStage", "origin", "(II)I"⟩, prog_1_method_8_code, 4, (some .int), [])
abbrev mS_indexOf : g_M := (⟨"SlideStage", "indexOf", "(LSlideStage$Shape;)I"⟩, prog_1_method_34_code, 1, (some .int), [])
abbrev mL_binding : g_M := (⟨"SlideStageLaw", "binding", "(LSlideStage;I[J)I"⟩, method_10_code, 4, (some .int), [(0, 9, 12, 15)])
abbrev mS_binding : g_M := (⟨"SlideStage", "binding", "(I)I"⟩, prog_1_method_9_code, 3, (some .int), [])
abbrev mL_write : g_M := (⟨"SlideStageLaw", "write", "(LSlideStage;III[J)I"⟩, method_11_code, 6, (some .int), [(0, 12, 15, 15), (0, 12, 19, 13), (0, 12, 23, 17)])
abbrev mS_write : g_M := (⟨"SlideStage", "write", "(III)I"⟩, prog_1_method_10_code, 5, (some .int), [])
abbrev mS_areWords : g_M := (⟨"SlideStage", "areWords", "(I)Z"⟩, prog_1_method_38_code, 2, (some .boolean), [])
abbrev mS_letters : g_M := (⟨"SlideStage", "letters", "(II)I"⟩, prog_1_method_37_code, 2, (some .int), [])
abbrev mG_init : g_M := (⟨"SlideStage$Paragraph", "<init>", "(II)V"⟩, prog_5_method_1_code, 3, (none : Option Jvm.ClassFile.FieldType), [])
abbrev mL_scale : g_M := (⟨"SlideStageLaw", "scale", "(LSlideStage;I[J)I"⟩, method_12_code, 4, (some .int), [(0, 9, 12, 15)])
abbrev mS_scale : g_M := (⟨"SlideStage", "scale", "(I)I"⟩, prog_1_method_11_code, 2, (some .int), [])
abbrev mS_fitText : g_M := (⟨"SlideStage", "fitText", "(LSlideStage$Shape;)I"⟩, prog_1_method_39_code, 5, (some .int), [])
abbrev mR_fill : g_M := (⟨"SlideStage$LineRows", "fill", "(Ljava/util/List;II)V"⟩, prog_3_method_2_code, 6, (none : Option Jvm.ClassFile.FieldType), [])
abbrev mR_addParagraph : g_M := (⟨"SlideStage$LineRows", "addParagraph", "(IIII)V"⟩, prog_3_method_3_code, 8, (none : Option Jvm.ClassFile.FieldType), [])
abbrev mR_extendLine : g_M := (⟨"SlideStage$LineRows", "extendLine", "(II)Z"⟩, prog_3_method_4_code, 3, (some .boolean), [])
abbrev mR_beginLine : g_M := (⟨"SlideStage$LineRows", "beginLine", "(III)V"⟩, prog_3_method_5_code, 4, (none : Option Jvm.ClassFile.FieldType), [])
abbrev mL_lines : g_M := (⟨"SlideStageLaw", "lines", "(LSlideStage;I[J)I"⟩, method_13_code, 4, (some .int), [(0, 9, 12, 15)])
abbrev mS_lines : g_M := (⟨"SlideStage", "lines", "(I)I"⟩, prog_1_method_12_code, 2, (some .int), [])
abbrev mL_line : g_M := (⟨"SlideStageLaw", "line", "(LSlideStage;III[J)I"⟩, method_14_code, 6, (some .int), [(0, 12, 15, 15)])
abbrev mS_line : g_M := (⟨"SlideStage", "line", "(III)I"⟩, prog_1_method_13_code, 4, (some .int), [])
abbrev mL_number : g_M := (⟨"SlideStageLaw", "number", "(LSlideStage;II[J)I"⟩, method_15_code, 5, (some .int), [(0, 10, 13, 15)])
abbrev mS_number : g_M := (⟨"SlideStage", "number", "(II)I"⟩, prog_1_method_14_code, 7, (some .int), [])
abbrev mL_effect : g_M := (⟨"SlideStageLaw", "effect", "(LSlideStage;IIIII[J)I"⟩, method_16_code, 8, (some .int), [(0, 16, 19, 15), (0, 16, 23, 13), (0, 16, 27, 17), (0, 16, 31, 22)])
abbrev mS_effect : g_M := (⟨"SlideStage", "effect", "(IIIII)I"⟩, prog_1_method_15_code, 11, (some .int), [])
abbrev mS_buildBehind : g_M := (⟨"SlideStage", "buildBehind", "(LSlideStage$Effect;I)I"⟩, prog_1_method_42_code, 3, (some .int), [])
abbrev mS_baseBehind : g_M := (⟨"SlideStage", "baseBehind", "(LSlideStage$Effect;I)I"⟩, prog_1_method_43_code, 2, (some .int), [])
abbrev mF_init : g_M := (⟨"SlideStage$Effect", "<init>", "(LSlideStage$Page;IIIII)V"⟩, prog_2_method_1_code, 7, (none : Option Jvm.ClassFile.FieldType), [])
abbrev mL_amount : g_M := (⟨"SlideStageLaw", "amount", "(LSlideStage;II)I"⟩, method_17_code, 4, (some .int), [(0, 6, 9, 15), (0, 6, 12, 13)])
abbrev mS_amount : g_M := (⟨"SlideStage", "amount", "(II)V"⟩, prog_1_method_16_code, 4, (none : Option Jvm.ClassFile.FieldType), [])
abbrev mS_findEffect : g_M := (⟨"SlideStage", "findEffect", "(I)LSlideStage$Effect;"⟩, prog_1_method_29_code, 2, (some (.object "SlideStage$Effect")), [])
abbrev mL_timing : g_M := (⟨"SlideStageLaw", "timing", "(LSlideStage;II[J)I"⟩, method_18_code, 5, (some .int), [(0, 10, 13, 15)])
abbrev mS_timing : g_M := (⟨"SlideStage", "timing", "(II)I"⟩, prog_1_method_17_code, 4, (some .int), [])
abbrev mL_jump : g_M := (⟨"SlideStageLaw", "jump", "(LSlideStage;I)I"⟩, method_19_code, 3, (some .int), [(0, 5, 8, 15)])
abbrev mS_jump : g_M := (⟨"SlideStage", "jump", "(I)V"⟩, prog_1_method_20_code, 2, (none : Option Jvm.ClassFile.FieldType), [])
abbrev mL_tick : g_M := (⟨"SlideStageLaw", "tick", "(LSlideStage;I)I"⟩, method_20_code, 3, (some .int), [(0, 5, 8, 13)])
abbrev mS_tick : g_M := (⟨"SlideStage", "tick", "(I)V"⟩, prog_1_method_21_code, 2, (none : Option Jvm.ClassFile.FieldType), [])
abbrev mL_now : g_M := (⟨"SlideStageLaw", "now", "(LSlideStage;II[J)I"⟩, method_21_code, 5, (some .int), [(0, 10, 13, 15), (0, 10, 17, 13)])
abbrev mS_now : g_M := (⟨"SlideStage", "now", "(II)I"⟩, prog_1_method_23_code, 4, (some .int), [])
abbrev mM_init : g_M := (⟨"SlideStageModel", "<init>", "()V"⟩, prog_8_method_1_code, 1, (none : Option Jvm.ClassFile.FieldType), [])
abbrev mM_thrown : g_M := (⟨"SlideStageModel", "thrown", "()I"⟩, prog_8_method_2_code, 1, (some .int), [])
abbrev mM_page : g_M := (⟨"SlideStageModel", "page", "(II)I"⟩, prog_8_method_6_code, 4, (some .int), [])
abbrev mM_noPage : g_M := (⟨"SlideStageModel", "noPage", "(I)Z"⟩, prog_8_method_3_code, 2, (some .boolean), [])
abbrev mM_shape : g_M := (⟨"SlideStageModel", "shape", "(II)I"⟩, prog_8_method_8_code, 3, (some .int), [])
abbrev mM_slotted : g_M := (⟨"SlideStageModel", "slotted", "(II)I"⟩, prog_8_method_7_code, 4, (some .int), [])
abbrev mM_theme : g_M := (⟨"SlideStageModel", "theme", "(II)V"⟩, prog_8_method_10_code, 3, (none : Option Jvm.ClassFile.FieldType), [])
abbrev mM_bad : g_M := (⟨"SlideStageModel", "bad", "(II)Z"⟩, prog_8_method_9_code, 2, (some .boolean), [])
abbrev mM_set : g_M := (⟨"SlideStageModel", "set", "(III)V"⟩, prog_8_method_11_code, 4, (none : Option Jvm.ClassFile.FieldType), [])
abbrev mM_noShape : g_M := (⟨"SlideStageModel", "noShape", "(I)Z"⟩, prog_8_method_4_code, 2, (some .boolean), [])
abbrev mM_unset : g_M := (⟨"SlideStageModel", "unset", "(II)Z"⟩, prog_8_method_12_code, 4, (some .boolean), [])
abbrev mM_noProperty : g_M := (⟨"SlideStageModel", "noProperty", "(I)Z"⟩, prog_8_method_5_code, 1, (some .boolean), [])
abbrev mM_resolved : g_M := (⟨"SlideStageModel", "resolved", "(II)I"⟩, prog_8_method_15_code, 3, (some .int), [])
abbrev mM_value : g_M := (⟨"SlideStageModel", "value", "(II)I"⟩, prog_8_method_14_code, 4, (some .int), [])
abbrev mM_source : g_M := (⟨"SlideStageModel", "source", "(II)I"⟩, prog_8_method_13_code, 5, (some .int), [])
abbrev mM_origin : g_M := (⟨"SlideStageModel", "origin", "(II)I"⟩, prog_8_method_16_code, 3, (some .int), [])
abbrev mM_binding : g_M := (⟨"SlideStageModel", "binding", "(I)I"⟩, prog_8_method_17_code, 3, (some .int), [])
abbrev mM_write : g_M := (⟨"SlideStageModel", "write", "(III)I"⟩, prog_8_method_18_code, 8, (some .int), [])
abbrev mM_scale : g_M := (⟨"SlideStageModel", "scale", "(I)I"⟩, prog_8_method_21_code, 2, (some .int), [])
abbrev mM_fit : g_M := (⟨"SlideStageModel", "fit", "(I)I"⟩, prog_8_method_20_code, 3, (some .int), [])
abbrev mM_breakText : g_M := (⟨"SlideStageModel", "breakText", "(II)V"⟩, prog_8_method_19_code, 10, (none : Option Jvm.ClassFile.FieldType), [])
abbrev mM_lines : g_M := (⟨"SlideStageModel", "lines", "(I)I"⟩, prog_8_method_22_code, 3, (some .int), [])
abbrev mM_line : g_M := (⟨"SlideStageModel", "line", "(III)I"⟩, prog_8_method_23_code, 5, (some .int), [])
abbrev mM_number : g_M := (⟨"SlideStageModel", "number", "(II)I"⟩, prog_8_method_24_code, 7, (some .int), [])
abbrev mM_effect : g_M := (⟨"SlideStageModel", "effect", "(IIIII)I"⟩, prog_8_method_25_code, 7, (some .int), [])
abbrev mM_amount : g_M := (⟨"SlideStageModel", "amount", "(II)V"⟩, prog_8_method_27_code, 3, (none : Option Jvm.ClassFile.FieldType), [])
abbrev mM_noEffect : g_M := (⟨"SlideStageModel", "noEffect", "(I)Z"⟩, prog_8_method_26_code, 2, (some .boolean), [])
abbrev mM_timing : g_M := (⟨"SlideStageModel", "timing", "(II)I"⟩, prog_8_method_36_code, 3, (some .int), [])
abbrev mM_start : g_M := (⟨"SlideStageModel", "start", "(I)I"⟩, prog_8_method_30_code, 7, (some .int), [])
abbrev mM_end : g_M := (⟨"SlideStageModel", "end", "(I)I"⟩, prog_8_method_31_code, 2, (some .int), [])
abbrev mM_build : g_M := (⟨"SlideStageModel", "build", "(I)I"⟩, prog_8_method_29_code, 4, (some .int), [])
abbrev mM_slide : g_M := (⟨"SlideStageModel", "slide", "(I)I"⟩, prog_8_method_34_code, 4, (some .int), [])
abbrev mM_stage : g_M := (⟨"SlideStageModel", "stage", "(I)I"⟩, prog_8_method_35_code, 3, (some .int), [])
abbrev mM_click : g_M := (⟨"SlideStageModel", "click", "()Z"⟩, prog_8_method_37_code, 2, (some .boolean), [])
abbrev mM_lastBuild : g_M := (⟨"SlideStageModel", "lastBuild", "(I)I"⟩, prog_8_method_32_code, 4, (some .int), [])
abbrev mM_back : g_M := (⟨"SlideStageModel", "back", "()Z"⟩, prog_8_method_38_code, 1, (some .boolean), [])
abbrev mM_length : g_M := (⟨"SlideStageModel", "length", "(II)I"⟩, prog_8_method_33_code, 5, (some .int), [])
abbrev mM_jump : g_M := (⟨"SlideStageModel", "jump", "(I)V"⟩, prog_8_method_39_code, 2, (none : Option Jvm.ClassFile.FieldType), [])
abbrev mM_tick : g_M := (⟨"SlideStageModel", "tick", "(I)V"⟩, prog_8_method_40_code, 2, (none : Option Jvm.ClassFile.FieldType), [])
abbrev mM_state : g_M := (⟨"SlideStageModel", "state", "(I)I"⟩, prog_8_method_41_code, 3, (some .int), [])
abbrev mM_now : g_M := (⟨"SlideStageModel", "now", "(II)I"⟩, prog_8_method_46_code, 3, (some .int), [])
abbrev mM_valueNow : g_M := (⟨"SlideStageModel", "valueNow", "(II)I"⟩, prog_8_method_45_code, 4, (some .int), [])
abbrev mM_moved : g_M := (⟨"SlideStageModel", "moved", "(II)I"⟩, prog_8_method_43_code, 6, (some .int), [])
abbrev mM_part : g_M := (⟨"SlideStageModel", "part", "(II)I"⟩, prog_8_method_42_code, 3, (some .int), [])
abbrev mM_shown : g_M := (⟨"SlideStageModel", "shown", "(II)I"⟩, prog_8_method_44_code, 9, (some .int), [])
abbrev mM_pixel : g_M := (⟨"SlideStageModel", "pixel", "(II)I"⟩, prog_8_method_51_code, 5, (some .int), [])
abbrev mM_painted : g_M := (⟨"SlideStageModel", "painted", "(IZIII)I"⟩, prog_8_method_50_code, 8, (some .int), [])
abbrev mM_covers : g_M := (⟨"SlideStageModel", "covers", "(III)Z"⟩, prog_8_method_47_code, 6, (some .boolean), [])
abbrev mM_over : g_M := (⟨"SlideStageModel", "over", "(II)I"⟩, prog_8_method_49_code, 7, (some .int), [])
abbrev mM_mixed : g_M := (⟨"SlideStageModel", "mixed", "(III)I"⟩, prog_8_method_48_code, 3, (some .int), [])
theorem kc0 : g_cf 0 "SlideStage" t_S 9 t_Sy := ⟨rfl, g_ins [141, 143, 145, 147, 149, 151, 153, 155, 157] (by decide +kernel) (by decide +kernel), by decide +kernel, by decide +kernel⟩
theorem kc1 : g_cf 1 "SlideStage$Page" t_P 4 t_Py := ⟨rfl, g_ins [428, 430, 432, 434] (by decide +kernel) (by decide +kernel), by decide +kernel, by decide +kernel⟩
theorem kc2 : g_cf 2 "SlideStage$Shape" t_H 7 t_Hy := ⟨rfl, g_ins [551, 553, 555, 557, 559, 561, 563] (by decide +kernel) (by decide +kernel), by decide +kernel, by decide +kernel⟩
theorem kc3 : g_cf 3 "SlideStage$Paragraph" t_G 2 t_Gy := ⟨rfl, g_ins [656, 658] (by decide +kernel) (by decide +kernel), by decide +kernel, by decide +kernel⟩
theorem kc4 : g_cf 4 "SlideStage$Effect" t_F 8 t_Fy := ⟨rfl, g_ins [753, 755, 757, 759, 761, 763, 765, 767] (by decide +kernel) (by decide +kernel), by decide +kernel, by decide +kernel⟩
theorem kc5 : g_cf 5 "SlideStage$LineRows" t_R 5 t_Ry := ⟨rfl, g_ins [121, 123, 125, 127, 129] (by decide +kernel) (by decide +kernel), by decide +kernel, by decide +kernel⟩
theorem kc6 : g_cf 6 "java/util/ArrayList" t_A 3 t_Ay := ⟨rfl, g_ins [97, 99, 101] (by decide +kernel) (by decide +kernel), by decide +kernel, by decide +kernel⟩
theorem kc7 : g_cf 7 "SlideStageModel" t_M 29 t_My := ⟨rfl, g_ins [851, 853, 855, 857, 859, 861, 863, 865, 867, 869, 871, 873, 875, 877, 879, 881, 883, 885, 887, 889, 891, 893, 895, 897, 899, 901, 903, 905, 907] (by decide +kernel) (by decide +kernel), by decide +kernel, by decide +kernel⟩
theorem fS_10 : g_fd "SlideStage" 10 0 0 (.array .int) true "SlideStage" := ⟨"SlideStage", t_S, 9, t_Sy, "SlideStage", kc0, by decide, (g_in 132 (by decide +kernel) (by decide +kernel)), Or.inl rfl, rfl, rfl, rfl⟩
theorem fS_17 : g_fd "SlideStage" 17 0 1 (.object "java/util/List") true "SlideStage" := ⟨"SlideStage", t_S, 9, t_Sy, "SlideStage", kc0, by decide, (g_in 133 (by decide +kernel) (by decide +kernel)), Or.inl rfl, rfl, rfl, rfl⟩
theorem fS_21 : g_fd "SlideStage" 21 0 2 (.object "java/util/List") true "SlideStage" := ⟨"SlideStage", t_S, 9, t_Sy, "SlideStage", kc0, by decide, (g_in 134 (by decide +kernel) (by decide +kernel)), Or.inl rfl, rfl, rfl, rfl⟩
theorem fS_24 : g_fd "SlideStage" 24 0 3 (.object "java/util/List") true "SlideStage" := ⟨"SlideStage", t_S, 9, t_Sy, "SlideStage", kc0, by decide, (g_in 135 (by decide +kernel) (by decide +kernel)), Or.inl rfl, rfl, rfl, rfl⟩
theorem fS_27 : g_fd "SlideStage" 27 0 4 (.object "java/util/List") true "SlideStage" := ⟨"SlideStage", t_S, 9, t_Sy, "SlideStage", kc0, by decide, (g_in 136 (by decide +kernel) (by decide +kernel)), Or.inl rfl, rfl, rfl, rfl⟩
theorem fS_33 : g_fd "SlideStage" 33 0 5 (.object "SlideStage$LineRows") true "SlideStage" := ⟨"SlideStage", t_S, 9, t_Sy, "SlideStage", kc0, by decide, (g_in 137 (by decide +kernel) (by decide +kernel)), Or.inl rfl, rfl, rfl, rfl⟩
theorem fS_37 : g_fd "SlideStage" 37 0 6 .int false "SlideStage" := ⟨"SlideStage", t_S, 9, t_Sy, "SlideStage", kc0, by decide, (g_in 138 (by decide +kernel) (by decide +kernel)), Or.inl rfl, rfl, rfl, rfl⟩
theorem fS_41 : g_fd "SlideStage" 41 0 7 .int false "SlideStage" := ⟨"SlideStage", t_S, 9, t_Sy, "SlideStage", kc0, by decide, (g_in 139 (by decide +kernel) (by decide +kernel)), Or.inl rfl, rfl, rfl, rfl⟩
theorem fS_44 : g_fd "SlideStage" 44 0 8 .int false "SlideStage" := ⟨"SlideStage", t_S, 9, t_Sy, "SlideStage", kc0, by decide, (g_in 140 (by decide +kernel) (by decide +kernel)), Or.inl rfl, rfl, rfl, rfl⟩
theorem fS_115 : g_fd "SlideStage" 115 1 2 (.object "java/util/List") true "SlideStage$Page" := ⟨"SlideStage$Page", t_P, 4, t_Py, "SlideStage$Page", kc1, by decide, (g_in 425 (by decide +kernel) (by decide +kernel)), Or.inl rfl, rfl, rfl, rfl⟩
theorem fS_116 : g_fd "SlideStage" 116 2 0 .int true "SlideStage$Shape" := ⟨"SlideStage$Shape", t_H, 7, t_Hy, "SlideStage$Shape", kc2, by decide, (g_in 538 (by decide +kernel) (by decide +kernel)), Or.inl rfl, rfl, rfl, rfl⟩
theorem fS_127 : g_fd "SlideStage" 127 2 3 (.array .boolean) true "SlideStage$Shape" := ⟨"SlideStage$Shape", t_H, 7, t_Hy, "SlideStage$Shape", kc2, by decide, (g_in 544 (by decide +kernel) (by decide +kernel)), Or.inl rfl, rfl, rfl, rfl⟩
theorem fS_131 : g_fd "SlideStage" 131 2 4 (.array .int) true "SlideStage$Shape" := ⟨"SlideStage$Shape", t_H, 7, t_Hy, "SlideStage$Shape", kc2, by decide, (g_in 546 (by decide +kernel) (by decide +kernel)), Or.inl rfl, rfl, rfl, rfl⟩
theorem fS_150 : g_fd "SlideStage" 150 2 1 (.object "SlideStage$Page") true "SlideStage$Shape" := ⟨"SlideStage$Shape", t_H, 7, t_Hy, "SlideStage$Shape", kc2, by decide, (g_in 540 (by decide +kernel) (by decide +kernel)), Or.inl rfl, rfl, rfl, rfl⟩
theorem fS_154 : g_fd "SlideStage" 154 1 1 (.object "SlideStage$Page") true "SlideStage$Page" := ⟨"SlideStage$Page", t_P, 4, t_Py, "SlideStage$Page", kc1, by decide, (g_in 423 (by decide +kernel) (by decide +kernel)), Or.inl rfl, rfl, rfl, rfl⟩
theorem fS_157 : g_fd "SlideStage" 157 2 2 .int true "SlideStage$Shape" := ⟨"SlideStage$Shape", t_H, 7, t_Hy, "SlideStage$Shape", kc2, by decide, (g_in 542 (by decide +kernel) (by decide +kernel)), Or.inl rfl, rfl, rfl, rfl⟩
theorem fS_168 : g_fd "SlideStage" 168 2 5 (.object "java/util/List") true "SlideStage$Shape" := ⟨"SlideStage$Shape", t_H, 7, t_Hy, "SlideStage$Shape", kc2, by decide, (g_in 548 (by decide +kernel) (by decide +kernel)), Or.inl rfl, rfl, rfl, rfl⟩
theorem fS_180 : g_fd "SlideStage" 180 5 4 .int false "SlideStage$LineRows" := ⟨"SlideStage$LineRows", t_R, 5, t_Ry, "SlideStage$LineRows", kc5, by decide, (g_in 120 (by decide +kernel) (by decide +kernel)), Or.inl rfl, rfl, rfl, rfl⟩
theorem fS_183 : g_fd "SlideStage" 183 5 0 (.array .int) true "SlideStage$LineRows" := ⟨"SlideStage$LineRows", t_R, 5, t_Ry, "SlideStage$LineRows", kc5, by decide, (g_in 112 (by decide +kernel) (by decide +kernel)), Or.inl rfl, rfl, rfl, rfl⟩
theorem fS_186 : g_fd "SlideStage" 186 5 1 (.array .int) true "SlideStage$LineRows" := ⟨"SlideStage$LineRows", t_R, 5, t_Ry, "SlideStage$LineRows", kc5, by decide, (g_in 114 (by decide +kernel) (by decide +kernel)), Or.inl rfl, rfl, rfl, rfl⟩
theorem fS_189 : g_fd "SlideStage" 189 5 2 (.array .int) true "SlideStage$LineRows" := ⟨"SlideStage$LineRows", t_R, 5, t_Ry, "SlideStage$LineRows", kc5, by decide, (g_in 116 (by decide +kernel) (by decide +kernel)), Or.inl rfl, rfl, rfl, rfl⟩
theorem fS_192 : g_fd "SlideStage" 192 5 3 (.array .int) true "SlideStage$LineRows" := ⟨"SlideStage$LineRows", t_R, 5, t_Ry, "SlideStage$LineRows", kc5, by decide, (g_in 118 (by decide +kernel) (by decide +kernel)), Or.inl rfl, rfl, rfl, rfl⟩
theorem fS_199 : g_fd "SlideStage" 199 3 0 .int true "SlideStage$Paragraph" := ⟨"SlideStage$Paragraph", t_G, 2, t_Gy, "SlideStage$Paragraph", kc3, by decide, (g_in 653 (by decide +kernel) (by decide +kernel)), Or.inl rfl, rfl, rfl, rfl⟩
theorem fS_206 : g_fd "SlideStage" 206 1 0 .int true "SlideStage$Page" := ⟨"SlideStage$Page", t_P, 4, t_Py, "SlideStage$Page", kc1, by decide, (g_in 421 (by decide +kernel) (by decide +kernel)), Or.inl rfl, rfl, rfl, rfl⟩
theorem fS_229 : g_fd "SlideStage" 229 1 3 (.object "java/util/List") true "SlideStage$Page" := ⟨"SlideStage$Page", t_P, 4, t_Py, "SlideStage$Page", kc1, by decide, (g_in 427 (by decide +kernel) (by decide +kernel)), Or.inl rfl, rfl, rfl, rfl⟩
theorem fS_230 : g_fd "SlideStage" 230 2 6 (.object "java/util/List") true "SlideStage$Shape" := ⟨"SlideStage$Shape", t_H, 7, t_Hy, "SlideStage$Shape", kc2, by decide, (g_in 550 (by decide +kernel) (by decide +kernel)), Or.inl rfl, rfl, rfl, rfl⟩
theorem fS_237 : g_fd "SlideStage" 237 4 7 .int false "SlideStage$Effect" := ⟨"SlideStage$Effect", t_F, 8, t_Fy, "SlideStage$Effect", kc4, by decide, (g_in 752 (by decide +kernel) (by decide +kernel)), Or.inl rfl, rfl, rfl, rfl⟩
theorem fS_240 : g_fd "SlideStage" 240 4 4 .int true "SlideStage$Effect" := ⟨"SlideStage$Effect", t_F, 8, t_Fy, "SlideStage$Effect", kc4, by decide, (g_in 746 (by decide +kernel) (by decide +kernel)), Or.inl rfl, rfl, rfl, rfl⟩
theorem fS_243 : g_fd "SlideStage" 243 4 5 .int true "SlideStage$Effect" := ⟨"SlideStage$Effect", t_F, 8, t_Fy, "SlideStage$Effect", kc4, by decide, (g_in 748 (by decide +kernel) (by decide +kernel)), Or.inl rfl, rfl, rfl, rfl⟩
theorem fS_246 : g_fd "SlideStage" 246 4 2 .int true "SlideStage$Effect" := ⟨"SlideStage$Effect", t_F, 8, t_Fy, "SlideStage$Effect", kc4, by decide, (g_in 742 (by decide +kernel) (by decide +kernel)), Or.inl rfl, rfl, rfl, rfl⟩
theorem fS_249 : g_fd "SlideStage" 249 4 0 (.object "SlideStage$Page") true "SlideStage$Effect" := ⟨"SlideStage$Effect", t_F, 8, t_Fy, "SlideStage$Effect", kc4, by decide, (g_in 738 (by decide +kernel) (by decide +kernel)), Or.inl rfl, rfl, rfl, rfl⟩
theorem fS_326 : g_fd "SlideStage" 326 4 3 .int true "SlideStage$Effect" := ⟨"SlideStage$Effect", t_F, 8, t_Fy, "SlideStage$Effect", kc4, by decide, (g_in 744 (by decide +kernel) (by decide +kernel)), Or.inl rfl, rfl, rfl, rfl⟩
theorem fS_332 : g_fd "SlideStage" 332 4 6 .int true "SlideStage$Effect" := ⟨"SlideStage$Effect", t_F, 8, t_Fy, "SlideStage$Effect", kc4, by decide, (g_in 750 (by decide +kernel) (by decide +kernel)), Or.inl rfl, rfl, rfl, rfl⟩
theorem fS_341 : g_fd "SlideStage" 341 4 1 .int true "SlideStage$Effect" := ⟨"SlideStage$Effect", t_F, 8, t_Fy, "SlideStage$Effect", kc4, by decide, (g_in 740 (by decide +kernel) (by decide +kernel)), Or.inl rfl, rfl, rfl, rfl⟩
theorem fF_7 : g_fd "SlideStage$Effect" 7 4 7 .int false "SlideStage$Effect" := ⟨"SlideStage$Effect", t_F, 8, t_Fy, "SlideStage$Effect", kc4, by decide, (g_in 751 (by decide +kernel) (by decide +kernel)), Or.inl rfl, rfl, rfl, rfl⟩
theorem fF_13 : g_fd "SlideStage$Effect" 13 4 0 (.object "SlideStage$Page") true "SlideStage$Effect" := ⟨"SlideStage$Effect", t_F, 8, t_Fy, "SlideStage$Effect", kc4, by decide, (g_in 737 (by decide +kernel) (by decide +kernel)), Or.inl rfl, rfl, rfl, rfl⟩
theorem fF_17 : g_fd "SlideStage$Effect" 17 4 1 .int true "SlideStage$Effect" := ⟨"SlideStage$Effect", t_F, 8, t_Fy, "SlideStage$Effect", kc4, by decide, (g_in 739 (by decide +kernel) (by decide +kernel)), Or.inl rfl, rfl, rfl, rfl⟩
theorem fF_20 : g_fd "SlideStage$Effect" 20 4 2 .int true "SlideStage$Effect" := ⟨"SlideStage$Effect", t_F, 8, t_Fy, "SlideStage$Effect", kc4, by decide, (g_in 741 (by decide +kernel) (by decide +kernel)), Or.inl rfl, rfl, rfl, rfl⟩
theorem fF_23 : g_fd "SlideStage$Effect" 23 4 3 .int true "SlideStage$Effect" := ⟨"SlideStage$Effect", t_F, 8, t_Fy, "SlideStage$Effect", kc4, by decide, (g_in 743 (by decide +kernel) (by decide +kernel)), Or.inl rfl, rfl, rfl, rfl⟩
theorem fF_26 : g_fd "SlideStage$Effect" 26 4 4 .int true "SlideStage$Effect" := ⟨"SlideStage$Effect", t_F, 8, t_Fy, "SlideStage$Effect", kc4, by decide, (g_in 745 (by decide +kernel) (by decide +kernel)), Or.inl rfl, rfl, rfl, rfl⟩
theorem fF_29 : g_fd "SlideStage$Effect" 29 4 5 .int true "SlideStage$Effect" := ⟨"SlideStage$Effect", t_F, 8, t_Fy, "SlideStage$Effect", kc4, by decide, (g_in 747 (by decide +kernel) (by decide +kernel)), Or.inl rfl, rfl, rfl, rfl⟩
theorem fF_32 : g_fd "SlideStage$Effect" 32 4 6 .int true "SlideStage$Effect" := ⟨"SlideStage$Effect", t_F, 8, t_Fy, "SlideStage$Effect", kc4, by decide, (g_in 749 (by decide +kernel) (by decide +kernel)), Or.inl rfl, rfl, rfl, rfl⟩
theorem fR_9 : g_fd "SlideStage$LineRows" 9 5 0 (.array .int) true "SlideStage$LineRows" := ⟨"SlideStage$LineRows", t_R, 5, t_Ry, "SlideStage$LineRows", kc5, by decide, (g_in 111 (by decide +kernel) (by decide +kernel)), Or.inl rfl, rfl, rfl, rfl⟩
theorem fR_15 : g_fd "SlideStage$LineRows" 15 5 1 (.array .int) true "SlideStage$LineRows" := ⟨"SlideStage$LineRows", t_R, 5, t_Ry, "SlideStage$LineRows", kc5, by decide, (g_in 113 (by decide +kernel) (by decide +kernel)), Or.inl rfl, rfl, rfl, rfl⟩
theorem fR_18 : g_fd "SlideStage$LineRows" 18 5 2 (.array .int) true "SlideStage$LineRows" := ⟨"SlideStage$LineRows", t_R, 5, t_Ry, "SlideStage$LineRows", kc5, by decide, (g_in 115 (by decide +kernel) (by decide +kernel)), Or.inl rfl, rfl, rfl, rfl⟩
theorem fR_21 : g_fd "SlideStage$LineRows" 21 5 3 (.array .int) true "SlideStage$LineRows" := ⟨"SlideStage$LineRows", t_R, 5, t_Ry, "SlideStage$LineRows", kc5, by decide, (g_in 117 (by decide +kernel) (by decide +kernel)), Or.inl rfl, rfl, rfl, rfl⟩
theorem fR_24 : g_fd "SlideStage$LineRows" 24 5 4 .int false "SlideStage$LineRows" := ⟨"SlideStage$LineRows", t_R, 5, t_Ry, "SlideStage$LineRows", kc5, by decide, (g_in 119 (by decide +kernel) (by decide +kernel)), Or.inl rfl, rfl, rfl, rfl⟩
theorem fR_40 : g_fd "SlideStage$LineRows" 40 3 0 .int true "SlideStage$Paragraph" := ⟨"SlideStage$Paragraph", t_G, 2, t_Gy, "SlideStage$Paragraph", kc3, by decide, (g_in 652 (by decide +kernel) (by decide +kernel)), Or.inl rfl, rfl, rfl, rfl⟩
theorem fR_43 : g_fd "SlideStage$LineRows" 43 3 1 .int true "SlideStage$Paragraph" := ⟨"SlideStage$Paragraph", t_G, 2, t_Gy, "SlideStage$Paragraph", kc3, by decide, (g_in 655 (by decide +kernel) (by decide +kernel)), Or.inl rfl, rfl, rfl, rfl⟩
theorem fP_10 : g_fd "SlideStage$Page" 10 1 2 (.object "java/util/List") true "SlideStage$Page" := ⟨"SlideStage$Page", t_P, 4, t_Py, "SlideStage$Page", kc1, by decide, (g_in 424 (by decide +kernel) (by decide +kernel)), Or.inl rfl, rfl, rfl, rfl⟩
theorem fP_16 : g_fd "SlideStage$Page" 16 1 3 (.object "java/util/List") true "SlideStage$Page" := ⟨"SlideStage$Page", t_P, 4, t_Py, "SlideStage$Page", kc1, by decide, (g_in 426 (by decide +kernel) (by decide +kernel)), Or.inl rfl, rfl, rfl, rfl⟩
theorem fP_19 : g_fd "SlideStage$Page" 19 1 0 .int true "SlideStage$Page" := ⟨"SlideStage$Page", t_P, 4, t_Py, "SlideStage$Page", kc1, by decide, (g_in 420 (by decide +kernel) (by decide +kernel)), Or.inl rfl, rfl, rfl, rfl⟩
theorem fP_23 : g_fd "SlideStage$Page" 23 1 1 (.object "SlideStage$Page") true "SlideStage$Page" := ⟨"SlideStage$Page", t_P, 4, t_Py, "SlideStage$Page", kc1, by decide, (g_in 422 (by decide +kernel) (by decide +kernel)), Or.inl rfl, rfl, rfl, rfl⟩
theorem fG_7 : g_fd "SlideStage$Paragraph" 7 3 0 .int true "SlideStage$Paragraph" := ⟨"SlideStage$Paragraph", t_G, 2, t_Gy, "SlideStage$Paragraph", kc3, by decide, (g_in 651 (by decide +kernel) (by decide +kernel)), Or.inl rfl, rfl, rfl, rfl⟩
theorem fG_13 : g_fd "SlideStage$Paragraph" 13 3 1 .int true "SlideStage$Paragraph" := ⟨"SlideStage$Paragraph", t_G, 2, t_Gy, "SlideStage$Paragraph", kc3, by decide, (g_in 654 (by decide +kernel) (by decide +kernel)), Or.inl rfl, rfl, rfl, rfl⟩
theorem fH_9 : g_fd "SlideStage$Shape" 9 2 3 (.array .boolean) true "SlideStage$Shape" := ⟨"SlideStage$Shape", t_H, 7, t_Hy, "SlideStage$Shape", kc2, by decide, (g_in 543 (by decide +kernel) (by decide +kernel)), Or.inl rfl, rfl, rfl, rfl⟩
theorem fH_15 : g_fd "SlideStage$Shape" 15 2 4 (.array .int) true "SlideStage$Shape" := ⟨"SlideStage$Shape", t_H, 7, t_Hy, "SlideStage$Shape", kc2, by decide, (g_in 545 (by decide +kernel) (by decide +kernel)), Or.inl rfl, rfl, rfl, rfl⟩
theorem fH_22 : g_fd "SlideStage$Shape" 22 2 5 (.object "java/util/List") true "SlideStage$Shape" := ⟨"SlideStage$Shape", t_H, 7, t_Hy, "SlideStage$Shape", kc2, by decide, (g_in 547 (by decide +kernel) (by decide +kernel)), Or.inl rfl, rfl, rfl, rfl⟩
theorem fH_26 : g_fd "SlideStage$Shape" 26 2 6 (.object "java/util/List") true "SlideStage$Shape" := ⟨"SlideStage$Shape", t_H, 7, t_Hy, "SlideStage$Shape", kc2, by decide, (g_in 549 (by decide +kernel) (by decide +kernel)), Or.inl rfl, rfl, rfl, rfl⟩
theorem fH_29 : g_fd "SlideStage$Shape" 29 2 0 .int true "SlideStage$Shape" := ⟨"SlideStage$Shape", t_H, 7, t_Hy, "SlideStage$Shape", kc2, by decide, (g_in 537 (by decide +kernel) (by decide +kernel)), Or.inl rfl, rfl, rfl, rfl⟩
theorem fH_33 : g_fd "SlideStage$Shape" 33 2 1 (.object "SlideStage$Page") true "SlideStage$Shape" := ⟨"SlideStage$Shape", t_H, 7, t_Hy, "SlideStage$Shape", kc2, by decide, (g_in 539 (by decide +kernel) (by decide +kernel)), Or.inl rfl, rfl, rfl, rfl⟩
theorem fH_37 : g_fd "SlideStage$Shape" 37 2 2 .int true "SlideStage$Shape" := ⟨"SlideStage$Shape", t_H, 7, t_Hy, "SlideStage$Shape", kc2, by decide, (g_in 541 (by decide +kernel) (by decide +kernel)), Or.inl rfl, rfl, rfl, rfl⟩
theorem fM_7 : g_fd "SlideStageModel" 7 7 2 (.array .int) true "SlideStageModel" := ⟨"SlideStageModel", t_M, 29, t_My, "SlideStageModel", kc7, by decide, (g_in 824 (by decide +kernel) (by decide +kernel)), Or.inl rfl, rfl, rfl, rfl⟩
theorem fM_13 : g_fd "SlideStageModel" 13 7 3 (.array .int) true "SlideStageModel" := ⟨"SlideStageModel", t_M, 29, t_My, "SlideStageModel", kc7, by decide, (g_in 825 (by decide +kernel) (by decide +kernel)), Or.inl rfl, rfl, rfl, rfl⟩
theorem fM_16 : g_fd "SlideStageModel" 16 7 5 (.array .int) true "SlideStageModel" := ⟨"SlideStageModel", t_M, 29, t_My, "SlideStageModel", kc7, by decide, (g_in 827 (by decide +kernel) (by decide +kernel)), Or.inl rfl, rfl, rfl, rfl⟩
theorem fM_19 : g_fd "SlideStageModel" 19 7 6 (.array .int) true "SlideStageModel" := ⟨"SlideStageModel", t_M, 29, t_My, "SlideStageModel", kc7, by decide, (g_in 828 (by decide +kernel) (by decide +kernel)), Or.inl rfl, rfl, rfl, rfl⟩
theorem fM_22 : g_fd "SlideStageModel" 22 7 7 (.array .boolean) true "SlideStageModel" := ⟨"SlideStageModel", t_M, 29, t_My, "SlideStageModel", kc7, by decide, (g_in 829 (by decide +kernel) (by decide +kernel)), Or.inl rfl, rfl, rfl, rfl⟩
theorem fM_26 : g_fd "SlideStageModel" 26 7 8 (.array .int) true "SlideStageModel" := ⟨"SlideStageModel", t_M, 29, t_My, "SlideStageModel", kc7, by decide, (g_in 830 (by decide +kernel) (by decide +kernel)), Or.inl rfl, rfl, rfl, rfl⟩
theorem fM_30 : g_fd "SlideStageModel" 30 7 9 (.array .int) true "SlideStageModel" := ⟨"SlideStageModel", t_M, 29, t_My, "SlideStageModel", kc7, by decide, (g_in 831 (by decide +kernel) (by decide +kernel)), Or.inl rfl, rfl, rfl, rfl⟩
theorem fM_33 : g_fd "SlideStageModel" 33 7 10 (.array .int) true "SlideStageModel" := ⟨"SlideStageModel", t_M, 29, t_My, "SlideStageModel", kc7, by decide, (g_in 832 (by decide +kernel) (by decide +kernel)), Or.inl rfl, rfl, rfl, rfl⟩
theorem fM_36 : g_fd "SlideStageModel" 36 7 11 (.array .int) true "SlideStageModel" := ⟨"SlideStageModel", t_M, 29, t_My, "SlideStageModel", kc7, by decide, (g_in 833 (by decide +kernel) (by decide +kernel)), Or.inl rfl, rfl, rfl, rfl⟩
theorem fM_39 : g_fd "SlideStageModel" 39 7 12 (.array .int) true "SlideStageModel" := ⟨"SlideStageModel", t_M, 29, t_My, "SlideStageModel", kc7, by decide, (g_in 834 (by decide +kernel) (by decide +kernel)), Or.inl rfl, rfl, rfl, rfl⟩
theorem fM_42 : g_fd "SlideStageModel" 42 7 13 (.array .int) true "SlideStageModel" := ⟨"SlideStageModel", t_M, 29, t_My, "SlideStageModel", kc7, by decide, (g_in 835 (by decide +kernel) (by decide +kernel)), Or.inl rfl, rfl, rfl, rfl⟩
theorem fM_45 : g_fd "SlideStageModel" 45 7 15 (.array .int) true "SlideStageModel" := ⟨"SlideStageModel", t_M, 29, t_My, "SlideStageModel", kc7, by decide, (g_in 837 (by decide +kernel) (by decide +kernel)), Or.inl rfl, rfl, rfl, rfl⟩
theorem fM_48 : g_fd "SlideStageModel" 48 7 16 (.array .int) true "SlideStageModel" := ⟨"SlideStageModel", t_M, 29, t_My, "SlideStageModel", kc7, by decide, (g_in 838 (by decide +kernel) (by decide +kernel)), Or.inl rfl, rfl, rfl, rfl⟩
theorem fM_51 : g_fd "SlideStageModel" 51 7 17 (.array .int) true "SlideStageModel" := ⟨"SlideStageModel", t_M, 29, t_My, "SlideStageModel", kc7, by decide, (g_in 839 (by decide +kernel) (by decide +kernel)), Or.inl rfl, rfl, rfl, rfl⟩
theorem fM_54 : g_fd "SlideStageModel" 54 7 18 (.array .int) true "SlideStageModel" := ⟨"SlideStageModel", t_M, 29, t_My, "SlideStageModel", kc7, by decide, (g_in 840 (by decide +kernel) (by decide +kernel)), Or.inl rfl, rfl, rfl, rfl⟩
theorem fM_57 : g_fd "SlideStageModel" 57 7 19 (.array .int) true "SlideStageModel" := ⟨"SlideStageModel", t_M, 29, t_My, "SlideStageModel", kc7, by decide, (g_in 841 (by decide +kernel) (by decide +kernel)), Or.inl rfl, rfl, rfl, rfl⟩
theorem fM_60 : g_fd "SlideStageModel" 60 7 20 (.array .int) true "SlideStageModel" := ⟨"SlideStageModel", t_M, 29, t_My, "SlideStageModel", kc7, by decide, (g_in 842 (by decide +kernel) (by decide +kernel)), Or.inl rfl, rfl, rfl, rfl⟩
theorem fM_63 : g_fd "SlideStageModel" 63 7 25 (.array .int) true "SlideStageModel" := ⟨"SlideStageModel", t_M, 29, t_My, "SlideStageModel", kc7, by decide, (g_in 847 (by decide +kernel) (by decide +kernel)), Or.inl rfl, rfl, rfl, rfl⟩
theorem fM_66 : g_fd "SlideStageModel" 66 7 26 (.array .int) true "SlideStageModel" := ⟨"SlideStageModel", t_M, 29, t_My, "SlideStageModel", kc7, by decide, (g_in 848 (by decide +kernel) (by decide +kernel)), Or.inl rfl, rfl, rfl, rfl⟩
theorem fM_69 : g_fd "SlideStageModel" 69 7 27 (.array .int) true "SlideStageModel" := ⟨"SlideStageModel", t_M, 29, t_My, "SlideStageModel", kc7, by decide, (g_in 849 (by decide +kernel) (by decide +kernel)), Or.inl rfl, rfl, rfl, rfl⟩
theorem fM_72 : g_fd "SlideStageModel" 72 7 28 (.array .int) true "SlideStageModel" := ⟨"SlideStageModel", t_M, 29, t_My, "SlideStageModel", kc7, by decide, (g_in 850 (by decide +kernel) (by decide +kernel)), Or.inl rfl, rfl, rfl, rfl⟩
theorem fM_75 : g_fd "SlideStageModel" 75 7 0 .int false "SlideStageModel" := ⟨"SlideStageModel", t_M, 29, t_My, "SlideStageModel", kc7, by decide, (g_in 822 (by decide +kernel) (by decide +kernel)), Or.inl rfl, rfl, rfl, rfl⟩
theorem fM_79 : g_fd "SlideStageModel" 79 7 1 .int false "SlideStageModel" := ⟨"SlideStageModel", t_M, 29, t_My, "SlideStageModel", kc7, by decide, (g_in 823 (by decide +kernel) (by decide +kernel)), Or.inl rfl, rfl, rfl, rfl⟩
theorem fM_82 : g_fd "SlideStageModel" 82 7 4 .int false "SlideStageModel" := ⟨"SlideStageModel", t_M, 29, t_My, "SlideStageModel", kc7, by decide, (g_in 826 (by decide +kernel) (by decide +kernel)), Or.inl rfl, rfl, rfl, rfl⟩
theorem fM_110 : g_fd "SlideStageModel" 110 7 24 .int false "SlideStageModel" := ⟨"SlideStageModel", t_M, 29, t_My, "SlideStageModel", kc7, by decide, (g_in 846 (by decide +kernel) (by decide +kernel)), Or.inl rfl, rfl, rfl, rfl⟩
theorem fM_121 : g_fd "SlideStageModel" 121 7 14 .int false "SlideStageModel" := ⟨"SlideStageModel", t_M, 29, t_My, "SlideStageModel", kc7, by decide, (g_in 836 (by decide +kernel) (by decide +kernel)), Or.inl rfl, rfl, rfl, rfl⟩
theorem fM_136 : g_fd "SlideStageModel" 136 7 22 .int false "SlideStageModel" := ⟨"SlideStageModel", t_M, 29, t_My, "SlideStageModel", kc7, by decide, (g_in 844 (by decide +kernel) (by decide +kernel)), Or.inl rfl, rfl, rfl, rfl⟩
theorem fM_139 : g_fd "SlideStageModel" 139 7 23 .int false "SlideStageModel" := ⟨"SlideStageModel", t_M, 29, t_My, "SlideStageModel", kc7, by decide, (g_in 845 (by decide +kernel) (by decide +kernel)), Or.inl rfl, rfl, rfl, rfl⟩
theorem fM_142 : g_fd "SlideStageModel" 142 7 21 .int false "SlideStageModel" := ⟨"SlideStageModel", t_M, 29, t_My, "SlideStageModel", kc7, by decide, (g_in 843 (by decide +kernel) (by decide +kernel)), Or.inl rfl, rfl, rfl, rfl⟩
theorem fAL_7 : g_fd "java/util/AbstractList" 7 6 2 .int false "java/util/AbstractList" := ⟨"java/util/ArrayList", t_A, 3, t_Ay, "java/util/AbstractList", kc6, by decide, (g_in 94 (by decide +kernel) (by decide +kernel)), Or.inl rfl, rfl, rfl, rfl⟩
theorem fA_9 : g_fd "java/util/ArrayList" 9 6 0 (.array (.object "java/lang/Object")) false "java/util/ArrayList" := ⟨"java/util/ArrayList", t_A, 3, t_Ay, "java/util/ArrayList", kc6, by decide, (g_in 92 (by decide +kernel) (by decide +kernel)), Or.inl rfl, rfl, rfl, rfl⟩
theorem fA_48 : g_fd "java/util/ArrayList" 48 6 1 .int false "java/util/ArrayList" := ⟨"java/util/ArrayList", t_A, 3, t_Ay, "java/util/ArrayList", kc6, by decide, (g_in 93 (by decide +kernel) (by decide +kernel)), Or.inl rfl, rfl, rfl, rfl⟩
theorem fA_63 : g_fd "java/util/ArrayList" 63 6 2 .int false "java/util/AbstractList" := ⟨"java/util/ArrayList", t_A, 3, t_Ay, "java/util/ArrayList", kc6, by decide, (g_in 95 (by decide +kernel) (by decide +kernel)), Or.inr (g_in 96 (by decide +kernel) (by decide +kernel)), rfl, rfl, rfl⟩
theorem kS_3 : g_oi "SlideStage" 3 := ⟨(g_in 74 (by decide +kernel) (by decide +kernel)), (g_in 75 (by decide +kernel) (by decide +kernel)), g_in 76 (by decide +kernel) (by decide +kernel)⟩
theorem kS_16 : g_kI "SlideStage" 16 mA_init 0 := ⟨⟨rfl, rfl, rfl⟩, (g_in 80 (by decide +kernel) (by decide +kernel)), (g_in 81 (by decide +kernel) (by decide +kernel)), (g_in 49 (by decide +kernel) (by decide +kernel)), g_in 82 (by decide +kernel) (by decide +kernel), by decide +kernel⟩
theorem kS_47 : g_kS "SlideStage" 47 mS_isWithin 3 := ⟨(g_in 244 (by decide +kernel) (by decide +kernel)), (g_in 245 (by decide +kernel) (by decide +kernel)), (g_in 46 (by decide +kernel) (by decide +kernel)), g_in 246 (by decide +kernel) (by decide +kernel), by decide +kernel⟩
theorem kS_58 : g_kV "SlideStage" 58 mS_findPage 1 0 := ⟨"SlideStage", t_S, 9, rfl, (g_in 374 (by decide +kernel) (by decide +kernel)), (g_in 376 (by decide +kernel) (by decide +kernel)), (g_in 12 (by decide +kernel) (by decide +kernel)), (g_in 46 (by decide +kernel) (by decide +kernel)), g_in 377 (by decide +kernel) (by decide +kernel), by decide +kernel⟩
theorem kS_62 : g_kS "SlideStage" 62 mS_isOfKind 2 := ⟨(g_in 378 (by decide +kernel) (by decide +kernel)), (g_in 379 (by decide +kernel) (by decide +kernel)), (g_in 46 (by decide +kernel) (by decide +kernel)), g_in 380 (by decide +kernel) (by decide +kernel), by decide +kernel⟩
theorem kS_71 : g_kF "SlideStage" 71 ⟨"java/util/List", "size", "()I"⟩ mA_size 0 6 := ⟨"java/util/ArrayList", t_A, 3, rfl, (g_in 173 (by decide +kernel) (by decide +kernel)), ⟨(g_in 175 (by decide +kernel) (by decide +kernel)), (g_in 174 (by decide +kernel) (by decide +kernel)), (g_in 180 (by decide +kernel) (by decide +kernel)), (g_in 178 (by decide +kernel) (by decide +kernel)), (g_in 176 (by decide +kernel) (by decide +kernel)), (g_in 177 (by decide +kernel) (by decide +kernel)), (g_in 179 (by decide +kernel) (by decide +kernel))⟩, (g_in 49 (by decide +kernel) (by decide +kernel)), g_in 181 (by decide +kernel) (by decide +kernel), by decide +kernel⟩
theorem kS_84 : g_kI "SlideStage" 84 mP_init 2 := ⟨⟨rfl, rfl, rfl⟩, (g_in 414 (by decide +kernel) (by decide +kernel)), (g_in 415 (by decide +kernel) (by decide +kernel)), (g_in 60 (by decide +kernel) (by decide +kernel)), g_in 416 (by decide +kernel) (by decide +kernel), by decide +kernel⟩
theorem kS_87 : g_kF "SlideStage" 87 ⟨"java/util/List", "add", "(Ljava/lang/Object;)Z"⟩ mA_add1 1 6 := ⟨"java/util/ArrayList", t_A, 3, rfl, (g_in 438 (by decide +kernel) (by decide +kernel)), ⟨(g_in 440 (by decide +kernel) (by decide +kernel)), (g_in 439 (by decide +kernel) (by decide +kernel)), (g_in 444 (by decide +kernel) (by decide +kernel)), (g_in 442 (by decide +kernel) (by decide +kernel)), (g_in 176 (by decide +kernel) (by decide +kernel)), (g_in 441 (by decide +kernel) (by decide +kernel)), (g_in 443 (by decide +kernel) (by decide +kernel))⟩, (g_in 49 (by decide +kernel) (by decide +kernel)), g_in 445 (by decide +kernel) (by decide +kernel), by decide +kernel⟩
theorem kS_91 : g_kV "SlideStage" 91 mS_addSlide 1 0 := ⟨"SlideStage", t_S, 9, rfl, (g_in 499 (by decide +kernel) (by decide +kernel)), (g_in 501 (by decide +kernel) (by decide +kernel)), (g_in 16 (by decide +kernel) (by decide +kernel)), (g_in 46 (by decide +kernel) (by decide +kernel)), g_in 502 (by decide +kernel) (by decide +kernel), by decide +kernel⟩
theorem kS_99 : g_kS "SlideStage" 99 mS_shapeInSlot 2 := ⟨(g_in 267 (by decide +kernel) (by decide +kernel)), (g_in 268 (by decide +kernel) (by decide +kernel)), (g_in 46 (by decide +kernel) (by decide +kernel)), g_in 269 (by decide +kernel) (by decide +kernel), by decide +kernel⟩
theorem kS_112 : g_kI "SlideStage" 112 mH_init 3 := ⟨⟨rfl, rfl, rfl⟩, (g_in 531 (by decide +kernel) (by decide +kernel)), (g_in 532 (by decide +kernel) (by decide +kernel)), (g_in 66 (by decide +kernel) (by decide +kernel)), g_in 533 (by decide +kernel) (by decide +kernel), by decide +kernel⟩
theorem kS_119 : g_kS "SlideStage" 119 mS_checkValue 2 := ⟨(g_in 574 (by decide +kernel) (by decide +kernel)), (g_in 575 (by decide +kernel) (by decide +kernel)), (g_in 46 (by decide +kernel) (by decide +kernel)), g_in 576 (by decide +kernel) (by decide +kernel), by decide +kernel⟩
theorem kS_123 : g_kV "SlideStage" 123 mS_findShape 1 0 := ⟨"SlideStage", t_S, 9, rfl, (g_in 593 (by decide +kernel) (by decide +kernel)), (g_in 595 (by decide +kernel) (by decide +kernel)), (g_in 17 (by decide +kernel) (by decide +kernel)), (g_in 46 (by decide +kernel) (by decide +kernel)), g_in 596 (by decide +kernel) (by decide +kernel), by decide +kernel⟩
theorem kS_134 : g_kS "SlideStage" 134 mS_checkProperty 1 := ⟨(g_in 577 (by decide +kernel) (by decide +kernel)), (g_in 578 (by decide +kernel) (by decide +kernel)), (g_in 46 (by decide +kernel) (by decide +kernel)), g_in 579 (by decide +kernel) (by decide +kernel), by decide +kernel⟩
theorem kS_138 : g_kV "SlideStage" 138 mS_resolve 2 0 := ⟨"SlideStage", t_S, 9, rfl, (g_in 260 (by decide +kernel) (by decide +kernel)), (g_in 262 (by decide +kernel) (by decide +kernel)), (g_in 6 (by decide +kernel) (by decide +kernel)), (g_in 46 (by decide +kernel) (by decide +kernel)), g_in 263 (by decide +kernel) (by decide +kernel), by decide +kernel⟩
theorem kS_142 : g_kS "SlideStage" 142 mS_source 2 := ⟨(g_in 264 (by decide +kernel) (by decide +kernel)), (g_in 265 (by decide +kernel) (by decide +kernel)), (g_in 46 (by decide +kernel) (by decide +kernel)), g_in 266 (by decide +kernel) (by decide +kernel), by decide +kernel⟩
theorem kS_146 : g_kS "SlideStage" 146 mS_indexOf 1 := ⟨(g_in 619 (by decide +kernel) (by decide +kernel)), (g_in 620 (by decide +kernel) (by decide +kernel)), (g_in 46 (by decide +kernel) (by decide +kernel)), g_in 621 (by decide +kernel) (by decide +kernel), by decide +kernel⟩
theorem kS_162 : g_kS "SlideStage" 162 mS_areWords 1 := ⟨(g_in 637 (by decide +kernel) (by decide +kernel)), (g_in 638 (by decide +kernel) (by decide +kernel)), (g_in 46 (by decide +kernel) (by decide +kernel)), g_in 639 (by decide +kernel) (by decide +kernel), by decide +kernel⟩
theorem kS_175 : g_kI "SlideStage" 175 mG_init 2 := ⟨⟨rfl, rfl, rfl⟩, (g_in 647 (by decide +kernel) (by decide +kernel)), (g_in 648 (by decide +kernel) (by decide +kernel)), (g_in 67 (by decide +kernel) (by decide +kernel)), g_in 649 (by decide +kernel) (by decide +kernel), by decide +kernel⟩
theorem kS_177 : g_kV "SlideStage" 177 mS_fitText 1 0 := ⟨"SlideStage", t_S, 9, rfl, (g_in 668 (by decide +kernel) (by decide +kernel)), (g_in 670 (by decide +kernel) (by decide +kernel)), (g_in 18 (by decide +kernel) (by decide +kernel)), (g_in 46 (by decide +kernel) (by decide +kernel)), g_in 671 (by decide +kernel) (by decide +kernel), by decide +kernel⟩
theorem kS_195 : g_kF "SlideStage" 195 ⟨"java/util/List", "get", "(I)Ljava/lang/Object;"⟩ mA_get 1 6 := ⟨"java/util/ArrayList", t_A, 3, rfl, (g_in 183 (by decide +kernel) (by decide +kernel)), ⟨(g_in 185 (by decide +kernel) (by decide +kernel)), (g_in 184 (by decide +kernel) (by decide +kernel)), (g_in 189 (by decide +kernel) (by decide +kernel)), (g_in 187 (by decide +kernel) (by decide +kernel)), (g_in 176 (by decide +kernel) (by decide +kernel)), (g_in 186 (by decide +kernel) (by decide +kernel)), (g_in 188 (by decide +kernel) (by decide +kernel))⟩, (g_in 49 (by decide +kernel) (by decide +kernel)), g_in 190 (by decide +kernel) (by decide +kernel), by decide +kernel⟩
theorem kS_213 : g_kS "SlideStage" 213 mS_lastEffect 1 := ⟨(g_in 205 (by decide +kernel) (by decide +kernel)), (g_in 206 (by decide +kernel) (by decide +kernel)), (g_in 46 (by decide +kernel) (by decide +kernel)), g_in 207 (by decide +kernel) (by decide +kernel), by decide +kernel⟩
theorem kS_217 : g_kS "SlideStage" 217 mS_buildBehind 2 := ⟨(g_in 726 (by decide +kernel) (by decide +kernel)), (g_in 727 (by decide +kernel) (by decide +kernel)), (g_in 46 (by decide +kernel) (by decide +kernel)), g_in 728 (by decide +kernel) (by decide +kernel), by decide +kernel⟩
theorem kS_221 : g_kS "SlideStage" 221 mS_baseBehind 2 := ⟨(g_in 729 (by decide +kernel) (by decide +kernel)), (g_in 730 (by decide +kernel) (by decide +kernel)), (g_in 46 (by decide +kernel) (by decide +kernel)), g_in 731 (by decide +kernel) (by decide +kernel), by decide +kernel⟩
theorem kS_226 : g_kI "SlideStage" 226 mF_init 6 := ⟨⟨rfl, rfl, rfl⟩, (g_in 733 (by decide +kernel) (by decide +kernel)), (g_in 734 (by decide +kernel) (by decide +kernel)), (g_in 68 (by decide +kernel) (by decide +kernel)), g_in 735 (by decide +kernel) (by decide +kernel), by decide +kernel⟩
theorem kS_231 : g_kV "SlideStage" 231 mS_findEffect 1 0 := ⟨"SlideStage", t_S, 9, rfl, (g_in 777 (by decide +kernel) (by decide +kernel)), (g_in 779 (by decide +kernel) (by decide +kernel)), (g_in 22 (by decide +kernel) (by decide +kernel)), (g_in 46 (by decide +kernel) (by decide +kernel)), g_in 780 (by decide +kernel) (by decide +kernel), by decide +kernel⟩
theorem kS_252 : g_kV "SlideStage" 252 mS_slideShown 0 0 := ⟨"SlideStage", t_S, 9, rfl, (g_in 164 (by decide +kernel) (by decide +kernel)), (g_in 166 (by decide +kernel) (by decide +kernel)), (g_in 0 (by decide +kernel) (by decide +kernel)), (g_in 46 (by decide +kernel) (by decide +kernel)), g_in 167 (by decide +kernel) (by decide +kernel), by decide +kernel⟩
theorem kS_256 : g_kV "SlideStage" 256 mS_progress 1 0 := ⟨"SlideStage", t_S, 9, rfl, (g_in 278 (by decide +kernel) (by decide +kernel)), (g_in 280 (by decide +kernel) (by decide +kernel)), (g_in 9 (by decide +kernel) (by decide +kernel)), (g_in 46 (by decide +kernel) (by decide +kernel)), g_in 281 (by decide +kernel) (by decide +kernel), by decide +kernel⟩
theorem kS_260 : g_kS "SlideStage" 260 mS_lastBuild 1 := ⟨(g_in 202 (by decide +kernel) (by decide +kernel)), (g_in 203 (by decide +kernel) (by decide +kernel)), (g_in 46 (by decide +kernel) (by decide +kernel)), g_in 204 (by decide +kernel) (by decide +kernel), by decide +kernel⟩
theorem kS_264 : g_kV "SlideStage" 264 mS_show 3 0 := ⟨"SlideStage", t_S, 9, rfl, (g_in 218 (by decide +kernel) (by decide +kernel)), (g_in 220 (by decide +kernel) (by decide +kernel)), (g_in 2 (by decide +kernel) (by decide +kernel)), (g_in 46 (by decide +kernel) (by decide +kernel)), g_in 221 (by decide +kernel) (by decide +kernel), by decide +kernel⟩
theorem kS_268 : g_kV "SlideStage" 268 mS_findSlide 1 0 := ⟨"SlideStage", t_S, 9, rfl, (g_in 168 (by decide +kernel) (by decide +kernel)), (g_in 170 (by decide +kernel) (by decide +kernel)), (g_in 1 (by decide +kernel) (by decide +kernel)), (g_in 46 (by decide +kernel) (by decide +kernel)), g_in 171 (by decide +kernel) (by decide +kernel), by decide +kernel⟩
theorem kS_271 : g_kV "SlideStage" 271 mS_showEnd 2 0 := ⟨"SlideStage", t_S, 9, rfl, (g_in 226 (by decide +kernel) (by decide +kernel)), (g_in 228 (by decide +kernel) (by decide +kernel)), (g_in 3 (by decide +kernel) (by decide +kernel)), (g_in 46 (by decide +kernel) (by decide +kernel)), g_in 229 (by decide +kernel) (by decide +kernel), by decide +kernel⟩
theorem kS_279 : g_kS "SlideStage" 279 mMA_min 2 := ⟨(g_in 807 (by decide +kernel) (by decide +kernel)), (g_in 492 (by decide +kernel) (by decide +kernel)), (g_in 62 (by decide +kernel) (by decide +kernel)), g_in 493 (by decide +kernel) (by decide +kernel), by decide +kernel⟩
theorem kS_285 : g_kS "SlideStage" 285 mS_lengthOfBuild 2 := ⟨(g_in 230 (by decide +kernel) (by decide +kernel)), (g_in 231 (by decide +kernel) (by decide +kernel)), (g_in 46 (by decide +kernel) (by decide +kernel)), g_in 232 (by decide +kernel) (by decide +kernel), by decide +kernel⟩
theorem kS_289 : g_kV "SlideStage" 289 mS_valueNow 2 0 := ⟨"SlideStage", t_S, 9, rfl, (g_in 256 (by decide +kernel) (by decide +kernel)), (g_in 258 (by decide +kernel) (by decide +kernel)), (g_in 5 (by decide +kernel) (by decide +kernel)), (g_in 46 (by decide +kernel) (by decide +kernel)), g_in 259 (by decide +kernel) (by decide +kernel), by decide +kernel⟩
theorem kS_293 : g_kS "SlideStage" 293 mS_pageUnder 2 := ⟨(g_in 248 (by decide +kernel) (by decide +kernel)), (g_in 249 (by decide +kernel) (by decide +kernel)), (g_in 46 (by decide +kernel) (by decide +kernel)), g_in 250 (by decide +kernel) (by decide +kernel), by decide +kernel⟩
theorem kS_297 : g_kV "SlideStage" 297 mS_paintPage 4 0 := ⟨"SlideStage", t_S, 9, rfl, (g_in 251 (by decide +kernel) (by decide +kernel)), (g_in 253 (by decide +kernel) (by decide +kernel)), (g_in 4 (by decide +kernel) (by decide +kernel)), (g_in 46 (by decide +kernel) (by decide +kernel)), g_in 254 (by decide +kernel) (by decide +kernel), by decide +kernel⟩
theorem kS_315 : g_kS "SlideStage" 315 mS_letters 2 := ⟨(g_in 640 (by decide +kernel) (by decide +kernel)), (g_in 641 (by decide +kernel) (by decide +kernel)), (g_in 46 (by decide +kernel) (by decide +kernel)), g_in 642 (by decide +kernel) (by decide +kernel), by decide +kernel⟩
theorem kS_318 : g_kV "SlideStage" 318 mR_fill 3 5 := ⟨"SlideStage$LineRows", t_R, 5, rfl, (g_in 672 (by decide +kernel) (by decide +kernel)), (g_in 673 (by decide +kernel) (by decide +kernel)), (g_in 674 (by decide +kernel) (by decide +kernel)), (g_in 50 (by decide +kernel) (by decide +kernel)), g_in 675 (by decide +kernel) (by decide +kernel), by decide +kernel⟩
theorem kS_322 : g_kF "SlideStage" 322 ⟨"java/util/List", "isEmpty", "()Z"⟩ mA_isEmpty 0 6 := ⟨"java/util/ArrayList", t_A, 3, rfl, (g_in 209 (by decide +kernel) (by decide +kernel)), ⟨(g_in 211 (by decide +kernel) (by decide +kernel)), (g_in 210 (by decide +kernel) (by decide +kernel)), (g_in 215 (by decide +kernel) (by decide +kernel)), (g_in 213 (by decide +kernel) (by decide +kernel)), (g_in 176 (by decide +kernel) (by decide +kernel)), (g_in 212 (by decide +kernel) (by decide +kernel)), (g_in 214 (by decide +kernel) (by decide +kernel))⟩, (g_in 49 (by decide +kernel) (by decide +kernel)), g_in 216 (by decide +kernel) (by decide +kernel), by decide +kernel⟩
theorem kS_329 : g_kS "SlideStage" 329 mMA_max 2 := ⟨(g_in 233 (by decide +kernel) (by decide +kernel)), (g_in 234 (by decide +kernel) (by decide +kernel)), (g_in 62 (by decide +kernel) (by decide +kernel)), g_in 235 (by decide +kernel) (by decide +kernel), by decide +kernel⟩
theorem kS_335 : g_kV "SlideStage" 335 mS_moved 2 0 := ⟨"SlideStage", t_S, 9, rfl, (g_in 270 (by decide +kernel) (by decide +kernel)), (g_in 272 (by decide +kernel) (by decide +kernel)), (g_in 7 (by decide +kernel) (by decide +kernel)), (g_in 46 (by decide +kernel) (by decide +kernel)), g_in 273 (by decide +kernel) (by decide +kernel), by decide +kernel⟩
theorem kS_338 : g_kV "SlideStage" 338 mS_alphaNow 2 0 := ⟨"SlideStage", t_S, 9, rfl, (g_in 282 (by decide +kernel) (by decide +kernel)), (g_in 284 (by decide +kernel) (by decide +kernel)), (g_in 10 (by decide +kernel) (by decide +kernel)), (g_in 46 (by decide +kernel) (by decide +kernel)), g_in 285 (by decide +kernel) (by decide +kernel), by decide +kernel⟩
theorem kS_342 : g_kV "SlideStage" 342 mS_part 2 0 := ⟨"SlideStage", t_S, 9, rfl, (g_in 274 (by decide +kernel) (by decide +kernel)), (g_in 276 (by decide +kernel) (by decide +kernel)), (g_in 8 (by decide +kernel) (by decide +kernel)), (g_in 46 (by decide +kernel) (by decide +kernel)), g_in 277 (by decide +kernel) (by decide +kernel), by decide +kernel⟩
theorem kS_345 : g_kS "SlideStage" 345 mS_entersFirst 1 := ⟨(g_in 286 (by decide +kernel) (by decide +kernel)), (g_in 287 (by decide +kernel) (by decide +kernel)), (g_in 46 (by decide +kernel) (by decide +kernel)), g_in 288 (by decide +kernel) (by decide +kernel), by decide +kernel⟩
theorem kS_349 : g_kS "SlideStage" 349 mS_covers 3 := ⟨(g_in 289 (by decide +kernel) (by decide +kernel)), (g_in 290 (by decide +kernel) (by decide +kernel)), (g_in 46 (by decide +kernel) (by decide +kernel)), g_in 291 (by decide +kernel) (by decide +kernel), by decide +kernel⟩
theorem kS_352 : g_kS "SlideStage" 352 mS_blend 3 := ⟨(g_in 292 (by decide +kernel) (by decide +kernel)), (g_in 293 (by decide +kernel) (by decide +kernel)), (g_in 46 (by decide +kernel) (by decide +kernel)), g_in 294 (by decide +kernel) (by decide +kernel), by decide +kernel⟩
theorem kF_1 : g_oi "SlideStage$Effect" 1 := ⟨(g_in 736 (by decide +kernel) (by decide +kernel)), (g_in 75 (by decide +kernel) (by decide +kernel)), g_in 76 (by decide +kernel) (by decide +kernel)⟩
theorem kR_3 : g_oi "SlideStage$LineRows" 3 := ⟨(g_in 110 (by decide +kernel) (by decide +kernel)), (g_in 75 (by decide +kernel) (by decide +kernel)), g_in 76 (by decide +kernel) (by decide +kernel)⟩
theorem kR_28 : g_kF "SlideStage$LineRows" 28 ⟨"java/util/List", "size", "()I"⟩ mA_size 0 6 := ⟨"java/util/ArrayList", t_A, 3, rfl, (g_in 677 (by decide +kernel) (by decide +kernel)), ⟨(g_in 175 (by decide +kernel) (by decide +kernel)), (g_in 174 (by decide +kernel) (by decide +kernel)), (g_in 180 (by decide +kernel) (by decide +kernel)), (g_in 178 (by decide +kernel) (by decide +kernel)), (g_in 176 (by decide +kernel) (by decide +kernel)), (g_in 177 (by decide +kernel) (by decide +kernel)), (g_in 179 (by decide +kernel) (by decide +kernel))⟩, (g_in 49 (by decide +kernel) (by decide +kernel)), g_in 181 (by decide +kernel) (by decide +kernel), by decide +kernel⟩
theorem kR_34 : g_kF "SlideStage$LineRows" 34 ⟨"java/util/List", "get", "(I)Ljava/lang/Object;"⟩ mA_get 1 6 := ⟨"java/util/ArrayList", t_A, 3, rfl, (g_in 679 (by decide +kernel) (by decide +kernel)), ⟨(g_in 185 (by decide +kernel) (by decide +kernel)), (g_in 184 (by decide +kernel) (by decide +kernel)), (g_in 189 (by decide +kernel) (by decide +kernel)), (g_in 187 (by decide +kernel) (by decide +kernel)), (g_in 176 (by decide +kernel) (by decide +kernel)), (g_in 186 (by decide +kernel) (by decide +kernel)), (g_in 188 (by decide +kernel) (by decide +kernel))⟩, (g_in 49 (by decide +kernel) (by decide +kernel)), g_in 190 (by decide +kernel) (by decide +kernel), by decide +kernel⟩
theorem kR_45 : g_kV "SlideStage$LineRows" 45 mR_addParagraph 4 5 := ⟨"SlideStage$LineRows", t_R, 5, rfl, (g_in 681 (by decide +kernel) (by decide +kernel)), (g_in 683 (by decide +kernel) (by decide +kernel)), (g_in 19 (by decide +kernel) (by decide +kernel)), (g_in 50 (by decide +kernel) (by decide +kernel)), g_in 684 (by decide +kernel) (by decide +kernel), by decide +kernel⟩
theorem kR_53 : g_kV "SlideStage$LineRows" 53 mR_extendLine 2 5 := ⟨"SlideStage$LineRows", t_R, 5, rfl, (g_in 686 (by decide +kernel) (by decide +kernel)), (g_in 688 (by decide +kernel) (by decide +kernel)), (g_in 20 (by decide +kernel) (by decide +kernel)), (g_in 50 (by decide +kernel) (by decide +kernel)), g_in 689 (by decide +kernel) (by decide +kernel), by decide +kernel⟩
theorem kR_57 : g_kV "SlideStage$LineRows" 57 mR_beginLine 3 5 := ⟨"SlideStage$LineRows", t_R, 5, rfl, (g_in 690 (by decide +kernel) (by decide +kernel)), (g_in 692 (by decide +kernel) (by decide +kernel)), (g_in 21 (by decide +kernel) (by decide +kernel)), (g_in 50 (by decide +kernel) (by decide +kernel)), g_in 693 (by decide +kernel) (by decide +kernel), by decide +kernel⟩
theorem kP_1 : g_oi "SlideStage$Page" 1 := ⟨(g_in 417 (by decide +kernel) (by decide +kernel)), (g_in 75 (by decide +kernel) (by decide +kernel)), g_in 76 (by decide +kernel) (by decide +kernel)⟩
theorem kP_9 : g_kI "SlideStage$Page" 9 mA_init 0 := ⟨⟨rfl, rfl, rfl⟩, (g_in 419 (by decide +kernel) (by decide +kernel)), (g_in 81 (by decide +kernel) (by decide +kernel)), (g_in 49 (by decide +kernel) (by decide +kernel)), g_in 82 (by decide +kernel) (by decide +kernel), by decide +kernel⟩
theorem kG_1 : g_oi "SlideStage$Paragraph" 1 := ⟨(g_in 650 (by decide +kernel) (by decide +kernel)), (g_in 75 (by decide +kernel) (by decide +kernel)), g_in 76 (by decide +kernel) (by decide +kernel)⟩
theorem kH_3 : g_oi "SlideStage$Shape" 3 := ⟨(g_in 534 (by decide +kernel) (by decide +kernel)), (g_in 75 (by decide +kernel) (by decide +kernel)), g_in 76 (by decide +kernel) (by decide +kernel)⟩
theorem kH_21 : g_kI "SlideStage$Shape" 21 mA_init 0 := ⟨⟨rfl, rfl, rfl⟩, (g_in 536 (by decide +kernel) (by decide +kernel)), (g_in 81 (by decide +kernel) (by decide +kernel)), (g_in 49 (by decide +kernel) (by decide +kernel)), g_in 82 (by decide +kernel) (by decide +kernel), by decide +kernel⟩
theorem kL_7 : g_kV "SlideStageLaw" 7 mS_page 2 0 := ⟨"SlideStage", t_S, 9, rfl, (g_in 301 (by decide +kernel) (by decide +kernel)), (g_in 302 (by decide +kernel) (by decide +kernel)), (g_in 303 (by decide +kernel) (by decide +kernel)), (g_in 46 (by decide +kernel) (by decide +kernel)), g_in 304 (by decide +kernel) (by decide +kernel), by decide +kernel⟩
theorem kL_19 : g_kV "SlideStageLaw" 19 mS_shape 2 0 := ⟨"SlideStage", t_S, 9, rfl, (g_in 507 (by decide +kernel) (by decide +kernel)), (g_in 508 (by decide +kernel) (by decide +kernel)), (g_in 509 (by decide +kernel) (by decide +kernel)), (g_in 46 (by decide +kernel) (by decide +kernel)), g_in 510 (by decide +kernel) (by decide +kernel), by decide +kernel⟩
theorem kL_24 : g_kV "SlideStageLaw" 24 mS_theme 2 0 := ⟨"SlideStage", t_S, 9, rfl, (g_in 570 (by decide +kernel) (by decide +kernel)), (g_in 571 (by decide +kernel) (by decide +kernel)), (g_in 572 (by decide +kernel) (by decide +kernel)), (g_in 46 (by decide +kernel) (by decide +kernel)), g_in 573 (by decide +kernel) (by decide +kernel), by decide +kernel⟩
theorem kL_28 : g_kV "SlideStageLaw" 28 mS_set 3 0 := ⟨"SlideStage", t_S, 9, rfl, (g_in 589 (by decide +kernel) (by decide +kernel)), (g_in 590 (by decide +kernel) (by decide +kernel)), (g_in 591 (by decide +kernel) (by decide +kernel)), (g_in 46 (by decide +kernel) (by decide +kernel)), g_in 592 (by decide +kernel) (by decide +kernel), by decide +kernel⟩
theorem kL_32 : g_kV "SlideStageLaw" 32 mS_unset 2 0 := ⟨"SlideStage", t_S, 9, rfl, (g_in 601 (by decide +kernel) (by decide +kernel)), (g_in 602 (by decide +kernel) (by decide +kernel)), (g_in 603 (by decide +kernel) (by decide +kernel)), (g_in 46 (by decide +kernel) (by decide +kernel)), g_in 604 (by decide +kernel) (by decide +kernel), by decide +kernel⟩
theorem kL_36 : g_kV "SlideStageLaw" 36 mS_resolved 2 0 := ⟨"SlideStage", t_S, 9, rfl, (g_in 608 (by decide +kernel) (by decide +kernel)), (g_in 609 (by decide +kernel) (by decide +kernel)), (g_in 610 (by decide +kernel) (by decide +kernel)), (g_in 46 (by decide +kernel) (by decide +kernel)), g_in 611 (by decide +kernel) (by decide +kernel), by decide +kernel⟩
theorem kL_39 : g_kV "SlideStageLaw" 39 mS_origin 2 0 := ⟨"SlideStage", t_S, 9, rfl, (g_in 615 (by decide +kernel) (by decide +kernel)), (g_in 616 (by decide +kernel) (by decide +kernel)), (g_in 617 (by decide +kernel) (by decide +kernel)), (g_in 46 (by decide +kernel) (by decide +kernel)), g_in 618 (by decide +kernel) (by decide +kernel), by decide +kernel⟩
theorem kL_42 : g_kV "SlideStageLaw" 42 mS_binding 1 0 := ⟨"SlideStage", t_S, 9, rfl, (g_in 625 (by decide +kernel) (by decide +kernel)), (g_in 626 (by decide +kernel) (by decide +kernel)), (g_in 627 (by decide +kernel) (by decide +kernel)), (g_in 46 (by decide +kernel) (by decide +kernel)), g_in 628 (by decide +kernel) (by decide +kernel), by decide +kernel⟩
theorem kL_46 : g_kV "SlideStageLaw" 46 mS_write 3 0 := ⟨"SlideStage", t_S, 9, rfl, (g_in 632 (by decide +kernel) (by decide +kernel)), (g_in 633 (by decide +kernel) (by decide +kernel)), (g_in 634 (by decide +kernel) (by decide +kernel)), (g_in 46 (by decide +kernel) (by decide +kernel)), g_in 635 (by decide +kernel) (by decide +kernel), by decide +kernel⟩
theorem kL_50 : g_kV "SlideStageLaw" 50 mS_scale 1 0 := ⟨"SlideStage", t_S, 9, rfl, (g_in 664 (by decide +kernel) (by decide +kernel)), (g_in 665 (by decide +kernel) (by decide +kernel)), (g_in 666 (by decide +kernel) (by decide +kernel)), (g_in 46 (by decide +kernel) (by decide +kernel)), g_in 667 (by decide +kernel) (by decide +kernel), by decide +kernel⟩
theorem kL_53 : g_kV "SlideStageLaw" 53 mS_lines 1 0 := ⟨"SlideStage", t_S, 9, rfl, (g_in 697 (by decide +kernel) (by decide +kernel)), (g_in 698 (by decide +kernel) (by decide +kernel)), (g_in 699 (by decide +kernel) (by decide +kernel)), (g_in 46 (by decide +kernel) (by decide +kernel)), g_in 700 (by decide +kernel) (by decide +kernel), by decide +kernel⟩
theorem kL_56 : g_kV "SlideStageLaw" 56 mS_line 3 0 := ⟨"SlideStage", t_S, 9, rfl, (g_in 704 (by decide +kernel) (by decide +kernel)), (g_in 705 (by decide +kernel) (by decide +kernel)), (g_in 706 (by decide +kernel) (by decide +kernel)), (g_in 46 (by decide +kernel) (by decide +kernel)), g_in 707 (by decide +kernel) (by decide +kernel), by decide +kernel⟩
theorem kL_59 : g_kV "SlideStageLaw" 59 mS_number 2 0 := ⟨"SlideStage", t_S, 9, rfl, (g_in 711 (by decide +kernel) (by decide +kernel)), (g_in 712 (by decide +kernel) (by decide +kernel)), (g_in 713 (by decide +kernel) (by decide +kernel)), (g_in 46 (by decide +kernel) (by decide +kernel)), g_in 714 (by decide +kernel) (by decide +kernel), by decide +kernel⟩
theorem kL_62 : g_kV "SlideStageLaw" 62 mS_effect 5 0 := ⟨"SlideStage", t_S, 9, rfl, (g_in 718 (by decide +kernel) (by decide +kernel)), (g_in 719 (by decide +kernel) (by decide +kernel)), (g_in 720 (by decide +kernel) (by decide +kernel)), (g_in 46 (by decide +kernel) (by decide +kernel)), g_in 721 (by decide +kernel) (by decide +kernel), by decide +kernel⟩
theorem kL_66 : g_kV "SlideStageLaw" 66 mS_amount 2 0 := ⟨"SlideStage", t_S, 9, rfl, (g_in 773 (by decide +kernel) (by decide +kernel)), (g_in 774 (by decide +kernel) (by decide +kernel)), (g_in 775 (by decide +kernel) (by decide +kernel)), (g_in 46 (by decide +kernel) (by decide +kernel)), g_in 776 (by decide +kernel) (by decide +kernel), by decide +kernel⟩
theorem kL_69 : g_kV "SlideStageLaw" 69 mS_timing 2 0 := ⟨"SlideStage", t_S, 9, rfl, (g_in 786 (by decide +kernel) (by decide +kernel)), (g_in 787 (by decide +kernel) (by decide +kernel)), (g_in 788 (by decide +kernel) (by decide +kernel)), (g_in 46 (by decide +kernel) (by decide +kernel)), g_in 789 (by decide +kernel) (by decide +kernel), by decide +kernel⟩
theorem kL_72 : g_kV "SlideStageLaw" 72 mS_jump 1 0 := ⟨"SlideStage", t_S, 9, rfl, (g_in 793 (by decide +kernel) (by decide +kernel)), (g_in 794 (by decide +kernel) (by decide +kernel)), (g_in 795 (by decide +kernel) (by decide +kernel)), (g_in 46 (by decide +kernel) (by decide +kernel)), g_in 796 (by decide +kernel) (by decide +kernel), by decide +kernel⟩
theorem kL_76 : g_kV "SlideStageLaw" 76 mS_tick 1 0 := ⟨"SlideStage", t_S, 9, rfl, (g_in 801 (by decide +kernel) (by decide +kernel)), (g_in 802 (by decide +kernel) (by decide +kernel)), (g_in 803 (by decide +kernel) (by decide +kernel)), (g_in 46 (by decide +kernel) (by decide +kernel)), g_in 804 (by decide +kernel) (by decide +kernel), by decide +kernel⟩
theorem kL_79 : g_kV "SlideStageLaw" 79 mS_now 2 0 := ⟨"SlideStage", t_S, 9, rfl, (g_in 811 (by decide +kernel) (by decide +kernel)), (g_in 812 (by decide +kernel) (by decide +kernel)), (g_in 813 (by decide +kernel) (by decide +kernel)), (g_in 46 (by decide +kernel) (by decide +kernel)), g_in 814 (by decide +kernel) (by decide +kernel), by decide +kernel⟩
theorem kL_82 : g_kI "SlideStageLaw" 82 mS_init 0 := ⟨⟨rfl, rfl, rfl⟩, (g_in 71 (by decide +kernel) (by decide +kernel)), (g_in 72 (by decide +kernel) (by decide +kernel)), (g_in 46 (by decide +kernel) (by decide +kernel)), g_in 73 (by decide +kernel) (by decide +kernel), by decide +kernel⟩
theorem kL_85 : g_kI "SlideStageLaw" 85 mM_init 0 := ⟨⟨rfl, rfl, rfl⟩, (g_in 817 (by decide +kernel) (by decide +kernel)), (g_in 818 (by decide +kernel) (by decide +kernel)), (g_in 51 (by decide +kernel) (by decide +kernel)), g_in 819 (by decide +kernel) (by decide +kernel), by decide +kernel⟩
theorem kL_86 : g_kS "SlideStageLaw" 86 mL_page 4 := ⟨(g_in 295 (by decide +kernel) (by decide +kernel)), (g_in 296 (by decide +kernel) (by decide +kernel)), (g_in 45 (by decide +kernel) (by decide +kernel)), g_in 297 (by decide +kernel) (by decide +kernel), by decide +kernel⟩
theorem kL_91 : g_kV "SlideStageLaw" 91 mM_page 2 7 := ⟨"SlideStageModel", t_M, 29, rfl, (g_in 914 (by decide +kernel) (by decide +kernel)), (g_in 915 (by decide +kernel) (by decide +kernel)), (g_in 916 (by decide +kernel) (by decide +kernel)), (g_in 51 (by decide +kernel) (by decide +kernel)), g_in 917 (by decide +kernel) (by decide +kernel), by decide +kernel⟩
theorem kL_92 : g_kV "SlideStageLaw" 92 mM_thrown 0 7 := ⟨"SlideStageModel", t_M, 29, rfl, (g_in 910 (by decide +kernel) (by decide +kernel)), (g_in 911 (by decide +kernel) (by decide +kernel)), (g_in 912 (by decide +kernel) (by decide +kernel)), (g_in 51 (by decide +kernel) (by decide +kernel)), g_in 913 (by decide +kernel) (by decide +kernel), by decide +kernel⟩
theorem kL_96 : g_kS "SlideStageLaw" 96 mL_shape 4 := ⟨(g_in 503 (by decide +kernel) (by decide +kernel)), (g_in 504 (by decide +kernel) (by decide +kernel)), (g_in 45 (by decide +kernel) (by decide +kernel)), g_in 505 (by decide +kernel) (by decide +kernel), by decide +kernel⟩
theorem kL_98 : g_kV "SlideStageLaw" 98 mM_shape 2 7 := ⟨"SlideStageModel", t_M, 29, rfl, (g_in 922 (by decide +kernel) (by decide +kernel)), (g_in 923 (by decide +kernel) (by decide +kernel)), (g_in 924 (by decide +kernel) (by decide +kernel)), (g_in 51 (by decide +kernel) (by decide +kernel)), g_in 925 (by decide +kernel) (by decide +kernel), by decide +kernel⟩
theorem kL_99 : g_kS "SlideStageLaw" 99 mL_theme 3 := ⟨(g_in 567 (by decide +kernel) (by decide +kernel)), (g_in 568 (by decide +kernel) (by decide +kernel)), (g_in 45 (by decide +kernel) (by decide +kernel)), g_in 569 (by decide +kernel) (by decide +kernel), by decide +kernel⟩
theorem kL_102 : g_kV "SlideStageLaw" 102 mM_theme 2 7 := ⟨"SlideStageModel", t_M, 29, rfl, (g_in 930 (by decide +kernel) (by decide +kernel)), (g_in 931 (by decide +kernel) (by decide +kernel)), (g_in 932 (by decide +kernel) (by decide +kernel)), (g_in 51 (by decide +kernel) (by decide +kernel)), g_in 933 (by decide +kernel) (by decide +kernel), by decide +kernel⟩
theorem kL_103 : g_kS "SlideStageLaw" 103 mL_set 4 := ⟨(g_in 586 (by decide +kernel) (by decide +kernel)), (g_in 587 (by decide +kernel) (by decide +kernel)), (g_in 45 (by decide +kernel) (by decide +kernel)), g_in 588 (by decide +kernel) (by decide +kernel), by decide +kernel⟩
theorem kL_106 : g_kV "SlideStageLaw" 106 mM_set 3 7 := ⟨"SlideStageModel", t_M, 29, rfl, (g_in 938 (by decide +kernel) (by decide +kernel)), (g_in 939 (by decide +kernel) (by decide +kernel)), (g_in 940 (by decide +kernel) (by decide +kernel)), (g_in 51 (by decide +kernel) (by decide +kernel)), g_in 941 (by decide +kernel) (by decide +kernel), by decide +kernel⟩
theorem kL_107 : g_kS "SlideStageLaw" 107 mL_unset 4 := ⟨(g_in 598 (by decide +kernel) (by decide +kernel)), (g_in 599 (by decide +kernel) (by decide +kernel)), (g_in 45 (by decide +kernel) (by decide +kernel)), g_in 600 (by decide +kernel) (by decide +kernel), by decide +kernel⟩
theorem kL_109 : g_kV "SlideStageLaw" 109 mM_unset 2 7 := ⟨"SlideStageModel", t_M, 29, rfl, (g_in 946 (by decide +kernel) (by decide +kernel)), (g_in 947 (by decide +kernel) (by decide +kernel)), (g_in 948 (by decide +kernel) (by decide +kernel)), (g_in 51 (by decide +kernel) (by decide +kernel)), g_in 949 (by decide +kernel) (by decide +kernel), by decide +kernel⟩
theorem kL_110 : g_kS "SlideStageLaw" 110 mL_resolved 4 := ⟨(g_in 605 (by decide +kernel) (by decide +kernel)), (g_in 606 (by decide +kernel) (by decide +kernel)), (g_in 45 (by decide +kernel) (by decide +kernel)), g_in 607 (by decide +kernel) (by decide +kernel), by decide +kernel⟩
theorem kL_112 : g_kV "SlideStageLaw" 112 mM_resolved 2 7 := ⟨"SlideStageModel", t_M, 29, rfl, (g_in 953 (by decide +kernel) (by decide +kernel)), (g_in 954 (by decide +kernel) (by decide +kernel)), (g_in 955 (by decide +kernel) (by decide +kernel)), (g_in 51 (by decide +kernel) (by decide +kernel)), g_in 956 (by decide +kernel) (by decide +kernel), by decide +kernel⟩
theorem kL_113 : g_kS "SlideStageLaw" 113 mL_origin 4 := ⟨(g_in 612 (by decide +kernel) (by decide +kernel)), (g_in 613 (by decide +kernel) (by decide +kernel)), (g_in 45 (by decide +kernel) (by decide +kernel)), g_in 614 (by decide +kernel) (by decide +kernel), by decide +kernel⟩
theorem kL_115 : g_kV "SlideStageLaw" 115 mM_origin 2 7 := ⟨"SlideStageModel", t_M, 29, rfl, (g_in 965 (by decide +kernel) (by decide +kernel)), (g_in 966 (by decide +kernel) (by decide +kernel)), (g_in 967 (by decide +kernel) (by decide +kernel)), (g_in 51 (by decide +kernel) (by decide +kernel)), g_in 968 (by decide +kernel) (by decide +kernel), by decide +kernel⟩
theorem kL_116 : g_kS "SlideStageLaw" 116 mL_binding 3 := ⟨(g_in 622 (by decide +kernel) (by decide +kernel)), (g_in 623 (by decide +kernel) (by decide +kernel)), (g_in 45 (by decide +kernel) (by decide +kernel)), g_in 624 (by decide +kernel) (by decide +kernel), by decide +kernel⟩
theorem kL_119 : g_kV "SlideStageLaw" 119 mM_binding 1 7 := ⟨"SlideStageModel", t_M, 29, rfl, (g_in 969 (by decide +kernel) (by decide +kernel)), (g_in 970 (by decide +kernel) (by decide +kernel)), (g_in 971 (by decide +kernel) (by decide +kernel)), (g_in 51 (by decide +kernel) (by decide +kernel)), g_in 972 (by decide +kernel) (by decide +kernel), by decide +kernel⟩
theorem kL_120 : g_kS "SlideStageLaw" 120 mL_write 5 := ⟨(g_in 629 (by decide +kernel) (by decide +kernel)), (g_in 630 (by decide +kernel) (by decide +kernel)), (g_in 45 (by decide +kernel) (by decide +kernel)), g_in 631 (by decide +kernel) (by decide +kernel), by decide +kernel⟩
theorem kL_123 : g_kV "SlideStageLaw" 123 mM_write 3 7 := ⟨"SlideStageModel", t_M, 29, rfl, (g_in 973 (by decide +kernel) (by decide +kernel)), (g_in 974 (by decide +kernel) (by decide +kernel)), (g_in 975 (by decide +kernel) (by decide +kernel)), (g_in 51 (by decide +kernel) (by decide +kernel)), g_in 976 (by decide +kernel) (by decide +kernel), by decide +kernel⟩
theorem kL_124 : g_kS "SlideStageLaw" 124 mL_scale 3 := ⟨(g_in 661 (by decide +kernel) (by decide +kernel)), (g_in 662 (by decide +kernel) (by decide +kernel)), (g_in 45 (by decide +kernel) (by decide +kernel)), g_in 663 (by decide +kernel) (by decide +kernel), by decide +kernel⟩
theorem kL_126 : g_kV "SlideStageLaw" 126 mM_scale 1 7 := ⟨"SlideStageModel", t_M, 29, rfl, (g_in 977 (by decide +kernel) (by decide +kernel)), (g_in 978 (by decide +kernel) (by decide +kernel)), (g_in 979 (by decide +kernel) (by decide +kernel)), (g_in 51 (by decide +kernel) (by decide +kernel)), g_in 980 (by decide +kernel) (by decide +kernel), by decide +kernel⟩
theorem kL_127 : g_kS "SlideStageLaw" 127 mL_lines 3 := ⟨(g_in 694 (by decide +kernel) (by decide +kernel)), (g_in 695 (by decide +kernel) (by decide +kernel)), (g_in 45 (by decide +kernel) (by decide +kernel)), g_in 696 (by decide +kernel) (by decide +kernel), by decide +kernel⟩
theorem kL_129 : g_kV "SlideStageLaw" 129 mM_lines 1 7 := ⟨"SlideStageModel", t_M, 29, rfl, (g_in 989 (by decide +kernel) (by decide +kernel)), (g_in 990 (by decide +kernel) (by decide +kernel)), (g_in 991 (by decide +kernel) (by decide +kernel)), (g_in 51 (by decide +kernel) (by decide +kernel)), g_in 992 (by decide +kernel) (by decide +kernel), by decide +kernel⟩
theorem kL_130 : g_kS "SlideStageLaw" 130 mL_line 5 := ⟨(g_in 701 (by decide +kernel) (by decide +kernel)), (g_in 702 (by decide +kernel) (by decide +kernel)), (g_in 45 (by decide +kernel) (by decide +kernel)), g_in 703 (by decide +kernel) (by decide +kernel), by decide +kernel⟩
theorem kL_132 : g_kV "SlideStageLaw" 132 mM_line 3 7 := ⟨"SlideStageModel", t_M, 29, rfl, (g_in 993 (by decide +kernel) (by decide +kernel)), (g_in 994 (by decide +kernel) (by decide +kernel)), (g_in 995 (by decide +kernel) (by decide +kernel)), (g_in 51 (by decide +kernel) (by decide +kernel)), g_in 996 (by decide +kernel) (by decide +kernel), by decide +kernel⟩
theorem kL_133 : g_kS "SlideStageLaw" 133 mL_number 4 := ⟨(g_in 708 (by decide +kernel) (by decide +kernel)), (g_in 709 (by decide +kernel) (by decide +kernel)), (g_in 45 (by decide +kernel) (by decide +kernel)), g_in 710 (by decide +kernel) (by decide +kernel), by decide +kernel⟩
theorem kL_135 : g_kV "SlideStageLaw" 135 mM_number 2 7 := ⟨"SlideStageModel", t_M, 29, rfl, (g_in 997 (by decide +kernel) (by decide +kernel)), (g_in 998 (by decide +kernel) (by decide +kernel)), (g_in 999 (by decide +kernel) (by decide +kernel)), (g_in 51 (by decide +kernel) (by decide +kernel)), g_in 1000 (by decide +kernel) (by decide +kernel), by decide +kernel⟩
theorem kL_136 : g_kS "SlideStageLaw" 136 mL_effect 7 := ⟨(g_in 715 (by decide +kernel) (by decide +kernel)), (g_in 716 (by decide +kernel) (by decide +kernel)), (g_in 45 (by decide +kernel) (by decide +kernel)), g_in 717 (by decide +kernel) (by decide +kernel), by decide +kernel⟩
theorem kL_139 : g_kV "SlideStageLaw" 139 mM_effect 5 7 := ⟨"SlideStageModel", t_M, 29, rfl, (g_in 1001 (by decide +kernel) (by decide +kernel)), (g_in 1002 (by decide +kernel) (by decide +kernel)), (g_in 1003 (by decide +kernel) (by decide +kernel)), (g_in 51 (by decide +kernel) (by decide +kernel)), g_in 1004 (by decide +kernel) (by decide +kernel), by decide +kernel⟩
theorem kL_140 : g_kS "SlideStageLaw" 140 mL_amount 3 := ⟨(g_in 770 (by decide +kernel) (by decide +kernel)), (g_in 771 (by decide +kernel) (by decide +kernel)), (g_in 45 (by decide +kernel) (by decide +kernel)), g_in 772 (by decide +kernel) (by decide +kernel), by decide +kernel⟩
theorem kL_142 : g_kV "SlideStageLaw" 142 mM_amount 2 7 := ⟨"SlideStageModel", t_M, 29, rfl, (g_in 1005 (by decide +kernel) (by decide +kernel)), (g_in 1006 (by decide +kernel) (by decide +kernel)), (g_in 1007 (by decide +kernel) (by decide +kernel)), (g_in 51 (by decide +kernel) (by decide +kernel)), g_in 1008 (by decide +kernel) (by decide +kernel), by decide +kernel⟩
theorem kL_143 : g_kS "SlideStageLaw" 143 mL_timing 4 := ⟨(g_in 783 (by decide +kernel) (by decide +kernel)), (g_in 784 (by decide +kernel) (by decide +kernel)), (g_in 45 (by decide +kernel) (by decide +kernel)), g_in 785 (by decide +kernel) (by decide +kernel), by decide +kernel⟩
theorem kL_145 : g_kV "SlideStageLaw" 145 mM_timing 2 7 := ⟨"SlideStageModel", t_M, 29, rfl, (g_in 1013 (by decide +kernel) (by decide +kernel)), (g_in 1014 (by decide +kernel) (by decide +kernel)), (g_in 1015 (by decide +kernel) (by decide +kernel)), (g_in 51 (by decide +kernel) (by decide +kernel)), g_in 1016 (by decide +kernel) (by decide +kernel), by decide +kernel⟩
theorem kL_146 : g_kV "SlideStageLaw" 146 mS_click 0 0 := ⟨"SlideStage", t_S, 9, rfl, (g_in 160 (by decide +kernel) (by decide +kernel)), (g_in 161 (by decide +kernel) (by decide +kernel)), (g_in 162 (by decide +kernel) (by decide +kernel)), (g_in 46 (by decide +kernel) (by decide +kernel)), g_in 163 (by decide +kernel) (by decide +kernel), by decide +kernel⟩
theorem kL_150 : g_kV "SlideStageLaw" 150 mM_click 0 7 := ⟨"SlideStageModel", t_M, 29, rfl, (g_in 1037 (by decide +kernel) (by decide +kernel)), (g_in 1038 (by decide +kernel) (by decide +kernel)), (g_in 1039 (by decide +kernel) (by decide +kernel)), (g_in 51 (by decide +kernel) (by decide +kernel)), g_in 1040 (by decide +kernel) (by decide +kernel), by decide +kernel⟩
theorem kL_151 : g_kV "SlideStageLaw" 151 mS_back 0 0 := ⟨"SlideStage", t_S, 9, rfl, (g_in 222 (by decide +kernel) (by decide +kernel)), (g_in 223 (by decide +kernel) (by decide +kernel)), (g_in 224 (by decide +kernel) (by decide +kernel)), (g_in 46 (by decide +kernel) (by decide +kernel)), g_in 225 (by decide +kernel) (by decide +kernel), by decide +kernel⟩
theorem kL_154 : g_kV "SlideStageLaw" 154 mM_back 0 7 := ⟨"SlideStageModel", t_M, 29, rfl, (g_in 1045 (by decide +kernel) (by decide +kernel)), (g_in 1046 (by decide +kernel) (by decide +kernel)), (g_in 1047 (by decide +kernel) (by decide +kernel)), (g_in 51 (by decide +kernel) (by decide +kernel)), g_in 1048 (by decide +kernel) (by decide +kernel), by decide +kernel⟩
theorem kL_155 : g_kS "SlideStageLaw" 155 mL_jump 2 := ⟨(g_in 790 (by decide +kernel) (by decide +kernel)), (g_in 791 (by decide +kernel) (by decide +kernel)), (g_in 45 (by decide +kernel) (by decide +kernel)), g_in 792 (by decide +kernel) (by decide +kernel), by decide +kernel⟩
theorem kL_158 : g_kV "SlideStageLaw" 158 mM_jump 1 7 := ⟨"SlideStageModel", t_M, 29, rfl, (g_in 1053 (by decide +kernel) (by decide +kernel)), (g_in 1054 (by decide +kernel) (by decide +kernel)), (g_in 1055 (by decide +kernel) (by decide +kernel)), (g_in 51 (by decide +kernel) (by decide +kernel)), g_in 1056 (by decide +kernel) (by decide +kernel), by decide +kernel⟩
theorem kL_159 : g_kS "SlideStageLaw" 159 mL_tick 2 := ⟨(g_in 798 (by decide +kernel) (by decide +kernel)), (g_in 799 (by decide +kernel) (by decide +kernel)), (g_in 45 (by decide +kernel) (by decide +kernel)), g_in 800 (by decide +kernel) (by decide +kernel), by decide +kernel⟩
theorem kL_161 : g_kV "SlideStageLaw" 161 mM_tick 1 7 := ⟨"SlideStageModel", t_M, 29, rfl, (g_in 1057 (by decide +kernel) (by decide +kernel)), (g_in 1058 (by decide +kernel) (by decide +kernel)), (g_in 1059 (by decide +kernel) (by decide +kernel)), (g_in 51 (by decide +kernel) (by decide +kernel)), g_in 1060 (by decide +kernel) (by decide +kernel), by decide +kernel⟩
theorem kL_162 : g_kV "SlideStageLaw" 162 mS_state 1 0 := ⟨"SlideStage", t_S, 9, rfl, (g_in 236 (by decide +kernel) (by decide +kernel)), (g_in 237 (by decide +kernel) (by decide +kernel)), (g_in 238 (by decide +kernel) (by decide +kernel)), (g_in 46 (by decide +kernel) (by decide +kernel)), g_in 239 (by decide +kernel) (by decide +kernel), by decide +kernel⟩
theorem kL_165 : g_kV "SlideStageLaw" 165 mM_state 1 7 := ⟨"SlideStageModel", t_M, 29, rfl, (g_in 1062 (by decide +kernel) (by decide +kernel)), (g_in 1063 (by decide +kernel) (by decide +kernel)), (g_in 1064 (by decide +kernel) (by decide +kernel)), (g_in 51 (by decide +kernel) (by decide +kernel)), g_in 1065 (by decide +kernel) (by decide +kernel), by decide +kernel⟩
theorem kL_166 : g_kS "SlideStageLaw" 166 mL_now 4 := ⟨(g_in 808 (by decide +kernel) (by decide +kernel)), (g_in 809 (by decide +kernel) (by decide +kernel)), (g_in 45 (by decide +kernel) (by decide +kernel)), g_in 810 (by decide +kernel) (by decide +kernel), by decide +kernel⟩
theorem kL_168 : g_kV "SlideStageLaw" 168 mM_now 2 7 := ⟨"SlideStageModel", t_M, 29, rfl, (g_in 1066 (by decide +kernel) (by decide +kernel)), (g_in 1067 (by decide +kernel) (by decide +kernel)), (g_in 1068 (by decide +kernel) (by decide +kernel)), (g_in 51 (by decide +kernel) (by decide +kernel)), g_in 1069 (by decide +kernel) (by decide +kernel), by decide +kernel⟩
theorem kL_169 : g_kV "SlideStageLaw" 169 mS_pixel 2 0 := ⟨"SlideStage", t_S, 9, rfl, (g_in 240 (by decide +kernel) (by decide +kernel)), (g_in 241 (by decide +kernel) (by decide +kernel)), (g_in 242 (by decide +kernel) (by decide +kernel)), (g_in 46 (by decide +kernel) (by decide +kernel)), g_in 243 (by decide +kernel) (by decide +kernel), by decide +kernel⟩
theorem kL_172 : g_kV "SlideStageLaw" 172 mM_pixel 2 7 := ⟨"SlideStageModel", t_M, 29, rfl, (g_in 1086 (by decide +kernel) (by decide +kernel)), (g_in 1087 (by decide +kernel) (by decide +kernel)), (g_in 1088 (by decide +kernel) (by decide +kernel)), (g_in 51 (by decide +kernel) (by decide +kernel)), g_in 1089 (by decide +kernel) (by decide +kernel), by decide +kernel⟩
theorem kM_1 : g_oi "SlideStageModel" 1 := ⟨(g_in 820 (by decide +kernel) (by decide +kernel)), (g_in 75 (by decide +kernel) (by decide +kernel)), g_in 76 (by decide +kernel) (by decide +kernel)⟩
theorem kM_85 : g_kV "SlideStageModel" 85 mM_noPage 1 7 := ⟨"SlideStageModel", t_M, 29, rfl, (g_in 918 (by decide +kernel) (by decide +kernel)), (g_in 920 (by decide +kernel) (by decide +kernel)), (g_in 23 (by decide +kernel) (by decide +kernel)), (g_in 51 (by decide +kernel) (by decide +kernel)), g_in 921 (by decide +kernel) (by decide +kernel), by decide +kernel⟩
theorem kM_89 : g_kV "SlideStageModel" 89 mM_slotted 2 7 := ⟨"SlideStageModel", t_M, 29, rfl, (g_in 926 (by decide +kernel) (by decide +kernel)), (g_in 928 (by decide +kernel) (by decide +kernel)), (g_in 24 (by decide +kernel) (by decide +kernel)), (g_in 51 (by decide +kernel) (by decide +kernel)), g_in 929 (by decide +kernel) (by decide +kernel), by decide +kernel⟩
theorem kM_94 : g_kS "SlideStageModel" 94 mM_bad 2 := ⟨(g_in 934 (by decide +kernel) (by decide +kernel)), (g_in 935 (by decide +kernel) (by decide +kernel)), (g_in 51 (by decide +kernel) (by decide +kernel)), g_in 936 (by decide +kernel) (by decide +kernel), by decide +kernel⟩
theorem kM_98 : g_kV "SlideStageModel" 98 mM_noShape 1 7 := ⟨"SlideStageModel", t_M, 29, rfl, (g_in 942 (by decide +kernel) (by decide +kernel)), (g_in 944 (by decide +kernel) (by decide +kernel)), (g_in 25 (by decide +kernel) (by decide +kernel)), (g_in 51 (by decide +kernel) (by decide +kernel)), g_in 945 (by decide +kernel) (by decide +kernel), by decide +kernel⟩
theorem kM_101 : g_kS "SlideStageModel" 101 mM_noProperty 1 := ⟨(g_in 950 (by decide +kernel) (by decide +kernel)), (g_in 951 (by decide +kernel) (by decide +kernel)), (g_in 51 (by decide +kernel) (by decide +kernel)), g_in 952 (by decide +kernel) (by decide +kernel), by decide +kernel⟩
theorem kM_104 : g_kV "SlideStageModel" 104 mM_source 2 7 := ⟨"SlideStageModel", t_M, 29, rfl, (g_in 961 (by decide +kernel) (by decide +kernel)), (g_in 963 (by decide +kernel) (by decide +kernel)), (g_in 27 (by decide +kernel) (by decide +kernel)), (g_in 51 (by decide +kernel) (by decide +kernel)), g_in 964 (by decide +kernel) (by decide +kernel), by decide +kernel⟩
theorem kM_107 : g_kV "SlideStageModel" 107 mM_value 2 7 := ⟨"SlideStageModel", t_M, 29, rfl, (g_in 957 (by decide +kernel) (by decide +kernel)), (g_in 959 (by decide +kernel) (by decide +kernel)), (g_in 26 (by decide +kernel) (by decide +kernel)), (g_in 51 (by decide +kernel) (by decide +kernel)), g_in 960 (by decide +kernel) (by decide +kernel), by decide +kernel⟩
theorem kM_113 : g_kV "SlideStageModel" 113 mM_breakText 2 7 := ⟨"SlideStageModel", t_M, 29, rfl, (g_in 985 (by decide +kernel) (by decide +kernel)), (g_in 987 (by decide +kernel) (by decide +kernel)), (g_in 29 (by decide +kernel) (by decide +kernel)), (g_in 51 (by decide +kernel) (by decide +kernel)), g_in 988 (by decide +kernel) (by decide +kernel), by decide +kernel⟩
theorem kM_117 : g_kV "SlideStageModel" 117 mM_fit 1 7 := ⟨"SlideStageModel", t_M, 29, rfl, (g_in 981 (by decide +kernel) (by decide +kernel)), (g_in 983 (by decide +kernel) (by decide +kernel)), (g_in 28 (by decide +kernel) (by decide +kernel)), (g_in 51 (by decide +kernel) (by decide +kernel)), g_in 984 (by decide +kernel) (by decide +kernel), by decide +kernel⟩
theorem kM_124 : g_kV "SlideStageModel" 124 mM_noEffect 1 7 := ⟨"SlideStageModel", t_M, 29, rfl, (g_in 1009 (by decide +kernel) (by decide +kernel)), (g_in 1011 (by decide +kernel) (by decide +kernel)), (g_in 30 (by decide +kernel) (by decide +kernel)), (g_in 51 (by decide +kernel) (by decide +kernel)), g_in 1012 (by decide +kernel) (by decide +kernel), by decide +kernel⟩
theorem kM_127 : g_kV "SlideStageModel" 127 mM_start 1 7 := ⟨"SlideStageModel", t_M, 29, rfl, (g_in 1017 (by decide +kernel) (by decide +kernel)), (g_in 1019 (by decide +kernel) (by decide +kernel)), (g_in 31 (by decide +kernel) (by decide +kernel)), (g_in 51 (by decide +kernel) (by decide +kernel)), g_in 1020 (by decide +kernel) (by decide +kernel), by decide +kernel⟩
theorem kM_130 : g_kV "SlideStageModel" 130 mM_build 1 7 := ⟨"SlideStageModel", t_M, 29, rfl, (g_in 1025 (by decide +kernel) (by decide +kernel)), (g_in 1027 (by decide +kernel) (by decide +kernel)), (g_in 33 (by decide +kernel) (by decide +kernel)), (g_in 51 (by decide +kernel) (by decide +kernel)), g_in 1028 (by decide +kernel) (by decide +kernel), by decide +kernel⟩
theorem kM_133 : g_kV "SlideStageModel" 133 mM_end 1 7 := ⟨"SlideStageModel", t_M, 29, rfl, (g_in 1021 (by decide +kernel) (by decide +kernel)), (g_in 1023 (by decide +kernel) (by decide +kernel)), (g_in 32 (by decide +kernel) (by decide +kernel)), (g_in 51 (by decide +kernel) (by decide +kernel)), g_in 1024 (by decide +kernel) (by decide +kernel), by decide +kernel⟩
theorem kM_145 : g_kV "SlideStageModel" 145 mM_slide 1 7 := ⟨"SlideStageModel", t_M, 29, rfl, (g_in 1029 (by decide +kernel) (by decide +kernel)), (g_in 1031 (by decide +kernel) (by decide +kernel)), (g_in 34 (by decide +kernel) (by decide +kernel)), (g_in 51 (by decide +kernel) (by decide +kernel)), g_in 1032 (by decide +kernel) (by decide +kernel), by decide +kernel⟩
theorem kM_148 : g_kV "SlideStageModel" 148 mM_stage 1 7 := ⟨"SlideStageModel", t_M, 29, rfl, (g_in 1033 (by decide +kernel) (by decide +kernel)), (g_in 1035 (by decide +kernel) (by decide +kernel)), (g_in 35 (by decide +kernel) (by decide +kernel)), (g_in 51 (by decide +kernel) (by decide +kernel)), g_in 1036 (by decide +kernel) (by decide +kernel), by decide +kernel⟩
theorem kM_151 : g_kV "SlideStageModel" 151 mM_lastBuild 1 7 := ⟨"SlideStageModel", t_M, 29, rfl, (g_in 1041 (by decide +kernel) (by decide +kernel)), (g_in 1043 (by decide +kernel) (by decide +kernel)), (g_in 36 (by decide +kernel) (by decide +kernel)), (g_in 51 (by decide +kernel) (by decide +kernel)), g_in 1044 (by decide +kernel) (by decide +kernel), by decide +kernel⟩
theorem kM_154 : g_kV "SlideStageModel" 154 mM_length 2 7 := ⟨"SlideStageModel", t_M, 29, rfl, (g_in 1049 (by decide +kernel) (by decide +kernel)), (g_in 1051 (by decide +kernel) (by decide +kernel)), (g_in 37 (by decide +kernel) (by decide +kernel)), (g_in 51 (by decide +kernel) (by decide +kernel)), g_in 1052 (by decide +kernel) (by decide +kernel), by decide +kernel⟩
theorem kM_158 : g_kV "SlideStageModel" 158 mM_part 2 7 := ⟨"SlideStageModel", t_M, 29, rfl, (g_in 1078 (by decide +kernel) (by decide +kernel)), (g_in 1080 (by decide +kernel) (by decide +kernel)), (g_in 40 (by decide +kernel) (by decide +kernel)), (g_in 51 (by decide +kernel) (by decide +kernel)), g_in 1081 (by decide +kernel) (by decide +kernel), by decide +kernel⟩
theorem kM_161 : g_kV "SlideStageModel" 161 mM_moved 2 7 := ⟨"SlideStageModel", t_M, 29, rfl, (g_in 1074 (by decide +kernel) (by decide +kernel)), (g_in 1076 (by decide +kernel) (by decide +kernel)), (g_in 39 (by decide +kernel) (by decide +kernel)), (g_in 51 (by decide +kernel) (by decide +kernel)), g_in 1077 (by decide +kernel) (by decide +kernel), by decide +kernel⟩
theorem kM_164 : g_kV "SlideStageModel" 164 mM_shown 2 7 := ⟨"SlideStageModel", t_M, 29, rfl, (g_in 1082 (by decide +kernel) (by decide +kernel)), (g_in 1084 (by decide +kernel) (by decide +kernel)), (g_in 41 (by decide +kernel) (by decide +kernel)), (g_in 51 (by decide +kernel) (by decide +kernel)), g_in 1085 (by decide +kernel) (by decide +kernel), by decide +kernel⟩
theorem kM_167 : g_kV "SlideStageModel" 167 mM_valueNow 2 7 := ⟨"SlideStageModel", t_M, 29, rfl, (g_in 1070 (by decide +kernel) (by decide +kernel)), (g_in 1072 (by decide +kernel) (by decide +kernel)), (g_in 38 (by decide +kernel) (by decide +kernel)), (g_in 51 (by decide +kernel) (by decide +kernel)), g_in 1073 (by decide +kernel) (by decide +kernel), by decide +kernel⟩
theorem kM_170 : g_kS "SlideStageModel" 170 mM_mixed 3 := ⟨(g_in 1102 (by decide +kernel) (by decide +kernel)), (g_in 1103 (by decide +kernel) (by decide +kernel)), (g_in 51 (by decide +kernel) (by decide +kernel)), g_in 1104 (by decide +kernel) (by decide +kernel), by decide +kernel⟩
theorem kM_174 : g_kV "SlideStageModel" 174 mM_covers 3 7 := ⟨"SlideStageModel", t_M, 29, rfl, (g_in 1094 (by decide +kernel) (by decide +kernel)), (g_in 1096 (by decide +kernel) (by decide +kernel)), (g_in 43 (by decide +kernel) (by decide +kernel)), (g_in 51 (by decide +kernel) (by decide +kernel)), g_in 1097 (by decide +kernel) (by decide +kernel), by decide +kernel⟩
theorem kM_178 : g_kV "SlideStageModel" 178 mM_over 2 7 := ⟨"SlideStageModel", t_M, 29, rfl, (g_in 1098 (by decide +kernel) (by decide +kernel)), (g_in 1100 (by decide +kernel) (by decide +kernel)), (g_in 44 (by decide +kernel) (by decide +kernel)), (g_in 51 (by decide +kernel) (by decide +kernel)), g_in 1101 (by decide +kernel) (by decide +kernel), by decide +kernel⟩
theorem kM_181 : g_kV "SlideStageModel" 181 mM_painted 5 7 := ⟨"SlideStageModel", t_M, 29, rfl, (g_in 1090 (by decide +kernel) (by decide +kernel)), (g_in 1092 (by decide +kernel) (by decide +kernel)), (g_in 42 (by decide +kernel) (by decide +kernel)), (g_in 51 (by decide +kernel) (by decide +kernel)), g_in 1093 (by decide +kernel) (by decide +kernel), by decide +kernel⟩
theorem kAC_1 : g_oi "java/util/AbstractCollection" 1 := ⟨(g_in 89 (by decide +kernel) (by decide +kernel)), (g_in 75 (by decide +kernel) (by decide +kernel)), g_in 76 (by decide +kernel) (by decide +kernel)⟩
theorem kAL_1 : g_kI "java/util/AbstractList" 1 mAC_init 0 := ⟨⟨rfl, rfl, rfl⟩, (g_in 86 (by decide +kernel) (by decide +kernel)), (g_in 87 (by decide +kernel) (by decide +kernel)), (g_in 47 (by decide +kernel) (by decide +kernel)), g_in 88 (by decide +kernel) (by decide +kernel), by decide +kernel⟩
theorem kA_1 : g_kI "java/util/ArrayList" 1 mAL_init 0 := ⟨⟨rfl, rfl, rfl⟩, (g_in 83 (by decide +kernel) (by decide +kernel)), (g_in 84 (by decide +kernel) (by decide +kernel)), (g_in 48 (by decide +kernel) (by decide +kernel)), g_in 85 (by decide +kernel) (by decide +kernel), by decide +kernel⟩
theorem kA_69 : g_kV "java/util/ArrayList" 69 mA_grow1 1 6 := ⟨"java/util/ArrayList", t_A, 3, rfl, (g_in 454 (by decide +kernel) (by decide +kernel)), (g_in 456 (by decide +kernel) (by decide +kernel)), (g_in 15 (by decide +kernel) (by decide +kernel)), (g_in 49 (by decide +kernel) (by decide +kernel)), g_in 457 (by decide +kernel) (by decide +kernel), by decide +kernel⟩
theorem kA_73 : g_kS "java/util/ArrayList" 73 mAS_newLength 3 := ⟨(g_in 458 (by decide +kernel) (by decide +kernel)), (g_in 459 (by decide +kernel) (by decide +kernel)), (g_in 61 (by decide +kernel) (by decide +kernel)), g_in 460 (by decide +kernel) (by decide +kernel), by decide +kernel⟩
theorem kA_79 : g_kS "java/util/ArrayList" 79 mMA_max 2 := ⟨(g_in 497 (by decide +kernel) (by decide +kernel)), (g_in 234 (by decide +kernel) (by decide +kernel)), (g_in 62 (by decide +kernel) (by decide +kernel)), g_in 235 (by decide +kernel) (by decide +kernel), by decide +kernel⟩
theorem kA_118 : g_kS "java/util/ArrayList" 118 mO_checkIndex 2 := ⟨(g_in 191 (by decide +kernel) (by decide +kernel)), (g_in 192 (by decide +kernel) (by decide +kernel)), (g_in 56 (by decide +kernel) (by decide +kernel)), g_in 193 (by decide +kernel) (by decide +kernel), by decide +kernel⟩
theorem kA_123 : g_kV "java/util/ArrayList" 123 mA_elementData 1 6 := ⟨"java/util/ArrayList", t_A, 3, rfl, (g_in 197 (by decide +kernel) (by decide +kernel)), (g_in 198 (by decide +kernel) (by decide +kernel)), (g_in 199 (by decide +kernel) (by decide +kernel)), (g_in 49 (by decide +kernel) (by decide +kernel)), g_in 200 (by decide +kernel) (by decide +kernel), by decide +kernel⟩
theorem kA_129 : g_kV "java/util/ArrayList" 129 mA_grow0 0 6 := ⟨"java/util/ArrayList", t_A, 3, rfl, (g_in 450 (by decide +kernel) (by decide +kernel)), (g_in 452 (by decide +kernel) (by decide +kernel)), (g_in 14 (by decide +kernel) (by decide +kernel)), (g_in 49 (by decide +kernel) (by decide +kernel)), g_in 453 (by decide +kernel) (by decide +kernel), by decide +kernel⟩
theorem kA_131 : g_kV "java/util/ArrayList" 131 mA_add3 3 6 := ⟨"java/util/ArrayList", t_A, 3, rfl, (g_in 446 (by decide +kernel) (by decide +kernel)), (g_in 448 (by decide +kernel) (by decide +kernel)), (g_in 13 (by decide +kernel) (by decide +kernel)), (g_in 49 (by decide +kernel) (by decide +kernel)), g_in 449 (by decide +kernel) (by decide +kernel), by decide +kernel⟩
theorem kO_105 : g_kS "java/util/Objects" 105 mPC_checkIndex 3 := ⟨(g_in 194 (by decide +kernel) (by decide +kernel)), (g_in 195 (by decide +kernel) (by decide +kernel)), (g_in 57 (by decide +kernel) (by decide +kernel)), g_in 196 (by decide +kernel) (by decide +kernel), by decide +kernel⟩
theorem kAS_194 : g_kS "jdk/internal/util/ArraysSupport" 194 mMA_max 2 := ⟨(g_in 461 (by decide +kernel) (by decide +kernel)), (g_in 234 (by decide +kernel) (by decide +kernel)), (g_in 62 (by decide +kernel) (by decide +kernel)), g_in 235 (by decide +kernel) (by decide +kernel), by decide +kernel⟩
theorem kAS_201 : g_kS "jdk/internal/util/ArraysSupport" 201 mAS_hugeLength 2 := ⟨(g_in 463 (by decide +kernel) (by decide +kernel)), (g_in 464 (by decide +kernel) (by decide +kernel)), (g_in 61 (by decide +kernel) (by decide +kernel)), g_in 465 (by decide +kernel) (by decide +kernel), by decide +kernel⟩
theorem nS_14 : g_nw "SlideStage" 14 6 3 [.null, .int 0, .int 0] := ⟨"java/util/ArrayList", t_A, t_Ay, kc6, (g_in 78 (by decide +kernel) (by decide +kernel)), (g_in 79 (by decide +kernel) (by decide +kernel)), (g_in 49 (by decide +kernel) (by decide +kernel)), by decide +kernel⟩
theorem nS_30 : g_nw "SlideStage" 30 5 5 [.null, .null, .null, .null, .int 0] := ⟨"SlideStage$LineRows", t_R, t_Ry, kc5, (g_in 105 (by decide +kernel) (by decide +kernel)), (g_in 106 (by decide +kernel) (by decide +kernel)), (g_in 50 (by decide +kernel) (by decide +kernel)), by decide +kernel⟩
theorem nS_82 : g_nw "SlideStage" 82 1 4 [.int 0, .null, .null, .null] := ⟨"SlideStage$Page", t_P, t_Py, kc1, (g_in 201 (by decide +kernel) (by decide +kernel)), (g_in 413 (by decide +kernel) (by decide +kernel)), (g_in 60 (by decide +kernel) (by decide +kernel)), by decide +kernel⟩
theorem nS_110 : g_nw "SlideStage" 110 2 7 [.int 0, .null, .int 0, .null, .null, .null, .null] := ⟨"SlideStage$Shape", t_H, t_Hy, kc2, (g_in 255 (by decide +kernel) (by decide +kernel)), (g_in 530 (by decide +kernel) (by decide +kernel)), (g_in 66 (by decide +kernel) (by decide +kernel)), by decide +kernel⟩
theorem nS_173 : g_nw "SlideStage" 173 3 2 [.int 0, .int 0] := ⟨"SlideStage$Paragraph", t_G, t_Gy, kc3, (g_in 645 (by decide +kernel) (by decide +kernel)), (g_in 646 (by decide +kernel) (by decide +kernel)), (g_in 67 (by decide +kernel) (by decide +kernel)), by decide +kernel⟩
theorem nS_224 : g_nw "SlideStage" 224 4 8 [.null, .int 0, .int 0, .int 0, .int 0, .int 0, .int 0, .int 0] := ⟨"SlideStage$Effect", t_F, t_Fy, kc4, (g_in 217 (by decide +kernel) (by decide +kernel)), (g_in 732 (by decide +kernel) (by decide +kernel)), (g_in 68 (by decide +kernel) (by decide +kernel)), by decide +kernel⟩
theorem nP_7 : g_nw "SlideStage$Page" 7 6 3 [.null, .int 0, .int 0] := ⟨"java/util/ArrayList", t_A, t_Ay, kc6, (g_in 418 (by decide +kernel) (by decide +kernel)), (g_in 79 (by decide +kernel) (by decide +kernel)), (g_in 49 (by decide +kernel) (by decide +kernel)), by decide +kernel⟩
theorem nH_19 : g_nw "SlideStage$Shape" 19 6 3 [.null, .int 0, .int 0] := ⟨"java/util/ArrayList", t_A, t_Ay, kc6, (g_in 535 (by decide +kernel) (by decide +kernel)), (g_in 79 (by decide +kernel) (by decide +kernel)), (g_in 49 (by decide +kernel) (by decide +kernel)), by decide +kernel⟩
theorem nL_8 : g_nw "SlideStageLaw" 8 0 9 [.null, .null, .null, .null, .null, .null, .int 0, .int 0, .int 0] := ⟨"SlideStage", t_S, t_Sy, kc0, (g_in 69 (by decide +kernel) (by decide +kernel)), (g_in 70 (by decide +kernel) (by decide +kernel)), (g_in 46 (by decide +kernel) (by decide +kernel)), by decide +kernel⟩
theorem nL_83 : g_nw "SlideStageLaw" 83 7 29 [.int 0, .int 0, .null, .null, .int 0, .null, .null, .null, .null, .null, .null, .null, .null, .null, .int 0, .null, .null, .null, .null, .null, .null, .int 0, .int 0, .int 0, .int 0, .null, .null, .null, .null] := ⟨"SlideStageModel", t_M, t_My, kc7, (g_in 815 (by decide +kernel) (by decide +kernel)), (g_in 816 (by decide +kernel) (by decide +kernel)), (g_in 51 (by decide +kernel) (by decide +kernel)), by decide +kernel⟩
theorem cS_82 : Cond.classLink "SlideStage" 82 "SlideStage$Page" ∈ g_wl := (g_in 201 (by decide +kernel) (by decide +kernel))
theorem cS_110 : Cond.classLink "SlideStage" 110 "SlideStage$Shape" ∈ g_wl := (g_in 255 (by decide +kernel) (by decide +kernel))
theorem cS_173 : Cond.classLink "SlideStage" 173 "SlideStage$Paragraph" ∈ g_wl := (g_in 645 (by decide +kernel) (by decide +kernel))
theorem cS_224 : Cond.classLink "SlideStage" 224 "SlideStage$Effect" ∈ g_wl := (g_in 217 (by decide +kernel) (by decide +kernel))
theorem cR_38 : Cond.classLink "SlideStage$LineRows" 38 "SlideStage$Paragraph" ∈ g_wl := (g_in 680 (by decide +kernel) (by decide +kernel))
theorem lS_9 : Cond.constant "SlideStage" 9 8421504 ∈ g_wl := (g_in 77 (by decide +kernel) (by decide +kernel))
theorem lS_292 : Cond.constant "SlideStage" 292 16777215 ∈ g_wl := (g_in 247 (by decide +kernel) (by decide +kernel))
theorem lAS_200 : Cond.constant "jdk/internal/util/ArraysSupport" 200 2147483639 ∈ g_wl := (g_in 462 (by decide +kernel) (by decide +kernel))
theorem lS_278 : Cond.constant "SlideStage" 278 1000000 ∈ g_wl := (g_in 806 (by decide +kernel) (by decide +kernel))
theorem lM_29 : Cond.constant "SlideStageModel" 29 8421504 ∈ g_wl := (g_in 821 (by decide +kernel) (by decide +kernel))
theorem lM_93 : Cond.constant "SlideStageModel" 93 16777215 ∈ g_wl := (g_in 937 (by decide +kernel) (by decide +kernel))
theorem lM_157 : Cond.constant "SlideStageModel" 157 1000000 ∈ g_wl := (g_in 1061 (by decide +kernel) (by decide +kernel))
theorem a_int : Cond.arrayClass .int ∈ g_wl := (g_in 104 (by decide +kernel) (by decide +kernel))
theorem a_boolean : Cond.arrayClass .boolean ∈ g_wl := (g_in 566 (by decide +kernel) (by decide +kernel))
theorem a_long : Cond.arrayClass .long ∈ g_wl := (g_in 1105 (by decide +kernel) (by decide +kernel))
theorem x_0 : g_tw 0 51 55 := ⟨(g_in 305 (by decide +kernel) (by decide +kernel)), (g_in 306 (by decide +kernel) (by decide +kernel)), (g_in 55 (by decide +kernel) (by decide +kernel)), by decide +kernel, g_own0⟩
theorem x_1 : g_tw 1 66 70 := ⟨(g_in 381 (by decide +kernel) (by decide +kernel)), (g_in 382 (by decide +kernel) (by decide +kernel)), (g_in 58 (by decide +kernel) (by decide +kernel)), by decide +kernel, g_own1⟩
theorem x_2 : g_tw 2 77 81 := ⟨(g_in 397 (by decide +kernel) (by decide +kernel)), (g_in 398 (by decide +kernel) (by decide +kernel)), (g_in 59 (by decide +kernel) (by decide +kernel)), by decide +kernel, g_own2⟩
theorem x_3 : g_tw 3 105 109 := ⟨(g_in 514 (by decide +kernel) (by decide +kernel)), (g_in 515 (by decide +kernel) (by decide +kernel)), (g_in 65 (by decide +kernel) (by decide +kernel)), by decide +kernel, g_own3⟩
end
section
/-! rows for arrays of references, static arrays -/
section GAL
variable {E : g_E} {X : g_X} {M : g_M} {P : g_P} {h : g_H} {z : Bool} {cs ss pc : Nat} {L : List (Option Value)} {rest : List Value}
abbrev g_refs (E : g_E) (n : Nat) (f : Nat → Option Nat) : va_E := .inl (E.D.1 103, n, .inr (.inr (.inr (.inr f))))
abbrev g_ints (E : g_E) (n : Nat) (f : Nat → Int32) : va_E := .inl (E.D.1 100, n, .inl f)
abbrev g_bools (E : g_E) (n : Nat) (f : Nat → Int32) : va_E := .inl (E.D.1 101, n, .inl f)
abbrev g_longs (E : g_E) (n : Nat) (f : Nat → Int64) : va_E := .inl (E.D.1 102, n, .inr (.inl f))
theorem g_aald (hX : g_ok E X M) {a k n : Nat} {f : Nat → Option Nat} {i : Int32} (hdg : decode M.cc pc = .ok (.aaload, 1)) (ha : h a = some (g_refs E n f)) (hi : g_ix i k n) (pn : Nat) (hpn : pc + 1 = pn)
    (kk : g_Go E X P h z cs ss pn L (va_rf (f k) :: rest)) : g_Go E X P h z cs ss pc L (.int i :: .ref a :: rest) := by
  subst hpn
  intro H locs ls hV hB hlo hL hz
  obtain ⟨h1, rfl⟩ := hi
  exact va_aldq (ws := [(a, g_refs E n f)]) hX.exec hX.code hX.K.1 (fun q e hq => by
      cases q with
      | zero => cases hq; exact hV a _ ha
      | succ q => cases hq) 0 3 rfl rfl h1 hdg (kk H locs ls hV hB hlo hL hz)
theorem g_aast (hX : g_ok E X M) {a b k n ci N : Nat} {C : String} {T0 : u_T} {fs : List Value} {f : Nat → Option Nat} {i : Int32} (hdg : decode M.cc pc = .ok (.aastore, 1)) (ha : h a = some (g_refs E n f)) (hb0 : E.H0.size ≤ a) (hi : g_ix i k n) (hb : h b = some (.inr (ci, fs))) (hcl : g_cl[ci]? = some (C, T0, N)) (hcast : Cond.castable C "java/lang/Object" ∈ g_wl) (pn : Nat) (hpn : pc + 1 = pn)
    (kk : g_Go E X P (g_set h a (g_refs E n (va_up f k (some b)))) false cs ss pn L rest) : g_Go E X P h z cs ss pc L (.ref b :: .int i :: .ref a :: rest) := by
  subst hpn
  intro H locs ls hV hB hlo hL hz
  obtain ⟨h1, rfl⟩ := hi
  have hlt : i.toNatClampNeg < n := Nat.not_le.mp fun q => h1 (Or.inr q)
  have h0 : ¬ i < 0 := fun q => h1 (Or.inl q)
  obtain ⟨cellV, g1, g3, g2⟩ := g_recv hX.K.1 hV hcl hb
  obtain ⟨kA, comp, k1, k2, k3, -⟩ := (hX.K.1.2 3 _ rfl).2
  obtain ⟨kE, hkE, -⟩ := Vm.findClass_spec k3
  obtain ⟨kC, hkC, -⟩ := Vm.findClass_spec g2
  have hasg : X.s.vm.assignable cellV.cls comp = true := by
    obtain ⟨c3, t3, u1, u2, u3⟩ := Cond.castable_spec (hX.w hcast (A := X.args))
    cases g2.symm.trans u1
    cases k3.symm.trans u2
    exact u3
  refine W.aast hX.exec hX.code (hV a _ ha) (fun q h => by cases h) (fun h => by cases h) k1 k2 rfl hkE ⟨h0, by show _ < (arrV _ _ _).slots.size; rw [arrV_size]; exact hlt⟩ g1 (fun q h => by rw [h] at g3; cases g3) hkC hasg rfl rfl hdg fun H1 e zz oq => ?_
  refine kk H1 _ ls (hV.put ?_ oq) (hB.put zz oq hb0) (t_lc (free := fun q => E.H0.size ≤ q) hlo hb0) hL (fun q => by cases q)
  show H1[a]? = some (vp_cell _ _)
  rw [e]
  rw [vp_cell_q, vp_cell_q, arrV_store]
  congr 2
  funext q
  by_cases hq : q = i.toNatClampNeg
  · subst hq
    simp [updV, va_up, va_rf]
  · simp [updV, va_up, hq]
theorem g_anew (hX : g_ok E X M) {index N : Nat} {n : Int32} (hdg : decode M.cc pc = .ok (.anewarray index, 3)) (hlink : Cond.classLink M.y.cls index "java/lang/Object" ∈ g_wl) (hn : ¬ n < 0) (hN : n.toNatClampNeg = N) (hbytes : N * 4 ≤ 536870912) (hc1 : cs + 1 ≤ X.R.cells) (hs1 : ss + N ≤ X.R.slots) (pn : Nat) (hpn : pc + 3 = pn)
    (kk : ∀ q : Nat, h q = none → E.H0.size ≤ q → g_Go E X P (g_set h q (g_refs E N (fun _ => none))) false (cs + 1) (ss + N) pn L (.ref q :: rest)) : g_Go E X P h z cs ss pc L (.int n :: rest) := by
  subst hpn
  subst hN
  intro H locs ls hV hB hlo hL hz
  have hover : va_AO "java/lang/Object" X.s := hX.K.2.2.2.2.2.2.2.1.2.2.2.2
  refine W.anew hX.exec hX.code hX.own (hX.w hlink) (va_AO.use hover) rfl hdg rfl hn hbytes hc1 hs1 fun cA kA comp f1 f2 f3 f4 => ?_
  generalize hH1 : H.push ({ cls := cA, slots := Array.replicate n.toNatClampNeg .null, vm := .none } : Cell) = H1
  have z1 : H1.size = H.size + 1 := by rw [← hH1, Array.size_push]
  have e1 : H1[H.size]? = some (arrV cA n.toNatClampNeg (fun _ => .null)) := by rw [← hH1, Array.getElem?_push_size, ← arrV_new]
  have o1 : ∀ q : Nat, q < H.size → H1[q]? = H[q]? := fun q hq => by rw [← hH1, Array.getElem?_push, if_neg (Nat.ne_of_lt hq)]
  have hcA : cA = E.D.1 103 := by
    obtain ⟨-, -, -, -, -, k4⟩ := (hX.K.1.2 3 _ rfl).2
    exact Option.some.inj (f1.symm.trans k4)
  subst hcA
  refine kk H.size hV.fresh hB.1 H1 locs ls (hV.new ?_ o1) (hB.grow (by omega) o1) hlo hL (fun q => by cases q)
  show H1[H.size]? = some (vp_cell _ _)
  rw [vp_cell_q]
  exact e1
theorem g_alenT (hX : g_ok E X M) {t n : Nat} {ty : FieldType} {F : Nat → Value} (hdg : decode M.cc pc = .ok (.arraylength, 1)) (ha : va_T ty t n F (fun q => E.H0.size ≤ q) X.s E.H0) (pn : Nat) (hpn : pc + 1 = pn)
    (kk : g_Go E X P h z cs ss pn L (.int (nI n) :: rest)) : g_Go E X P h z cs ss pc L (.ref t :: rest) := by
  subst hpn
  intro H locs ls hV hB hlo hL hz
  obtain ⟨cell, h1, h2, h3, h4, h5, h6, h7⟩ := ha
  exact W.alen hX.exec hX.code (by rw [hB.2 t (Array.getElem?_eq_some_iff.mp h1).1]; exact h1) h2 h5 rfl rfl hdg (kk H locs ls hV hB hlo hL hz)
theorem g_ialdT (hX : g_ok E X M) {t n k : Nat} {f : Nat → Int32} {i : Int32} (hdg : decode M.cc pc = .ok (.iaload, 1)) (ha : va_T .int t n (fun j => .int (f j)) (fun q => E.H0.size ≤ q) X.s E.H0) (hi : g_ix i k n) (pn : Nat) (hpn : pc + 1 = pn)
    (kk : g_Go E X P h z cs ss pn L (.int (f k) :: rest)) : g_Go E X P h z cs ss pc L (.int i :: .ref t :: rest) := by
  subst hpn
  intro H locs ls hV hB hlo hL hz
  obtain ⟨cell, h1, h2, h3, h4, h5, h6, h7⟩ := ha
  have hk := hi.lt
  obtain ⟨q1, rfl⟩ := hi
  refine W.iald hX.exec hX.code (by rw [hB.2 t (Array.getElem?_eq_some_iff.mp h1).1]; exact h1) h2 h3 (fun q => q1 (q.elim Or.inl fun w => Or.inr (Nat.le_trans h4 w))) (h6 _ hk) rfl rfl hdg (kk H locs ls hV hB hlo hL hz)
end GAL
end
section
/-! the one mathematical state, and what each question is worth there -/
abbrev q_S : Type := (Nat → Nat → Nat) × (Nat → Nat → Int32)
def q_updN (f : Nat → Nat) (i x : Nat) : Nat → Nat := fun j => if j = i then x else f j
def q_up1 (S : q_S) (t i x : Nat) : q_S := (fun u => if u = t then q_updN (S.1 u) i x else S.1 u, S.2)
def q_up2 (S : q_S) (t i : Nat) (x : Int32) : q_S := (S.1, fun u => if u = t then upd (S.2 u) i x else S.2 u)
abbrev q_np (S : q_S) : Nat := S.1 0 0
abbrev q_ns (S : q_S) : Nat := S.1 0 1
abbrev q_ne (S : q_S) : Nat := S.1 0 2
abbrev q_at (S : q_S) : Nat := S.1 0 3
abbrev q_clicks (S : q_S) : Nat := S.1 0 4
abbrev q_time (S : q_S) : Int32 := S.2 13 0
abbrev q_home (S : q_S) (j : Nat) : Nat := S.1 2 j
abbrev q_kind (S : q_S) (p : Nat) : Int32 := S.2 0 p
abbrev q_slot (S : q_S) (j : Nat) : Int32 := S.2 1 j
abbrev q_has (S : q_S) (j pr : Nat) : Int32 := S.2 2 (7 * j + pr)
abbrev q_own (S : q_S) (j pr : Nat) : Int32 := S.2 3 (7 * j + pr)
def q_par (S : q_S) (p : Nat) : Option Nat := if S.1 1 p = 0 then none else some (S.1 1 p - 1)
def q_find (f : Nat → Bool) : Nat → Nat → Option Nat
  | 0, _ => none
  | r + 1, k => if f k = true then some k else q_find f r (k + 1)
def q_slotted (S : q_S) (p : Nat) (s : Int32) : Option Nat := q_find (fun k => decide (q_home S k = p ∧ q_slot S k = s)) (q_ns S) 0
def q_src (S : q_S) (j pr : Nat) : Nat → Option Nat → Option Nat
  | 0, _ => none
  | _ + 1, none => none
  | r + 1, some p => match q_slotted S p (q_slot S j) with
    | none => q_src S j pr r (q_par S p)
    | some s => if q_has S s pr = 0 then q_src S j pr r (q_par S p) else some s
def q_source (S : q_S) (j pr : Nat) : Option Nat := if q_has S j pr = 0 then (if q_slot S j < 0 then none else q_src S j pr 12 (q_par S (q_home S j))) else some j
def q_value (S : q_S) (j pr : Nat) : Int32 := match q_source S j pr with
  | none => S.2 4 pr
  | some s => q_own S s pr
def q_on (S : q_S) (p : Nat) : List Nat := (List.range (q_ns S)).filter (fun k => decide (q_home S k = p))
def q_eon (S : q_S) (p : Nat) : List Nat := (List.range (q_ne S)).filter (fun e => decide (q_home S (S.1 5 e) = p))
def q_eof (S : q_S) (j : Nat) : List Nat := (List.range (q_ne S)).filter (fun e => decide (S.1 5 e = j))
def q_sl (S : q_S) : List Nat := (List.range (q_np S)).filter (fun p => decide (q_kind S p = 2))
/-- base, end, whether there is one, builds: behind the effects before n on the page p -/
def q_run (S : q_S) (p : Nat) : Nat → Int32 × Int32 × Bool × Nat
  | 0 => (0, 0, false, 0)
  | n + 1 =>
    let r := q_run S p n
    if q_home S (S.1 5 n) = p then
      let b := if S.2 8 n = 0 ∨ r.2.2.1 = false then 0 else if S.2 8 n = 1 then r.1 else r.2.1
      (b, b + S.2 9 n + S.2 10 n, true, if S.2 8 n = 0 then r.2.2.2 + 1 else r.2.2.2)
    else r
def q_epage (S : q_S) (e : Nat) : Nat := q_home S (S.1 5 e)
def q_base (S : q_S) (e : Nat) : Int32 := (q_run S (q_epage S e) (e + 1)).1
def q_start (S : q_S) (e : Nat) : Int32 := q_base S e + S.2 9 e
def q_end (S : q_S) (e : Nat) : Int32 := q_base S e + S.2 9 e + S.2 10 e
def q_build (S : q_S) (e : Nat) : Nat := (q_run S (q_epage S e) (e + 1)).2.2.2
theorem q_find_filter (f g : Nat → Bool) : ∀ (r k : Nat), q_find (fun j => g j && f j) r k = ((List.range' k r).filter g).find? f
  | 0, k => rfl
  | r + 1, k => by
    rw [q_find, List.range'_succ, List.filter_cons, q_find_filter f g r (k + 1)]
    by_cases h1 : g k = true
    · by_cases h2 : f k = true
      · simp [h1, h2]
      · simp [h1, h2]
    · simp [h1]
theorem q_find_no {f : Nat → Bool} {r k : Nat} {res : Option Nat} (h : q_find f (r + 1) k = res) (hf : ¬ f k = true) : q_find f r (k + 1) = res := by
  rw [q_find, if_neg hf] at h
  exact h
theorem q_find_yes {f : Nat → Bool} {r k : Nat} {res : Option Nat} (h : q_find f (r + 1) k = res) (hf : f k = true) : res = some k := by
  rw [q_find, if_pos hf] at h
  exact h.symm
def q_oi (r : Option Nat) : Int32 := match r with
  | none => -1
  | some k => nI k
theorem q_inc (k : Nat) : nI k + Int32.ofInt 1 = nI (k + 1) := nI_1 k
theorem q_run_ne {S : q_S} {p n : Nat} (h : ¬ q_home S (S.1 5 n) = p) : q_run S p (n + 1) = q_run S p n := by
  rw [q_run]
  exact if_neg h
theorem q_run_eq {S : q_S} {p n : Nat} (h : q_home S (S.1 5 n) = p) : q_run S p (n + 1) =
    ((if S.2 8 n = 0 ∨ (q_run S p n).2.2.1 = false then 0 else if S.2 8 n = 1 then (q_run S p n).1 else (q_run S p n).2.1),
     (if S.2 8 n = 0 ∨ (q_run S p n).2.2.1 = false then 0 else if S.2 8 n = 1 then (q_run S p n).1 else (q_run S p n).2.1) + S.2 9 n + S.2 10 n, true, if S.2 8 n = 0 then (q_run S p n).2.2.2 + 1 else (q_run S p n).2.2.2) := by
  rw [q_run]
  exact if_pos h
/-- the k-th slide from the page p on, n of them seen -/
def q_slf (S : q_S) (k : Int32) : Nat → Nat → Nat → Option Nat
  | 0, _, _ => none
  | r + 1, p, n => if q_kind S p = 2 then (if nI n = k then some p else q_slf S k r (p + 1) (n + 1)) else q_slf S k r (p + 1) n
def q_slide (S : q_S) (k : Int32) : Option Nat := q_slf S k (q_np S) 0 0
def q_len (S : q_S) (p : Nat) (b : Int32) : Nat → Int32
  | 0 => 0
  | e + 1 => if q_epage S e = p ∧ nI (q_build S e) = b ∧ q_len S p b e < q_end S e then q_end S e else q_len S p b e
def q_stage (S : q_S) (e : Nat) : Int32 :=
  if nI (q_build S e) < nI (q_clicks S) then 2 else if nI (q_build S e) = nI (q_clicks S) ∧ ¬ q_time S < q_end S e then 2
  else if nI (q_build S e) = nI (q_clicks S) ∧ ¬ q_time S < q_start S e then 1 else 0
def q_part (S : q_S) (w : Int32) (e : Nat) : Int32 := w * (q_time S - q_start S e) / S.2 10 e
def q_last (S : q_S) (p : Nat) : Nat := (q_run S p (q_ne S)).2.2.2
theorem q_7 (j pr : Nat) : (7 : Int32) * nI j + nI pr = nI (7 * j + pr) := by
  rw [show (7 : Int32) = nI 7 from rfl, ← nI_add]
  congr 1
  exact (Int32.ofNat_mul 7 j).symm
theorem q_4 (j pr : Nat) : (4 : Int32) * nI j + nI pr = nI (4 * j + pr) := by
  rw [show (4 : Int32) = nI 4 from rfl, ← nI_add]
  congr 1
  exact (Int32.ofNat_mul 4 j).symm
theorem g_ix.eq {i : Int32} {k n : Nat} (e : i = nI k) (h : k < n) (hn : n < 2 ^ 31) : g_ix i k n := by
  subst e
  exact g_ix.nat h hn
/-- a local that isn't wanted any more -/
theorem g_drop {E : g_E} {X : g_X} {P : g_P} {h : g_H} {z : Bool} {cs ss pc : Nat} {L L' : List (Option Value)} {st : List Value} (i : Nat) (hL' : L.set i none = L') (k : g_Go E X P h z cs ss pc L' st) : g_Go E X P h z cs ss pc L st := by
  subst hL'
  intro H locs ls hV hB hlo hL hz
  refine k H locs ls hV hB hlo ⟨hL.1, hL.2.1, fun j v hj => hL.2.2 j v ?_⟩ hz
  by_cases hij : i = j
  · subst hij
    by_cases hlt : i < L.length
    · rw [List.getElem?_set_self hlt] at hj
      cases hj
    · rw [List.getElem?_eq_none (by simpa using Nat.not_lt.mp hlt)] at hj
      cases hj
  · rw [List.getElem?_set_ne hij] at hj
    exact hj
theorem q_inj {a b : Nat} (h : nI a = nI b) (ha : a < 2 ^ 31) (hb : b < 2 ^ 31) : a = b := (nI_eq ha hb).mp h
theorem q_find_lt {f : Nat → Bool} : ∀ {r k x : Nat}, q_find f r k = some x → k ≤ x ∧ x < k + r ∧ f x = true
  | 0, k, x, h => by cases h
  | r + 1, k, x, h => by
    rw [q_find] at h
    by_cases hf : f k = true
    · rw [if_pos hf] at h
      cases h
      exact ⟨Nat.le_refl _, by omega, hf⟩
    · rw [if_neg hf] at h
      obtain ⟨h1, h2, h3⟩ := q_find_lt h
      exact ⟨by omega, by omega, h3⟩
theorem q_slotted_lt {S : q_S} {p s : Nat} {t : Int32} (h : q_slotted S p t = some s) : s < q_ns S := by
  obtain ⟨-, h2, -⟩ := q_find_lt h
  omega
theorem q_par_oi (S : q_S) (p : Nat) : nI (S.1 1 p) - 1 = q_oi (q_par S p) := by
  unfold q_par
  by_cases h : S.1 1 p = 0
  · rw [if_pos h, h]
    decide
  · rw [if_neg h]
    obtain ⟨n, hn⟩ : ∃ n, S.1 1 p = n + 1 := ⟨S.1 1 p - 1, by omega⟩
    rw [hn]
    exact nI_pred n
theorem q_par_lt {S : q_S} {p q : Nat} (hb : S.1 1 p ≤ p) (h : q_par S p = some q) : q < p := by
  unfold q_par at h
  split at h
  · cases h
  · cases h
    omega
theorem q_src_none {S : q_S} {j pr r p : Nat} (hs : q_slotted S p (S.2 1 j) = none) : q_src S j pr (r + 1) (some p) = q_src S j pr r (q_par S p) := by
  rw [q_src, show q_slotted S p (q_slot S j) = none from hs]
theorem q_src_zero {S : q_S} {j pr r p s : Nat} (hs : q_slotted S p (S.2 1 j) = some s) (h0 : S.2 2 (7 * s + pr) = 0) : q_src S j pr (r + 1) (some p) = q_src S j pr r (q_par S p) := by
  rw [q_src, show q_slotted S p (q_slot S j) = some s from hs]
  exact if_pos h0
theorem q_src_hit {S : q_S} {j pr r p s : Nat} (hs : q_slotted S p (S.2 1 j) = some s) (h0 : ¬ S.2 2 (7 * s + pr) = 0) : q_src S j pr (r + 1) (some p) = some s := by
  rw [q_src, show q_slotted S p (q_slot S j) = some s from hs]
  exact if_neg h0
theorem q_src_lt {S : q_S} {j pr : Nat} : ∀ {r : Nat} {po : Option Nat} {s : Nat}, q_src S j pr r po = some s → s < q_ns S
  | 0, _, s, h => by cases h
  | r + 1, none, s, h => by cases h
  | r + 1, some p, s, h => by
    cases hs : q_slotted S p (S.2 1 j) with
    | none => rw [q_src_none hs] at h; exact q_src_lt h
    | some t =>
      by_cases h0 : S.2 2 (7 * t + pr) = 0
      · rw [q_src_zero hs h0] at h; exact q_src_lt h
      · rw [q_src_hit hs h0] at h
        cases h
        exact q_slotted_lt hs
theorem q_source_lt {S : q_S} {j pr s : Nat} (hj : j < q_ns S) (h : q_source S j pr = some s) : s < q_ns S := by
  unfold q_source at h
  split at h
  · split at h
    · cases h
    · exact q_src_lt h
  · cases h
    exact hj
def q_moved (S : q_S) (j : Nat) (w : Int32) : Nat → Int32
  | 0 => 0
  | e + 1 => if S.1 5 e = j ∧ S.2 7 e = w then (if q_stage S e = 2 then q_moved S j w e + S.2 11 e else if q_stage S e = 1 then q_moved S j w e + q_part S (S.2 11 e) e else q_moved S j w e) else q_moved S j w e
def q_come (S : q_S) (whole : Int32) (e : Nat) : Int32 := if q_stage S e = 2 then whole else q_part S whole e
def q_shown (S : q_S) (j : Nat) (whole : Int32) : Nat → Int32 × Bool
  | 0 => (whole, true)
  | e + 1 => if S.1 5 e = j ∧ ¬ 1 < S.2 7 e then
      (if 0 < q_stage S e then (if S.2 7 e = 0 then q_come S whole e else whole - q_come S whole e) else (if (q_shown S j whole e).2 = true ∧ S.2 7 e = 0 then 0 else (q_shown S j whole e).1), false)
    else q_shown S j whole e
def q_now (S : q_S) (j pr : Nat) : Int32 :=
  if nI (q_home S j) = q_oi (q_slide S (nI (q_at S))) then
    (if nI pr = 0 then q_value S j pr + q_moved S j 2 (q_ne S) else if nI pr = 1 then q_value S j pr + q_moved S j 3 (q_ne S) else if nI pr = 5 then (q_shown S j (q_value S j pr) (q_ne S)).1 else q_value S j pr)
  else q_value S j pr
def q_cov (S : q_S) (j : Nat) (x y : Int32) : Int32 :=
  if x < q_now S j 0 then 0 else if q_now S j 0 + q_value S j 2 ≤ x then 0 else if y < q_now S j 1 then 0 else if q_now S j 1 + q_value S j 3 ≤ y then 0 else 1
def q_mix (c d a : Int32) : Int32 := (c * a + d * (255 - a) + 127) / 255
def q_mixk (c d a k : Int32) : Int32 := q_mix (c >>> (k &&& 31) &&& 255) (d >>> (k &&& 31) &&& 255) a <<< (k &&& 31)
def q_over (S : q_S) (j : Nat) (c : Int32) : Int32 := ((0 ||| q_mixk (q_value S j 4) c (q_now S j 5) 0) ||| q_mixk (q_value S j 4) c (q_now S j 5) 8) ||| q_mixk (q_value S j 4) c (q_now S j 5) 16
def q_paint (S : q_S) (p : Nat) (all x y : Int32) (c : Int32) : Nat → Int32
  | 0 => c
  | s + 1 => if q_home S s = p ∧ (all = 0 → q_slot S s < 0) ∧ ¬ q_cov S s x y = 0 then q_over S s (q_paint S p all x y c s) else q_paint S p all x y c s
theorem q_stage1 {S : q_S} {e : Nat} (h : q_stage S e = 1) : ¬ S.2 10 e = 0 := by
  intro h0
  unfold q_stage at h
  have he : q_end S e = q_start S e := by
    unfold q_end q_start
    rw [h0, Int32.add_zero]
  rw [he] at h
  split at h
  · exact absurd h (by decide)
  · split at h
    · exact absurd h (by decide)
    · exact absurd h (by decide)
theorem q_stage_cases (S : q_S) (e : Nat) : q_stage S e = 0 ∨ q_stage S e = 1 ∨ q_stage S e = 2 := by
  unfold q_stage
  repeat' split
  all_goals simp
theorem q_shown_no {S : q_S} {j e : Nat} {v : Int32} (h : ¬ (S.1 5 e = j ∧ ¬ 1 < S.2 7 e)) : q_shown S j v (e + 1) = q_shown S j v e := by
  rw [q_shown]
  exact if_neg h
theorem q_shown_yes {S : q_S} {j e : Nat} {v : Int32} (h : S.1 5 e = j ∧ ¬ 1 < S.2 7 e) : q_shown S j v (e + 1) =
    (if 0 < q_stage S e then (if S.2 7 e = 0 then q_come S v e else v - q_come S v e) else (if (q_shown S j v e).2 = true ∧ S.2 7 e = 0 then 0 else (q_shown S j v e).1), false) := by
  rw [q_shown]
  exact if_pos h
end
section
/-! ArrayList: what its cells are; its readers -/
def l_cap (n : Nat) : Nat := if n ≤ 10 then 10 else if n ≤ 15 then 15 else if n ≤ 22 then 22 else 33
/-- the ArrayList at b: n elements f, its array at dd -/
def l_at (E : g_E) (h : g_H) (b dd n : Nat) (f : Nat → Option Nat) : Prop := h b = some (.inr (6, [.ref (if n = 0 then E.ad 2 else dd), .int (nI n), .int (nI n)])) ∧ (n ≠ 0 → h dd = some (g_refs E (l_cap n) f)) ∧ n ≤ 33
theorem l_cap_le {n : Nat} (h : n ≤ 33) : n ≤ l_cap n := by
  unfold l_cap
  split
  · assumption
  · split
    · assumption
    · split
      · assumption
      · exact h
theorem l_cap_lt (n : Nat) : l_cap n ≤ 33 := by
  unfold l_cap
  repeat' split
  all_goals decide
set_option maxRecDepth 100000 in
set_option maxHeartbeats 4000000 in
theorem c_A_size {l : Launch} (hl : l.stackTraces = false) (E : g_E) (h : g_H) {b : Nat} {r m : Value} {v : Int32} (hb : h b = some (.inr (6, [r, .int v, m]))) : g_Rd l mA_size 0 0 [.ref b] E h (some (.int v)) := by
  refine g_Rd.of hl (by decide) (rfl) (Nat.le_of_ble_eq_true rfl) ?_
  intro X hX hXl hR
  show g_Go E X _ h true 0 0 0 [some (.ref b)] []
  refine g_aload_n hX dA_size_0 rfl rfl (by first | rfl | exact g_rfr _) 1 rfl ?_
  refine g_get hX dA_size_1 fA_48 (by assumption) rfl 4 rfl ?_
  exact g_iret hX rfl rfl dA_size_4 ⟨by rfl, rfl⟩ rfl (Nat.zero_le _) (Nat.zero_le _)
set_option maxRecDepth 100000 in
set_option maxHeartbeats 4000000 in
theorem c_A_isEmpty {l : Launch} (hl : l.stackTraces = false) (E : g_E) (h : g_H) {b : Nat} {r m : Value} {v : Int32} (hb : h b = some (.inr (6, [r, .int v, m]))) : g_Rd l mA_isEmpty 0 0 [.ref b] E h (some (.int (if v = 0 then 1 else 0))) := by
  refine g_Rd.of hl (by decide) (rfl) (Nat.le_of_ble_eq_true rfl) ?_
  intro X hX hXl hR
  show g_Go E X _ h true 0 0 0 [some (.ref b)] []
  refine g_aload_n hX dA_isEmpty_0 rfl rfl (by first | rfl | exact g_rfr _) 1 rfl ?_
  refine g_get hX dA_isEmpty_1 fA_48 (by assumption) rfl 4 rfl ?_
  refine g_if_ne hX dA_isEmpty_4 11 7 (by decide) rfl (fun c4 => ?_) (fun c4 => ?_)
  · refine g_iconst hX dA_isEmpty_11 (v := 0) (by decide) 12 rfl ?_
    exact g_iret hX rfl rfl dA_isEmpty_12 ⟨by simp_all, rfl⟩ rfl (Nat.zero_le _) (Nat.zero_le _)
  · refine g_iconst hX dA_isEmpty_7 (v := 1) (by decide) 8 rfl ?_
    refine g_goto hX dA_isEmpty_8 12 (by decide) ?_
    exact g_iret hX rfl rfl dA_isEmpty_12 ⟨by simp_all, rfl⟩ rfl (Nat.zero_le _) (Nat.zero_le _)
set_option maxRecDepth 100000 in
set_option maxHeartbeats 4000000 in
theorem c_PC_checkIndex {l : Launch} (hl : l.stackTraces = false) (E : g_E) (h : g_H) {i n : Int32} (h0 : ¬ i < 0) (h1 : i < n) : g_Rd l mPC_checkIndex 0 0 [.int i, .int n, .null] E h (some (.int i)) := by
  refine g_Rd.of hl (by decide) (rfl) (Nat.le_of_ble_eq_true rfl) ?_
  intro X hX hXl hR
  show g_Go E X _ h true 0 0 0 [some (.int i), some (.int n), some (.null)] []
  refine g_iload_n hX dPC_checkIndex_0 rfl rfl 1 rfl ?_
  refine g_if_lt hX dPC_checkIndex_1 9 4 (by decide) rfl (fun c1 => ?_) (fun c1 => ?_)
  · exact absurd c1 h0
  · refine g_iload_n hX dPC_checkIndex_4 rfl rfl 5 rfl ?_
    refine g_iload_n hX dPC_checkIndex_5 rfl rfl 6 rfl ?_
    refine g_icmp_lt hX dPC_checkIndex_6 16 9 (by decide) rfl (fun c6 => ?_) (fun c6 => ?_)
    · refine g_iload_n hX dPC_checkIndex_16 rfl rfl 17 rfl ?_
      exact g_iret hX rfl rfl dPC_checkIndex_17 ⟨by rfl, rfl⟩ rfl (Nat.zero_le _) (Nat.zero_le _)
    · exact absurd h1 c6
set_option maxRecDepth 100000 in
set_option maxHeartbeats 4000000 in
theorem c_O_checkIndex {l : Launch} (hl : l.stackTraces = false) (E : g_E) (h : g_H) {i n : Int32} (h0 : ¬ i < 0) (h1 : i < n) : g_Rd l mO_checkIndex 1 14 [.int i, .int n] E h (some (.int i)) := by
  refine g_Rd.of hl (by decide) (rfl) (Nat.le_of_ble_eq_true rfl) ?_
  intro X hX hXl hR
  show g_Go E X _ h true 0 0 0 [some (.int i), some (.int n)] []
  refine g_iload_n hX dO_checkIndex_0 rfl rfl 1 rfl ?_
  refine g_iload_n hX dO_checkIndex_1 rfl rfl 2 rfl ?_
  refine g_null hX dO_checkIndex_2 3 rfl ?_
  refine g_cS3r (wt := 0) hX (c_PC_checkIndex hX.tr E h h0 h1) dO_checkIndex_3 kO_105 (g_rm.of hR (by decide) (by decide)) (by first | exact Nat.zero_le _ | (rw [hR]; decide)) (by first | exact Nat.zero_le _ | (rw [hR]; decide)) (by first | decide | (simp [Value.category])) 6 rfl ?_
  exact g_iret hX rfl rfl dO_checkIndex_6 ⟨by rfl, rfl⟩ rfl (Nat.zero_le _) (Nat.zero_le _)
set_option maxRecDepth 100000 in
set_option maxHeartbeats 4000000 in
theorem c_A_elementData {l : Launch} (hl : l.stackTraces = false) (E : g_E) (h : g_H) {b dd k n : Nat} {f : Nat → Option Nat} {i : Int32} {v m : Value} (hb : h b = some (.inr (6, [.ref dd, v, m]))) (hd : h dd = some (g_refs E n f)) (hi : g_ix i k n) : g_Rd l mA_elementData 0 0 [.ref b, .int i] E h (some (va_rf (f k))) := by
  refine g_Rd.of hl (by decide) (rfl) (Nat.le_of_ble_eq_true rfl) ?_
  intro X hX hXl hR
  show g_Go E X _ h true 0 0 0 [some (.ref b), some (.int i)] []
  refine g_aload_n hX dA_elementData_0 rfl rfl (by first | rfl | exact g_rfr _) 1 rfl ?_
  refine g_get hX dA_elementData_1 fA_9 (by assumption) rfl 4 rfl ?_
  refine g_iload_n hX dA_elementData_4 rfl rfl 5 rfl ?_
  refine g_aald hX dA_elementData_5 hd hi 6 rfl ?_
  exact g_aret hX rfl (Or.inl ⟨_, rfl⟩) (by first | rfl | exact g_rfr _) dA_elementData_6 ⟨by rfl, rfl⟩ rfl (Nat.zero_le _) (Nat.zero_le _)
set_option maxRecDepth 100000 in
set_option maxHeartbeats 4000000 in
theorem c_A_get0 {l : Launch} (hl : l.stackTraces = false) (E : g_E) (h : g_H) {b dd k n : Nat} {f : Nat → Option Nat} {i s : Int32} {m : Value} (hb : h b = some (.inr (6, [.ref dd, .int s, m]))) (hd : h dd = some (g_refs E n f)) (hi : g_ix i k n) (h0 : ¬ i < 0) (h1 : i < s) : g_Rd l mA_get 2 27 [.ref b, .int i] E h (some (va_rf (f k))) := by
  refine g_Rd.of hl (by decide) (rfl) (Nat.le_of_ble_eq_true rfl) ?_
  intro X hX hXl hR
  show g_Go E X _ h true 0 0 0 [some (.ref b), some (.int i)] []
  refine g_iload_n hX dA_get_0 rfl rfl 1 rfl ?_
  refine g_aload_n hX dA_get_1 rfl rfl (by first | rfl | exact g_rfr _) 2 rfl ?_
  refine g_get hX dA_get_2 fA_48 (by assumption) rfl 5 rfl ?_
  refine g_cS2r (wt := 0) hX (c_O_checkIndex hX.tr E h h0 h1) dA_get_5 kA_118 (g_rm.of hR (by decide) (by decide)) (by first | exact Nat.zero_le _ | (rw [hR]; decide)) (by first | exact Nat.zero_le _ | (rw [hR]; decide)) (by first | decide | (simp [Value.category])) 8 rfl ?_
  refine g_pop hX dA_get_8 rfl 9 rfl ?_
  refine g_aload_n hX dA_get_9 rfl rfl (by first | rfl | exact g_rfr _) 10 rfl ?_
  refine g_iload_n hX dA_get_10 rfl rfl 11 rfl ?_
  refine g_cV1r (wt := 0) hX (c_A_elementData hX.tr E h hb hd hi) dA_get_11 (by assumption) kA_123 (g_rm.of hR (by decide) (by decide)) (by first | exact Nat.zero_le _ | (rw [hR]; decide)) (by first | exact Nat.zero_le _ | (rw [hR]; decide)) (by first | decide | (simp [Value.category])) 14 rfl ?_
  exact g_aret hX rfl (Or.inl ⟨_, rfl⟩) (by first | rfl | exact g_rfr _) dA_get_14 ⟨by rfl, rfl⟩ rfl (Nat.zero_le _) (Nat.zero_le _)
theorem c_A_get {l : Launch} (hl : l.stackTraces = false) {E : g_E} {h : g_H} {b dd n k : Nat} {f : Nat → Option Nat} (ha : l_at E h b dd n f) (hk : k < n) : g_Rd l mA_get 2 27 [.ref b, .int (nI k)] E h (some (va_rf (f k))) := by
  obtain ⟨h1, h2, h3⟩ := ha
  have hn : n ≠ 0 := by omega
  rw [if_neg hn] at h1
  have hc := l_cap_le h3
  have hc2 := l_cap_lt n
  exact c_A_get0 hl E h h1 (h2 hn) (g_ix.nat (by omega) (by omega)) (nI_pos (by omega)) (nI_lt hk (by omega))
end
section
/-! the world: which cells the class and the reference have, and what they hold, of the one state S; A gives the places -/
abbrev w_A : Type := Nat → Nat → Nat
def w_list (E : g_E) (dd n : Nat) : va_E := .inr (6, [.ref (if n = 0 then E.ad 2 else dd), .int (nI n), .int (nI n)])
def w_data (E : g_E) (xs : List Nat) (g : Nat → Nat) : va_E := g_refs E (l_cap xs.length) (fun j => (xs[j]?).map g)
def w_pars (S : q_S) (j : Nat) : List Nat := (List.range (S.1 3 j)).map (fun q => 4 * j + q)
def w_slideAt (S : q_S) : Int32 := if q_sl S = [] then -1 else nI (q_at S)
def w_cell (E : g_E) (A : w_A) (S : q_S) (k i : Nat) : va_E := match k with
  | 0 => .inr (0, [.ref (A 1 0), .ref (A 16 0), .ref (A 18 0), .ref (A 20 0), .ref (A 22 0), .ref (A 24 0), .int (w_slideAt S), .int (nI (q_clicks S)), .int (q_time S)])
  | 1 => g_ints E 7 (S.2 4)
  | 2 => .inr (1, [.int (q_kind S i), va_rf ((q_par S i).map (A 2)), .ref (A 3 i), .ref (A 5 i)])
  | 3 => w_list E (A 4 i) (q_on S i).length
  | 4 => w_data E (q_on S i) (A 7)
  | 5 => w_list E (A 6 i) (q_eon S i).length
  | 6 => w_data E (q_eon S i) (A 15)
  | 7 => .inr (2, [.int (nI i), .ref (A 2 (q_home S i)), .int (q_slot S i), .ref (A 8 i), .ref (A 9 i), .ref (A 10 i), .ref (A 12 i)])
  | 8 => g_bools E 7 (fun pr => S.2 2 (7 * i + pr))
  | 9 => g_ints E 7 (fun pr => S.2 3 (7 * i + pr))
  | 10 => w_list E (A 11 i) (w_pars S i).length
  | 11 => w_data E (w_pars S i) (A 14)
  | 12 => w_list E (A 13 i) (q_eof S i).length
  | 13 => w_data E (q_eof S i) (A 15)
  | 14 => .inr (3, [.int (S.2 5 i), .int (S.2 12 i)])
  | 15 => .inr (4, [.ref (A 2 (q_epage S i)), .int (S.2 7 i), .int (nI (q_build S i)), .int (q_base S i), .int (q_start S i), .int (q_end S i), .int (S.2 10 i), .int (S.2 11 i)])
  | 16 => w_list E (A 17 0) (List.range (q_np S)).length
  | 17 => w_data E (List.range (q_np S)) (A 2)
  | 18 => w_list E (A 19 0) (q_sl S).length
  | 19 => w_data E (q_sl S) (A 2)
  | 20 => w_list E (A 21 0) (List.range (q_ns S)).length
  | 21 => w_data E (List.range (q_ns S)) (A 7)
  | 22 => w_list E (A 23 0) (List.range (q_ne S)).length
  | 23 => w_data E (List.range (q_ne S)) (A 15)
  | 24 => .inr (5, [.ref (A 25 0), .ref (A 26 0), .ref (A 27 0), .ref (A 28 0), .int (nI (S.1 0 6))])
  | 25 => g_ints E 16 (S.2 18)
  | 26 => g_ints E 16 (S.2 19)
  | 27 => g_ints E 16 (S.2 20)
  | 28 => g_ints E 16 (S.2 21)
  | 30 => .inr (7, [.int (S.2 13 1), .int (nI (q_np S)), .ref (A 31 0), .ref (A 32 0), .int (nI (q_ns S)), .ref (A 33 0), .ref (A 34 0), .ref (A 35 0), .ref (A 36 0), .ref (A 37 0), .ref (A 38 0), .ref (A 39 0), .ref (A 40 0), .ref (A 41 0), .int (nI (q_ne S)), .ref (A 42 0), .ref (A 43 0), .ref (A 44 0), .ref (A 45 0), .ref (A 46 0), .ref (A 47 0), .int (nI (q_at S)), .int (nI (q_clicks S)), .int (q_time S), .int (nI (S.1 0 5)), .ref (A 48 0), .ref (A 49 0), .ref (A 50 0), .ref (A 51 0)])
  | 31 => g_ints E 12 (S.2 0)
  | 32 => g_ints E 12 (fun p => nI (S.1 1 p) - 1)
  | 33 => g_ints E 24 (fun j => nI (S.1 2 j))
  | 34 => g_ints E 24 (S.2 1)
  | 35 => g_bools E 168 (S.2 2)
  | 36 => g_ints E 168 (S.2 3)
  | 37 => g_ints E 7 (S.2 4)
  | 38 => g_ints E 24 (fun j => nI (S.1 3 j))
  | 39 => g_ints E 96 (S.2 5)
  | 40 => g_ints E 96 (fun t => nI (S.1 4 t))
  | 41 => g_ints E 384 (S.2 6)
  | 42 => g_ints E 24 (fun e => nI (S.1 5 e))
  | 43 => g_ints E 24 (S.2 7)
  | 44 => g_ints E 24 (S.2 8)
  | 45 => g_ints E 24 (S.2 9)
  | 46 => g_ints E 24 (S.2 10)
  | 47 => g_ints E 24 (S.2 11)
  | 48 => g_ints E 16 (S.2 14)
  | 49 => g_ints E 16 (S.2 15)
  | 50 => g_ints E 16 (S.2 16)
  | _ => g_ints E 16 (S.2 17)
def w_live (S : q_S) (k i : Nat) : Prop := match k with
  | 2 => i < q_np S
  | 3 => i < q_np S
  | 4 => i < q_np S ∧ q_on S i ≠ []
  | 5 => i < q_np S
  | 6 => i < q_np S ∧ q_eon S i ≠ []
  | 7 => i < q_ns S
  | 8 => i < q_ns S
  | 9 => i < q_ns S
  | 10 => i < q_ns S
  | 11 => i < q_ns S ∧ w_pars S i ≠ []
  | 12 => i < q_ns S
  | 13 => i < q_ns S ∧ q_eof S i ≠ []
  | 14 => i / 4 < q_ns S ∧ i % 4 < S.1 3 (i / 4)
  | 15 => i < q_ne S
  | 17 => i = 0 ∧ q_np S ≠ 0
  | 19 => i = 0 ∧ q_sl S ≠ []
  | 21 => i = 0 ∧ q_ns S ≠ 0
  | 23 => i = 0 ∧ q_ne S ≠ 0
  | _ => i = 0 ∧ k ≤ 51 ∧ k ≠ 29
/-- the class's cells are of Sc, the reference's of Sm -/
def w_pk (Sc Sm : q_S) (k : Nat) : q_S := if k < 30 then Sc else Sm
def w_lv (Sc Sm : q_S) (k i : Nat) : Prop := w_live (w_pk Sc Sm k) k i
/-- the view h holds the world -/
def w_W (E : g_E) (A : w_A) (Sc Sm : q_S) (h : g_H) : Prop :=
  (∀ k i, w_lv Sc Sm k i → h (A k i) = some (w_cell E A (w_pk Sc Sm k) k i)) ∧ (∀ k i, w_lv Sc Sm k i → E.H0.size ≤ A k i) ∧ ∀ k i k' i', w_lv Sc Sm k i → w_lv Sc Sm k' i' → A k i = A k' i' → k = k' ∧ i = i'
/-- one cell is written: the other cells hold what they held -/
theorem w_W.put {E : g_E} {A : w_A} {Sc Sm Sc' Sm' : q_S} {h : g_H} {k0 i0 : Nat} (hW : w_W E A Sc Sm h) (h0 : w_lv Sc Sm k0 i0) (hl : ∀ k i, w_lv Sc' Sm' k i → w_lv Sc Sm k i) (hc : ∀ k i, w_lv Sc' Sm' k i → ¬ (k = k0 ∧ i = i0) → w_cell E A (w_pk Sc' Sm' k) k i = w_cell E A (w_pk Sc Sm k) k i) {e : va_E} (he : e = w_cell E A (w_pk Sc' Sm' k0) k0 i0) : w_W E A Sc' Sm' (g_set h (A k0 i0) e) := by
  refine ⟨fun k i hk => ?_, fun k i hk => hW.2.1 k i (hl k i hk), fun k i k' i' h1 h2 => hW.2.2 k i k' i' (hl k i h1) (hl k' i' h2)⟩
  by_cases hq : k = k0 ∧ i = i0
  · obtain ⟨rfl, rfl⟩ := hq
    rw [g_set_same, he]
  · have hn : A k i ≠ A k0 i0 := fun q => hq (hW.2.2 k i k0 i0 (hl k i hk) h0 q)
    rw [g_set_ne h e hn, hc k i hk hq]
    exact hW.1 k i (hl k i hk)
/-- the reference's cells -/
def r_W (E : g_E) (A : w_A) (S : q_S) (h : g_H) : Prop := ∀ t, 30 ≤ t → t ≤ 51 → h (A t 0) = some (w_cell E A S t 0)
theorem w_liveM {S : q_S} {t : Nat} (h1 : 30 ≤ t) (h2 : t ≤ 51) (i : Nat) : w_live S t i ↔ i = 0 := by
  have h3 : t = 30 ∨ t = 31 ∨ t = 32 ∨ t = 33 ∨ t = 34 ∨ t = 35 ∨ t = 36 ∨ t = 37 ∨ t = 38 ∨ t = 39 ∨ t = 40 ∨ t = 41 ∨ t = 42 ∨ t = 43 ∨ t = 44 ∨ t = 45 ∨ t = 46 ∨ t = 47 ∨ t = 48 ∨ t = 49 ∨ t = 50 ∨ t = 51 := by omega
  rcases h3 with rfl | rfl | rfl | rfl | rfl | rfl | rfl | rfl | rfl | rfl | rfl | rfl | rfl | rfl | rfl | rfl | rfl | rfl | rfl | rfl | rfl | rfl <;> exact ⟨fun q => q.1, fun q => ⟨q, by decide, by decide⟩⟩
theorem w_lvM {Sc Sm : q_S} {t : Nat} (h1 : 30 ≤ t) (h2 : t ≤ 51) (i : Nat) : w_lv Sc Sm t i ↔ i = 0 := w_liveM h1 h2 i
theorem w_pkM {Sc Sm : q_S} {t : Nat} (h1 : 30 ≤ t) : w_pk Sc Sm t = Sm := if_neg (by omega)
theorem w_pkC {Sc Sm : q_S} {t : Nat} (h1 : t < 30) : w_pk Sc Sm t = Sc := if_pos h1
theorem w_W.r {E : g_E} {A : w_A} {Sc Sm : q_S} {h : g_H} (hW : w_W E A Sc Sm h) : r_W E A Sm h := fun t h1 h2 => by
  have h3 := hW.1 t 0 ((w_lvM h1 h2 0).mpr rfl)
  rw [w_pkM h1] at h3
  exact h3
theorem w_ltag {Sc Sm : q_S} {k i : Nat} (h : w_lv Sc Sm k i) : k ≤ 51 := by
  apply Classical.byContradiction
  intro h1
  unfold w_lv w_live at h
  split at h <;> first | omega | exact absurd h.2.1 h1
/-- one cell of the reference's is written -/
theorem w_putM {E : g_E} {A : w_A} {Sc Sm Sm' : q_S} {h : g_H} {k0 : Nat} (hW : w_W E A Sc Sm h) (h1 : 30 ≤ k0) (h2 : k0 ≤ 51) (hc : ∀ k, 30 ≤ k → k ≤ 51 → ¬ k = k0 → w_cell E A Sm' k 0 = w_cell E A Sm k 0) {e : va_E} (he : e = w_cell E A Sm' k0 0) : w_W E A Sc Sm' (g_set h (A k0 0) e) := by
  refine hW.put ((w_lvM h1 h2 0).mpr rfl) (fun k i hk => ?_) (fun k i hk hn => ?_) (by rw [w_pkM h1]; exact he)
  · by_cases hlt : k < 30
    · unfold w_lv at hk ⊢
      rw [w_pkC hlt] at hk ⊢
      exact hk
    · exact (w_lvM (by omega) (w_ltag hk) i).mpr ((w_lvM (by omega) (w_ltag hk) i).mp hk)
  · by_cases hlt : k < 30
    · rw [w_pkC hlt, w_pkC hlt]
    · have hi := (w_lvM (by omega) (w_ltag hk) i).mp hk
      subst hi
      rw [w_pkM (by omega), w_pkM (by omega)]
      exact hc k (by omega) (w_ltag hk) (fun q => hn ⟨q, rfl⟩)
theorem w_baseM {E : g_E} {A : w_A} {Sc Sm : q_S} {h : g_H} (hW : w_W E A Sc Sm h) (t : Nat) (h1 : 30 ≤ t) (h2 : t ≤ 51) : E.H0.size ≤ A t 0 := hW.2.1 t 0 ((w_lvM h1 h2 0).mpr rfl)
theorem w_ar {E : g_E} {A : w_A} {S : q_S} {h : g_H} (hW : r_W E A S h) (t : Nat) (ht : 30 ≤ t ∧ t ≤ 51) : h (A t 0) = some (w_cell E A S t 0) := hW t ht.1 ht.2
theorem w_m {E : g_E} {A : w_A} {S : q_S} {h : g_H} (hW : r_W E A S h) : h (A 30 0) = some (w_cell E A S 30 0) := hW 30 (by decide) (by decide)
/-- a list of the world is an ArrayList -/
theorem w_lst {E : g_E} {h : g_H} {b dd : Nat} {xs : List Nat} {g : Nat → Nat} (h1 : h b = some (w_list E dd xs.length)) (h2 : xs ≠ [] → h dd = some (w_data E xs g)) (h3 : xs.length ≤ 33) : l_at E h b dd xs.length (fun j => (xs[j]?).map g) := ⟨h1, fun hn => h2 (fun q => hn (by rw [q]; rfl)), h3⟩
/-- the numbers stay within their bounds -/
def w_B (S : q_S) : Prop := q_np S ≤ 12 ∧ q_ns S ≤ 24 ∧ q_ne S ≤ 24 ∧ (∀ p, p < q_np S → S.1 1 p ≤ p) ∧ (∀ j, j < q_ns S → q_home S j < q_np S ∧ S.1 3 j ≤ 4) ∧ (∀ e, e < q_ne S → S.1 5 e < q_ns S)
end
section
/-! the reference: its leaves -/
set_option maxRecDepth 100000 in
set_option maxHeartbeats 4000000 in
theorem c_M_thrown {l : Launch} (hl : l.stackTraces = false) {E : g_E} {A : w_A} {S : q_S} {h : g_H} (hW : r_W E A S h) (hB : w_B S)   : g_Rd l mM_thrown 0 0 [.ref (A 30 0)] E h (some (.int (S.2 13 1))) := by
  refine g_Rd.of hl (by decide) (rfl) (Nat.le_of_ble_eq_true rfl) ?_
  intro X hX hXl hR
  obtain ⟨hnp, hns, hne, hpar, hhome, hact⟩ := hB
  show g_Go E X _ h true 0 0 0 [some (.ref (A 30 0))] []
  refine g_aload_n hX dM_thrown_0 rfl rfl (by first | rfl | exact g_rfr _) 1 rfl ?_
  refine g_get hX dM_thrown_1 fM_75 (w_m hW) rfl 4 rfl ?_
  exact g_iret hX rfl rfl dM_thrown_4 ⟨by rfl, rfl⟩ rfl (Nat.zero_le _) (Nat.zero_le _)
def r_noPage (S : q_S) (p : Int32) : Int32 := if p < 0 then 1 else if p < nI (q_np S) then 0 else 1
set_option maxRecDepth 100000 in
set_option maxHeartbeats 4000000 in
theorem c_M_noPage {l : Launch} (hl : l.stackTraces = false) {E : g_E} {A : w_A} {S : q_S} {h : g_H} (hW : r_W E A S h) (hB : w_B S) (p : Int32)  : g_Rd l mM_noPage 0 0 [.ref (A 30 0), .int p] E h (some (.int (r_noPage S p))) := by
  refine g_Rd.of hl (by decide) (rfl) (Nat.le_of_ble_eq_true rfl) ?_
  intro X hX hXl hR
  obtain ⟨hnp, hns, hne, hpar, hhome, hact⟩ := hB
  show g_Go E X _ h true 0 0 0 [some (.ref (A 30 0)), some (.int p)] []
  refine g_iload_n hX dM_noPage_0 rfl rfl 1 rfl ?_
  refine g_if_lt hX dM_noPage_1 12 4 (by decide) rfl (fun c1 => ?_) (fun c1 => ?_)
  · refine g_iconst hX dM_noPage_12 (v := 1) (by decide) 13 rfl ?_
    refine g_goto hX dM_noPage_13 17 (by decide) ?_
    exact g_iret hX rfl (rfl) dM_noPage_17 ⟨by simp_all [r_noPage], rfl⟩ rfl (Nat.zero_le _) (Nat.zero_le _)
  · refine g_iload_n hX dM_noPage_4 rfl rfl 5 rfl ?_
    refine g_aload_n hX dM_noPage_5 rfl rfl (by first | rfl | exact g_rfr _) 6 rfl ?_
    refine g_get hX dM_noPage_6 fM_79 (w_m hW) rfl 9 rfl ?_
    refine g_icmp_lt hX dM_noPage_9 16 12 (by decide) rfl (fun c9 => ?_) (fun c9 => ?_)
    · refine g_iconst hX dM_noPage_16 (v := 0) (by decide) 17 rfl ?_
      exact g_iret hX rfl (rfl) dM_noPage_17 ⟨by simp_all [r_noPage], rfl⟩ rfl (Nat.zero_le _) (Nat.zero_le _)
    · refine g_iconst hX dM_noPage_12 (v := 1) (by decide) 13 rfl ?_
      refine g_goto hX dM_noPage_13 17 (by decide) ?_
      exact g_iret hX rfl (rfl) dM_noPage_17 ⟨by simp_all [r_noPage], rfl⟩ rfl (Nat.zero_le _) (Nat.zero_le _)
def r_noShape (S : q_S) (p : Int32) : Int32 := if p < 0 then 1 else if p < nI (q_ns S) then 0 else 1
set_option maxRecDepth 100000 in
set_option maxHeartbeats 4000000 in
theorem c_M_noShape {l : Launch} (hl : l.stackTraces = false) {E : g_E} {A : w_A} {S : q_S} {h : g_H} (hW : r_W E A S h) (hB : w_B S) (p : Int32)  : g_Rd l mM_noShape 0 0 [.ref (A 30 0), .int p] E h (some (.int (r_noShape S p))) := by
  refine g_Rd.of hl (by decide) (rfl) (Nat.le_of_ble_eq_true rfl) ?_
  intro X hX hXl hR
  obtain ⟨hnp, hns, hne, hpar, hhome, hact⟩ := hB
  show g_Go E X _ h true 0 0 0 [some (.ref (A 30 0)), some (.int p)] []
  refine g_iload_n hX dM_noShape_0 rfl rfl 1 rfl ?_
  refine g_if_lt hX dM_noShape_1 12 4 (by decide) rfl (fun c1 => ?_) (fun c1 => ?_)
  · refine g_iconst hX dM_noShape_12 (v := 1) (by decide) 13 rfl ?_
    refine g_goto hX dM_noShape_13 17 (by decide) ?_
    exact g_iret hX rfl (rfl) dM_noShape_17 ⟨by simp_all [r_noShape], rfl⟩ rfl (Nat.zero_le _) (Nat.zero_le _)
  · refine g_iload_n hX dM_noShape_4 rfl rfl 5 rfl ?_
    refine g_aload_n hX dM_noShape_5 rfl rfl (by first | rfl | exact g_rfr _) 6 rfl ?_
    refine g_get hX dM_noShape_6 fM_82 (w_m hW) rfl 9 rfl ?_
    refine g_icmp_lt hX dM_noShape_9 16 12 (by decide) rfl (fun c9 => ?_) (fun c9 => ?_)
    · refine g_iconst hX dM_noShape_16 (v := 0) (by decide) 17 rfl ?_
      exact g_iret hX rfl (rfl) dM_noShape_17 ⟨by simp_all [r_noShape], rfl⟩ rfl (Nat.zero_le _) (Nat.zero_le _)
    · refine g_iconst hX dM_noShape_12 (v := 1) (by decide) 13 rfl ?_
      refine g_goto hX dM_noShape_13 17 (by decide) ?_
      exact g_iret hX rfl (rfl) dM_noShape_17 ⟨by simp_all [r_noShape], rfl⟩ rfl (Nat.zero_le _) (Nat.zero_le _)
def r_noEffect (S : q_S) (p : Int32) : Int32 := if p < 0 then 1 else if p < nI (q_ne S) then 0 else 1
set_option maxRecDepth 100000 in
set_option maxHeartbeats 4000000 in
theorem c_M_noEffect {l : Launch} (hl : l.stackTraces = false) {E : g_E} {A : w_A} {S : q_S} {h : g_H} (hW : r_W E A S h) (hB : w_B S) (p : Int32)  : g_Rd l mM_noEffect 0 0 [.ref (A 30 0), .int p] E h (some (.int (r_noEffect S p))) := by
  refine g_Rd.of hl (by decide) (rfl) (Nat.le_of_ble_eq_true rfl) ?_
  intro X hX hXl hR
  obtain ⟨hnp, hns, hne, hpar, hhome, hact⟩ := hB
  show g_Go E X _ h true 0 0 0 [some (.ref (A 30 0)), some (.int p)] []
  refine g_iload_n hX dM_noEffect_0 rfl rfl 1 rfl ?_
  refine g_if_lt hX dM_noEffect_1 12 4 (by decide) rfl (fun c1 => ?_) (fun c1 => ?_)
  · refine g_iconst hX dM_noEffect_12 (v := 1) (by decide) 13 rfl ?_
    refine g_goto hX dM_noEffect_13 17 (by decide) ?_
    exact g_iret hX rfl (rfl) dM_noEffect_17 ⟨by simp_all [r_noEffect], rfl⟩ rfl (Nat.zero_le _) (Nat.zero_le _)
  · refine g_iload_n hX dM_noEffect_4 rfl rfl 5 rfl ?_
    refine g_aload_n hX dM_noEffect_5 rfl rfl (by first | rfl | exact g_rfr _) 6 rfl ?_
    refine g_get hX dM_noEffect_6 fM_121 (w_m hW) rfl 9 rfl ?_
    refine g_icmp_lt hX dM_noEffect_9 16 12 (by decide) rfl (fun c9 => ?_) (fun c9 => ?_)
    · refine g_iconst hX dM_noEffect_16 (v := 0) (by decide) 17 rfl ?_
      exact g_iret hX rfl (rfl) dM_noEffect_17 ⟨by simp_all [r_noEffect], rfl⟩ rfl (Nat.zero_le _) (Nat.zero_le _)
    · refine g_iconst hX dM_noEffect_12 (v := 1) (by decide) 13 rfl ?_
      refine g_goto hX dM_noEffect_13 17 (by decide) ?_
      exact g_iret hX rfl (rfl) dM_noEffect_17 ⟨by simp_all [r_noEffect], rfl⟩ rfl (Nat.zero_le _) (Nat.zero_le _)
def r_noProperty (p : Int32) : Int32 := if p < 0 then 1 else if p ≤ 6 then 0 else 1
set_option maxRecDepth 100000 in
set_option maxHeartbeats 4000000 in
theorem c_M_noProperty {l : Launch} (hl : l.stackTraces = false) (E : g_E) (h : g_H) (p : Int32)  : g_Rd l mM_noProperty 0 0 [.int p] E h (some (.int (r_noProperty p))) := by
  refine g_Rd.of hl (by decide) (rfl) (Nat.le_of_ble_eq_true rfl) ?_
  intro X hX hXl hR
  show g_Go E X _ h true 0 0 0 [some (.int p)] []
  refine g_iload_n hX dM_noProperty_0 rfl rfl 1 rfl ?_
  refine g_if_lt hX dM_noProperty_1 10 4 (by decide) rfl (fun c1 => ?_) (fun c1 => ?_)
  · refine g_iconst hX dM_noProperty_10 (v := 1) (by decide) 11 rfl ?_
    refine g_goto hX dM_noProperty_11 15 (by decide) ?_
    exact g_iret hX rfl (rfl) dM_noProperty_15 ⟨by simp_all [r_noProperty], rfl⟩ rfl (Nat.zero_le _) (Nat.zero_le _)
  · refine g_iload_n hX dM_noProperty_4 rfl rfl 5 rfl ?_
    refine g_bipush hX dM_noProperty_5 (v := 6) (by decide) 7 rfl ?_
    refine g_icmp_le hX dM_noProperty_7 14 10 (by decide) rfl (fun c7 => ?_) (fun c7 => ?_)
    · refine g_iconst hX dM_noProperty_14 (v := 0) (by decide) 15 rfl ?_
      exact g_iret hX rfl (rfl) dM_noProperty_15 ⟨by simp_all [r_noProperty], rfl⟩ rfl (Nat.zero_le _) (Nat.zero_le _)
    · refine g_iconst hX dM_noProperty_10 (v := 1) (by decide) 11 rfl ?_
      refine g_goto hX dM_noProperty_11 15 (by decide) ?_
      exact g_iret hX rfl (rfl) dM_noProperty_15 ⟨by simp_all [r_noProperty], rfl⟩ rfl (Nat.zero_le _) (Nat.zero_le _)
def r_mixed (c d a : Int32) : Int32 := (c * a + d * (255 - a) + 127) / 255
set_option maxRecDepth 100000 in
set_option maxHeartbeats 4000000 in
theorem c_M_mixed {l : Launch} (hl : l.stackTraces = false) (E : g_E) (h : g_H) (c d a : Int32)  : g_Rd l mM_mixed 0 0 [.int c, .int d, .int a] E h (some (.int (r_mixed c d a))) := by
  refine g_Rd.of hl (by decide) (rfl) (Nat.le_of_ble_eq_true rfl) ?_
  intro X hX hXl hR
  show g_Go E X _ h true 0 0 0 [some (.int c), some (.int d), some (.int a)] []
  refine g_iload_n hX dM_mixed_0 rfl rfl 1 rfl ?_
  refine g_iload_n hX dM_mixed_1 rfl rfl 2 rfl ?_
  refine g_imul hX dM_mixed_2 3 rfl ?_
  refine g_iload_n hX dM_mixed_3 rfl rfl 4 rfl ?_
  refine g_sipush hX dM_mixed_4 (v := 255) (by decide) 7 rfl ?_
  refine g_iload_n hX dM_mixed_7 rfl rfl 8 rfl ?_
  refine g_isub hX dM_mixed_8 9 rfl ?_
  refine g_imul hX dM_mixed_9 10 rfl ?_
  refine g_iadd hX dM_mixed_10 11 rfl ?_
  refine g_bipush hX dM_mixed_11 (v := 127) (by decide) 13 rfl ?_
  refine g_iadd hX dM_mixed_13 14 rfl ?_
  refine g_sipush hX dM_mixed_14 (v := 255) (by decide) 17 rfl ?_
  refine g_idiv hX dM_mixed_17 (by decide) 18 rfl ?_
  exact g_iret hX rfl rfl dM_mixed_18 ⟨by rfl, rfl⟩ rfl (Nat.zero_le _) (Nat.zero_le _)
set_option maxRecDepth 100000 in
set_option maxHeartbeats 4000000 in
theorem lp_M_slotted {E : g_E} {A : w_A} {S : q_S} {h : g_H} (hW : r_W E A S h) (hB : w_B S) {X : g_X} (hX : g_ok E X mM_slotted) {p : Nat} (hp : p < 2 ^ 31) {s : Int32} {res : Option Nat} : ∀ (r k : Nat), k + r = q_ns S → q_find (fun k => decide (q_home S k = p ∧ q_slot S k = s)) r k = res →
    g_Go E X (true, fun r' h' => r' = .inr (some (.int (q_oi res))) ∧ h' = h) h true 0 0 2 [some (.ref (A 30 0)), some (.int (nI p)), some (.int s), some (.int (nI k))] [] := by
  obtain ⟨hnp, hns, hne, hpar, hhome, hact⟩ := hB
  intro r
  induction r with
  | zero =>
    intro k hk hres
    have hr : res = none := hres.symm
    subst hr
    refine g_iload_n hX dM_slotted_2 rfl rfl 3 rfl ?_
    refine g_aload_n hX dM_slotted_3 rfl rfl (by first | rfl | exact g_rfr _) 4 rfl ?_
    refine g_get hX dM_slotted_4 fM_82 (w_m hW) rfl 7 rfl ?_
    refine g_icmp_ge hX dM_slotted_7 38 10 (by decide) rfl (fun c7 => ?_) (fun c7 => ?_)
    · refine g_iconst hX dM_slotted_38 (v := (-1)) (by decide) 39 rfl ?_
      exact g_iret hX rfl rfl dM_slotted_39 ⟨by rfl, rfl⟩ rfl (Nat.zero_le _) (Nat.zero_le _)
    · exact absurd (nI_le (by omega) (by omega)) c7
  | succ r ih =>
    intro k hk hres
    have hkh : q_home S k < 2 ^ 31 := by have := (hhome k (by omega)).1; omega
    refine g_iload_n hX dM_slotted_2 rfl rfl 3 rfl ?_
    refine g_aload_n hX dM_slotted_3 rfl rfl (by first | rfl | exact g_rfr _) 4 rfl ?_
    refine g_get hX dM_slotted_4 fM_82 (w_m hW) rfl 7 rfl ?_
    refine g_icmp_ge hX dM_slotted_7 38 10 (by decide) rfl (fun c7 => ?_) (fun c7 => ?_)
    · exact absurd c7 (nI_ge (by omega) (by omega))
    · refine g_aload_n hX dM_slotted_10 rfl rfl (by first | rfl | exact g_rfr _) 11 rfl ?_
      refine g_get hX dM_slotted_11 fM_16 (w_m hW) rfl 14 rfl ?_
      refine g_iload_n hX dM_slotted_14 rfl rfl 15 rfl ?_
      refine g_iald hX dM_slotted_15 (w_ar hW _ (by decide)) (g_ix.nat (by omega) (by decide)) 16 rfl ?_
      refine g_iload_n hX dM_slotted_16 rfl rfl 17 rfl ?_
      refine g_icmp_ne hX dM_slotted_17 32 20 (by decide) rfl (fun c17 => ?_) (fun c17 => ?_)
      · refine g_iinc hX (L' := [_, _, _, _]) dM_slotted_32 rfl (q_inc _) rfl 35 rfl ?_
        refine g_goto hX dM_slotted_35 2 (by decide) ?_
        exact ih (k + 1) (by omega) (q_find_no hres (by simp only [decide_eq_true_eq, not_and]; intro e1; simp_all [nI_eq]))
      · refine g_aload_n hX dM_slotted_20 rfl rfl (by first | rfl | exact g_rfr _) 21 rfl ?_
        refine g_get hX dM_slotted_21 fM_19 (w_m hW) rfl 24 rfl ?_
        refine g_iload_n hX dM_slotted_24 rfl rfl 25 rfl ?_
        refine g_iald hX dM_slotted_25 (w_ar hW _ (by decide)) (g_ix.nat (by omega) (by decide)) 26 rfl ?_
        refine g_iload_n hX dM_slotted_26 rfl rfl 27 rfl ?_
        refine g_icmp_ne hX dM_slotted_27 32 30 (by decide) rfl (fun c27 => ?_) (fun c27 => ?_)
        · refine g_iinc hX (L' := [_, _, _, _]) dM_slotted_32 rfl (q_inc _) rfl 35 rfl ?_
          refine g_goto hX dM_slotted_35 2 (by decide) ?_
          exact ih (k + 1) (by omega) (q_find_no hres (by simp only [decide_eq_true_eq, not_and]; intro e1; simp_all [nI_eq]))
        · refine g_iload_n hX dM_slotted_30 rfl rfl 31 rfl ?_
          exact g_iret hX rfl rfl dM_slotted_31 ⟨by rw [q_find_yes hres (by simp only [decide_eq_true_eq]; exact ⟨(nI_eq hkh hp).mp c17, c27⟩)]; rfl, rfl⟩ rfl (Nat.zero_le _) (Nat.zero_le _)
set_option maxRecDepth 100000 in
set_option maxHeartbeats 4000000 in
theorem c_M_slotted {l : Launch} (hl : l.stackTraces = false) {E : g_E} {A : w_A} {S : q_S} {h : g_H} (hW : r_W E A S h) (hB : w_B S) {p : Nat} (hp : p < 2 ^ 31) (s : Int32)  : g_Rd l mM_slotted 0 0 [.ref (A 30 0), .int (nI p), .int s] E h (some (.int (q_oi (q_slotted S p s)))) := by
  refine g_Rd.of hl (by decide) (rfl) (Nat.le_of_ble_eq_true rfl) ?_
  intro X hX hXl hR
  obtain ⟨hnp, hns, hne, hpar, hhome, hact⟩ := hB
  show g_Go E X _ h true 0 0 0 [some (.ref (A 30 0)), some (.int (nI p)), some (.int s), none] []
  refine g_iconst hX dM_slotted_0 (v := 0) (by decide) 1 rfl ?_
  refine g_istore_n hX (L' := [_, _, _, _]) dM_slotted_1 rfl (by decide) rfl 2 rfl ?_
  have hlp := lp_M_slotted hW ⟨hnp, hns, hne, hpar, hhome, hact⟩ hX hp (s := s) (q_ns S) 0 (by omega) rfl
  rw [nI_0] at hlp
  exact hlp
end
section
/-! the reference: effects, slides -/
set_option maxRecDepth 100000 in
set_option maxHeartbeats 4000000 in
theorem lp_M_build {E : g_E} {A : w_A} {S : q_S} {h : g_H} (hW : r_W E A S h) (hB : w_B S) {X : g_X} (hX : g_ok E X mM_build) {e : Nat} (he : e < q_ne S) : ∀ (r k : Nat) (n : Int32), k + r = e + 1 → n = nI (q_run S (q_epage S e) k).2.2.2 →
    g_Go E X (true, fun r' h' => r' = .inr (some (.int (nI (q_build S e)))) ∧ h' = h) h true 0 0 4 [some (.ref (A 30 0)), some (.int (nI e)), some (.int n), some (.int (nI k))] [] := by
  obtain ⟨hnp, hns, hne, hpar, hhome, hact⟩ := hB
  have hae : S.1 5 e < q_ns S := hact e he
  have hhe := (hhome _ hae).1
  have hb2 : q_home S (S.1 5 e) < 2 ^ 31 := by omega
  intro r
  induction r with
  | zero =>
    intro k n hk hn
    have hk2 : k = e + 1 := by omega
    subst hk2
    refine g_iload_n hX dM_build_4 rfl rfl 5 rfl ?_
    refine g_iload_n hX dM_build_5 rfl rfl 6 rfl ?_
    refine g_icmp_gt hX dM_build_6 57 9 (by decide) rfl (fun c6 => ?_) (fun c6 => ?_)
    · refine g_iload_n hX dM_build_57 rfl rfl 58 rfl ?_
      exact g_iret hX rfl rfl dM_build_58 ⟨by rw [hn]; rfl, rfl⟩ rfl (Nat.zero_le _) (Nat.zero_le _)
    · exact absurd (nI_lt (by omega) (by omega)) c6
  | succ r ih =>
    intro k n hk hn
    have hak : S.1 5 k < q_ns S := hact k (by omega)
    have hhk := (hhome _ hak).1
    have hb1 : q_home S (S.1 5 k) < 2 ^ 31 := by omega
    refine g_iload_n hX dM_build_4 rfl rfl 5 rfl ?_
    refine g_iload_n hX dM_build_5 rfl rfl 6 rfl ?_
    refine g_icmp_gt hX dM_build_6 57 9 (by decide) rfl (fun c6 => ?_) (fun c6 => ?_)
    · exact absurd c6 (nI_nlt (by omega) (by omega))
    · refine g_aload_n hX dM_build_9 rfl rfl (by first | rfl | exact g_rfr _) 10 rfl ?_
      refine g_get hX dM_build_10 fM_16 (w_m hW) rfl 13 rfl ?_
      refine g_aload_n hX dM_build_13 rfl rfl (by first | rfl | exact g_rfr _) 14 rfl ?_
      refine g_get hX dM_build_14 fM_45 (w_m hW) rfl 17 rfl ?_
      refine g_iload_n hX dM_build_17 rfl rfl 18 rfl ?_
      refine g_iald hX dM_build_18 (w_ar hW _ (by decide)) (g_ix.nat (by omega) (by decide)) 19 rfl ?_
      refine g_iald hX dM_build_19 (w_ar hW _ (by decide)) (g_ix.nat (by omega) (by decide)) 20 rfl ?_
      refine g_aload_n hX dM_build_20 rfl rfl (by first | rfl | exact g_rfr _) 21 rfl ?_
      refine g_get hX dM_build_21 fM_16 (w_m hW) rfl 24 rfl ?_
      refine g_aload_n hX dM_build_24 rfl rfl (by first | rfl | exact g_rfr _) 25 rfl ?_
      refine g_get hX dM_build_25 fM_45 (w_m hW) rfl 28 rfl ?_
      refine g_iload_n hX dM_build_28 rfl rfl 29 rfl ?_
      refine g_iald hX dM_build_29 (w_ar hW _ (by decide)) (g_ix.nat (by omega) (by decide)) 30 rfl ?_
      refine g_iald hX dM_build_30 (w_ar hW _ (by decide)) (g_ix.nat (by omega) (by decide)) 31 rfl ?_
      refine g_icmp_ne hX dM_build_31 49 34 (by decide) rfl (fun c31 => ?_) (fun c31 => ?_)
      · refine g_iload_n hX dM_build_49 rfl rfl 50 rfl ?_
        refine g_istore_n hX (L' := [_, _, _, _]) dM_build_50 rfl (by decide) rfl 51 rfl ?_
        refine g_iinc hX (L' := [_, _, _, _]) dM_build_51 rfl (q_inc _) rfl 54 rfl ?_
        refine g_goto hX dM_build_54 4 (by decide) ?_
        first
          | exact ih (k + 1) _ (by omega) (by rw [q_run_ne (p := q_epage S e) (n := k) (fun q => c31 (congrArg nI q))]; exact hn)
          | exact ih (k + 1) _ (by omega) (by rw [q_run_eq (p := q_epage S e) (n := k) (q_inj c31 hb1 hb2)]; simp only [c40, if_true, if_false]; rw [hn]; try exact nI_1 _)
      · refine g_aload_n hX dM_build_34 rfl rfl (by first | rfl | exact g_rfr _) 35 rfl ?_
        refine g_get hX dM_build_35 fM_51 (w_m hW) rfl 38 rfl ?_
        refine g_iload_n hX dM_build_38 rfl rfl 39 rfl ?_
        refine g_iald hX dM_build_39 (w_ar hW _ (by decide)) (g_ix.nat (by omega) (by decide)) 40 rfl ?_
        refine g_if_ne hX dM_build_40 49 43 (by decide) rfl (fun c40 => ?_) (fun c40 => ?_)
        · refine g_iload_n hX dM_build_49 rfl rfl 50 rfl ?_
          refine g_istore_n hX (L' := [_, _, _, _]) dM_build_50 rfl (by decide) rfl 51 rfl ?_
          refine g_iinc hX (L' := [_, _, _, _]) dM_build_51 rfl (q_inc _) rfl 54 rfl ?_
          refine g_goto hX dM_build_54 4 (by decide) ?_
          first
            | exact ih (k + 1) _ (by omega) (by rw [q_run_ne (p := q_epage S e) (n := k) (fun q => c31 (congrArg nI q))]; exact hn)
            | exact ih (k + 1) _ (by omega) (by rw [q_run_eq (p := q_epage S e) (n := k) (q_inj c31 hb1 hb2)]; simp only [c40, if_true, if_false]; rw [hn]; try exact nI_1 _)
        · refine g_iload_n hX dM_build_43 rfl rfl 44 rfl ?_
          refine g_iconst hX dM_build_44 (v := 1) (by decide) 45 rfl ?_
          refine g_iadd hX dM_build_45 46 rfl ?_
          refine g_goto hX dM_build_46 50 (by decide) ?_
          refine g_istore_n hX (L' := [_, _, _, _]) dM_build_50 rfl (by decide) rfl 51 rfl ?_
          refine g_iinc hX (L' := [_, _, _, _]) dM_build_51 rfl (q_inc _) rfl 54 rfl ?_
          refine g_goto hX dM_build_54 4 (by decide) ?_
          first
            | exact ih (k + 1) _ (by omega) (by rw [q_run_ne (p := q_epage S e) (n := k) (fun q => c31 (congrArg nI q))]; exact hn)
            | exact ih (k + 1) _ (by omega) (by rw [q_run_eq (p := q_epage S e) (n := k) (q_inj c31 hb1 hb2)]; simp only [c40, if_true, if_false]; rw [hn]; try exact nI_1 _)
set_option maxRecDepth 100000 in
set_option maxHeartbeats 4000000 in
theorem c_M_build {l : Launch} (hl : l.stackTraces = false) {E : g_E} {A : w_A} {S : q_S} {h : g_H} (hW : r_W E A S h) (hB : w_B S) {e : Nat} (he : e < q_ne S)  : g_Rd l mM_build 0 0 [.ref (A 30 0), .int (nI e)] E h (some (.int (nI (q_build S e)))) := by
  refine g_Rd.of hl (by decide) (rfl) (Nat.le_of_ble_eq_true rfl) ?_
  intro X hX hXl hR
  obtain ⟨hnp, hns, hne, hpar, hhome, hact⟩ := hB
  show g_Go E X _ h true 0 0 0 [some (.ref (A 30 0)), some (.int (nI e)), none, none] []
  refine g_iconst hX dM_build_0 (v := 0) (by decide) 1 rfl ?_
  refine g_istore_n hX (L' := [_, _, _, _]) dM_build_1 rfl (by decide) rfl 2 rfl ?_
  refine g_iconst hX dM_build_2 (v := 0) (by decide) 3 rfl ?_
  refine g_istore_n hX (L' := [_, _, _, _]) dM_build_3 rfl (by decide) rfl 4 rfl ?_
  have hlp := lp_M_build hW ⟨hnp, hns, hne, hpar, hhome, hact⟩ hX he (e + 1) 0 0 (by omega) rfl
  rw [nI_0] at hlp
  exact hlp
set_option maxRecDepth 100000 in
set_option maxHeartbeats 4000000 in
theorem lp_M_lastBuild {E : g_E} {A : w_A} {S : q_S} {h : g_H} (hW : r_W E A S h) (hB : w_B S) {X : g_X} (hX : g_ok E X mM_lastBuild) {p : Nat} (hp : p < 2 ^ 31) : ∀ (r k : Nat) (n : Int32), k + r = q_ne S → n = nI (q_run S p k).2.2.2 →
    g_Go E X (true, fun r' h' => r' = .inr (some (.int (nI (q_last S p)))) ∧ h' = h) h true 0 0 4 [some (.ref (A 30 0)), some (.int (nI p)), some (.int n), some (.int (nI k))] [] := by
  obtain ⟨hnp, hns, hne, hpar, hhome, hact⟩ := hB
  intro r
  induction r with
  | zero =>
    intro k n hk hn
    have hk2 : k = q_ne S := by omega
    subst hk2
    refine g_iload_n hX dM_lastBuild_4 rfl rfl 5 rfl ?_
    refine g_aload_n hX dM_lastBuild_5 rfl rfl (by first | rfl | exact g_rfr _) 6 rfl ?_
    refine g_get hX dM_lastBuild_6 fM_121 (w_m hW) rfl 9 rfl ?_
    refine g_icmp_ge hX dM_lastBuild_9 50 12 (by decide) rfl (fun c9 => ?_) (fun c9 => ?_)
    · refine g_iload_n hX dM_lastBuild_50 rfl rfl 51 rfl ?_
      exact g_iret hX rfl rfl dM_lastBuild_51 ⟨by rw [hn]; rfl, rfl⟩ rfl (Nat.zero_le _) (Nat.zero_le _)
    · exact absurd (nI_le (Nat.le_refl _) (by omega)) c9
  | succ r ih =>
    intro k n hk hn
    have hak : S.1 5 k < q_ns S := hact k (by omega)
    have hhk := (hhome _ hak).1
    have hb1 : q_home S (S.1 5 k) < 2 ^ 31 := by omega
    refine g_iload_n hX dM_lastBuild_4 rfl rfl 5 rfl ?_
    refine g_aload_n hX dM_lastBuild_5 rfl rfl (by first | rfl | exact g_rfr _) 6 rfl ?_
    refine g_get hX dM_lastBuild_6 fM_121 (w_m hW) rfl 9 rfl ?_
    refine g_icmp_ge hX dM_lastBuild_9 50 12 (by decide) rfl (fun c9 => ?_) (fun c9 => ?_)
    · exact absurd c9 (nI_ge (by omega) (by omega))
    · refine g_aload_n hX dM_lastBuild_12 rfl rfl (by first | rfl | exact g_rfr _) 13 rfl ?_
      refine g_get hX dM_lastBuild_13 fM_16 (w_m hW) rfl 16 rfl ?_
      refine g_aload_n hX dM_lastBuild_16 rfl rfl (by first | rfl | exact g_rfr _) 17 rfl ?_
      refine g_get hX dM_lastBuild_17 fM_45 (w_m hW) rfl 20 rfl ?_
      refine g_iload_n hX dM_lastBuild_20 rfl rfl 21 rfl ?_
      refine g_iald hX dM_lastBuild_21 (w_ar hW _ (by decide)) (g_ix.nat (by omega) (by decide)) 22 rfl ?_
      refine g_iald hX dM_lastBuild_22 (w_ar hW _ (by decide)) (g_ix.nat (by omega) (by decide)) 23 rfl ?_
      refine g_iload_n hX dM_lastBuild_23 rfl rfl 24 rfl ?_
      refine g_icmp_ne hX dM_lastBuild_24 42 27 (by decide) rfl (fun c24 => ?_) (fun c24 => ?_)
      · refine g_iload_n hX dM_lastBuild_42 rfl rfl 43 rfl ?_
        refine g_istore_n hX (L' := [_, _, _, _]) dM_lastBuild_43 rfl (by decide) rfl 44 rfl ?_
        refine g_iinc hX (L' := [_, _, _, _]) dM_lastBuild_44 rfl (q_inc _) rfl 47 rfl ?_
        refine g_goto hX dM_lastBuild_47 4 (by decide) ?_
        first
          | exact ih (k + 1) _ (by omega) (by rw [q_run_ne (p := p) (n := k) (fun q => c24 (congrArg nI q))]; exact hn)
          | exact ih (k + 1) _ (by omega) (by rw [q_run_eq (p := p) (n := k) (q_inj c24 (by omega) hp)]; simp only [c33, if_true, if_false]; rw [hn]; try exact nI_1 _)
      · refine g_aload_n hX dM_lastBuild_27 rfl rfl (by first | rfl | exact g_rfr _) 28 rfl ?_
        refine g_get hX dM_lastBuild_28 fM_51 (w_m hW) rfl 31 rfl ?_
        refine g_iload_n hX dM_lastBuild_31 rfl rfl 32 rfl ?_
        refine g_iald hX dM_lastBuild_32 (w_ar hW _ (by decide)) (g_ix.nat (by omega) (by decide)) 33 rfl ?_
        refine g_if_ne hX dM_lastBuild_33 42 36 (by decide) rfl (fun c33 => ?_) (fun c33 => ?_)
        · refine g_iload_n hX dM_lastBuild_42 rfl rfl 43 rfl ?_
          refine g_istore_n hX (L' := [_, _, _, _]) dM_lastBuild_43 rfl (by decide) rfl 44 rfl ?_
          refine g_iinc hX (L' := [_, _, _, _]) dM_lastBuild_44 rfl (q_inc _) rfl 47 rfl ?_
          refine g_goto hX dM_lastBuild_47 4 (by decide) ?_
          first
            | exact ih (k + 1) _ (by omega) (by rw [q_run_ne (p := p) (n := k) (fun q => c24 (congrArg nI q))]; exact hn)
            | exact ih (k + 1) _ (by omega) (by rw [q_run_eq (p := p) (n := k) (q_inj c24 (by omega) hp)]; simp only [c33, if_true, if_false]; rw [hn]; try exact nI_1 _)
        · refine g_iload_n hX dM_lastBuild_36 rfl rfl 37 rfl ?_
          refine g_iconst hX dM_lastBuild_37 (v := 1) (by decide) 38 rfl ?_
          refine g_iadd hX dM_lastBuild_38 39 rfl ?_
          refine g_goto hX dM_lastBuild_39 43 (by decide) ?_
          refine g_istore_n hX (L' := [_, _, _, _]) dM_lastBuild_43 rfl (by decide) rfl 44 rfl ?_
          refine g_iinc hX (L' := [_, _, _, _]) dM_lastBuild_44 rfl (q_inc _) rfl 47 rfl ?_
          refine g_goto hX dM_lastBuild_47 4 (by decide) ?_
          first
            | exact ih (k + 1) _ (by omega) (by rw [q_run_ne (p := p) (n := k) (fun q => c24 (congrArg nI q))]; exact hn)
            | exact ih (k + 1) _ (by omega) (by rw [q_run_eq (p := p) (n := k) (q_inj c24 (by omega) hp)]; simp only [c33, if_true, if_false]; rw [hn]; try exact nI_1 _)
set_option maxRecDepth 100000 in
set_option maxHeartbeats 4000000 in
theorem c_M_lastBuild {l : Launch} (hl : l.stackTraces = false) {E : g_E} {A : w_A} {S : q_S} {h : g_H} (hW : r_W E A S h) (hB : w_B S) {p : Nat} (hp : p < 2 ^ 31)  : g_Rd l mM_lastBuild 0 0 [.ref (A 30 0), .int (nI p)] E h (some (.int (nI (q_last S p)))) := by
  refine g_Rd.of hl (by decide) (rfl) (Nat.le_of_ble_eq_true rfl) ?_
  intro X hX hXl hR
  obtain ⟨hnp, hns, hne, hpar, hhome, hact⟩ := hB
  show g_Go E X _ h true 0 0 0 [some (.ref (A 30 0)), some (.int (nI p)), none, none] []
  refine g_iconst hX dM_lastBuild_0 (v := 0) (by decide) 1 rfl ?_
  refine g_istore_n hX (L' := [_, _, _, _]) dM_lastBuild_1 rfl (by decide) rfl 2 rfl ?_
  refine g_iconst hX dM_lastBuild_2 (v := 0) (by decide) 3 rfl ?_
  refine g_istore_n hX (L' := [_, _, _, _]) dM_lastBuild_3 rfl (by decide) rfl 4 rfl ?_
  have hlp := lp_M_lastBuild hW ⟨hnp, hns, hne, hpar, hhome, hact⟩ hX hp (q_ne S) 0 0 (by omega) rfl
  rw [nI_0] at hlp
  exact hlp
set_option maxRecDepth 100000 in
set_option maxHeartbeats 4000000 in
theorem lp_M_start {E : g_E} {A : w_A} {S : q_S} {h : g_H} (hW : r_W E A S h) (hB : w_B S) {X : g_X} (hX : g_ok E X mM_start) {e : Nat} (he : e < q_ne S) : ∀ (r k : Nat) (x : Int32), k + r = e + 1 → (r = 0 → x = q_start S e) →
    g_Go E X (true, fun r' h' => r' = .inr (some (.int (q_start S e))) ∧ h' = h) h true 0 0 13 [some (.ref (A 30 0)), some (.int (nI e)), some (.int (q_run S (q_epage S e) k).1), some (.int (q_run S (q_epage S e) k).2.1), some (.int (if (q_run S (q_epage S e) k).2.2.1 = true then 1 else 0)), some (.int x), some (.int (nI k))] [] := by
  obtain ⟨hnp, hns, hne, hpar, hhome, hact⟩ := hB
  have hae : S.1 5 e < q_ns S := hact e he
  have hhe := (hhome _ hae).1
  have hb2 : q_home S (S.1 5 e) < 2 ^ 31 := by omega
  intro r
  induction r with
  | zero =>
    intro k x hk hx
    have hk2 : k = e + 1 := by omega
    subst hk2
    refine g_iload hX dM_start_13 rfl 15 rfl ?_
    refine g_iload_n hX dM_start_15 rfl rfl 16 rfl ?_
    refine g_icmp_gt hX dM_start_16 112 19 (by decide) rfl (fun c16 => ?_) (fun c16 => ?_)
    · refine g_iload hX dM_start_112 rfl 114 rfl ?_
      exact g_iret hX rfl rfl dM_start_114 ⟨by rw [hx rfl], rfl⟩ rfl (Nat.zero_le _) (Nat.zero_le _)
    · exact absurd (nI_lt (by omega) (by omega)) c16
  | succ r ih =>
    intro k x hk hx
    have hak : S.1 5 k < q_ns S := hact k (by omega)
    have hhk := (hhome _ hak).1
    have hb1 : q_home S (S.1 5 k) < 2 ^ 31 := by omega
    refine g_iload hX dM_start_13 rfl 15 rfl ?_
    refine g_iload_n hX dM_start_15 rfl rfl 16 rfl ?_
    refine g_icmp_gt hX dM_start_16 112 19 (by decide) rfl (fun c16 => ?_) (fun c16 => ?_)
    · exact absurd c16 (nI_nlt (by omega) (by omega))
    · refine g_aload_n hX dM_start_19 rfl rfl (by first | rfl | exact g_rfr _) 20 rfl ?_
      refine g_get hX dM_start_20 fM_16 (w_m hW) rfl 23 rfl ?_
      refine g_aload_n hX dM_start_23 rfl rfl (by first | rfl | exact g_rfr _) 24 rfl ?_
      refine g_get hX dM_start_24 fM_45 (w_m hW) rfl 27 rfl ?_
      refine g_iload hX dM_start_27 rfl 29 rfl ?_
      refine g_iald hX dM_start_29 (w_ar hW _ (by decide)) (g_ix.nat (by omega) (by decide)) 30 rfl ?_
      refine g_iald hX dM_start_30 (w_ar hW _ (by decide)) (g_ix.nat (by omega) (by decide)) 31 rfl ?_
      refine g_aload_n hX dM_start_31 rfl rfl (by first | rfl | exact g_rfr _) 32 rfl ?_
      refine g_get hX dM_start_32 fM_16 (w_m hW) rfl 35 rfl ?_
      refine g_aload_n hX dM_start_35 rfl rfl (by first | rfl | exact g_rfr _) 36 rfl ?_
      refine g_get hX dM_start_36 fM_45 (w_m hW) rfl 39 rfl ?_
      refine g_iload_n hX dM_start_39 rfl rfl 40 rfl ?_
      refine g_iald hX dM_start_40 (w_ar hW _ (by decide)) (g_ix.nat (by omega) (by decide)) 41 rfl ?_
      refine g_iald hX dM_start_41 (w_ar hW _ (by decide)) (g_ix.nat (by omega) (by decide)) 42 rfl ?_
      refine g_icmp_ne hX dM_start_42 106 45 (by decide) rfl (fun c42 => ?_) (fun c42 => ?_)
      · refine g_iinc hX (L' := [_, _, _, _, _, _, _]) dM_start_106 rfl (q_inc _) rfl 109 rfl ?_
        refine g_goto hX dM_start_109 13 (by decide) ?_
        first
          | (have hih := ih (k + 1) x (by omega) (fun q => absurd (show k = e by omega) (fun q2 => c42 (by rw [q2])))
             rw [q_run_ne (p := q_epage S e) (n := k) (fun q => c42 (congrArg nI q))] at hih
             exact hih)
          | (have hpe := q_inj c42 hb1 hb2
             have hih := ih (k + 1) ((q_run S (q_epage S e) (k + 1)).1 + S.2 9 k) (by omega) (fun q => by
               have hke : k = e := by omega
               subst hke
               rfl)
             rw [q_run_eq (p := q_epage S e) (n := k) hpe] at hih
             rw [if_pos (Or.inl c52)] at hih
             exact hih)
          | (have hpe := q_inj c42 hb1 hb2
             have hih := ih (k + 1) ((q_run S (q_epage S e) (k + 1)).1 + S.2 9 k) (by omega) (fun q => by
               have hke : k = e := by omega
               subst hke
               rfl)
             rw [q_run_eq (p := q_epage S e) (n := k) hpe] at hih
             cases hsm : (q_run S (q_epage S e) k).2.2.1 with
             | false =>
               rw [if_pos (Or.inr hsm)] at hih
               first
                 | exact hih
                 | (rw [hsm] at c57; exact absurd rfl c57)
             | true =>
               first
                 | (rw [hsm] at c57; exact absurd c57 (by decide))
                 | (rw [if_neg (not_or.mpr ⟨c52, by rw [hsm]; decide⟩)] at hih
                    first
                      | (rw [if_pos c72] at hih; exact hih)
                      | (rw [if_neg c72] at hih; exact hih)))
      · refine g_aload_n hX dM_start_45 rfl rfl (by first | rfl | exact g_rfr _) 46 rfl ?_
        refine g_get hX dM_start_46 fM_51 (w_m hW) rfl 49 rfl ?_
        refine g_iload hX dM_start_49 rfl 51 rfl ?_
        refine g_iald hX dM_start_51 (w_ar hW _ (by decide)) (g_ix.nat (by omega) (by decide)) 52 rfl ?_
        refine g_if_eq hX dM_start_52 60 55 (by decide) rfl (fun c52 => ?_) (fun c52 => ?_)
        · refine g_iconst hX dM_start_60 (v := 0) (by decide) 61 rfl ?_
          refine g_goto hX dM_start_61 80 (by decide) ?_
          refine g_istore_n hX (L' := [_, _, _, _, _, _, _]) dM_start_80 rfl (by decide) rfl 81 rfl ?_
          refine g_iload_n hX dM_start_81 rfl rfl 82 rfl ?_
          refine g_aload_n hX dM_start_82 rfl rfl (by first | rfl | exact g_rfr _) 83 rfl ?_
          refine g_get hX dM_start_83 fM_54 (w_m hW) rfl 86 rfl ?_
          refine g_iload hX dM_start_86 rfl 88 rfl ?_
          refine g_iald hX dM_start_88 (w_ar hW _ (by decide)) (g_ix.nat (by omega) (by decide)) 89 rfl ?_
          refine g_iadd hX dM_start_89 90 rfl ?_
          refine g_istore hX (L' := [_, _, _, _, _, _, _]) dM_start_90 (by decide) rfl 92 rfl ?_
          refine g_iload hX dM_start_92 rfl 94 rfl ?_
          refine g_aload_n hX dM_start_94 rfl rfl (by first | rfl | exact g_rfr _) 95 rfl ?_
          refine g_get hX dM_start_95 fM_57 (w_m hW) rfl 98 rfl ?_
          refine g_iload hX dM_start_98 rfl 100 rfl ?_
          refine g_iald hX dM_start_100 (w_ar hW _ (by decide)) (g_ix.nat (by omega) (by decide)) 101 rfl ?_
          refine g_iadd hX dM_start_101 102 rfl ?_
          refine g_istore_n hX (L' := [_, _, _, _, _, _, _]) dM_start_102 rfl (by decide) rfl 103 rfl ?_
          refine g_iconst hX dM_start_103 (v := 1) (by decide) 104 rfl ?_
          refine g_istore hX (L' := [_, _, _, _, _, _, _]) dM_start_104 (by decide) rfl 106 rfl ?_
          refine g_iinc hX (L' := [_, _, _, _, _, _, _]) dM_start_106 rfl (q_inc _) rfl 109 rfl ?_
          refine g_goto hX dM_start_109 13 (by decide) ?_
          first
            | (have hih := ih (k + 1) x (by omega) (fun q => absurd (show k = e by omega) (fun q2 => c42 (by rw [q2])))
               rw [q_run_ne (p := q_epage S e) (n := k) (fun q => c42 (congrArg nI q))] at hih
               exact hih)
            | (have hpe := q_inj c42 hb1 hb2
               have hih := ih (k + 1) ((q_run S (q_epage S e) (k + 1)).1 + S.2 9 k) (by omega) (fun q => by
                 have hke : k = e := by omega
                 subst hke
                 rfl)
               rw [q_run_eq (p := q_epage S e) (n := k) hpe] at hih
               rw [if_pos (Or.inl c52)] at hih
               exact hih)
            | (have hpe := q_inj c42 hb1 hb2
               have hih := ih (k + 1) ((q_run S (q_epage S e) (k + 1)).1 + S.2 9 k) (by omega) (fun q => by
                 have hke : k = e := by omega
                 subst hke
                 rfl)
               rw [q_run_eq (p := q_epage S e) (n := k) hpe] at hih
               cases hsm : (q_run S (q_epage S e) k).2.2.1 with
               | false =>
                 rw [if_pos (Or.inr hsm)] at hih
                 first
                   | exact hih
                   | (rw [hsm] at c57; exact absurd rfl c57)
               | true =>
                 first
                   | (rw [hsm] at c57; exact absurd c57 (by decide))
                   | (rw [if_neg (not_or.mpr ⟨c52, by rw [hsm]; decide⟩)] at hih
                      first
                        | (rw [if_pos c72] at hih; exact hih)
                        | (rw [if_neg c72] at hih; exact hih)))
        · refine g_iload hX dM_start_55 rfl 57 rfl ?_
          refine g_if_ne hX dM_start_57 64 60 (by decide) rfl (fun c57 => ?_) (fun c57 => ?_)
          · refine g_aload_n hX dM_start_64 rfl rfl (by first | rfl | exact g_rfr _) 65 rfl ?_
            refine g_get hX dM_start_65 fM_51 (w_m hW) rfl 68 rfl ?_
            refine g_iload hX dM_start_68 rfl 70 rfl ?_
            refine g_iald hX dM_start_70 (w_ar hW _ (by decide)) (g_ix.nat (by omega) (by decide)) 71 rfl ?_
            refine g_iconst hX dM_start_71 (v := 1) (by decide) 72 rfl ?_
            refine g_icmp_ne hX dM_start_72 79 75 (by decide) rfl (fun c72 => ?_) (fun c72 => ?_)
            · refine g_iload_n hX dM_start_79 rfl rfl 80 rfl ?_
              refine g_istore_n hX (L' := [_, _, _, _, _, _, _]) dM_start_80 rfl (by decide) rfl 81 rfl ?_
              refine g_iload_n hX dM_start_81 rfl rfl 82 rfl ?_
              refine g_aload_n hX dM_start_82 rfl rfl (by first | rfl | exact g_rfr _) 83 rfl ?_
              refine g_get hX dM_start_83 fM_54 (w_m hW) rfl 86 rfl ?_
              refine g_iload hX dM_start_86 rfl 88 rfl ?_
              refine g_iald hX dM_start_88 (w_ar hW _ (by decide)) (g_ix.nat (by omega) (by decide)) 89 rfl ?_
              refine g_iadd hX dM_start_89 90 rfl ?_
              refine g_istore hX (L' := [_, _, _, _, _, _, _]) dM_start_90 (by decide) rfl 92 rfl ?_
              refine g_iload hX dM_start_92 rfl 94 rfl ?_
              refine g_aload_n hX dM_start_94 rfl rfl (by first | rfl | exact g_rfr _) 95 rfl ?_
              refine g_get hX dM_start_95 fM_57 (w_m hW) rfl 98 rfl ?_
              refine g_iload hX dM_start_98 rfl 100 rfl ?_
              refine g_iald hX dM_start_100 (w_ar hW _ (by decide)) (g_ix.nat (by omega) (by decide)) 101 rfl ?_
              refine g_iadd hX dM_start_101 102 rfl ?_
              refine g_istore_n hX (L' := [_, _, _, _, _, _, _]) dM_start_102 rfl (by decide) rfl 103 rfl ?_
              refine g_iconst hX dM_start_103 (v := 1) (by decide) 104 rfl ?_
              refine g_istore hX (L' := [_, _, _, _, _, _, _]) dM_start_104 (by decide) rfl 106 rfl ?_
              refine g_iinc hX (L' := [_, _, _, _, _, _, _]) dM_start_106 rfl (q_inc _) rfl 109 rfl ?_
              refine g_goto hX dM_start_109 13 (by decide) ?_
              first
                | (have hih := ih (k + 1) x (by omega) (fun q => absurd (show k = e by omega) (fun q2 => c42 (by rw [q2])))
                   rw [q_run_ne (p := q_epage S e) (n := k) (fun q => c42 (congrArg nI q))] at hih
                   exact hih)
                | (have hpe := q_inj c42 hb1 hb2
                   have hih := ih (k + 1) ((q_run S (q_epage S e) (k + 1)).1 + S.2 9 k) (by omega) (fun q => by
                     have hke : k = e := by omega
                     subst hke
                     rfl)
                   rw [q_run_eq (p := q_epage S e) (n := k) hpe] at hih
                   rw [if_pos (Or.inl c52)] at hih
                   exact hih)
                | (have hpe := q_inj c42 hb1 hb2
                   have hih := ih (k + 1) ((q_run S (q_epage S e) (k + 1)).1 + S.2 9 k) (by omega) (fun q => by
                     have hke : k = e := by omega
                     subst hke
                     rfl)
                   rw [q_run_eq (p := q_epage S e) (n := k) hpe] at hih
                   cases hsm : (q_run S (q_epage S e) k).2.2.1 with
                   | false =>
                     rw [if_pos (Or.inr hsm)] at hih
                     first
                       | exact hih
                       | (rw [hsm] at c57; exact absurd rfl c57)
                   | true =>
                     first
                       | (rw [hsm] at c57; exact absurd c57 (by decide))
                       | (rw [if_neg (not_or.mpr ⟨c52, by rw [hsm]; decide⟩)] at hih
                          first
                            | (rw [if_pos c72] at hih; exact hih)
                            | (rw [if_neg c72] at hih; exact hih)))
            · refine g_iload_n hX dM_start_75 rfl rfl 76 rfl ?_
              refine g_goto hX dM_start_76 80 (by decide) ?_
              refine g_istore_n hX (L' := [_, _, _, _, _, _, _]) dM_start_80 rfl (by decide) rfl 81 rfl ?_
              refine g_iload_n hX dM_start_81 rfl rfl 82 rfl ?_
              refine g_aload_n hX dM_start_82 rfl rfl (by first | rfl | exact g_rfr _) 83 rfl ?_
              refine g_get hX dM_start_83 fM_54 (w_m hW) rfl 86 rfl ?_
              refine g_iload hX dM_start_86 rfl 88 rfl ?_
              refine g_iald hX dM_start_88 (w_ar hW _ (by decide)) (g_ix.nat (by omega) (by decide)) 89 rfl ?_
              refine g_iadd hX dM_start_89 90 rfl ?_
              refine g_istore hX (L' := [_, _, _, _, _, _, _]) dM_start_90 (by decide) rfl 92 rfl ?_
              refine g_iload hX dM_start_92 rfl 94 rfl ?_
              refine g_aload_n hX dM_start_94 rfl rfl (by first | rfl | exact g_rfr _) 95 rfl ?_
              refine g_get hX dM_start_95 fM_57 (w_m hW) rfl 98 rfl ?_
              refine g_iload hX dM_start_98 rfl 100 rfl ?_
              refine g_iald hX dM_start_100 (w_ar hW _ (by decide)) (g_ix.nat (by omega) (by decide)) 101 rfl ?_
              refine g_iadd hX dM_start_101 102 rfl ?_
              refine g_istore_n hX (L' := [_, _, _, _, _, _, _]) dM_start_102 rfl (by decide) rfl 103 rfl ?_
              refine g_iconst hX dM_start_103 (v := 1) (by decide) 104 rfl ?_
              refine g_istore hX (L' := [_, _, _, _, _, _, _]) dM_start_104 (by decide) rfl 106 rfl ?_
              refine g_iinc hX (L' := [_, _, _, _, _, _, _]) dM_start_106 rfl (q_inc _) rfl 109 rfl ?_
              refine g_goto hX dM_start_109 13 (by decide) ?_
              first
                | (have hih := ih (k + 1) x (by omega) (fun q => absurd (show k = e by omega) (fun q2 => c42 (by rw [q2])))
                   rw [q_run_ne (p := q_epage S e) (n := k) (fun q => c42 (congrArg nI q))] at hih
                   exact hih)
                | (have hpe := q_inj c42 hb1 hb2
                   have hih := ih (k + 1) ((q_run S (q_epage S e) (k + 1)).1 + S.2 9 k) (by omega) (fun q => by
                     have hke : k = e := by omega
                     subst hke
                     rfl)
                   rw [q_run_eq (p := q_epage S e) (n := k) hpe] at hih
                   rw [if_pos (Or.inl c52)] at hih
                   exact hih)
                | (have hpe := q_inj c42 hb1 hb2
                   have hih := ih (k + 1) ((q_run S (q_epage S e) (k + 1)).1 + S.2 9 k) (by omega) (fun q => by
                     have hke : k = e := by omega
                     subst hke
                     rfl)
                   rw [q_run_eq (p := q_epage S e) (n := k) hpe] at hih
                   cases hsm : (q_run S (q_epage S e) k).2.2.1 with
                   | false =>
                     rw [if_pos (Or.inr hsm)] at hih
                     first
                       | exact hih
                       | (rw [hsm] at c57; exact absurd rfl c57)
                   | true =>
                     first
                       | (rw [hsm] at c57; exact absurd c57 (by decide))
                       | (rw [if_neg (not_or.mpr ⟨c52, by rw [hsm]; decide⟩)] at hih
                          first
                            | (rw [if_pos c72] at hih; exact hih)
                            | (rw [if_neg c72] at hih; exact hih)))
          · refine g_iconst hX dM_start_60 (v := 0) (by decide) 61 rfl ?_
            refine g_goto hX dM_start_61 80 (by decide) ?_
            refine g_istore_n hX (L' := [_, _, _, _, _, _, _]) dM_start_80 rfl (by decide) rfl 81 rfl ?_
            refine g_iload_n hX dM_start_81 rfl rfl 82 rfl ?_
            refine g_aload_n hX dM_start_82 rfl rfl (by first | rfl | exact g_rfr _) 83 rfl ?_
            refine g_get hX dM_start_83 fM_54 (w_m hW) rfl 86 rfl ?_
            refine g_iload hX dM_start_86 rfl 88 rfl ?_
            refine g_iald hX dM_start_88 (w_ar hW _ (by decide)) (g_ix.nat (by omega) (by decide)) 89 rfl ?_
            refine g_iadd hX dM_start_89 90 rfl ?_
            refine g_istore hX (L' := [_, _, _, _, _, _, _]) dM_start_90 (by decide) rfl 92 rfl ?_
            refine g_iload hX dM_start_92 rfl 94 rfl ?_
            refine g_aload_n hX dM_start_94 rfl rfl (by first | rfl | exact g_rfr _) 95 rfl ?_
            refine g_get hX dM_start_95 fM_57 (w_m hW) rfl 98 rfl ?_
            refine g_iload hX dM_start_98 rfl 100 rfl ?_
            refine g_iald hX dM_start_100 (w_ar hW _ (by decide)) (g_ix.nat (by omega) (by decide)) 101 rfl ?_
            refine g_iadd hX dM_start_101 102 rfl ?_
            refine g_istore_n hX (L' := [_, _, _, _, _, _, _]) dM_start_102 rfl (by decide) rfl 103 rfl ?_
            refine g_iconst hX dM_start_103 (v := 1) (by decide) 104 rfl ?_
            refine g_istore hX (L' := [_, _, _, _, _, _, _]) dM_start_104 (by decide) rfl 106 rfl ?_
            refine g_iinc hX (L' := [_, _, _, _, _, _, _]) dM_start_106 rfl (q_inc _) rfl 109 rfl ?_
            refine g_goto hX dM_start_109 13 (by decide) ?_
            first
              | (have hih := ih (k + 1) x (by omega) (fun q => absurd (show k = e by omega) (fun q2 => c42 (by rw [q2])))
                 rw [q_run_ne (p := q_epage S e) (n := k) (fun q => c42 (congrArg nI q))] at hih
                 exact hih)
              | (have hpe := q_inj c42 hb1 hb2
                 have hih := ih (k + 1) ((q_run S (q_epage S e) (k + 1)).1 + S.2 9 k) (by omega) (fun q => by
                   have hke : k = e := by omega
                   subst hke
                   rfl)
                 rw [q_run_eq (p := q_epage S e) (n := k) hpe] at hih
                 rw [if_pos (Or.inl c52)] at hih
                 exact hih)
              | (have hpe := q_inj c42 hb1 hb2
                 have hih := ih (k + 1) ((q_run S (q_epage S e) (k + 1)).1 + S.2 9 k) (by omega) (fun q => by
                   have hke : k = e := by omega
                   subst hke
                   rfl)
                 rw [q_run_eq (p := q_epage S e) (n := k) hpe] at hih
                 cases hsm : (q_run S (q_epage S e) k).2.2.1 with
                 | false =>
                   rw [if_pos (Or.inr hsm)] at hih
                   first
                     | exact hih
                     | (rw [hsm] at c57; exact absurd rfl c57)
                 | true =>
                   first
                     | (rw [hsm] at c57; exact absurd c57 (by decide))
                     | (rw [if_neg (not_or.mpr ⟨c52, by rw [hsm]; decide⟩)] at hih
                        first
                          | (rw [if_pos c72] at hih; exact hih)
                          | (rw [if_neg c72] at hih; exact hih)))
set_option maxRecDepth 100000 in
set_option maxHeartbeats 4000000 in
theorem c_M_start {l : Launch} (hl : l.stackTraces = false) {E : g_E} {A : w_A} {S : q_S} {h : g_H} (hW : r_W E A S h) (hB : w_B S) {e : Nat} (he : e < q_ne S)  : g_Rd l mM_start 0 0 [.ref (A 30 0), .int (nI e)] E h (some (.int (q_start S e))) := by
  refine g_Rd.of hl (by decide) (rfl) (Nat.le_of_ble_eq_true rfl) ?_
  intro X hX hXl hR
  obtain ⟨hnp, hns, hne, hpar, hhome, hact⟩ := hB
  show g_Go E X _ h true 0 0 0 [some (.ref (A 30 0)), some (.int (nI e)), none, none, none, none, none] []
  refine g_iconst hX dM_start_0 (v := 0) (by decide) 1 rfl ?_
  refine g_istore_n hX (L' := [_, _, _, _, _, _, _]) dM_start_1 rfl (by decide) rfl 2 rfl ?_
  refine g_iconst hX dM_start_2 (v := 0) (by decide) 3 rfl ?_
  refine g_istore_n hX (L' := [_, _, _, _, _, _, _]) dM_start_3 rfl (by decide) rfl 4 rfl ?_
  refine g_iconst hX dM_start_4 (v := 0) (by decide) 5 rfl ?_
  refine g_istore hX (L' := [_, _, _, _, _, _, _]) dM_start_5 (by decide) rfl 7 rfl ?_
  refine g_iconst hX dM_start_7 (v := 0) (by decide) 8 rfl ?_
  refine g_istore hX (L' := [_, _, _, _, _, _, _]) dM_start_8 (by decide) rfl 10 rfl ?_
  refine g_iconst hX dM_start_10 (v := 0) (by decide) 11 rfl ?_
  refine g_istore hX (L' := [_, _, _, _, _, _, _]) dM_start_11 (by decide) rfl 13 rfl ?_
  have hlp := lp_M_start hW ⟨hnp, hns, hne, hpar, hhome, hact⟩ hX he (e + 1) 0 0 (by omega) (fun q => by omega)
  rw [nI_0] at hlp
  exact hlp
set_option maxRecDepth 100000 in
set_option maxHeartbeats 4000000 in
theorem c_M_end {l : Launch} (hl : l.stackTraces = false) {E : g_E} {A : w_A} {S : q_S} {h : g_H} (hW : r_W E A S h) (hB : w_B S) {e : Nat} (he : e < q_ne S)  : g_Rd l mM_end 1 18 [.ref (A 30 0), .int (nI e)] E h (some (.int (q_end S e))) := by
  refine g_Rd.of hl (by decide) (rfl) (Nat.le_of_ble_eq_true rfl) ?_
  intro X hX hXl hR
  obtain ⟨hnp, hns, hne, hpar, hhome, hact⟩ := hB
  show g_Go E X _ h true 0 0 0 [some (.ref (A 30 0)), some (.int (nI e))] []
  refine g_aload_n hX dM_end_0 rfl rfl (by first | rfl | exact g_rfr _) 1 rfl ?_
  refine g_iload_n hX dM_end_1 rfl rfl 2 rfl ?_
  refine g_cV1r (wt := 0) hX (c_M_start hX.tr hW ⟨hnp, hns, hne, hpar, hhome, hact⟩ he) dM_end_2 (w_m hW) kM_127 (g_rm.of hR (by decide) (by decide)) (by first | exact Nat.zero_le _ | (rw [hR]; decide)) (by first | exact Nat.zero_le _ | (rw [hR]; decide)) (by first | decide | (simp [Value.category])) 5 rfl ?_
  refine g_aload_n hX dM_end_5 rfl rfl (by first | rfl | exact g_rfr _) 6 rfl ?_
  refine g_get hX dM_end_6 fM_57 (w_m hW) rfl 9 rfl ?_
  refine g_iload_n hX dM_end_9 rfl rfl 10 rfl ?_
  refine g_iald hX dM_end_10 (w_ar hW _ (by decide)) (g_ix.nat (by omega) (by decide)) 11 rfl ?_
  refine g_iadd hX dM_end_11 12 rfl ?_
  exact g_iret hX rfl rfl dM_end_12 ⟨by rfl, rfl⟩ rfl (Nat.zero_le _) (Nat.zero_le _)
end
section
set_option maxRecDepth 100000 in
set_option maxHeartbeats 4000000 in
theorem lp_M_source {E : g_E} {A : w_A} {S : q_S} {h : g_H} (hW : r_W E A S h) (hB : w_B S) {X : g_X} (hX : g_ok E X mM_source) (hR : X.R = { frames := 1, cells := 0, slots := 0, locals := 15 }) {j pr : Nat} (hj : j < q_ns S) (hpr : pr < 7) {res : Option Nat} : ∀ (r : Nat) (po : Option Nat), (∀ p, po = some p → p < r ∧ p < q_np S) → q_src S j pr r po = res →
    g_Go E X (true, fun r' h' => r' = .inr (some (.int (q_oi res))) ∧ h' = h) h true 0 0 41 [some (.ref (A 30 0)), some (.int (nI j)), some (.int (nI pr)), some (.int (q_oi po)), none] [] := by
  obtain ⟨hnp, hns, hne, hpar, hhome, hact⟩ := hB
  have hjh := (hhome j hj).1
  intro r
  induction r with
  | zero =>
    intro po hpo hres
    have hr : res = none := hres.symm
    subst hr
    cases po with
    | some p => exact absurd (hpo p rfl).1 (Nat.not_lt_zero _)
    | none =>
      refine g_iload_n hX dM_source_41 rfl rfl 42 rfl ?_
      refine g_if_lt hX dM_source_42 91 45 (by decide) rfl (fun c42 => ?_) (fun c42 => ?_)
      · refine g_iconst hX dM_source_91 (v := (-1)) (by decide) 92 rfl ?_
        exact g_iret hX rfl rfl dM_source_92 ⟨by rfl, rfl⟩ rfl (Nat.zero_le _) (Nat.zero_le _)
      · exact absurd (by decide) c42
  | succ r ih =>
    intro po hpo hres
    cases po with
    | none =>
      have hr : res = none := hres.symm
      subst hr
      refine g_iload_n hX dM_source_41 rfl rfl 42 rfl ?_
      refine g_if_lt hX dM_source_42 91 45 (by decide) rfl (fun c42 => ?_) (fun c42 => ?_)
      · refine g_iconst hX dM_source_91 (v := (-1)) (by decide) 92 rfl ?_
        exact g_iret hX rfl rfl dM_source_92 ⟨by rfl, rfl⟩ rfl (Nat.zero_le _) (Nat.zero_le _)
      · exact absurd (by decide) c42
    | some p =>
      obtain ⟨hp1, hp2⟩ := hpo p rfl
      have hpn : ∀ q, q_par S p = some q → q < r ∧ q < q_np S := fun q hq => by
        have := q_par_lt (hpar p hp2) hq
        omega
      refine g_iload_n hX dM_source_41 rfl rfl 42 rfl ?_
      refine g_if_lt hX dM_source_42 91 45 (by decide) rfl (fun c42 => ?_) (fun c42 => ?_)
      · exact absurd c42 (nI_pos (by omega))
      · refine g_aload_n hX dM_source_45 rfl rfl (by first | rfl | exact g_rfr _) 46 rfl ?_
        refine g_iload_n hX dM_source_46 rfl rfl 47 rfl ?_
        refine g_aload_n hX dM_source_47 rfl rfl (by first | rfl | exact g_rfr _) 48 rfl ?_
        refine g_get hX dM_source_48 fM_19 (w_m hW) rfl 51 rfl ?_
        refine g_iload_n hX dM_source_51 rfl rfl 52 rfl ?_
        refine g_iald hX dM_source_52 (w_ar hW _ (by decide)) (g_ix.nat (by omega) (by decide)) 53 rfl ?_
        refine g_cV2r (wt := 0) hX (c_M_slotted hX.tr hW ⟨hnp, hns, hne, hpar, hhome, hact⟩ (p := p) (by omega) (S.2 1 j)) dM_source_53 (w_m hW) kM_89 (g_rm.of hR (by decide) (by decide)) (by first | exact Nat.zero_le _ | (rw [hR]; decide)) (by first | exact Nat.zero_le _ | (rw [hR]; decide)) (by first | decide | (simp [Value.category])) 56 rfl ?_
        cases hs : q_slotted S p (S.2 1 j) with
        | none =>
          refine g_istore hX (L' := [_, _, _, _, _]) dM_source_56 (by decide) rfl 58 rfl ?_
          refine g_iload hX dM_source_58 rfl 60 rfl ?_
          refine g_if_lt hX dM_source_60 81 63 (by decide) rfl (fun c60 => ?_) (fun c60 => ?_)
          · refine g_aload_n hX dM_source_81 rfl rfl (by first | rfl | exact g_rfr _) 82 rfl ?_
            refine g_get hX dM_source_82 fM_13 (w_m hW) rfl 85 rfl ?_
            refine g_iload_n hX dM_source_85 rfl rfl 86 rfl ?_
            refine g_iald hX dM_source_86 (w_ar hW _ (by decide)) (g_ix.nat (by omega) (by decide)) 87 rfl ?_
            refine g_istore_n hX (L' := [_, _, _, _, _]) dM_source_87 rfl (by decide) rfl 88 rfl ?_
            refine g_goto hX dM_source_88 41 (by decide) ?_
            rw [q_par_oi]
            refine g_drop (L' := [_, _, _, _, none]) 4 rfl ?_
            exact ih (q_par S p) hpn (by rw [q_src_none hs] at hres; exact hres)
          · exact absurd (by decide) c60
        | some s =>
          have hsn : s < q_ns S := q_slotted_lt hs
          refine g_istore hX (L' := [_, _, _, _, _]) dM_source_56 (by decide) rfl 58 rfl ?_
          refine g_iload hX dM_source_58 rfl 60 rfl ?_
          refine g_if_lt hX dM_source_60 81 63 (by decide) rfl (fun c60 => ?_) (fun c60 => ?_)
          · exact absurd c60 (nI_pos (by omega))
          · refine g_aload_n hX dM_source_63 rfl rfl (by first | rfl | exact g_rfr _) 64 rfl ?_
            refine g_get hX dM_source_64 fM_22 (w_m hW) rfl 67 rfl ?_
            refine g_bipush hX dM_source_67 (v := 7) (by decide) 69 rfl ?_
            refine g_iload hX dM_source_69 rfl 71 rfl ?_
            refine g_imul hX dM_source_71 72 rfl ?_
            refine g_iload_n hX dM_source_72 rfl rfl 73 rfl ?_
            refine g_iadd hX dM_source_73 74 rfl ?_
            refine g_zald hX dM_source_74 (w_ar hW _ (by decide)) (g_ix.eq (q_7 s pr) (by omega) (by decide)) 75 rfl ?_
            refine g_if_eq hX dM_source_75 81 78 (by decide) rfl (fun c75 => ?_) (fun c75 => ?_)
            · refine g_aload_n hX dM_source_81 rfl rfl (by first | rfl | exact g_rfr _) 82 rfl ?_
              refine g_get hX dM_source_82 fM_13 (w_m hW) rfl 85 rfl ?_
              refine g_iload_n hX dM_source_85 rfl rfl 86 rfl ?_
              refine g_iald hX dM_source_86 (w_ar hW _ (by decide)) (g_ix.nat (by omega) (by decide)) 87 rfl ?_
              refine g_istore_n hX (L' := [_, _, _, _, _]) dM_source_87 rfl (by decide) rfl 88 rfl ?_
              refine g_goto hX dM_source_88 41 (by decide) ?_
              rw [q_par_oi]
              refine g_drop (L' := [_, _, _, _, none]) 4 rfl ?_
              exact ih (q_par S p) hpn (by rw [q_src_zero hs c75] at hres; exact hres)
            · refine g_iload hX dM_source_78 rfl 80 rfl ?_
              exact g_iret hX rfl rfl dM_source_80 ⟨by rw [← hres, q_src_hit hs c75], rfl⟩ rfl (Nat.zero_le _) (Nat.zero_le _)
set_option maxRecDepth 100000 in
set_option maxHeartbeats 4000000 in
theorem c_M_source {l : Launch} (hl : l.stackTraces = false) {E : g_E} {A : w_A} {S : q_S} {h : g_H} (hW : r_W E A S h) (hB : w_B S) {j pr : Nat} (hj : j < q_ns S) (hpr : pr < 7)  : g_Rd l mM_source 1 15 [.ref (A 30 0), .int (nI j), .int (nI pr)] E h (some (.int (q_oi (q_source S j pr)))) := by
  refine g_Rd.of hl (by decide) rfl (Nat.le_of_ble_eq_true rfl) ?_
  intro X hX hXl hR
  obtain ⟨hnp, hns, hne, hpar, hhome, hact⟩ := hB
  have hjh := (hhome j hj).1
  have hjh2 : S.1 2 j < q_np S := hjh
  show g_Go E X _ h true 0 0 0 [some (.ref (A 30 0)), some (.int (nI j)), some (.int (nI pr)), none, none] []
  refine g_aload_n hX dM_source_0 rfl rfl (by first | rfl | exact g_rfr _) 1 rfl ?_
  refine g_get hX dM_source_1 fM_22 (w_m hW) rfl 4 rfl ?_
  refine g_bipush hX dM_source_4 (v := 7) (by decide) 6 rfl ?_
  refine g_iload_n hX dM_source_6 rfl rfl 7 rfl ?_
  refine g_imul hX dM_source_7 8 rfl ?_
  refine g_iload_n hX dM_source_8 rfl rfl 9 rfl ?_
  refine g_iadd hX dM_source_9 10 rfl ?_
  refine g_zald hX dM_source_10 (w_ar hW _ (by decide)) (g_ix.eq (q_7 j pr) (by omega) (by decide)) 11 rfl ?_
  refine g_if_eq hX dM_source_11 16 14 (by decide) rfl (fun c11 => ?_) (fun c11 => ?_)
  · refine g_aload_n hX dM_source_16 rfl rfl (by first | rfl | exact g_rfr _) 17 rfl ?_
    refine g_get hX dM_source_17 fM_19 (w_m hW) rfl 20 rfl ?_
    refine g_iload_n hX dM_source_20 rfl rfl 21 rfl ?_
    refine g_iald hX dM_source_21 (w_ar hW _ (by decide)) (g_ix.nat (by omega) (by decide)) 22 rfl ?_
    refine g_if_ge hX dM_source_22 29 25 (by decide) rfl (fun c22 => ?_) (fun c22 => ?_)
    · refine g_aload_n hX dM_source_29 rfl rfl (by first | rfl | exact g_rfr _) 30 rfl ?_
      refine g_get hX dM_source_30 fM_13 (w_m hW) rfl 33 rfl ?_
      refine g_aload_n hX dM_source_33 rfl rfl (by first | rfl | exact g_rfr _) 34 rfl ?_
      refine g_get hX dM_source_34 fM_16 (w_m hW) rfl 37 rfl ?_
      refine g_iload_n hX dM_source_37 rfl rfl 38 rfl ?_
      refine g_iald hX dM_source_38 (w_ar hW _ (by decide)) (g_ix.nat (by omega) (by decide)) 39 rfl ?_
      refine g_iald hX dM_source_39 (w_ar hW _ (by decide)) (g_ix.nat (by omega) (by decide)) 40 rfl ?_
      refine g_istore_n hX (L' := [_, _, _, _, _]) dM_source_40 rfl (by decide) rfl 41 rfl ?_
      first
        | (rw [q_par_oi]
           refine lp_M_source hW ⟨hnp, hns, hne, hpar, hhome, hact⟩ hX hR hj hpr 12 (q_par S (q_home S j)) (fun p hp => ?_) ?_
           · have := q_par_lt (hpar _ hjh) hp
             omega
           · unfold q_source
             rw [if_pos c11, if_neg (show ¬ q_slot S j < 0 from fun q => absurd c22 (by simpa using q))])
        | (refine lp_M_source hW ⟨hnp, hns, hne, hpar, hhome, hact⟩ hX hR hj hpr 12 none (fun p hp => by cases hp) ?_
           unfold q_source
           rw [if_pos c11, if_pos (show q_slot S j < 0 from by simpa using c22)]
           rfl)
    · refine g_iconst hX dM_source_25 (v := (-1)) (by decide) 26 rfl ?_
      refine g_goto hX dM_source_26 40 (by decide) ?_
      refine g_istore_n hX (L' := [_, _, _, _, _]) dM_source_40 rfl (by decide) rfl 41 rfl ?_
      first
        | (rw [q_par_oi]
           refine lp_M_source hW ⟨hnp, hns, hne, hpar, hhome, hact⟩ hX hR hj hpr 12 (q_par S (q_home S j)) (fun p hp => ?_) ?_
           · have := q_par_lt (hpar _ hjh) hp
             omega
           · unfold q_source
             rw [if_pos c11, if_neg (show ¬ q_slot S j < 0 from fun q => absurd c22 (by simpa using q))])
        | (refine lp_M_source hW ⟨hnp, hns, hne, hpar, hhome, hact⟩ hX hR hj hpr 12 none (fun p hp => by cases hp) ?_
           unfold q_source
           rw [if_pos c11, if_pos (show q_slot S j < 0 from by simpa using c22)]
           rfl)
  · refine g_iload_n hX dM_source_14 rfl rfl 15 rfl ?_
    exact g_iret hX rfl rfl dM_source_15 ⟨by rw [show q_source S j pr = some j from if_neg c11]; rfl, rfl⟩ rfl (Nat.zero_le _) (Nat.zero_le _)
set_option maxRecDepth 100000 in
set_option maxHeartbeats 4000000 in
theorem c_M_value {l : Launch} (hl : l.stackTraces = false) {E : g_E} {A : w_A} {S : q_S} {h : g_H} (hW : r_W E A S h) (hB : w_B S) {j pr : Nat} (hj : j < q_ns S) (hpr : pr < 7)  : g_Rd l mM_value 2 31 [.ref (A 30 0), .int (nI j), .int (nI pr)] E h (some (.int (q_value S j pr))) := by
  refine g_Rd.of hl (by decide) rfl (Nat.le_of_ble_eq_true rfl) ?_
  intro X hX hXl hR
  obtain ⟨hnp, hns, hne, hpar, hhome, hact⟩ := hB
  show g_Go E X _ h true 0 0 0 [some (.ref (A 30 0)), some (.int (nI j)), some (.int (nI pr)), none] []
  refine g_aload_n hX dM_value_0 rfl rfl (by first | rfl | exact g_rfr _) 1 rfl ?_
  refine g_iload_n hX dM_value_1 rfl rfl 2 rfl ?_
  refine g_iload_n hX dM_value_2 rfl rfl 3 rfl ?_
  refine g_cV2r (wt := 0) hX (c_M_source hX.tr hW ⟨hnp, hns, hne, hpar, hhome, hact⟩ hj hpr) dM_value_3 (w_m hW) kM_104 (g_rm.of hR (by decide) (by decide)) (by first | exact Nat.zero_le _ | (rw [hR]; decide)) (by first | exact Nat.zero_le _ | (rw [hR]; decide)) (by first | decide | (simp [Value.category])) 6 rfl ?_
  cases hs : q_source S j pr with
  | none =>
    refine g_istore_n hX (L' := [_, _, _, _]) dM_value_6 rfl (by decide) rfl 7 rfl ?_
    refine g_iload_n hX dM_value_7 rfl rfl 8 rfl ?_
    refine g_if_ge hX dM_value_8 20 11 (by decide) rfl (fun c8 => ?_) (fun c8 => ?_)
    · exact absurd c8 (by decide)
    · refine g_aload_n hX dM_value_11 rfl rfl (by first | rfl | exact g_rfr _) 12 rfl ?_
      refine g_get hX dM_value_12 fM_30 (w_m hW) rfl 15 rfl ?_
      refine g_iload_n hX dM_value_15 rfl rfl 16 rfl ?_
      refine g_iald hX dM_value_16 (w_ar hW _ (by decide)) (g_ix.nat (by omega) (by decide)) 17 rfl ?_
      refine g_goto hX dM_value_17 31 (by decide) ?_
      exact g_iret hX rfl rfl dM_value_31 ⟨by unfold q_value; rw [hs], rfl⟩ rfl (Nat.zero_le _) (Nat.zero_le _)
  | some s =>
    have hsn : s < q_ns S := q_source_lt hj hs
    refine g_istore_n hX (L' := [_, _, _, _]) dM_value_6 rfl (by decide) rfl 7 rfl ?_
    refine g_iload_n hX dM_value_7 rfl rfl 8 rfl ?_
    refine g_if_ge hX dM_value_8 20 11 (by decide) rfl (fun c8 => ?_) (fun c8 => ?_)
    · refine g_aload_n hX dM_value_20 rfl rfl (by first | rfl | exact g_rfr _) 21 rfl ?_
      refine g_get hX dM_value_21 fM_26 (w_m hW) rfl 24 rfl ?_
      refine g_bipush hX dM_value_24 (v := 7) (by decide) 26 rfl ?_
      refine g_iload_n hX dM_value_26 rfl rfl 27 rfl ?_
      refine g_imul hX dM_value_27 28 rfl ?_
      refine g_iload_n hX dM_value_28 rfl rfl 29 rfl ?_
      refine g_iadd hX dM_value_29 30 rfl ?_
      refine g_iald hX dM_value_30 (w_ar hW _ (by decide)) (g_ix.eq (q_7 s pr) (by omega) (by decide)) 31 rfl ?_
      exact g_iret hX rfl rfl dM_value_31 ⟨by unfold q_value; rw [hs], rfl⟩ rfl (Nat.zero_le _) (Nat.zero_le _)
    · exact absurd (nI_pos' (by omega)) c8
set_option maxRecDepth 100000 in
set_option maxHeartbeats 4000000 in
theorem lp_M_slide {E : g_E} {A : w_A} {S : q_S} {h : g_H} (hW : r_W E A S h) (hB : w_B S) {X : g_X} (hX : g_ok E X mM_slide) {k : Int32} {res : Option Nat} : ∀ (r p n : Nat), p + r = q_np S → q_slf S k r p n = res →
    g_Go E X (true, fun r' h' => r' = .inr (some (.int (q_oi res))) ∧ h' = h) h true 0 0 4 [some (.ref (A 30 0)), some (.int k), some (.int (nI n)), some (.int (nI p))] [] := by
  obtain ⟨hnp, hns, hne, hpar, hhome, hact⟩ := hB
  intro r
  induction r with
  | zero =>
    intro p n hp hres
    have hr : res = none := hres.symm
    subst hr
    refine g_iload_n hX dM_slide_4 rfl rfl 5 rfl ?_
    refine g_aload_n hX dM_slide_5 rfl rfl (by first | rfl | exact g_rfr _) 6 rfl ?_
    refine g_get hX dM_slide_6 fM_79 (w_m hW) rfl 9 rfl ?_
    refine g_icmp_ge hX dM_slide_9 38 12 (by decide) rfl (fun c9 => ?_) (fun c9 => ?_)
    · refine g_iconst hX dM_slide_38 (v := (-1)) (by decide) 39 rfl ?_
      exact g_iret hX rfl rfl dM_slide_39 ⟨by rfl, rfl⟩ rfl (Nat.zero_le _) (Nat.zero_le _)
    · exact absurd (nI_le (by omega) (by omega)) c9
  | succ r ih =>
    intro p n hp hres
    refine g_iload_n hX dM_slide_4 rfl rfl 5 rfl ?_
    refine g_aload_n hX dM_slide_5 rfl rfl (by first | rfl | exact g_rfr _) 6 rfl ?_
    refine g_get hX dM_slide_6 fM_79 (w_m hW) rfl 9 rfl ?_
    refine g_icmp_ge hX dM_slide_9 38 12 (by decide) rfl (fun c9 => ?_) (fun c9 => ?_)
    · exact absurd c9 (nI_ge (by omega) (by omega))
    · refine g_aload_n hX dM_slide_12 rfl rfl (by first | rfl | exact g_rfr _) 13 rfl ?_
      refine g_get hX dM_slide_13 fM_7 (w_m hW) rfl 16 rfl ?_
      refine g_iload_n hX dM_slide_16 rfl rfl 17 rfl ?_
      refine g_iald hX dM_slide_17 (w_ar hW _ (by decide)) (g_ix.nat (by omega) (by decide)) 18 rfl ?_
      refine g_iconst hX dM_slide_18 (v := 2) (by decide) 19 rfl ?_
      refine g_icmp_ne hX dM_slide_19 32 22 (by decide) rfl (fun c19 => ?_) (fun c19 => ?_)
      · refine g_iinc hX (L' := [_, _, _, _]) dM_slide_32 rfl (q_inc _) rfl 35 rfl ?_
        refine g_goto hX dM_slide_35 4 (by decide) ?_
        first
          | exact ih (p + 1) (n + 1) (by omega) (by rw [q_slf, if_pos c19, if_neg c24] at hres; exact hres)
          | exact ih (p + 1) n (by omega) (by rw [q_slf, if_neg c19] at hres; exact hres)
      · refine g_iload_n hX dM_slide_22 rfl rfl 23 rfl ?_
        refine g_iload_n hX dM_slide_23 rfl rfl 24 rfl ?_
        refine g_icmp_ne hX dM_slide_24 29 27 (by decide) rfl (fun c24 => ?_) (fun c24 => ?_)
        · refine g_iinc hX (L' := [_, _, _, _]) dM_slide_29 rfl (q_inc _) rfl 32 rfl ?_
          refine g_iinc hX (L' := [_, _, _, _]) dM_slide_32 rfl (q_inc _) rfl 35 rfl ?_
          refine g_goto hX dM_slide_35 4 (by decide) ?_
          first
            | exact ih (p + 1) (n + 1) (by omega) (by rw [q_slf, if_pos c19, if_neg c24] at hres; exact hres)
            | exact ih (p + 1) n (by omega) (by rw [q_slf, if_neg c19] at hres; exact hres)
        · refine g_iload_n hX dM_slide_27 rfl rfl 28 rfl ?_
          exact g_iret hX rfl rfl dM_slide_28 ⟨by rw [← hres, q_slf, if_pos c19, if_pos c24]; rfl, rfl⟩ rfl (Nat.zero_le _) (Nat.zero_le _)
set_option maxRecDepth 100000 in
set_option maxHeartbeats 4000000 in
theorem c_M_slide {l : Launch} (hl : l.stackTraces = false) {E : g_E} {A : w_A} {S : q_S} {h : g_H} (hW : r_W E A S h) (hB : w_B S) (k : Int32)  : g_Rd l mM_slide 0 0 [.ref (A 30 0), .int k] E h (some (.int (q_oi (q_slide S k)))) := by
  refine g_Rd.of hl (by decide) rfl (Nat.le_of_ble_eq_true rfl) ?_
  intro X hX hXl hR
  obtain ⟨hnp, hns, hne, hpar, hhome, hact⟩ := hB
  show g_Go E X _ h true 0 0 0 [some (.ref (A 30 0)), some (.int k), none, none] []
  refine g_iconst hX dM_slide_0 (v := 0) (by decide) 1 rfl ?_
  refine g_istore_n hX (L' := [_, _, _, _]) dM_slide_1 rfl (by decide) rfl 2 rfl ?_
  refine g_iconst hX dM_slide_2 (v := 0) (by decide) 3 rfl ?_
  refine g_istore_n hX (L' := [_, _, _, _]) dM_slide_3 rfl (by decide) rfl 4 rfl ?_
  have hlp := lp_M_slide hW ⟨hnp, hns, hne, hpar, hhome, hact⟩ hX (k := k) (q_np S) 0 0 (by omega) rfl
  rw [nI_0] at hlp
  exact hlp
set_option maxRecDepth 100000 in
set_option maxHeartbeats 4000000 in
theorem lp_M_length {E : g_E} {A : w_A} {S : q_S} {h : g_H} (hW : r_W E A S h) (hB : w_B S) {X : g_X} (hX : g_ok E X mM_length) (hR : X.R = { frames := 2, cells := 0, slots := 0, locals := 31 }) {p : Nat} (hp : p < 2 ^ 31) {b : Int32} : ∀ (r e : Nat) (n : Int32), e + r = q_ne S → n = q_len S p b e →
    g_Go E X (true, fun r' h' => r' = .inr (some (.int (q_len S p b (q_ne S)))) ∧ h' = h) h true 0 0 5 [some (.ref (A 30 0)), some (.int (nI p)), some (.int b), some (.int n), some (.int (nI e))] [] := by
  obtain ⟨hnp, hns, hne, hpar, hhome, hact⟩ := hB
  intro r
  induction r with
  | zero =>
    intro e n he hn
    have he2 : e = q_ne S := by omega
    subst he2
    refine g_iload hX dM_length_5 rfl 7 rfl ?_
    refine g_aload_n hX dM_length_7 rfl rfl (by first | rfl | exact g_rfr _) 8 rfl ?_
    refine g_get hX dM_length_8 fM_121 (w_m hW) rfl 11 rfl ?_
    refine g_icmp_ge hX dM_length_11 67 14 (by decide) rfl (fun c11 => ?_) (fun c11 => ?_)
    · refine g_iload_n hX dM_length_67 rfl rfl 68 rfl ?_
      exact g_iret hX rfl rfl dM_length_68 ⟨by rw [hn], rfl⟩ rfl (Nat.zero_le _) (Nat.zero_le _)
    · exact absurd (nI_le (Nat.le_refl _) (by omega)) c11
  | succ r ih =>
    intro e n he hn
    have hen : e < q_ne S := by omega
    have hak : S.1 5 e < q_ns S := hact e hen
    have hhk := (hhome _ hak).1
    have hb1 : q_home S (S.1 5 e) < 2 ^ 31 := by omega
    refine g_iload hX dM_length_5 rfl 7 rfl ?_
    refine g_aload_n hX dM_length_7 rfl rfl (by first | rfl | exact g_rfr _) 8 rfl ?_
    refine g_get hX dM_length_8 fM_121 (w_m hW) rfl 11 rfl ?_
    refine g_icmp_ge hX dM_length_11 67 14 (by decide) rfl (fun c11 => ?_) (fun c11 => ?_)
    · exact absurd c11 (nI_ge (by omega) (by omega))
    · refine g_aload_n hX dM_length_14 rfl rfl (by first | rfl | exact g_rfr _) 15 rfl ?_
      refine g_get hX dM_length_15 fM_16 (w_m hW) rfl 18 rfl ?_
      refine g_aload_n hX dM_length_18 rfl rfl (by first | rfl | exact g_rfr _) 19 rfl ?_
      refine g_get hX dM_length_19 fM_45 (w_m hW) rfl 22 rfl ?_
      refine g_iload hX dM_length_22 rfl 24 rfl ?_
      refine g_iald hX dM_length_24 (w_ar hW _ (by decide)) (g_ix.nat (by omega) (by decide)) 25 rfl ?_
      refine g_iald hX dM_length_25 (w_ar hW _ (by decide)) (g_ix.nat (by omega) (by decide)) 26 rfl ?_
      refine g_iload_n hX dM_length_26 rfl rfl 27 rfl ?_
      refine g_icmp_ne hX dM_length_27 59 30 (by decide) rfl (fun c27 => ?_) (fun c27 => ?_)
      · refine g_iload_n hX dM_length_59 rfl rfl 60 rfl ?_
        refine g_istore_n hX (L' := [_, _, _, _, _]) dM_length_60 rfl (by decide) rfl 61 rfl ?_
        refine g_iinc hX (L' := [_, _, _, _, _]) dM_length_61 rfl (q_inc _) rfl 64 rfl ?_
        refine g_goto hX dM_length_64 5 (by decide) ?_
        first
          | exact ih (e + 1) _ (by omega) (by rw [q_len, if_neg (fun q => c27 (congrArg nI q.1))]; exact hn)
          | exact ih (e + 1) _ (by omega) (by rw [q_len, if_neg (fun q => c37 q.2.1)]; exact hn)
          | exact ih (e + 1) _ (by omega) (by rw [q_len, if_neg (fun q => absurd q.2.2 (by rw [← hn]; exact Int32.not_lt.mpr c47))]; exact hn)
          | exact ih (e + 1) _ (by omega) (by rw [q_len, if_pos ⟨q_inj c27 hb1 hp, c37, by rw [← hn]; exact Int32.not_le.mp c47⟩])
      · refine g_aload_n hX dM_length_30 rfl rfl (by first | rfl | exact g_rfr _) 31 rfl ?_
        refine g_iload hX dM_length_31 rfl 33 rfl ?_
        refine g_cV1r (wt := 0) hX (c_M_build hX.tr hW ⟨hnp, hns, hne, hpar, hhome, hact⟩ hen) dM_length_33 (w_m hW) kM_130 (g_rm.of hR (by decide) (by decide)) (by first | exact Nat.zero_le _ | (rw [hR]; decide)) (by first | exact Nat.zero_le _ | (rw [hR]; decide)) (by first | decide | (simp [Value.category])) 36 rfl ?_
        refine g_iload_n hX dM_length_36 rfl rfl 37 rfl ?_
        refine g_icmp_ne hX dM_length_37 59 40 (by decide) rfl (fun c37 => ?_) (fun c37 => ?_)
        · refine g_iload_n hX dM_length_59 rfl rfl 60 rfl ?_
          refine g_istore_n hX (L' := [_, _, _, _, _]) dM_length_60 rfl (by decide) rfl 61 rfl ?_
          refine g_iinc hX (L' := [_, _, _, _, _]) dM_length_61 rfl (q_inc _) rfl 64 rfl ?_
          refine g_goto hX dM_length_64 5 (by decide) ?_
          first
            | exact ih (e + 1) _ (by omega) (by rw [q_len, if_neg (fun q => c27 (congrArg nI q.1))]; exact hn)
            | exact ih (e + 1) _ (by omega) (by rw [q_len, if_neg (fun q => c37 q.2.1)]; exact hn)
            | exact ih (e + 1) _ (by omega) (by rw [q_len, if_neg (fun q => absurd q.2.2 (by rw [← hn]; exact Int32.not_lt.mpr c47))]; exact hn)
            | exact ih (e + 1) _ (by omega) (by rw [q_len, if_pos ⟨q_inj c27 hb1 hp, c37, by rw [← hn]; exact Int32.not_le.mp c47⟩])
        · refine g_aload_n hX dM_length_40 rfl rfl (by first | rfl | exact g_rfr _) 41 rfl ?_
          refine g_iload hX dM_length_41 rfl 43 rfl ?_
          refine g_cV1r (wt := 0) hX (c_M_end hX.tr hW ⟨hnp, hns, hne, hpar, hhome, hact⟩ hen) dM_length_43 (w_m hW) kM_133 (g_rm.of hR (by decide) (by decide)) (by first | exact Nat.zero_le _ | (rw [hR]; decide)) (by first | exact Nat.zero_le _ | (rw [hR]; decide)) (by first | decide | (simp [Value.category])) 46 rfl ?_
          refine g_iload_n hX dM_length_46 rfl rfl 47 rfl ?_
          refine g_icmp_le hX dM_length_47 59 50 (by decide) rfl (fun c47 => ?_) (fun c47 => ?_)
          · refine g_iload_n hX dM_length_59 rfl rfl 60 rfl ?_
            refine g_istore_n hX (L' := [_, _, _, _, _]) dM_length_60 rfl (by decide) rfl 61 rfl ?_
            refine g_iinc hX (L' := [_, _, _, _, _]) dM_length_61 rfl (q_inc _) rfl 64 rfl ?_
            refine g_goto hX dM_length_64 5 (by decide) ?_
            first
              | exact ih (e + 1) _ (by omega) (by rw [q_len, if_neg (fun q => c27 (congrArg nI q.1))]; exact hn)
              | exact ih (e + 1) _ (by omega) (by rw [q_len, if_neg (fun q => c37 q.2.1)]; exact hn)
              | exact ih (e + 1) _ (by omega) (by rw [q_len, if_neg (fun q => absurd q.2.2 (by rw [← hn]; exact Int32.not_lt.mpr c47))]; exact hn)
              | exact ih (e + 1) _ (by omega) (by rw [q_len, if_pos ⟨q_inj c27 hb1 hp, c37, by rw [← hn]; exact Int32.not_le.mp c47⟩])
          · refine g_aload_n hX dM_length_50 rfl rfl (by first | rfl | exact g_rfr _) 51 rfl ?_
            refine g_iload hX dM_length_51 rfl 53 rfl ?_
            refine g_cV1r (wt := 0) hX (c_M_end hX.tr hW ⟨hnp, hns, hne, hpar, hhome, hact⟩ hen) dM_length_53 (w_m hW) kM_133 (g_rm.of hR (by decide) (by decide)) (by first | exact Nat.zero_le _ | (rw [hR]; decide)) (by first | exact Nat.zero_le _ | (rw [hR]; decide)) (by first | decide | (simp [Value.category])) 56 rfl ?_
            refine g_goto hX dM_length_56 60 (by decide) ?_
            refine g_istore_n hX (L' := [_, _, _, _, _]) dM_length_60 rfl (by decide) rfl 61 rfl ?_
            refine g_iinc hX (L' := [_, _, _, _, _]) dM_length_61 rfl (q_inc _) rfl 64 rfl ?_
            refine g_goto hX dM_length_64 5 (by decide) ?_
            first
              | exact ih (e + 1) _ (by omega) (by rw [q_len, if_neg (fun q => c27 (congrArg nI q.1))]; exact hn)
              | exact ih (e + 1) _ (by omega) (by rw [q_len, if_neg (fun q => c37 q.2.1)]; exact hn)
              | exact ih (e + 1) _ (by omega) (by rw [q_len, if_neg (fun q => absurd q.2.2 (by rw [← hn]; exact Int32.not_lt.mpr c47))]; exact hn)
              | exact ih (e + 1) _ (by omega) (by rw [q_len, if_pos ⟨q_inj c27 hb1 hp, c37, by rw [← hn]; exact Int32.not_le.mp c47⟩])
set_option maxRecDepth 100000 in
set_option maxHeartbeats 4000000 in
theorem c_M_length {l : Launch} (hl : l.stackTraces = false) {E : g_E} {A : w_A} {S : q_S} {h : g_H} (hW : r_W E A S h) (hB : w_B S) {p : Nat} (hp : p < 2 ^ 31) (b : Int32)  : g_Rd l mM_length 2 31 [.ref (A 30 0), .int (nI p), .int b] E h (some (.int (q_len S p b (q_ne S)))) := by
  refine g_Rd.of hl (by decide) rfl (Nat.le_of_ble_eq_true rfl) ?_
  intro X hX hXl hR
  obtain ⟨hnp, hns, hne, hpar, hhome, hact⟩ := hB
  show g_Go E X _ h true 0 0 0 [some (.ref (A 30 0)), some (.int (nI p)), some (.int b), none, none] []
  refine g_iconst hX dM_length_0 (v := 0) (by decide) 1 rfl ?_
  refine g_istore_n hX (L' := [_, _, _, _, _]) dM_length_1 rfl (by decide) rfl 2 rfl ?_
  refine g_iconst hX dM_length_2 (v := 0) (by decide) 3 rfl ?_
  refine g_istore hX (L' := [_, _, _, _, _]) dM_length_3 (by decide) rfl 5 rfl ?_
  have hlp := lp_M_length hW ⟨hnp, hns, hne, hpar, hhome, hact⟩ hX hR hp (b := b) (q_ne S) 0 0 (by omega) rfl
  rw [nI_0] at hlp
  exact hlp
set_option maxRecDepth 100000 in
set_option maxHeartbeats 4000000 in
theorem c_M_stage {l : Launch} (hl : l.stackTraces = false) {E : g_E} {A : w_A} {S : q_S} {h : g_H} (hW : r_W E A S h) (hB : w_B S) {e : Nat} (he : e < q_ne S)  : g_Rd l mM_stage 2 31 [.ref (A 30 0), .int (nI e)] E h (some (.int (q_stage S e))) := by
  refine g_Rd.of hl (by decide) rfl (Nat.le_of_ble_eq_true rfl) ?_
  intro X hX hXl hR
  obtain ⟨hnp, hns, hne, hpar, hhome, hact⟩ := hB
  show g_Go E X _ h true 0 0 0 [some (.ref (A 30 0)), some (.int (nI e)), none] []
  refine g_aload_n hX dM_stage_0 rfl rfl (by first | rfl | exact g_rfr _) 1 rfl ?_
  refine g_iload_n hX dM_stage_1 rfl rfl 2 rfl ?_
  refine g_cV1r (wt := 0) hX (c_M_build hX.tr hW ⟨hnp, hns, hne, hpar, hhome, hact⟩ he) dM_stage_2 (w_m hW) kM_130 (g_rm.of hR (by decide) (by decide)) (by first | exact Nat.zero_le _ | (rw [hR]; decide)) (by first | exact Nat.zero_le _ | (rw [hR]; decide)) (by first | decide | (simp [Value.category])) 5 rfl ?_
  refine g_istore_n hX (L' := [_, _, _]) dM_stage_5 rfl (by decide) rfl 6 rfl ?_
  refine g_iload_n hX dM_stage_6 rfl rfl 7 rfl ?_
  refine g_aload_n hX dM_stage_7 rfl rfl (by first | rfl | exact g_rfr _) 8 rfl ?_
  refine g_get hX dM_stage_8 fM_136 (w_m hW) rfl 11 rfl ?_
  refine g_icmp_lt hX dM_stage_11 34 14 (by decide) rfl (fun c11 => ?_) (fun c11 => ?_)
  · refine g_iconst hX dM_stage_34 (v := 2) (by decide) 35 rfl ?_
    exact g_iret hX rfl rfl dM_stage_35 ⟨by simp_all [q_stage, Int32.not_lt], rfl⟩ rfl (Nat.zero_le _) (Nat.zero_le _)
  · refine g_iload_n hX dM_stage_14 rfl rfl 15 rfl ?_
    refine g_aload_n hX dM_stage_15 rfl rfl (by first | rfl | exact g_rfr _) 16 rfl ?_
    refine g_get hX dM_stage_16 fM_136 (w_m hW) rfl 19 rfl ?_
    refine g_icmp_ne hX dM_stage_19 36 22 (by decide) rfl (fun c19 => ?_) (fun c19 => ?_)
    · refine g_iload_n hX dM_stage_36 rfl rfl 37 rfl ?_
      refine g_aload_n hX dM_stage_37 rfl rfl (by first | rfl | exact g_rfr _) 38 rfl ?_
      refine g_get hX dM_stage_38 fM_136 (w_m hW) rfl 41 rfl ?_
      refine g_icmp_ne hX dM_stage_41 60 44 (by decide) rfl (fun c41 => ?_) (fun c41 => ?_)
      · refine g_iconst hX dM_stage_60 (v := 0) (by decide) 61 rfl ?_
        exact g_iret hX rfl rfl dM_stage_61 ⟨by simp_all [q_stage, Int32.not_lt], rfl⟩ rfl (Nat.zero_le _) (Nat.zero_le _)
      · refine g_aload_n hX dM_stage_44 rfl rfl (by first | rfl | exact g_rfr _) 45 rfl ?_
        refine g_iload_n hX dM_stage_45 rfl rfl 46 rfl ?_
        refine g_cV1r (wt := 0) hX (c_M_start hX.tr hW ⟨hnp, hns, hne, hpar, hhome, hact⟩ he) dM_stage_46 (w_m hW) kM_127 (g_rm.of hR (by decide) (by decide)) (by first | exact Nat.zero_le _ | (rw [hR]; decide)) (by first | exact Nat.zero_le _ | (rw [hR]; decide)) (by first | decide | (simp [Value.category])) 49 rfl ?_
        refine g_aload_n hX dM_stage_49 rfl rfl (by first | rfl | exact g_rfr _) 50 rfl ?_
        refine g_get hX dM_stage_50 fM_139 (w_m hW) rfl 53 rfl ?_
        refine g_icmp_gt hX dM_stage_53 60 56 (by decide) rfl (fun c53 => ?_) (fun c53 => ?_)
        · refine g_iconst hX dM_stage_60 (v := 0) (by decide) 61 rfl ?_
          exact g_iret hX rfl rfl dM_stage_61 ⟨by simp_all [q_stage, Int32.not_lt], rfl⟩ rfl (Nat.zero_le _) (Nat.zero_le _)
        · refine g_iconst hX dM_stage_56 (v := 1) (by decide) 57 rfl ?_
          refine g_goto hX dM_stage_57 61 (by decide) ?_
          exact g_iret hX rfl rfl dM_stage_61 ⟨by simp_all [q_stage, Int32.not_lt], rfl⟩ rfl (Nat.zero_le _) (Nat.zero_le _)
    · refine g_aload_n hX dM_stage_22 rfl rfl (by first | rfl | exact g_rfr _) 23 rfl ?_
      refine g_iload_n hX dM_stage_23 rfl rfl 24 rfl ?_
      refine g_cV1r (wt := 0) hX (c_M_end hX.tr hW ⟨hnp, hns, hne, hpar, hhome, hact⟩ he) dM_stage_24 (w_m hW) kM_133 (g_rm.of hR (by decide) (by decide)) (by first | exact Nat.zero_le _ | (rw [hR]; decide)) (by first | exact Nat.zero_le _ | (rw [hR]; decide)) (by first | decide | (simp [Value.category])) 27 rfl ?_
      refine g_aload_n hX dM_stage_27 rfl rfl (by first | rfl | exact g_rfr _) 28 rfl ?_
      refine g_get hX dM_stage_28 fM_139 (w_m hW) rfl 31 rfl ?_
      refine g_icmp_gt hX dM_stage_31 36 34 (by decide) rfl (fun c31 => ?_) (fun c31 => ?_)
      · refine g_iload_n hX dM_stage_36 rfl rfl 37 rfl ?_
        refine g_aload_n hX dM_stage_37 rfl rfl (by first | rfl | exact g_rfr _) 38 rfl ?_
        refine g_get hX dM_stage_38 fM_136 (w_m hW) rfl 41 rfl ?_
        refine g_icmp_ne hX dM_stage_41 60 44 (by decide) rfl (fun c41 => ?_) (fun c41 => ?_)
        · refine g_iconst hX dM_stage_60 (v := 0) (by decide) 61 rfl ?_
          exact g_iret hX rfl rfl dM_stage_61 ⟨by simp_all [q_stage, Int32.not_lt], rfl⟩ rfl (Nat.zero_le _) (Nat.zero_le _)
        · refine g_aload_n hX dM_stage_44 rfl rfl (by first | rfl | exact g_rfr _) 45 rfl ?_
          refine g_iload_n hX dM_stage_45 rfl rfl 46 rfl ?_
          refine g_cV1r (wt := 0) hX (c_M_start hX.tr hW ⟨hnp, hns, hne, hpar, hhome, hact⟩ he) dM_stage_46 (w_m hW) kM_127 (g_rm.of hR (by decide) (by decide)) (by first | exact Nat.zero_le _ | (rw [hR]; decide)) (by first | exact Nat.zero_le _ | (rw [hR]; decide)) (by first | decide | (simp [Value.category])) 49 rfl ?_
          refine g_aload_n hX dM_stage_49 rfl rfl (by first | rfl | exact g_rfr _) 50 rfl ?_
          refine g_get hX dM_stage_50 fM_139 (w_m hW) rfl 53 rfl ?_
          refine g_icmp_gt hX dM_stage_53 60 56 (by decide) rfl (fun c53 => ?_) (fun c53 => ?_)
          · refine g_iconst hX dM_stage_60 (v := 0) (by decide) 61 rfl ?_
            exact g_iret hX rfl rfl dM_stage_61 ⟨by simp_all [q_stage, Int32.not_lt], rfl⟩ rfl (Nat.zero_le _) (Nat.zero_le _)
          · refine g_iconst hX dM_stage_56 (v := 1) (by decide) 57 rfl ?_
            refine g_goto hX dM_stage_57 61 (by decide) ?_
            exact g_iret hX rfl rfl dM_stage_61 ⟨by simp_all [q_stage, Int32.not_lt], rfl⟩ rfl (Nat.zero_le _) (Nat.zero_le _)
      · refine g_iconst hX dM_stage_34 (v := 2) (by decide) 35 rfl ?_
        exact g_iret hX rfl rfl dM_stage_35 ⟨by simp_all [q_stage, Int32.not_lt], rfl⟩ rfl (Nat.zero_le _) (Nat.zero_le _)
set_option maxRecDepth 100000 in
set_option maxHeartbeats 4000000 in
theorem c_M_part {l : Launch} (hl : l.stackTraces = false) {E : g_E} {A : w_A} {S : q_S} {h : g_H} (hW : r_W E A S h) (hB : w_B S) {e : Nat} (he : e < q_ne S) (hd : ¬ S.2 10 e = 0) (v : Int32)  : g_Rd l mM_part 1 20 [.ref (A 30 0), .int v, .int (nI e)] E h (some (.int (q_part S v e))) := by
  refine g_Rd.of hl (by decide) rfl (Nat.le_of_ble_eq_true rfl) ?_
  intro X hX hXl hR
  obtain ⟨hnp, hns, hne, hpar, hhome, hact⟩ := hB
  show g_Go E X _ h true 0 0 0 [some (.ref (A 30 0)), some (.int v), some (.int (nI e))] []
  refine g_iload_n hX dM_part_0 rfl rfl 1 rfl ?_
  refine g_aload_n hX dM_part_1 rfl rfl (by first | rfl | exact g_rfr _) 2 rfl ?_
  refine g_get hX dM_part_2 fM_139 (w_m hW) rfl 5 rfl ?_
  refine g_aload_n hX dM_part_5 rfl rfl (by first | rfl | exact g_rfr _) 6 rfl ?_
  refine g_iload_n hX dM_part_6 rfl rfl 7 rfl ?_
  refine g_cV1r (wt := 2) hX (c_M_start hX.tr hW ⟨hnp, hns, hne, hpar, hhome, hact⟩ he) dM_part_7 (w_m hW) kM_127 (g_rm.of hR (by decide) (by decide)) (by first | exact Nat.zero_le _ | (rw [hR]; decide)) (by first | exact Nat.zero_le _ | (rw [hR]; decide)) (by first | decide | (simp [Value.category])) 10 rfl ?_
  refine g_isub hX dM_part_10 11 rfl ?_
  refine g_imul hX dM_part_11 12 rfl ?_
  refine g_aload_n hX dM_part_12 rfl rfl (by first | rfl | exact g_rfr _) 13 rfl ?_
  refine g_get hX dM_part_13 fM_57 (w_m hW) rfl 16 rfl ?_
  refine g_iload_n hX dM_part_16 rfl rfl 17 rfl ?_
  refine g_iald hX dM_part_17 (w_ar hW _ (by decide)) (g_ix.nat (by omega) (by decide)) 18 rfl ?_
  refine g_idiv hX dM_part_18 hd 19 rfl ?_
  exact g_iret hX rfl rfl dM_part_19 ⟨by rfl, rfl⟩ rfl (Nat.zero_le _) (Nat.zero_le _)
end
section
set_option maxRecDepth 100000 in
set_option maxHeartbeats 4000000 in
theorem lp_M_moved {E : g_E} {A : w_A} {S : q_S} {h : g_H} (hW : r_W E A S h) (hB : w_B S) {X : g_X} (hX : g_ok E X mM_moved) (hR : X.R = { frames := 3, cells := 0, slots := 0, locals := 45 }) {j : Nat} (hj : j < 2 ^ 31) {w : Int32} : ∀ (r e : Nat) (n : Int32), e + r = q_ne S → n = q_moved S j w e →
    g_Go E X (true, fun r' h' => r' = .inr (some (.int (q_moved S j w (q_ne S)))) ∧ h' = h) h true 0 0 5 [some (.ref (A 30 0)), some (.int (nI j)), some (.int w), some (.int n), some (.int (nI e)), none] [] := by
  obtain ⟨hnp, hns, hne, hpar, hhome, hact⟩ := hB
  intro r
  induction r with
  | zero =>
    intro e n he hn
    have he2 : e = q_ne S := by omega
    subst he2
    refine g_iload hX dM_moved_5 rfl 7 rfl ?_
    refine g_aload_n hX dM_moved_7 rfl rfl (by first | rfl | exact g_rfr _) 8 rfl ?_
    refine g_get hX dM_moved_8 fM_121 (w_m hW) rfl 11 rfl ?_
    refine g_icmp_ge hX dM_moved_11 94 14 (by decide) rfl (fun c11 => ?_) (fun c11 => ?_)
    · refine g_iload_n hX dM_moved_94 rfl rfl 95 rfl ?_
      exact g_iret hX rfl rfl dM_moved_95 ⟨by rw [hn], rfl⟩ rfl (Nat.zero_le _) (Nat.zero_le _)
    · exact absurd (nI_le (Nat.le_refl _) (by omega)) c11
  | succ r ih =>
    intro e n he hn
    have hen : e < q_ne S := by omega
    have hak : S.1 5 e < q_ns S := hact e hen
    have hb1 : S.1 5 e < 2 ^ 31 := by omega
    refine g_iload hX dM_moved_5 rfl 7 rfl ?_
    refine g_aload_n hX dM_moved_7 rfl rfl (by first | rfl | exact g_rfr _) 8 rfl ?_
    refine g_get hX dM_moved_8 fM_121 (w_m hW) rfl 11 rfl ?_
    refine g_icmp_ge hX dM_moved_11 94 14 (by decide) rfl (fun c11 => ?_) (fun c11 => ?_)
    · exact absurd c11 (nI_ge (by omega) (by omega))
    · refine g_aload_n hX dM_moved_14 rfl rfl (by first | rfl | exact g_rfr _) 15 rfl ?_
      refine g_get hX dM_moved_15 fM_45 (w_m hW) rfl 18 rfl ?_
      refine g_iload hX dM_moved_18 rfl 20 rfl ?_
      refine g_iald hX dM_moved_20 (w_ar hW _ (by decide)) (g_ix.nat (by omega) (by decide)) 21 rfl ?_
      refine g_iload_n hX dM_moved_21 rfl rfl 22 rfl ?_
      refine g_icmp_ne hX dM_moved_22 88 25 (by decide) rfl (fun c22 => ?_) (fun c22 => ?_)
      · refine g_iinc hX (L' := [_, _, _, _, _, _]) dM_moved_88 rfl (q_inc _) rfl 91 rfl ?_
        refine g_goto hX dM_moved_91 5 (by decide) ?_
        (try refine g_drop (L' := [_, _, _, _, _, none]) 5 rfl ?_)
        first
          | exact ih (e + 1) _ (by omega) (by rw [q_moved, if_neg (fun q => c22 (congrArg nI q.1))]; exact hn)
          | exact ih (e + 1) _ (by omega) (by rw [q_moved, if_neg (fun q => c33 q.2)]; exact hn)
          | exact ih (e + 1) _ (by omega) (by rw [q_moved, if_pos ⟨q_inj c22 hb1 hj, c33⟩, if_pos c47, ← hn])
          | exact ih (e + 1) _ (by omega) (by rw [q_moved, if_pos ⟨q_inj c22 hb1 hj, c33⟩, if_neg c47, if_pos c65, ← hn])
          | exact ih (e + 1) _ (by omega) (by rw [q_moved, if_pos ⟨q_inj c22 hb1 hj, c33⟩, if_neg c47, if_neg c65, ← hn])
      · refine g_aload_n hX dM_moved_25 rfl rfl (by first | rfl | exact g_rfr _) 26 rfl ?_
        refine g_get hX dM_moved_26 fM_48 (w_m hW) rfl 29 rfl ?_
        refine g_iload hX dM_moved_29 rfl 31 rfl ?_
        refine g_iald hX dM_moved_31 (w_ar hW _ (by decide)) (g_ix.nat (by omega) (by decide)) 32 rfl ?_
        refine g_iload_n hX dM_moved_32 rfl rfl 33 rfl ?_
        refine g_icmp_ne hX dM_moved_33 88 36 (by decide) rfl (fun c33 => ?_) (fun c33 => ?_)
        · refine g_iinc hX (L' := [_, _, _, _, _, _]) dM_moved_88 rfl (q_inc _) rfl 91 rfl ?_
          refine g_goto hX dM_moved_91 5 (by decide) ?_
          (try refine g_drop (L' := [_, _, _, _, _, none]) 5 rfl ?_)
          first
            | exact ih (e + 1) _ (by omega) (by rw [q_moved, if_neg (fun q => c22 (congrArg nI q.1))]; exact hn)
            | exact ih (e + 1) _ (by omega) (by rw [q_moved, if_neg (fun q => c33 q.2)]; exact hn)
            | exact ih (e + 1) _ (by omega) (by rw [q_moved, if_pos ⟨q_inj c22 hb1 hj, c33⟩, if_pos c47, ← hn])
            | exact ih (e + 1) _ (by omega) (by rw [q_moved, if_pos ⟨q_inj c22 hb1 hj, c33⟩, if_neg c47, if_pos c65, ← hn])
            | exact ih (e + 1) _ (by omega) (by rw [q_moved, if_pos ⟨q_inj c22 hb1 hj, c33⟩, if_neg c47, if_neg c65, ← hn])
        · refine g_aload_n hX dM_moved_36 rfl rfl (by first | rfl | exact g_rfr _) 37 rfl ?_
          refine g_iload hX dM_moved_37 rfl 39 rfl ?_
          refine g_cV1r (wt := 0) hX (c_M_stage hX.tr hW ⟨hnp, hns, hne, hpar, hhome, hact⟩ hen) dM_moved_39 (w_m hW) kM_148 (g_rm.of hR (by decide) (by decide)) (by first | exact Nat.zero_le _ | (rw [hR]; decide)) (by first | exact Nat.zero_le _ | (rw [hR]; decide)) (by first | decide | (simp [Value.category])) 42 rfl ?_
          refine g_istore hX (L' := [_, _, _, _, _, _]) dM_moved_42 (by decide) rfl 44 rfl ?_
          refine g_iload hX dM_moved_44 rfl 46 rfl ?_
          refine g_iconst hX dM_moved_46 (v := 2) (by decide) 47 rfl ?_
          refine g_icmp_ne hX dM_moved_47 62 50 (by decide) rfl (fun c47 => ?_) (fun c47 => ?_)
          · refine g_iload hX dM_moved_62 rfl 64 rfl ?_
            refine g_iconst hX dM_moved_64 (v := 1) (by decide) 65 rfl ?_
            refine g_icmp_ne hX dM_moved_65 86 68 (by decide) rfl (fun c65 => ?_) (fun c65 => ?_)
            · refine g_iload_n hX dM_moved_86 rfl rfl 87 rfl ?_
              refine g_istore_n hX (L' := [_, _, _, _, _, _]) dM_moved_87 rfl (by decide) rfl 88 rfl ?_
              refine g_iinc hX (L' := [_, _, _, _, _, _]) dM_moved_88 rfl (q_inc _) rfl 91 rfl ?_
              refine g_goto hX dM_moved_91 5 (by decide) ?_
              (try refine g_drop (L' := [_, _, _, _, _, none]) 5 rfl ?_)
              first
                | exact ih (e + 1) _ (by omega) (by rw [q_moved, if_neg (fun q => c22 (congrArg nI q.1))]; exact hn)
                | exact ih (e + 1) _ (by omega) (by rw [q_moved, if_neg (fun q => c33 q.2)]; exact hn)
                | exact ih (e + 1) _ (by omega) (by rw [q_moved, if_pos ⟨q_inj c22 hb1 hj, c33⟩, if_pos c47, ← hn])
                | exact ih (e + 1) _ (by omega) (by rw [q_moved, if_pos ⟨q_inj c22 hb1 hj, c33⟩, if_neg c47, if_pos c65, ← hn])
                | exact ih (e + 1) _ (by omega) (by rw [q_moved, if_pos ⟨q_inj c22 hb1 hj, c33⟩, if_neg c47, if_neg c65, ← hn])
            · refine g_iload_n hX dM_moved_68 rfl rfl 69 rfl ?_
              refine g_aload_n hX dM_moved_69 rfl rfl (by first | rfl | exact g_rfr _) 70 rfl ?_
              refine g_aload_n hX dM_moved_70 rfl rfl (by first | rfl | exact g_rfr _) 71 rfl ?_
              refine g_get hX dM_moved_71 fM_60 (w_m hW) rfl 74 rfl ?_
              refine g_iload hX dM_moved_74 rfl 76 rfl ?_
              refine g_iald hX dM_moved_76 (w_ar hW _ (by decide)) (g_ix.nat (by omega) (by decide)) 77 rfl ?_
              refine g_iload hX dM_moved_77 rfl 79 rfl ?_
              refine g_cV2r (wt := 1) hX (c_M_part hX.tr hW ⟨hnp, hns, hne, hpar, hhome, hact⟩ hen (q_stage1 c65) (S.2 11 e)) dM_moved_79 (w_m hW) kM_158 (g_rm.of hR (by decide) (by decide)) (by first | exact Nat.zero_le _ | (rw [hR]; decide)) (by first | exact Nat.zero_le _ | (rw [hR]; decide)) (by first | decide | (simp [Value.category])) 82 rfl ?_
              refine g_iadd hX dM_moved_82 83 rfl ?_
              refine g_goto hX dM_moved_83 87 (by decide) ?_
              refine g_istore_n hX (L' := [_, _, _, _, _, _]) dM_moved_87 rfl (by decide) rfl 88 rfl ?_
              refine g_iinc hX (L' := [_, _, _, _, _, _]) dM_moved_88 rfl (q_inc _) rfl 91 rfl ?_
              refine g_goto hX dM_moved_91 5 (by decide) ?_
              (try refine g_drop (L' := [_, _, _, _, _, none]) 5 rfl ?_)
              first
                | exact ih (e + 1) _ (by omega) (by rw [q_moved, if_neg (fun q => c22 (congrArg nI q.1))]; exact hn)
                | exact ih (e + 1) _ (by omega) (by rw [q_moved, if_neg (fun q => c33 q.2)]; exact hn)
                | exact ih (e + 1) _ (by omega) (by rw [q_moved, if_pos ⟨q_inj c22 hb1 hj, c33⟩, if_pos c47, ← hn])
                | exact ih (e + 1) _ (by omega) (by rw [q_moved, if_pos ⟨q_inj c22 hb1 hj, c33⟩, if_neg c47, if_pos c65, ← hn])
                | exact ih (e + 1) _ (by omega) (by rw [q_moved, if_pos ⟨q_inj c22 hb1 hj, c33⟩, if_neg c47, if_neg c65, ← hn])
          · refine g_iload_n hX dM_moved_50 rfl rfl 51 rfl ?_
            refine g_aload_n hX dM_moved_51 rfl rfl (by first | rfl | exact g_rfr _) 52 rfl ?_
            refine g_get hX dM_moved_52 fM_60 (w_m hW) rfl 55 rfl ?_
            refine g_iload hX dM_moved_55 rfl 57 rfl ?_
            refine g_iald hX dM_moved_57 (w_ar hW _ (by decide)) (g_ix.nat (by omega) (by decide)) 58 rfl ?_
            refine g_iadd hX dM_moved_58 59 rfl ?_
            refine g_goto hX dM_moved_59 87 (by decide) ?_
            refine g_istore_n hX (L' := [_, _, _, _, _, _]) dM_moved_87 rfl (by decide) rfl 88 rfl ?_
            refine g_iinc hX (L' := [_, _, _, _, _, _]) dM_moved_88 rfl (q_inc _) rfl 91 rfl ?_
            refine g_goto hX dM_moved_91 5 (by decide) ?_
            (try refine g_drop (L' := [_, _, _, _, _, none]) 5 rfl ?_)
            first
              | exact ih (e + 1) _ (by omega) (by rw [q_moved, if_neg (fun q => c22 (congrArg nI q.1))]; exact hn)
              | exact ih (e + 1) _ (by omega) (by rw [q_moved, if_neg (fun q => c33 q.2)]; exact hn)
              | exact ih (e + 1) _ (by omega) (by rw [q_moved, if_pos ⟨q_inj c22 hb1 hj, c33⟩, if_pos c47, ← hn])
              | exact ih (e + 1) _ (by omega) (by rw [q_moved, if_pos ⟨q_inj c22 hb1 hj, c33⟩, if_neg c47, if_pos c65, ← hn])
              | exact ih (e + 1) _ (by omega) (by rw [q_moved, if_pos ⟨q_inj c22 hb1 hj, c33⟩, if_neg c47, if_neg c65, ← hn])
set_option maxRecDepth 100000 in
set_option maxHeartbeats 4000000 in
theorem c_M_moved {l : Launch} (hl : l.stackTraces = false) {E : g_E} {A : w_A} {S : q_S} {h : g_H} (hW : r_W E A S h) (hB : w_B S) {j : Nat} (hj : j < 2 ^ 31) (w : Int32)  : g_Rd l mM_moved 3 45 [.ref (A 30 0), .int (nI j), .int w] E h (some (.int (q_moved S j w (q_ne S)))) := by
  refine g_Rd.of hl (by decide) rfl (Nat.le_of_ble_eq_true rfl) ?_
  intro X hX hXl hR
  obtain ⟨hnp, hns, hne, hpar, hhome, hact⟩ := hB
  show g_Go E X _ h true 0 0 0 [some (.ref (A 30 0)), some (.int (nI j)), some (.int w), none, none, none] []
  refine g_iconst hX dM_moved_0 (v := 0) (by decide) 1 rfl ?_
  refine g_istore_n hX (L' := [_, _, _, _, _, _]) dM_moved_1 rfl (by decide) rfl 2 rfl ?_
  refine g_iconst hX dM_moved_2 (v := 0) (by decide) 3 rfl ?_
  refine g_istore hX (L' := [_, _, _, _, _, _]) dM_moved_3 (by decide) rfl 5 rfl ?_
  have hlp := lp_M_moved hW ⟨hnp, hns, hne, hpar, hhome, hact⟩ hX hR hj (w := w) (q_ne S) 0 0 (by omega) rfl
  rw [nI_0] at hlp
  exact hlp
set_option maxRecDepth 100000 in
set_option maxHeartbeats 4000000 in
theorem lp_M_shown {E : g_E} {A : w_A} {S : q_S} {h : g_H} (hW : r_W E A S h) (hB : w_B S) {X : g_X} (hX : g_ok E X mM_shown) (hR : X.R = { frames := 3, cells := 0, slots := 0, locals := 45 }) {j : Nat} (hj : j < 2 ^ 31) {v : Int32} : ∀ (r e : Nat) (n : Int32) (f : Int32), e + r = q_ne S → n = (q_shown S j v e).1 → f = (if (q_shown S j v e).2 = true then 1 else 0) →
    g_Go E X (true, fun r' h' => r' = .inr (some (.int (q_shown S j v (q_ne S)).1)) ∧ h' = h) h true 0 0 8 [some (.ref (A 30 0)), some (.int (nI j)), some (.int v), some (.int n), some (.int f), some (.int (nI e)), none, none, none] [] := by
  obtain ⟨hnp, hns, hne, hpar, hhome, hact⟩ := hB
  intro r
  induction r with
  | zero =>
    intro e n f he hn hf
    have he2 : e = q_ne S := by omega
    subst he2
    refine g_iload hX dM_shown_8 rfl 10 rfl ?_
    refine g_aload_n hX dM_shown_10 rfl rfl (by first | rfl | exact g_rfr _) 11 rfl ?_
    refine g_get hX dM_shown_11 fM_121 (w_m hW) rfl 14 rfl ?_
    refine g_icmp_ge hX dM_shown_14 128 17 (by decide) rfl (fun c14 => ?_) (fun c14 => ?_)
    · refine g_iload_n hX dM_shown_128 rfl rfl 129 rfl ?_
      exact g_iret hX rfl rfl dM_shown_129 ⟨by rw [hn], rfl⟩ rfl (Nat.zero_le _) (Nat.zero_le _)
    · exact absurd (nI_le (Nat.le_refl _) (by omega)) c14
  | succ r ih =>
    intro e n f he hn hf
    have hen : e < q_ne S := by omega
    have hak : S.1 5 e < q_ns S := hact e hen
    have hb1 : S.1 5 e < 2 ^ 31 := by omega
    have hsc := q_stage_cases S e
    have hf1 : f = 0 ↔ (q_shown S j v e).2 = false := by
      rw [hf]
      cases (q_shown S j v e).2 <;> decide
    refine g_iload hX dM_shown_8 rfl 10 rfl ?_
    refine g_aload_n hX dM_shown_10 rfl rfl (by first | rfl | exact g_rfr _) 11 rfl ?_
    refine g_get hX dM_shown_11 fM_121 (w_m hW) rfl 14 rfl ?_
    refine g_icmp_ge hX dM_shown_14 128 17 (by decide) rfl (fun c14 => ?_) (fun c14 => ?_)
    · exact absurd c14 (nI_ge (by omega) (by omega))
    · refine g_aload_n hX dM_shown_17 rfl rfl (by first | rfl | exact g_rfr _) 18 rfl ?_
      refine g_get hX dM_shown_18 fM_45 (w_m hW) rfl 21 rfl ?_
      refine g_iload hX dM_shown_21 rfl 23 rfl ?_
      refine g_iald hX dM_shown_23 (w_ar hW _ (by decide)) (g_ix.nat (by omega) (by decide)) 24 rfl ?_
      refine g_iload_n hX dM_shown_24 rfl rfl 25 rfl ?_
      refine g_icmp_ne hX dM_shown_25 122 28 (by decide) rfl (fun c25 => ?_) (fun c25 => ?_)
      · refine g_iinc hX (L' := [_, _, _, _, _, _, _, _, _]) dM_shown_122 rfl (q_inc _) rfl 125 rfl ?_
        refine g_goto hX dM_shown_125 8 (by decide) ?_
        have hno := q_shown_no (S := S) (j := j) (e := e) (v := v) (fun q => c25 (congrArg nI q.1))
        exact ih (e + 1) _ _ (by omega) (by rw [hno]; exact hn) (by rw [hno]; exact hf)
      · refine g_aload_n hX dM_shown_28 rfl rfl (by first | rfl | exact g_rfr _) 29 rfl ?_
        refine g_get hX dM_shown_29 fM_48 (w_m hW) rfl 32 rfl ?_
        refine g_iload hX dM_shown_32 rfl 34 rfl ?_
        refine g_iald hX dM_shown_34 (w_ar hW _ (by decide)) (g_ix.nat (by omega) (by decide)) 35 rfl ?_
        refine g_iconst hX dM_shown_35 (v := 1) (by decide) 36 rfl ?_
        refine g_icmp_gt hX dM_shown_36 122 39 (by decide) rfl (fun c36 => ?_) (fun c36 => ?_)
        · refine g_iinc hX (L' := [_, _, _, _, _, _, _, _, _]) dM_shown_122 rfl (q_inc _) rfl 125 rfl ?_
          refine g_goto hX dM_shown_125 8 (by decide) ?_
          have hno := q_shown_no (S := S) (j := j) (e := e) (v := v) (fun q => q.2 c36)
          exact ih (e + 1) _ _ (by omega) (by rw [hno]; exact hn) (by rw [hno]; exact hf)
        · refine g_aload_n hX dM_shown_39 rfl rfl (by first | rfl | exact g_rfr _) 40 rfl ?_
          refine g_get hX dM_shown_40 fM_48 (w_m hW) rfl 43 rfl ?_
          refine g_iload hX dM_shown_43 rfl 45 rfl ?_
          refine g_iald hX dM_shown_45 (w_ar hW _ (by decide)) (g_ix.nat (by omega) (by decide)) 46 rfl ?_
          refine g_if_ne hX dM_shown_46 53 49 (by decide) rfl (fun c46 => ?_) (fun c46 => ?_)
          · refine g_iconst hX dM_shown_53 (v := 0) (by decide) 54 rfl ?_
            refine g_istore hX (L' := [_, _, _, _, _, _, _, _, _]) dM_shown_54 (by decide) rfl 56 rfl ?_
            refine g_aload_n hX dM_shown_56 rfl rfl (by first | rfl | exact g_rfr _) 57 rfl ?_
            refine g_iload hX dM_shown_57 rfl 59 rfl ?_
            refine g_cV1r (wt := 0) hX (c_M_stage hX.tr hW ⟨hnp, hns, hne, hpar, hhome, hact⟩ hen) dM_shown_59 (w_m hW) kM_148 (g_rm.of hR (by decide) (by decide)) (by first | exact Nat.zero_le _ | (rw [hR]; decide)) (by first | exact Nat.zero_le _ | (rw [hR]; decide)) (by first | decide | (simp [Value.category])) 62 rfl ?_
            refine g_istore hX (L' := [_, _, _, _, _, _, _, _, _]) dM_shown_62 (by decide) rfl 64 rfl ?_
            refine g_iload hX dM_shown_64 rfl 66 rfl ?_
            refine g_if_eq hX dM_shown_66 78 69 (by decide) rfl (fun c66 => ?_) (fun c66 => ?_)
            · refine g_iload_n hX dM_shown_78 rfl rfl 79 rfl ?_
              refine g_istore_n hX (L' := [_, _, _, _, _, _, _, _, _]) dM_shown_79 rfl (by decide) rfl 80 rfl ?_
              refine g_iconst hX dM_shown_80 (v := 0) (by decide) 81 rfl ?_
              refine g_istore hX (L' := [_, _, _, _, _, _, _, _, _]) dM_shown_81 (by decide) rfl 83 rfl ?_
              refine g_iload hX dM_shown_83 rfl 85 rfl ?_
              refine g_if_le hX dM_shown_85 122 88 (by decide) rfl (fun c85 => ?_) (fun c85 => ?_)
              · refine g_iinc hX (L' := [_, _, _, _, _, _, _, _, _]) dM_shown_122 rfl (q_inc _) rfl 125 rfl ?_
                refine g_goto hX dM_shown_125 8 (by decide) ?_
                refine g_drop (L' := [_, _, _, _, _, _, none, _, _]) 6 rfl ?_
                refine g_drop (L' := [_, _, _, _, _, _, none, none, _]) 7 rfl ?_
                refine g_drop (L' := [_, _, _, _, _, _, none, none, none]) 8 rfl ?_
                have hye := q_shown_yes (S := S) (j := j) (e := e) (v := v) ⟨q_inj c25 hb1 hj, c36⟩
                have c85p : ¬ 0 < q_stage S e := Int32.not_lt.mpr c85
                exact ih (e + 1) _ _ (by omega) (by rw [hye]; show _ = ite _ _ _; rw [if_neg c85p]; simp_all [q_come]) (by rw [hye]; rfl)
              · refine g_iload hX dM_shown_88 rfl 90 rfl ?_
                refine g_iconst hX dM_shown_90 (v := 2) (by decide) 91 rfl ?_
                refine g_icmp_ne hX dM_shown_91 98 94 (by decide) rfl (fun c91 => ?_) (fun c91 => ?_)
                · refine g_aload_n hX dM_shown_98 rfl rfl (by first | rfl | exact g_rfr _) 99 rfl ?_
                  refine g_iload_n hX dM_shown_99 rfl rfl 100 rfl ?_
                  refine g_iload hX dM_shown_100 rfl 102 rfl ?_
                  refine g_cV2r (wt := 0) hX (c_M_part hX.tr hW ⟨hnp, hns, hne, hpar, hhome, hact⟩ hen (q_stage1 (by rcases hsc with q | q | q; (rw [q] at c85; exact absurd (by decide) c85); exact q; exact absurd q c91)) v) dM_shown_102 (w_m hW) kM_158 (g_rm.of hR (by decide) (by decide)) (by first | exact Nat.zero_le _ | (rw [hR]; decide)) (by first | exact Nat.zero_le _ | (rw [hR]; decide)) (by first | decide | (simp [Value.category])) 105 rfl ?_
                  refine g_istore hX (L' := [_, _, _, _, _, _, _, _, _]) dM_shown_105 (by decide) rfl 107 rfl ?_
                  refine g_iload hX dM_shown_107 rfl 109 rfl ?_
                  refine g_if_eq hX dM_shown_109 117 112 (by decide) rfl (fun c109 => ?_) (fun c109 => ?_)
                  · refine g_iload_n hX dM_shown_117 rfl rfl 118 rfl ?_
                    refine g_iload hX dM_shown_118 rfl 120 rfl ?_
                    refine g_isub hX dM_shown_120 121 rfl ?_
                    refine g_istore_n hX (L' := [_, _, _, _, _, _, _, _, _]) dM_shown_121 rfl (by decide) rfl 122 rfl ?_
                    refine g_iinc hX (L' := [_, _, _, _, _, _, _, _, _]) dM_shown_122 rfl (q_inc _) rfl 125 rfl ?_
                    refine g_goto hX dM_shown_125 8 (by decide) ?_
                    refine g_drop (L' := [_, _, _, _, _, _, none, _, _]) 6 rfl ?_
                    refine g_drop (L' := [_, _, _, _, _, _, none, none, _]) 7 rfl ?_
                    refine g_drop (L' := [_, _, _, _, _, _, none, none, none]) 8 rfl ?_
                    have hye := q_shown_yes (S := S) (j := j) (e := e) (v := v) ⟨q_inj c25 hb1 hj, c36⟩
                    have c85p : 0 < q_stage S e := Int32.not_le.mp c85
                    exact ih (e + 1) _ _ (by omega) (by rw [hye]; show _ = ite _ _ _; rw [if_pos c85p]; simp_all [q_come]) (by rw [hye]; rfl)
                  · refine g_iload hX dM_shown_112 rfl 114 rfl ?_
                    refine g_goto hX dM_shown_114 121 (by decide) ?_
                    refine g_istore_n hX (L' := [_, _, _, _, _, _, _, _, _]) dM_shown_121 rfl (by decide) rfl 122 rfl ?_
                    refine g_iinc hX (L' := [_, _, _, _, _, _, _, _, _]) dM_shown_122 rfl (q_inc _) rfl 125 rfl ?_
                    refine g_goto hX dM_shown_125 8 (by decide) ?_
                    refine g_drop (L' := [_, _, _, _, _, _, none, _, _]) 6 rfl ?_
                    refine g_drop (L' := [_, _, _, _, _, _, none, none, _]) 7 rfl ?_
                    refine g_drop (L' := [_, _, _, _, _, _, none, none, none]) 8 rfl ?_
                    have hye := q_shown_yes (S := S) (j := j) (e := e) (v := v) ⟨q_inj c25 hb1 hj, c36⟩
                    have c85p : 0 < q_stage S e := Int32.not_le.mp c85
                    exact ih (e + 1) _ _ (by omega) (by rw [hye]; show _ = ite _ _ _; rw [if_pos c85p]; simp_all [q_come]) (by rw [hye]; rfl)
                · refine g_iload_n hX dM_shown_94 rfl rfl 95 rfl ?_
                  refine g_goto hX dM_shown_95 105 (by decide) ?_
                  refine g_istore hX (L' := [_, _, _, _, _, _, _, _, _]) dM_shown_105 (by decide) rfl 107 rfl ?_
                  refine g_iload hX dM_shown_107 rfl 109 rfl ?_
                  refine g_if_eq hX dM_shown_109 117 112 (by decide) rfl (fun c109 => ?_) (fun c109 => ?_)
                  · refine g_iload_n hX dM_shown_117 rfl rfl 118 rfl ?_
                    refine g_iload hX dM_shown_118 rfl 120 rfl ?_
                    refine g_isub hX dM_shown_120 121 rfl ?_
                    refine g_istore_n hX (L' := [_, _, _, _, _, _, _, _, _]) dM_shown_121 rfl (by decide) rfl 122 rfl ?_
                    refine g_iinc hX (L' := [_, _, _, _, _, _, _, _, _]) dM_shown_122 rfl (q_inc _) rfl 125 rfl ?_
                    refine g_goto hX dM_shown_125 8 (by decide) ?_
                    refine g_drop (L' := [_, _, _, _, _, _, none, _, _]) 6 rfl ?_
                    refine g_drop (L' := [_, _, _, _, _, _, none, none, _]) 7 rfl ?_
                    refine g_drop (L' := [_, _, _, _, _, _, none, none, none]) 8 rfl ?_
                    have hye := q_shown_yes (S := S) (j := j) (e := e) (v := v) ⟨q_inj c25 hb1 hj, c36⟩
                    have c85p : 0 < q_stage S e := Int32.not_le.mp c85
                    exact ih (e + 1) _ _ (by omega) (by rw [hye]; show _ = ite _ _ _; rw [if_pos c85p]; simp_all [q_come]) (by rw [hye]; rfl)
                  · refine g_iload hX dM_shown_112 rfl 114 rfl ?_
                    refine g_goto hX dM_shown_114 121 (by decide) ?_
                    refine g_istore_n hX (L' := [_, _, _, _, _, _, _, _, _]) dM_shown_121 rfl (by decide) rfl 122 rfl ?_
                    refine g_iinc hX (L' := [_, _, _, _, _, _, _, _, _]) dM_shown_122 rfl (q_inc _) rfl 125 rfl ?_
                    refine g_goto hX dM_shown_125 8 (by decide) ?_
                    refine g_drop (L' := [_, _, _, _, _, _, none, _, _]) 6 rfl ?_
                    refine g_drop (L' := [_, _, _, _, _, _, none, none, _]) 7 rfl ?_
                    refine g_drop (L' := [_, _, _, _, _, _, none, none, none]) 8 rfl ?_
                    have hye := q_shown_yes (S := S) (j := j) (e := e) (v := v) ⟨q_inj c25 hb1 hj, c36⟩
                    have c85p : 0 < q_stage S e := Int32.not_le.mp c85
                    exact ih (e + 1) _ _ (by omega) (by rw [hye]; show _ = ite _ _ _; rw [if_pos c85p]; simp_all [q_come]) (by rw [hye]; rfl)
            · refine g_iload hX dM_shown_69 rfl 71 rfl ?_
              refine g_if_eq hX dM_shown_71 78 74 (by decide) rfl (fun c71 => ?_) (fun c71 => ?_)
              · refine g_iload_n hX dM_shown_78 rfl rfl 79 rfl ?_
                refine g_istore_n hX (L' := [_, _, _, _, _, _, _, _, _]) dM_shown_79 rfl (by decide) rfl 80 rfl ?_
                refine g_iconst hX dM_shown_80 (v := 0) (by decide) 81 rfl ?_
                refine g_istore hX (L' := [_, _, _, _, _, _, _, _, _]) dM_shown_81 (by decide) rfl 83 rfl ?_
                refine g_iload hX dM_shown_83 rfl 85 rfl ?_
                refine g_if_le hX dM_shown_85 122 88 (by decide) rfl (fun c85 => ?_) (fun c85 => ?_)
                · refine g_iinc hX (L' := [_, _, _, _, _, _, _, _, _]) dM_shown_122 rfl (q_inc _) rfl 125 rfl ?_
                  refine g_goto hX dM_shown_125 8 (by decide) ?_
                  refine g_drop (L' := [_, _, _, _, _, _, none, _, _]) 6 rfl ?_
                  refine g_drop (L' := [_, _, _, _, _, _, none, none, _]) 7 rfl ?_
                  refine g_drop (L' := [_, _, _, _, _, _, none, none, none]) 8 rfl ?_
                  have hye := q_shown_yes (S := S) (j := j) (e := e) (v := v) ⟨q_inj c25 hb1 hj, c36⟩
                  have c85p : ¬ 0 < q_stage S e := Int32.not_lt.mpr c85
                  exact ih (e + 1) _ _ (by omega) (by rw [hye]; show _ = ite _ _ _; rw [if_neg c85p]; simp_all [q_come]) (by rw [hye]; rfl)
                · refine g_iload hX dM_shown_88 rfl 90 rfl ?_
                  refine g_iconst hX dM_shown_90 (v := 2) (by decide) 91 rfl ?_
                  refine g_icmp_ne hX dM_shown_91 98 94 (by decide) rfl (fun c91 => ?_) (fun c91 => ?_)
                  · refine g_aload_n hX dM_shown_98 rfl rfl (by first | rfl | exact g_rfr _) 99 rfl ?_
                    refine g_iload_n hX dM_shown_99 rfl rfl 100 rfl ?_
                    refine g_iload hX dM_shown_100 rfl 102 rfl ?_
                    refine g_cV2r (wt := 0) hX (c_M_part hX.tr hW ⟨hnp, hns, hne, hpar, hhome, hact⟩ hen (q_stage1 (by rcases hsc with q | q | q; (rw [q] at c85; exact absurd (by decide) c85); exact q; exact absurd q c91)) v) dM_shown_102 (w_m hW) kM_158 (g_rm.of hR (by decide) (by decide)) (by first | exact Nat.zero_le _ | (rw [hR]; decide)) (by first | exact Nat.zero_le _ | (rw [hR]; decide)) (by first | decide | (simp [Value.category])) 105 rfl ?_
                    refine g_istore hX (L' := [_, _, _, _, _, _, _, _, _]) dM_shown_105 (by decide) rfl 107 rfl ?_
                    refine g_iload hX dM_shown_107 rfl 109 rfl ?_
                    refine g_if_eq hX dM_shown_109 117 112 (by decide) rfl (fun c109 => ?_) (fun c109 => ?_)
                    · refine g_iload_n hX dM_shown_117 rfl rfl 118 rfl ?_
                      refine g_iload hX dM_shown_118 rfl 120 rfl ?_
                      refine g_isub hX dM_shown_120 121 rfl ?_
                      refine g_istore_n hX (L' := [_, _, _, _, _, _, _, _, _]) dM_shown_121 rfl (by decide) rfl 122 rfl ?_
                      refine g_iinc hX (L' := [_, _, _, _, _, _, _, _, _]) dM_shown_122 rfl (q_inc _) rfl 125 rfl ?_
                      refine g_goto hX dM_shown_125 8 (by decide) ?_
                      refine g_drop (L' := [_, _, _, _, _, _, none, _, _]) 6 rfl ?_
                      refine g_drop (L' := [_, _, _, _, _, _, none, none, _]) 7 rfl ?_
                      refine g_drop (L' := [_, _, _, _, _, _, none, none, none]) 8 rfl ?_
                      have hye := q_shown_yes (S := S) (j := j) (e := e) (v := v) ⟨q_inj c25 hb1 hj, c36⟩
                      have c85p : 0 < q_stage S e := Int32.not_le.mp c85
                      exact ih (e + 1) _ _ (by omega) (by rw [hye]; show _ = ite _ _ _; rw [if_pos c85p]; simp_all [q_come]) (by rw [hye]; rfl)
                    · refine g_iload hX dM_shown_112 rfl 114 rfl ?_
                      refine g_goto hX dM_shown_114 121 (by decide) ?_
                      refine g_istore_n hX (L' := [_, _, _, _, _, _, _, _, _]) dM_shown_121 rfl (by decide) rfl 122 rfl ?_
                      refine g_iinc hX (L' := [_, _, _, _, _, _, _, _, _]) dM_shown_122 rfl (q_inc _) rfl 125 rfl ?_
                      refine g_goto hX dM_shown_125 8 (by decide) ?_
                      refine g_drop (L' := [_, _, _, _, _, _, none, _, _]) 6 rfl ?_
                      refine g_drop (L' := [_, _, _, _, _, _, none, none, _]) 7 rfl ?_
                      refine g_drop (L' := [_, _, _, _, _, _, none, none, none]) 8 rfl ?_
                      have hye := q_shown_yes (S := S) (j := j) (e := e) (v := v) ⟨q_inj c25 hb1 hj, c36⟩
                      have c85p : 0 < q_stage S e := Int32.not_le.mp c85
                      exact ih (e + 1) _ _ (by omega) (by rw [hye]; show _ = ite _ _ _; rw [if_pos c85p]; simp_all [q_come]) (by rw [hye]; rfl)
                  · refine g_iload_n hX dM_shown_94 rfl rfl 95 rfl ?_
                    refine g_goto hX dM_shown_95 105 (by decide) ?_
                    refine g_istore hX (L' := [_, _, _, _, _, _, _, _, _]) dM_shown_105 (by decide) rfl 107 rfl ?_
                    refine g_iload hX dM_shown_107 rfl 109 rfl ?_
                    refine g_if_eq hX dM_shown_109 117 112 (by decide) rfl (fun c109 => ?_) (fun c109 => ?_)
                    · refine g_iload_n hX dM_shown_117 rfl rfl 118 rfl ?_
                      refine g_iload hX dM_shown_118 rfl 120 rfl ?_
                      refine g_isub hX dM_shown_120 121 rfl ?_
                      refine g_istore_n hX (L' := [_, _, _, _, _, _, _, _, _]) dM_shown_121 rfl (by decide) rfl 122 rfl ?_
                      refine g_iinc hX (L' := [_, _, _, _, _, _, _, _, _]) dM_shown_122 rfl (q_inc _) rfl 125 rfl ?_
                      refine g_goto hX dM_shown_125 8 (by decide) ?_
                      refine g_drop (L' := [_, _, _, _, _, _, none, _, _]) 6 rfl ?_
                      refine g_drop (L' := [_, _, _, _, _, _, none, none, _]) 7 rfl ?_
                      refine g_drop (L' := [_, _, _, _, _, _, none, none, none]) 8 rfl ?_
                      have hye := q_shown_yes (S := S) (j := j) (e := e) (v := v) ⟨q_inj c25 hb1 hj, c36⟩
                      have c85p : 0 < q_stage S e := Int32.not_le.mp c85
                      exact ih (e + 1) _ _ (by omega) (by rw [hye]; show _ = ite _ _ _; rw [if_pos c85p]; simp_all [q_come]) (by rw [hye]; rfl)
                    · refine g_iload hX dM_shown_112 rfl 114 rfl ?_
                      refine g_goto hX dM_shown_114 121 (by decide) ?_
                      refine g_istore_n hX (L' := [_, _, _, _, _, _, _, _, _]) dM_shown_121 rfl (by decide) rfl 122 rfl ?_
                      refine g_iinc hX (L' := [_, _, _, _, _, _, _, _, _]) dM_shown_122 rfl (q_inc _) rfl 125 rfl ?_
                      refine g_goto hX dM_shown_125 8 (by decide) ?_
                      refine g_drop (L' := [_, _, _, _, _, _, none, _, _]) 6 rfl ?_
                      refine g_drop (L' := [_, _, _, _, _, _, none, none, _]) 7 rfl ?_
                      refine g_drop (L' := [_, _, _, _, _, _, none, none, none]) 8 rfl ?_
                      have hye := q_shown_yes (S := S) (j := j) (e := e) (v := v) ⟨q_inj c25 hb1 hj, c36⟩
                      have c85p : 0 < q_stage S e := Int32.not_le.mp c85
                      exact ih (e + 1) _ _ (by omega) (by rw [hye]; show _ = ite _ _ _; rw [if_pos c85p]; simp_all [q_come]) (by rw [hye]; rfl)
              · refine g_iconst hX dM_shown_74 (v := 0) (by decide) 75 rfl ?_
                refine g_goto hX dM_shown_75 79 (by decide) ?_
                refine g_istore_n hX (L' := [_, _, _, _, _, _, _, _, _]) dM_shown_79 rfl (by decide) rfl 80 rfl ?_
                refine g_iconst hX dM_shown_80 (v := 0) (by decide) 81 rfl ?_
                refine g_istore hX (L' := [_, _, _, _, _, _, _, _, _]) dM_shown_81 (by decide) rfl 83 rfl ?_
                refine g_iload hX dM_shown_83 rfl 85 rfl ?_
                refine g_if_le hX dM_shown_85 122 88 (by decide) rfl (fun c85 => ?_) (fun c85 => ?_)
                · refine g_iinc hX (L' := [_, _, _, _, _, _, _, _, _]) dM_shown_122 rfl (q_inc _) rfl 125 rfl ?_
                  refine g_goto hX dM_shown_125 8 (by decide) ?_
                  refine g_drop (L' := [_, _, _, _, _, _, none, _, _]) 6 rfl ?_
                  refine g_drop (L' := [_, _, _, _, _, _, none, none, _]) 7 rfl ?_
                  refine g_drop (L' := [_, _, _, _, _, _, none, none, none]) 8 rfl ?_
                  have hye := q_shown_yes (S := S) (j := j) (e := e) (v := v) ⟨q_inj c25 hb1 hj, c36⟩
                  have c85p : ¬ 0 < q_stage S e := Int32.not_lt.mpr c85
                  exact ih (e + 1) _ _ (by omega) (by rw [hye]; show _ = ite _ _ _; rw [if_neg c85p]; simp_all [q_come]) (by rw [hye]; rfl)
                · refine g_iload hX dM_shown_88 rfl 90 rfl ?_
                  refine g_iconst hX dM_shown_90 (v := 2) (by decide) 91 rfl ?_
                  refine g_icmp_ne hX dM_shown_91 98 94 (by decide) rfl (fun c91 => ?_) (fun c91 => ?_)
                  · refine g_aload_n hX dM_shown_98 rfl rfl (by first | rfl | exact g_rfr _) 99 rfl ?_
                    refine g_iload_n hX dM_shown_99 rfl rfl 100 rfl ?_
                    refine g_iload hX dM_shown_100 rfl 102 rfl ?_
                    refine g_cV2r (wt := 0) hX (c_M_part hX.tr hW ⟨hnp, hns, hne, hpar, hhome, hact⟩ hen (q_stage1 (by rcases hsc with q | q | q; (rw [q] at c85; exact absurd (by decide) c85); exact q; exact absurd q c91)) v) dM_shown_102 (w_m hW) kM_158 (g_rm.of hR (by decide) (by decide)) (by first | exact Nat.zero_le _ | (rw [hR]; decide)) (by first | exact Nat.zero_le _ | (rw [hR]; decide)) (by first | decide | (simp [Value.category])) 105 rfl ?_
                    refine g_istore hX (L' := [_, _, _, _, _, _, _, _, _]) dM_shown_105 (by decide) rfl 107 rfl ?_
                    refine g_iload hX dM_shown_107 rfl 109 rfl ?_
                    refine g_if_eq hX dM_shown_109 117 112 (by decide) rfl (fun c109 => ?_) (fun c109 => ?_)
                    · refine g_iload_n hX dM_shown_117 rfl rfl 118 rfl ?_
                      refine g_iload hX dM_shown_118 rfl 120 rfl ?_
                      refine g_isub hX dM_shown_120 121 rfl ?_
                      refine g_istore_n hX (L' := [_, _, _, _, _, _, _, _, _]) dM_shown_121 rfl (by decide) rfl 122 rfl ?_
                      refine g_iinc hX (L' := [_, _, _, _, _, _, _, _, _]) dM_shown_122 rfl (q_inc _) rfl 125 rfl ?_
                      refine g_goto hX dM_shown_125 8 (by decide) ?_
                      refine g_drop (L' := [_, _, _, _, _, _, none, _, _]) 6 rfl ?_
                      refine g_drop (L' := [_, _, _, _, _, _, none, none, _]) 7 rfl ?_
                      refine g_drop (L' := [_, _, _, _, _, _, none, none, none]) 8 rfl ?_
                      have hye := q_shown_yes (S := S) (j := j) (e := e) (v := v) ⟨q_inj c25 hb1 hj, c36⟩
                      have c85p : 0 < q_stage S e := Int32.not_le.mp c85
                      exact ih (e + 1) _ _ (by omega) (by rw [hye]; show _ = ite _ _ _; rw [if_pos c85p]; simp_all [q_come]) (by rw [hye]; rfl)
                    · refine g_iload hX dM_shown_112 rfl 114 rfl ?_
                      refine g_goto hX dM_shown_114 121 (by decide) ?_
                      refine g_istore_n hX (L' := [_, _, _, _, _, _, _, _, _]) dM_shown_121 rfl (by decide) rfl 122 rfl ?_
                      refine g_iinc hX (L' := [_, _, _, _, _, _, _, _, _]) dM_shown_122 rfl (q_inc _) rfl 125 rfl ?_
                      refine g_goto hX dM_shown_125 8 (by decide) ?_
                      refine g_drop (L' := [_, _, _, _, _, _, none, _, _]) 6 rfl ?_
                      refine g_drop (L' := [_, _, _, _, _, _, none, none, _]) 7 rfl ?_
                      refine g_drop (L' := [_, _, _, _, _, _, none, none, none]) 8 rfl ?_
                      have hye := q_shown_yes (S := S) (j := j) (e := e) (v := v) ⟨q_inj c25 hb1 hj, c36⟩
                      have c85p : 0 < q_stage S e := Int32.not_le.mp c85
                      exact ih (e + 1) _ _ (by omega) (by rw [hye]; show _ = ite _ _ _; rw [if_pos c85p]; simp_all [q_come]) (by rw [hye]; rfl)
                  · refine g_iload_n hX dM_shown_94 rfl rfl 95 rfl ?_
                    refine g_goto hX dM_shown_95 105 (by decide) ?_
                    refine g_istore hX (L' := [_, _, _, _, _, _, _, _, _]) dM_shown_105 (by decide) rfl 107 rfl ?_
                    refine g_iload hX dM_shown_107 rfl 109 rfl ?_
                    refine g_if_eq hX dM_shown_109 117 112 (by decide) rfl (fun c109 => ?_) (fun c109 => ?_)
                    · refine g_iload_n hX dM_shown_117 rfl rfl 118 rfl ?_
                      refine g_iload hX dM_shown_118 rfl 120 rfl ?_
                      refine g_isub hX dM_shown_120 121 rfl ?_
                      refine g_istore_n hX (L' := [_, _, _, _, _, _, _, _, _]) dM_shown_121 rfl (by decide) rfl 122 rfl ?_
                      refine g_iinc hX (L' := [_, _, _, _, _, _, _, _, _]) dM_shown_122 rfl (q_inc _) rfl 125 rfl ?_
                      refine g_goto hX dM_shown_125 8 (by decide) ?_
                      refine g_drop (L' := [_, _, _, _, _, _, none, _, _]) 6 rfl ?_
                      refine g_drop (L' := [_, _, _, _, _, _, none, none, _]) 7 rfl ?_
                      refine g_drop (L' := [_, _, _, _, _, _, none, none, none]) 8 rfl ?_
                      have hye := q_shown_yes (S := S) (j := j) (e := e) (v := v) ⟨q_inj c25 hb1 hj, c36⟩
                      have c85p : 0 < q_stage S e := Int32.not_le.mp c85
                      exact ih (e + 1) _ _ (by omega) (by rw [hye]; show _ = ite _ _ _; rw [if_pos c85p]; simp_all [q_come]) (by rw [hye]; rfl)
                    · refine g_iload hX dM_shown_112 rfl 114 rfl ?_
                      refine g_goto hX dM_shown_114 121 (by decide) ?_
                      refine g_istore_n hX (L' := [_, _, _, _, _, _, _, _, _]) dM_shown_121 rfl (by decide) rfl 122 rfl ?_
                      refine g_iinc hX (L' := [_, _, _, _, _, _, _, _, _]) dM_shown_122 rfl (q_inc _) rfl 125 rfl ?_
                      refine g_goto hX dM_shown_125 8 (by decide) ?_
                      refine g_drop (L' := [_, _, _, _, _, _, none, _, _]) 6 rfl ?_
                      refine g_drop (L' := [_, _, _, _, _, _, none, none, _]) 7 rfl ?_
                      refine g_drop (L' := [_, _, _, _, _, _, none, none, none]) 8 rfl ?_
                      have hye := q_shown_yes (S := S) (j := j) (e := e) (v := v) ⟨q_inj c25 hb1 hj, c36⟩
                      have c85p : 0 < q_stage S e := Int32.not_le.mp c85
                      exact ih (e + 1) _ _ (by omega) (by rw [hye]; show _ = ite _ _ _; rw [if_pos c85p]; simp_all [q_come]) (by rw [hye]; rfl)
          · refine g_iconst hX dM_shown_49 (v := 1) (by decide) 50 rfl ?_
            refine g_goto hX dM_shown_50 54 (by decide) ?_
            refine g_istore hX (L' := [_, _, _, _, _, _, _, _, _]) dM_shown_54 (by decide) rfl 56 rfl ?_
            refine g_aload_n hX dM_shown_56 rfl rfl (by first | rfl | exact g_rfr _) 57 rfl ?_
            refine g_iload hX dM_shown_57 rfl 59 rfl ?_
            refine g_cV1r (wt := 0) hX (c_M_stage hX.tr hW ⟨hnp, hns, hne, hpar, hhome, hact⟩ hen) dM_shown_59 (w_m hW) kM_148 (g_rm.of hR (by decide) (by decide)) (by first | exact Nat.zero_le _ | (rw [hR]; decide)) (by first | exact Nat.zero_le _ | (rw [hR]; decide)) (by first | decide | (simp [Value.category])) 62 rfl ?_
            refine g_istore hX (L' := [_, _, _, _, _, _, _, _, _]) dM_shown_62 (by decide) rfl 64 rfl ?_
            refine g_iload hX dM_shown_64 rfl 66 rfl ?_
            refine g_if_eq hX dM_shown_66 78 69 (by decide) rfl (fun c66 => ?_) (fun c66 => ?_)
            · refine g_iload_n hX dM_shown_78 rfl rfl 79 rfl ?_
              refine g_istore_n hX (L' := [_, _, _, _, _, _, _, _, _]) dM_shown_79 rfl (by decide) rfl 80 rfl ?_
              refine g_iconst hX dM_shown_80 (v := 0) (by decide) 81 rfl ?_
              refine g_istore hX (L' := [_, _, _, _, _, _, _, _, _]) dM_shown_81 (by decide) rfl 83 rfl ?_
              refine g_iload hX dM_shown_83 rfl 85 rfl ?_
              refine g_if_le hX dM_shown_85 122 88 (by decide) rfl (fun c85 => ?_) (fun c85 => ?_)
              · refine g_iinc hX (L' := [_, _, _, _, _, _, _, _, _]) dM_shown_122 rfl (q_inc _) rfl 125 rfl ?_
                refine g_goto hX dM_shown_125 8 (by decide) ?_
                refine g_drop (L' := [_, _, _, _, _, _, none, _, _]) 6 rfl ?_
                refine g_drop (L' := [_, _, _, _, _, _, none, none, _]) 7 rfl ?_
                refine g_drop (L' := [_, _, _, _, _, _, none, none, none]) 8 rfl ?_
                have hye := q_shown_yes (S := S) (j := j) (e := e) (v := v) ⟨q_inj c25 hb1 hj, c36⟩
                have c85p : ¬ 0 < q_stage S e := Int32.not_lt.mpr c85
                exact ih (e + 1) _ _ (by omega) (by rw [hye]; show _ = ite _ _ _; rw [if_neg c85p]; simp_all [q_come]) (by rw [hye]; rfl)
              · refine g_iload hX dM_shown_88 rfl 90 rfl ?_
                refine g_iconst hX dM_shown_90 (v := 2) (by decide) 91 rfl ?_
                refine g_icmp_ne hX dM_shown_91 98 94 (by decide) rfl (fun c91 => ?_) (fun c91 => ?_)
                · refine g_aload_n hX dM_shown_98 rfl rfl (by first | rfl | exact g_rfr _) 99 rfl ?_
                  refine g_iload_n hX dM_shown_99 rfl rfl 100 rfl ?_
                  refine g_iload hX dM_shown_100 rfl 102 rfl ?_
                  refine g_cV2r (wt := 0) hX (c_M_part hX.tr hW ⟨hnp, hns, hne, hpar, hhome, hact⟩ hen (q_stage1 (by rcases hsc with q | q | q; (rw [q] at c85; exact absurd (by decide) c85); exact q; exact absurd q c91)) v) dM_shown_102 (w_m hW) kM_158 (g_rm.of hR (by decide) (by decide)) (by first | exact Nat.zero_le _ | (rw [hR]; decide)) (by first | exact Nat.zero_le _ | (rw [hR]; decide)) (by first | decide | (simp [Value.category])) 105 rfl ?_
                  refine g_istore hX (L' := [_, _, _, _, _, _, _, _, _]) dM_shown_105 (by decide) rfl 107 rfl ?_
                  refine g_iload hX dM_shown_107 rfl 109 rfl ?_
                  refine g_if_eq hX dM_shown_109 117 112 (by decide) rfl (fun c109 => ?_) (fun c109 => ?_)
                  · refine g_iload_n hX dM_shown_117 rfl rfl 118 rfl ?_
                    refine g_iload hX dM_shown_118 rfl 120 rfl ?_
                    refine g_isub hX dM_shown_120 121 rfl ?_
                    refine g_istore_n hX (L' := [_, _, _, _, _, _, _, _, _]) dM_shown_121 rfl (by decide) rfl 122 rfl ?_
                    refine g_iinc hX (L' := [_, _, _, _, _, _, _, _, _]) dM_shown_122 rfl (q_inc _) rfl 125 rfl ?_
                    refine g_goto hX dM_shown_125 8 (by decide) ?_
                    refine g_drop (L' := [_, _, _, _, _, _, none, _, _]) 6 rfl ?_
                    refine g_drop (L' := [_, _, _, _, _, _, none, none, _]) 7 rfl ?_
                    refine g_drop (L' := [_, _, _, _, _, _, none, none, none]) 8 rfl ?_
                    have hye := q_shown_yes (S := S) (j := j) (e := e) (v := v) ⟨q_inj c25 hb1 hj, c36⟩
                    have c85p : 0 < q_stage S e := Int32.not_le.mp c85
                    exact ih (e + 1) _ _ (by omega) (by rw [hye]; show _ = ite _ _ _; rw [if_pos c85p]; simp_all [q_come]) (by rw [hye]; rfl)
                  · refine g_iload hX dM_shown_112 rfl 114 rfl ?_
                    refine g_goto hX dM_shown_114 121 (by decide) ?_
                    refine g_istore_n hX (L' := [_, _, _, _, _, _, _, _, _]) dM_shown_121 rfl (by decide) rfl 122 rfl ?_
                    refine g_iinc hX (L' := [_, _, _, _, _, _, _, _, _]) dM_shown_122 rfl (q_inc _) rfl 125 rfl ?_
                    refine g_goto hX dM_shown_125 8 (by decide) ?_
                    refine g_drop (L' := [_, _, _, _, _, _, none, _, _]) 6 rfl ?_
                    refine g_drop (L' := [_, _, _, _, _, _, none, none, _]) 7 rfl ?_
                    refine g_drop (L' := [_, _, _, _, _, _, none, none, none]) 8 rfl ?_
                    have hye := q_shown_yes (S := S) (j := j) (e := e) (v := v) ⟨q_inj c25 hb1 hj, c36⟩
                    have c85p : 0 < q_stage S e := Int32.not_le.mp c85
                    exact ih (e + 1) _ _ (by omega) (by rw [hye]; show _ = ite _ _ _; rw [if_pos c85p]; simp_all [q_come]) (by rw [hye]; rfl)
                · refine g_iload_n hX dM_shown_94 rfl rfl 95 rfl ?_
                  refine g_goto hX dM_shown_95 105 (by decide) ?_
                  refine g_istore hX (L' := [_, _, _, _, _, _, _, _, _]) dM_shown_105 (by decide) rfl 107 rfl ?_
                  refine g_iload hX dM_shown_107 rfl 109 rfl ?_
                  refine g_if_eq hX dM_shown_109 117 112 (by decide) rfl (fun c109 => ?_) (fun c109 => ?_)
                  · refine g_iload_n hX dM_shown_117 rfl rfl 118 rfl ?_
                    refine g_iload hX dM_shown_118 rfl 120 rfl ?_
                    refine g_isub hX dM_shown_120 121 rfl ?_
                    refine g_istore_n hX (L' := [_, _, _, _, _, _, _, _, _]) dM_shown_121 rfl (by decide) rfl 122 rfl ?_
                    refine g_iinc hX (L' := [_, _, _, _, _, _, _, _, _]) dM_shown_122 rfl (q_inc _) rfl 125 rfl ?_
                    refine g_goto hX dM_shown_125 8 (by decide) ?_
                    refine g_drop (L' := [_, _, _, _, _, _, none, _, _]) 6 rfl ?_
                    refine g_drop (L' := [_, _, _, _, _, _, none, none, _]) 7 rfl ?_
                    refine g_drop (L' := [_, _, _, _, _, _, none, none, none]) 8 rfl ?_
                    have hye := q_shown_yes (S := S) (j := j) (e := e) (v := v) ⟨q_inj c25 hb1 hj, c36⟩
                    have c85p : 0 < q_stage S e := Int32.not_le.mp c85
                    exact ih (e + 1) _ _ (by omega) (by rw [hye]; show _ = ite _ _ _; rw [if_pos c85p]; simp_all [q_come]) (by rw [hye]; rfl)
                  · refine g_iload hX dM_shown_112 rfl 114 rfl ?_
                    refine g_goto hX dM_shown_114 121 (by decide) ?_
                    refine g_istore_n hX (L' := [_, _, _, _, _, _, _, _, _]) dM_shown_121 rfl (by decide) rfl 122 rfl ?_
                    refine g_iinc hX (L' := [_, _, _, _, _, _, _, _, _]) dM_shown_122 rfl (q_inc _) rfl 125 rfl ?_
                    refine g_goto hX dM_shown_125 8 (by decide) ?_
                    refine g_drop (L' := [_, _, _, _, _, _, none, _, _]) 6 rfl ?_
                    refine g_drop (L' := [_, _, _, _, _, _, none, none, _]) 7 rfl ?_
                    refine g_drop (L' := [_, _, _, _, _, _, none, none, none]) 8 rfl ?_
                    have hye := q_shown_yes (S := S) (j := j) (e := e) (v := v) ⟨q_inj c25 hb1 hj, c36⟩
                    have c85p : 0 < q_stage S e := Int32.not_le.mp c85
                    exact ih (e + 1) _ _ (by omega) (by rw [hye]; show _ = ite _ _ _; rw [if_pos c85p]; simp_all [q_come]) (by rw [hye]; rfl)
            · refine g_iload hX dM_shown_69 rfl 71 rfl ?_
              refine g_if_eq hX dM_shown_71 78 74 (by decide) rfl (fun c71 => ?_) (fun c71 => ?_)
              · refine g_iload_n hX dM_shown_78 rfl rfl 79 rfl ?_
                refine g_istore_n hX (L' := [_, _, _, _, _, _, _, _, _]) dM_shown_79 rfl (by decide) rfl 80 rfl ?_
                refine g_iconst hX dM_shown_80 (v := 0) (by decide) 81 rfl ?_
                refine g_istore hX (L' := [_, _, _, _, _, _, _, _, _]) dM_shown_81 (by decide) rfl 83 rfl ?_
                refine g_iload hX dM_shown_83 rfl 85 rfl ?_
                refine g_if_le hX dM_shown_85 122 88 (by decide) rfl (fun c85 => ?_) (fun c85 => ?_)
                · refine g_iinc hX (L' := [_, _, _, _, _, _, _, _, _]) dM_shown_122 rfl (q_inc _) rfl 125 rfl ?_
                  refine g_goto hX dM_shown_125 8 (by decide) ?_
                  refine g_drop (L' := [_, _, _, _, _, _, none, _, _]) 6 rfl ?_
                  refine g_drop (L' := [_, _, _, _, _, _, none, none, _]) 7 rfl ?_
                  refine g_drop (L' := [_, _, _, _, _, _, none, none, none]) 8 rfl ?_
                  have hye := q_shown_yes (S := S) (j := j) (e := e) (v := v) ⟨q_inj c25 hb1 hj, c36⟩
                  have c85p : ¬ 0 < q_stage S e := Int32.not_lt.mpr c85
                  exact ih (e + 1) _ _ (by omega) (by rw [hye]; show _ = ite _ _ _; rw [if_neg c85p]; simp_all [q_come]) (by rw [hye]; rfl)
                · refine g_iload hX dM_shown_88 rfl 90 rfl ?_
                  refine g_iconst hX dM_shown_90 (v := 2) (by decide) 91 rfl ?_
                  refine g_icmp_ne hX dM_shown_91 98 94 (by decide) rfl (fun c91 => ?_) (fun c91 => ?_)
                  · refine g_aload_n hX dM_shown_98 rfl rfl (by first | rfl | exact g_rfr _) 99 rfl ?_
                    refine g_iload_n hX dM_shown_99 rfl rfl 100 rfl ?_
                    refine g_iload hX dM_shown_100 rfl 102 rfl ?_
                    refine g_cV2r (wt := 0) hX (c_M_part hX.tr hW ⟨hnp, hns, hne, hpar, hhome, hact⟩ hen (q_stage1 (by rcases hsc with q | q | q; (rw [q] at c85; exact absurd (by decide) c85); exact q; exact absurd q c91)) v) dM_shown_102 (w_m hW) kM_158 (g_rm.of hR (by decide) (by decide)) (by first | exact Nat.zero_le _ | (rw [hR]; decide)) (by first | exact Nat.zero_le _ | (rw [hR]; decide)) (by first | decide | (simp [Value.category])) 105 rfl ?_
                    refine g_istore hX (L' := [_, _, _, _, _, _, _, _, _]) dM_shown_105 (by decide) rfl 107 rfl ?_
                    refine g_iload hX dM_shown_107 rfl 109 rfl ?_
                    refine g_if_eq hX dM_shown_109 117 112 (by decide) rfl (fun c109 => ?_) (fun c109 => ?_)
                    · refine g_iload_n hX dM_shown_117 rfl rfl 118 rfl ?_
                      refine g_iload hX dM_shown_118 rfl 120 rfl ?_
                      refine g_isub hX dM_shown_120 121 rfl ?_
                      refine g_istore_n hX (L' := [_, _, _, _, _, _, _, _, _]) dM_shown_121 rfl (by decide) rfl 122 rfl ?_
                      refine g_iinc hX (L' := [_, _, _, _, _, _, _, _, _]) dM_shown_122 rfl (q_inc _) rfl 125 rfl ?_
                      refine g_goto hX dM_shown_125 8 (by decide) ?_
                      refine g_drop (L' := [_, _, _, _, _, _, none, _, _]) 6 rfl ?_
                      refine g_drop (L' := [_, _, _, _, _, _, none, none, _]) 7 rfl ?_
                      refine g_drop (L' := [_, _, _, _, _, _, none, none, none]) 8 rfl ?_
                      have hye := q_shown_yes (S := S) (j := j) (e := e) (v := v) ⟨q_inj c25 hb1 hj, c36⟩
                      have c85p : 0 < q_stage S e := Int32.not_le.mp c85
                      exact ih (e + 1) _ _ (by omega) (by rw [hye]; show _ = ite _ _ _; rw [if_pos c85p]; simp_all [q_come]) (by rw [hye]; rfl)
                    · refine g_iload hX dM_shown_112 rfl 114 rfl ?_
                      refine g_goto hX dM_shown_114 121 (by decide) ?_
                      refine g_istore_n hX (L' := [_, _, _, _, _, _, _, _, _]) dM_shown_121 rfl (by decide) rfl 122 rfl ?_
                      refine g_iinc hX (L' := [_, _, _, _, _, _, _, _, _]) dM_shown_122 rfl (q_inc _) rfl 125 rfl ?_
                      refine g_goto hX dM_shown_125 8 (by decide) ?_
                      refine g_drop (L' := [_, _, _, _, _, _, none, _, _]) 6 rfl ?_
                      refine g_drop (L' := [_, _, _, _, _, _, none, none, _]) 7 rfl ?_
                      refine g_drop (L' := [_, _, _, _, _, _, none, none, none]) 8 rfl ?_
                      have hye := q_shown_yes (S := S) (j := j) (e := e) (v := v) ⟨q_inj c25 hb1 hj, c36⟩
                      have c85p : 0 < q_stage S e := Int32.not_le.mp c85
                      exact ih (e + 1) _ _ (by omega) (by rw [hye]; show _ = ite _ _ _; rw [if_pos c85p]; simp_all [q_come]) (by rw [hye]; rfl)
                  · refine g_iload_n hX dM_shown_94 rfl rfl 95 rfl ?_
                    refine g_goto hX dM_shown_95 105 (by decide) ?_
                    refine g_istore hX (L' := [_, _, _, _, _, _, _, _, _]) dM_shown_105 (by decide) rfl 107 rfl ?_
                    refine g_iload hX dM_shown_107 rfl 109 rfl ?_
                    refine g_if_eq hX dM_shown_109 117 112 (by decide) rfl (fun c109 => ?_) (fun c109 => ?_)
                    · refine g_iload_n hX dM_shown_117 rfl rfl 118 rfl ?_
                      refine g_iload hX dM_shown_118 rfl 120 rfl ?_
                      refine g_isub hX dM_shown_120 121 rfl ?_
                      refine g_istore_n hX (L' := [_, _, _, _, _, _, _, _, _]) dM_shown_121 rfl (by decide) rfl 122 rfl ?_
                      refine g_iinc hX (L' := [_, _, _, _, _, _, _, _, _]) dM_shown_122 rfl (q_inc _) rfl 125 rfl ?_
                      refine g_goto hX dM_shown_125 8 (by decide) ?_
                      refine g_drop (L' := [_, _, _, _, _, _, none, _, _]) 6 rfl ?_
                      refine g_drop (L' := [_, _, _, _, _, _, none, none, _]) 7 rfl ?_
                      refine g_drop (L' := [_, _, _, _, _, _, none, none, none]) 8 rfl ?_
                      have hye := q_shown_yes (S := S) (j := j) (e := e) (v := v) ⟨q_inj c25 hb1 hj, c36⟩
                      have c85p : 0 < q_stage S e := Int32.not_le.mp c85
                      exact ih (e + 1) _ _ (by omega) (by rw [hye]; show _ = ite _ _ _; rw [if_pos c85p]; simp_all [q_come]) (by rw [hye]; rfl)
                    · refine g_iload hX dM_shown_112 rfl 114 rfl ?_
                      refine g_goto hX dM_shown_114 121 (by decide) ?_
                      refine g_istore_n hX (L' := [_, _, _, _, _, _, _, _, _]) dM_shown_121 rfl (by decide) rfl 122 rfl ?_
                      refine g_iinc hX (L' := [_, _, _, _, _, _, _, _, _]) dM_shown_122 rfl (q_inc _) rfl 125 rfl ?_
                      refine g_goto hX dM_shown_125 8 (by decide) ?_
                      refine g_drop (L' := [_, _, _, _, _, _, none, _, _]) 6 rfl ?_
                      refine g_drop (L' := [_, _, _, _, _, _, none, none, _]) 7 rfl ?_
                      refine g_drop (L' := [_, _, _, _, _, _, none, none, none]) 8 rfl ?_
                      have hye := q_shown_yes (S := S) (j := j) (e := e) (v := v) ⟨q_inj c25 hb1 hj, c36⟩
                      have c85p : 0 < q_stage S e := Int32.not_le.mp c85
                      exact ih (e + 1) _ _ (by omega) (by rw [hye]; show _ = ite _ _ _; rw [if_pos c85p]; simp_all [q_come]) (by rw [hye]; rfl)
              · refine g_iconst hX dM_shown_74 (v := 0) (by decide) 75 rfl ?_
                refine g_goto hX dM_shown_75 79 (by decide) ?_
                refine g_istore_n hX (L' := [_, _, _, _, _, _, _, _, _]) dM_shown_79 rfl (by decide) rfl 80 rfl ?_
                refine g_iconst hX dM_shown_80 (v := 0) (by decide) 81 rfl ?_
                refine g_istore hX (L' := [_, _, _, _, _, _, _, _, _]) dM_shown_81 (by decide) rfl 83 rfl ?_
                refine g_iload hX dM_shown_83 rfl 85 rfl ?_
                refine g_if_le hX dM_shown_85 122 88 (by decide) rfl (fun c85 => ?_) (fun c85 => ?_)
                · refine g_iinc hX (L' := [_, _, _, _, _, _, _, _, _]) dM_shown_122 rfl (q_inc _) rfl 125 rfl ?_
                  refine g_goto hX dM_shown_125 8 (by decide) ?_
                  refine g_drop (L' := [_, _, _, _, _, _, none, _, _]) 6 rfl ?_
                  refine g_drop (L' := [_, _, _, _, _, _, none, none, _]) 7 rfl ?_
                  refine g_drop (L' := [_, _, _, _, _, _, none, none, none]) 8 rfl ?_
                  have hye := q_shown_yes (S := S) (j := j) (e := e) (v := v) ⟨q_inj c25 hb1 hj, c36⟩
                  have c85p : ¬ 0 < q_stage S e := Int32.not_lt.mpr c85
                  exact ih (e + 1) _ _ (by omega) (by rw [hye]; show _ = ite _ _ _; rw [if_neg c85p]; simp_all [q_come]) (by rw [hye]; rfl)
                · refine g_iload hX dM_shown_88 rfl 90 rfl ?_
                  refine g_iconst hX dM_shown_90 (v := 2) (by decide) 91 rfl ?_
                  refine g_icmp_ne hX dM_shown_91 98 94 (by decide) rfl (fun c91 => ?_) (fun c91 => ?_)
                  · refine g_aload_n hX dM_shown_98 rfl rfl (by first | rfl | exact g_rfr _) 99 rfl ?_
                    refine g_iload_n hX dM_shown_99 rfl rfl 100 rfl ?_
                    refine g_iload hX dM_shown_100 rfl 102 rfl ?_
                    refine g_cV2r (wt := 0) hX (c_M_part hX.tr hW ⟨hnp, hns, hne, hpar, hhome, hact⟩ hen (q_stage1 (by rcases hsc with q | q | q; (rw [q] at c85; exact absurd (by decide) c85); exact q; exact absurd q c91)) v) dM_shown_102 (w_m hW) kM_158 (g_rm.of hR (by decide) (by decide)) (by first | exact Nat.zero_le _ | (rw [hR]; decide)) (by first | exact Nat.zero_le _ | (rw [hR]; decide)) (by first | decide | (simp [Value.category])) 105 rfl ?_
                    refine g_istore hX (L' := [_, _, _, _, _, _, _, _, _]) dM_shown_105 (by decide) rfl 107 rfl ?_
                    refine g_iload hX dM_shown_107 rfl 109 rfl ?_
                    refine g_if_eq hX dM_shown_109 117 112 (by decide) rfl (fun c109 => ?_) (fun c109 => ?_)
                    · refine g_iload_n hX dM_shown_117 rfl rfl 118 rfl ?_
                      refine g_iload hX dM_shown_118 rfl 120 rfl ?_
                      refine g_isub hX dM_shown_120 121 rfl ?_
                      refine g_istore_n hX (L' := [_, _, _, _, _, _, _, _, _]) dM_shown_121 rfl (by decide) rfl 122 rfl ?_
                      refine g_iinc hX (L' := [_, _, _, _, _, _, _, _, _]) dM_shown_122 rfl (q_inc _) rfl 125 rfl ?_
                      refine g_goto hX dM_shown_125 8 (by decide) ?_
                      refine g_drop (L' := [_, _, _, _, _, _, none, _, _]) 6 rfl ?_
                      refine g_drop (L' := [_, _, _, _, _, _, none, none, _]) 7 rfl ?_
                      refine g_drop (L' := [_, _, _, _, _, _, none, none, none]) 8 rfl ?_
                      have hye := q_shown_yes (S := S) (j := j) (e := e) (v := v) ⟨q_inj c25 hb1 hj, c36⟩
                      have c85p : 0 < q_stage S e := Int32.not_le.mp c85
                      exact ih (e + 1) _ _ (by omega) (by rw [hye]; show _ = ite _ _ _; rw [if_pos c85p]; simp_all [q_come]) (by rw [hye]; rfl)
                    · refine g_iload hX dM_shown_112 rfl 114 rfl ?_
                      refine g_goto hX dM_shown_114 121 (by decide) ?_
                      refine g_istore_n hX (L' := [_, _, _, _, _, _, _, _, _]) dM_shown_121 rfl (by decide) rfl 122 rfl ?_
                      refine g_iinc hX (L' := [_, _, _, _, _, _, _, _, _]) dM_shown_122 rfl (q_inc _) rfl 125 rfl ?_
                      refine g_goto hX dM_shown_125 8 (by decide) ?_
                      refine g_drop (L' := [_, _, _, _, _, _, none, _, _]) 6 rfl ?_
                      refine g_drop (L' := [_, _, _, _, _, _, none, none, _]) 7 rfl ?_
                      refine g_drop (L' := [_, _, _, _, _, _, none, none, none]) 8 rfl ?_
                      have hye := q_shown_yes (S := S) (j := j) (e := e) (v := v) ⟨q_inj c25 hb1 hj, c36⟩
                      have c85p : 0 < q_stage S e := Int32.not_le.mp c85
                      exact ih (e + 1) _ _ (by omega) (by rw [hye]; show _ = ite _ _ _; rw [if_pos c85p]; simp_all [q_come]) (by rw [hye]; rfl)
                  · refine g_iload_n hX dM_shown_94 rfl rfl 95 rfl ?_
                    refine g_goto hX dM_shown_95 105 (by decide) ?_
                    refine g_istore hX (L' := [_, _, _, _, _, _, _, _, _]) dM_shown_105 (by decide) rfl 107 rfl ?_
                    refine g_iload hX dM_shown_107 rfl 109 rfl ?_
                    refine g_if_eq hX dM_shown_109 117 112 (by decide) rfl (fun c109 => ?_) (fun c109 => ?_)
                    · refine g_iload_n hX dM_shown_117 rfl rfl 118 rfl ?_
                      refine g_iload hX dM_shown_118 rfl 120 rfl ?_
                      refine g_isub hX dM_shown_120 121 rfl ?_
                      refine g_istore_n hX (L' := [_, _, _, _, _, _, _, _, _]) dM_shown_121 rfl (by decide) rfl 122 rfl ?_
                      refine g_iinc hX (L' := [_, _, _, _, _, _, _, _, _]) dM_shown_122 rfl (q_inc _) rfl 125 rfl ?_
                      refine g_goto hX dM_shown_125 8 (by decide) ?_
                      refine g_drop (L' := [_, _, _, _, _, _, none, _, _]) 6 rfl ?_
                      refine g_drop (L' := [_, _, _, _, _, _, none, none, _]) 7 rfl ?_
                      refine g_drop (L' := [_, _, _, _, _, _, none, none, none]) 8 rfl ?_
                      have hye := q_shown_yes (S := S) (j := j) (e := e) (v := v) ⟨q_inj c25 hb1 hj, c36⟩
                      have c85p : 0 < q_stage S e := Int32.not_le.mp c85
                      exact ih (e + 1) _ _ (by omega) (by rw [hye]; show _ = ite _ _ _; rw [if_pos c85p]; simp_all [q_come]) (by rw [hye]; rfl)
                    · refine g_iload hX dM_shown_112 rfl 114 rfl ?_
                      refine g_goto hX dM_shown_114 121 (by decide) ?_
                      refine g_istore_n hX (L' := [_, _, _, _, _, _, _, _, _]) dM_shown_121 rfl (by decide) rfl 122 rfl ?_
                      refine g_iinc hX (L' := [_, _, _, _, _, _, _, _, _]) dM_shown_122 rfl (q_inc _) rfl 125 rfl ?_
                      refine g_goto hX dM_shown_125 8 (by decide) ?_
                      refine g_drop (L' := [_, _, _, _, _, _, none, _, _]) 6 rfl ?_
                      refine g_drop (L' := [_, _, _, _, _, _, none, none, _]) 7 rfl ?_
                      refine g_drop (L' := [_, _, _, _, _, _, none, none, none]) 8 rfl ?_
                      have hye := q_shown_yes (S := S) (j := j) (e := e) (v := v) ⟨q_inj c25 hb1 hj, c36⟩
                      have c85p : 0 < q_stage S e := Int32.not_le.mp c85
                      exact ih (e + 1) _ _ (by omega) (by rw [hye]; show _ = ite _ _ _; rw [if_pos c85p]; simp_all [q_come]) (by rw [hye]; rfl)
set_option maxRecDepth 100000 in
set_option maxHeartbeats 4000000 in
theorem c_M_shown {l : Launch} (hl : l.stackTraces = false) {E : g_E} {A : w_A} {S : q_S} {h : g_H} (hW : r_W E A S h) (hB : w_B S) {j : Nat} (hj : j < 2 ^ 31) (v : Int32)  : g_Rd l mM_shown 3 45 [.ref (A 30 0), .int (nI j), .int v] E h (some (.int (q_shown S j v (q_ne S)).1)) := by
  refine g_Rd.of hl (by decide) rfl (Nat.le_of_ble_eq_true rfl) ?_
  intro X hX hXl hR
  obtain ⟨hnp, hns, hne, hpar, hhome, hact⟩ := hB
  show g_Go E X _ h true 0 0 0 [some (.ref (A 30 0)), some (.int (nI j)), some (.int v), none, none, none, none, none, none] []
  refine g_iload_n hX dM_shown_0 rfl rfl 1 rfl ?_
  refine g_istore_n hX (L' := [_, _, _, _, _, _, _, _, _]) dM_shown_1 rfl (by decide) rfl 2 rfl ?_
  refine g_iconst hX dM_shown_2 (v := 1) (by decide) 3 rfl ?_
  refine g_istore hX (L' := [_, _, _, _, _, _, _, _, _]) dM_shown_3 (by decide) rfl 5 rfl ?_
  refine g_iconst hX dM_shown_5 (v := 0) (by decide) 6 rfl ?_
  refine g_istore hX (L' := [_, _, _, _, _, _, _, _, _]) dM_shown_6 (by decide) rfl 8 rfl ?_
  have hlp := lp_M_shown hW ⟨hnp, hns, hne, hpar, hhome, hact⟩ hX hR hj (v := v) (q_ne S) 0 v 1 (by omega) rfl rfl
  rw [nI_0] at hlp
  exact hlp
set_option maxRecDepth 100000 in
set_option maxHeartbeats 4000000 in
theorem c_M_valueNow {l : Launch} (hl : l.stackTraces = false) {E : g_E} {A : w_A} {S : q_S} {h : g_H} (hW : r_W E A S h) (hB : w_B S) {j pr : Nat} (hj : j < q_ns S) (hpr : pr < 7)  : g_Rd l mM_valueNow 4 65 [.ref (A 30 0), .int (nI j), .int (nI pr)] E h (some (.int (q_now S j pr))) := by
  refine g_Rd.of hl (by decide) rfl (Nat.le_of_ble_eq_true rfl) ?_
  intro X hX hXl hR
  obtain ⟨hnp, hns, hne, hpar, hhome, hact⟩ := hB
  show g_Go E X _ h true 0 0 0 [some (.ref (A 30 0)), some (.int (nI j)), some (.int (nI pr)), none] []
  refine g_aload_n hX dM_valueNow_0 rfl rfl (by first | rfl | exact g_rfr _) 1 rfl ?_
  refine g_iload_n hX dM_valueNow_1 rfl rfl 2 rfl ?_
  refine g_iload_n hX dM_valueNow_2 rfl rfl 3 rfl ?_
  refine g_cV2r (wt := 0) hX (c_M_value hX.tr hW ⟨hnp, hns, hne, hpar, hhome, hact⟩ hj hpr) dM_valueNow_3 (w_m hW) kM_107 (g_rm.of hR (by decide) (by decide)) (by first | exact Nat.zero_le _ | (rw [hR]; decide)) (by first | exact Nat.zero_le _ | (rw [hR]; decide)) (by first | decide | (simp [Value.category])) 6 rfl ?_
  refine g_istore_n hX (L' := [_, _, _, _]) dM_valueNow_6 rfl (by decide) rfl 7 rfl ?_
  refine g_aload_n hX dM_valueNow_7 rfl rfl (by first | rfl | exact g_rfr _) 8 rfl ?_
  refine g_get hX dM_valueNow_8 fM_16 (w_m hW) rfl 11 rfl ?_
  refine g_iload_n hX dM_valueNow_11 rfl rfl 12 rfl ?_
  refine g_iald hX dM_valueNow_12 (w_ar hW _ (by decide)) (g_ix.nat (by omega) (by decide)) 13 rfl ?_
  refine g_aload_n hX dM_valueNow_13 rfl rfl (by first | rfl | exact g_rfr _) 14 rfl ?_
  refine g_aload_n hX dM_valueNow_14 rfl rfl (by first | rfl | exact g_rfr _) 15 rfl ?_
  refine g_get hX dM_valueNow_15 fM_142 (w_m hW) rfl 18 rfl ?_
  refine g_cV1r (wt := 1) hX (c_M_slide hX.tr hW ⟨hnp, hns, hne, hpar, hhome, hact⟩ (nI (q_at S))) dM_valueNow_18 (w_m hW) kM_145 (g_rm.of hR (by decide) (by decide)) (by first | exact Nat.zero_le _ | (rw [hR]; decide)) (by first | exact Nat.zero_le _ | (rw [hR]; decide)) (by first | decide | (simp [Value.category])) 21 rfl ?_
  refine g_icmp_eq hX dM_valueNow_21 26 24 (by decide) rfl (fun c21 => ?_) (fun c21 => ?_)
  · refine g_iload_n hX dM_valueNow_26 rfl rfl 27 rfl ?_
    refine g_if_ne hX dM_valueNow_27 41 30 (by decide) rfl (fun c27 => ?_) (fun c27 => ?_)
    · refine g_iload_n hX dM_valueNow_41 rfl rfl 42 rfl ?_
      refine g_iconst hX dM_valueNow_42 (v := 1) (by decide) 43 rfl ?_
      refine g_icmp_ne hX dM_valueNow_43 57 46 (by decide) rfl (fun c43 => ?_) (fun c43 => ?_)
      · refine g_iload_n hX dM_valueNow_57 rfl rfl 58 rfl ?_
        refine g_iconst hX dM_valueNow_58 (v := 5) (by decide) 59 rfl ?_
        refine g_icmp_ne hX dM_valueNow_59 71 62 (by decide) rfl (fun c59 => ?_) (fun c59 => ?_)
        · refine g_iload_n hX dM_valueNow_71 rfl rfl 72 rfl ?_
          exact g_iret hX rfl rfl dM_valueNow_72 ⟨by unfold q_now; simp_all, rfl⟩ rfl (Nat.zero_le _) (Nat.zero_le _)
        · refine g_aload_n hX dM_valueNow_62 rfl rfl (by first | rfl | exact g_rfr _) 63 rfl ?_
          refine g_iload_n hX dM_valueNow_63 rfl rfl 64 rfl ?_
          refine g_iload_n hX dM_valueNow_64 rfl rfl 65 rfl ?_
          refine g_cV2r (wt := 0) hX (c_M_shown hX.tr hW ⟨hnp, hns, hne, hpar, hhome, hact⟩ (j := j) (by omega) (q_value S j pr)) dM_valueNow_65 (w_m hW) kM_164 (g_rm.of hR (by decide) (by decide)) (by first | exact Nat.zero_le _ | (rw [hR]; decide)) (by first | exact Nat.zero_le _ | (rw [hR]; decide)) (by first | decide | (simp [Value.category])) 68 rfl ?_
          refine g_goto hX dM_valueNow_68 72 (by decide) ?_
          exact g_iret hX rfl rfl dM_valueNow_72 ⟨by unfold q_now; simp_all, rfl⟩ rfl (Nat.zero_le _) (Nat.zero_le _)
      · refine g_iload_n hX dM_valueNow_46 rfl rfl 47 rfl ?_
        refine g_aload_n hX dM_valueNow_47 rfl rfl (by first | rfl | exact g_rfr _) 48 rfl ?_
        refine g_iload_n hX dM_valueNow_48 rfl rfl 49 rfl ?_
        refine g_iconst hX dM_valueNow_49 (v := 3) (by decide) 50 rfl ?_
        refine g_cV2r (wt := 1) hX (c_M_moved hX.tr hW ⟨hnp, hns, hne, hpar, hhome, hact⟩ (j := j) (by omega) 3) dM_valueNow_50 (w_m hW) kM_161 (g_rm.of hR (by decide) (by decide)) (by first | exact Nat.zero_le _ | (rw [hR]; decide)) (by first | exact Nat.zero_le _ | (rw [hR]; decide)) (by first | decide | (simp [Value.category])) 53 rfl ?_
        refine g_iadd hX dM_valueNow_53 54 rfl ?_
        refine g_goto hX dM_valueNow_54 72 (by decide) ?_
        exact g_iret hX rfl rfl dM_valueNow_72 ⟨by unfold q_now; simp_all, rfl⟩ rfl (Nat.zero_le _) (Nat.zero_le _)
    · refine g_iload_n hX dM_valueNow_30 rfl rfl 31 rfl ?_
      refine g_aload_n hX dM_valueNow_31 rfl rfl (by first | rfl | exact g_rfr _) 32 rfl ?_
      refine g_iload_n hX dM_valueNow_32 rfl rfl 33 rfl ?_
      refine g_iconst hX dM_valueNow_33 (v := 2) (by decide) 34 rfl ?_
      refine g_cV2r (wt := 1) hX (c_M_moved hX.tr hW ⟨hnp, hns, hne, hpar, hhome, hact⟩ (j := j) (by omega) 2) dM_valueNow_34 (w_m hW) kM_161 (g_rm.of hR (by decide) (by decide)) (by first | exact Nat.zero_le _ | (rw [hR]; decide)) (by first | exact Nat.zero_le _ | (rw [hR]; decide)) (by first | decide | (simp [Value.category])) 37 rfl ?_
      refine g_iadd hX dM_valueNow_37 38 rfl ?_
      refine g_goto hX dM_valueNow_38 72 (by decide) ?_
      exact g_iret hX rfl rfl dM_valueNow_72 ⟨by unfold q_now; simp_all, rfl⟩ rfl (Nat.zero_le _) (Nat.zero_le _)
  · refine g_iload_n hX dM_valueNow_24 rfl rfl 25 rfl ?_
    exact g_iret hX rfl rfl dM_valueNow_25 ⟨by unfold q_now; simp_all, rfl⟩ rfl (Nat.zero_le _) (Nat.zero_le _)
set_option maxRecDepth 100000 in
set_option maxHeartbeats 4000000 in
theorem c_M_covers {l : Launch} (hl : l.stackTraces = false) {E : g_E} {A : w_A} {S : q_S} {h : g_H} (hW : r_W E A S h) (hB : w_B S) {j : Nat} (hj : j < q_ns S) (x y : Int32)  : g_Rd l mM_covers 5 80 [.ref (A 30 0), .int (nI j), .int x, .int y] E h (some (.int (q_cov S j x y))) := by
  refine g_Rd.of hl (by decide) rfl (Nat.le_of_ble_eq_true rfl) ?_
  intro X hX hXl hR
  obtain ⟨hnp, hns, hne, hpar, hhome, hact⟩ := hB
  show g_Go E X _ h true 0 0 0 [some (.ref (A 30 0)), some (.int (nI j)), some (.int x), some (.int y), none, none] []
  refine g_aload_n hX dM_covers_0 rfl rfl (by first | rfl | exact g_rfr _) 1 rfl ?_
  refine g_iload_n hX dM_covers_1 rfl rfl 2 rfl ?_
  refine g_iconst hX dM_covers_2 (v := 0) (by decide) 3 rfl ?_
  refine g_cV2r (wt := 0) hX (c_M_valueNow hX.tr hW ⟨hnp, hns, hne, hpar, hhome, hact⟩ (pr := 0) hj (by decide)) dM_covers_3 (w_m hW) kM_167 (g_rm.of hR (by decide) (by decide)) (by first | exact Nat.zero_le _ | (rw [hR]; decide)) (by first | exact Nat.zero_le _ | (rw [hR]; decide)) (by first | decide | (simp [Value.category])) 6 rfl ?_
  refine g_istore hX (L' := [_, _, _, _, _, _]) dM_covers_6 (by decide) rfl 8 rfl ?_
  refine g_aload_n hX dM_covers_8 rfl rfl (by first | rfl | exact g_rfr _) 9 rfl ?_
  refine g_iload_n hX dM_covers_9 rfl rfl 10 rfl ?_
  refine g_iconst hX dM_covers_10 (v := 1) (by decide) 11 rfl ?_
  refine g_cV2r (wt := 0) hX (c_M_valueNow hX.tr hW ⟨hnp, hns, hne, hpar, hhome, hact⟩ (pr := 1) hj (by decide)) dM_covers_11 (w_m hW) kM_167 (g_rm.of hR (by decide) (by decide)) (by first | exact Nat.zero_le _ | (rw [hR]; decide)) (by first | exact Nat.zero_le _ | (rw [hR]; decide)) (by first | decide | (simp [Value.category])) 14 rfl ?_
  refine g_istore hX (L' := [_, _, _, _, _, _]) dM_covers_14 (by decide) rfl 16 rfl ?_
  refine g_iload_n hX dM_covers_16 rfl rfl 17 rfl ?_
  refine g_iload hX dM_covers_17 rfl 19 rfl ?_
  refine g_icmp_lt hX dM_covers_19 58 22 (by decide) rfl (fun c19 => ?_) (fun c19 => ?_)
  · refine g_iconst hX dM_covers_58 (v := 0) (by decide) 59 rfl ?_
    exact g_iret hX rfl rfl dM_covers_59 ⟨by unfold q_cov; rw [if_pos c19], rfl⟩ rfl (Nat.zero_le _) (Nat.zero_le _)
  · refine g_iload_n hX dM_covers_22 rfl rfl 23 rfl ?_
    refine g_iload hX dM_covers_23 rfl 25 rfl ?_
    refine g_aload_n hX dM_covers_25 rfl rfl (by first | rfl | exact g_rfr _) 26 rfl ?_
    refine g_iload_n hX dM_covers_26 rfl rfl 27 rfl ?_
    refine g_iconst hX dM_covers_27 (v := 2) (by decide) 28 rfl ?_
    refine g_cV2r (wt := 2) hX (c_M_value hX.tr hW ⟨hnp, hns, hne, hpar, hhome, hact⟩ (pr := 2) hj (by decide)) dM_covers_28 (w_m hW) kM_107 (g_rm.of hR (by decide) (by decide)) (by first | exact Nat.zero_le _ | (rw [hR]; decide)) (by first | exact Nat.zero_le _ | (rw [hR]; decide)) (by first | decide | (simp [Value.category])) 31 rfl ?_
    refine g_iadd hX dM_covers_31 32 rfl ?_
    refine g_icmp_ge hX dM_covers_32 58 35 (by decide) rfl (fun c32 => ?_) (fun c32 => ?_)
    · refine g_iconst hX dM_covers_58 (v := 0) (by decide) 59 rfl ?_
      exact g_iret hX rfl rfl dM_covers_59 ⟨by unfold q_cov; rw [if_neg c19, if_pos c32], rfl⟩ rfl (Nat.zero_le _) (Nat.zero_le _)
    · refine g_iload_n hX dM_covers_35 rfl rfl 36 rfl ?_
      refine g_iload hX dM_covers_36 rfl 38 rfl ?_
      refine g_icmp_lt hX dM_covers_38 58 41 (by decide) rfl (fun c38 => ?_) (fun c38 => ?_)
      · refine g_iconst hX dM_covers_58 (v := 0) (by decide) 59 rfl ?_
        exact g_iret hX rfl rfl dM_covers_59 ⟨by unfold q_cov; rw [if_neg c19, if_neg c32, if_pos c38], rfl⟩ rfl (Nat.zero_le _) (Nat.zero_le _)
      · refine g_iload_n hX dM_covers_41 rfl rfl 42 rfl ?_
        refine g_iload hX dM_covers_42 rfl 44 rfl ?_
        refine g_aload_n hX dM_covers_44 rfl rfl (by first | rfl | exact g_rfr _) 45 rfl ?_
        refine g_iload_n hX dM_covers_45 rfl rfl 46 rfl ?_
        refine g_iconst hX dM_covers_46 (v := 3) (by decide) 47 rfl ?_
        refine g_cV2r (wt := 2) hX (c_M_value hX.tr hW ⟨hnp, hns, hne, hpar, hhome, hact⟩ (pr := 3) hj (by decide)) dM_covers_47 (w_m hW) kM_107 (g_rm.of hR (by decide) (by decide)) (by first | exact Nat.zero_le _ | (rw [hR]; decide)) (by first | exact Nat.zero_le _ | (rw [hR]; decide)) (by first | decide | (simp [Value.category])) 50 rfl ?_
        refine g_iadd hX dM_covers_50 51 rfl ?_
        refine g_icmp_ge hX dM_covers_51 58 54 (by decide) rfl (fun c51 => ?_) (fun c51 => ?_)
        · refine g_iconst hX dM_covers_58 (v := 0) (by decide) 59 rfl ?_
          exact g_iret hX rfl rfl dM_covers_59 ⟨by unfold q_cov; rw [if_neg c19, if_neg c32, if_neg c38, if_pos c51], rfl⟩ rfl (Nat.zero_le _) (Nat.zero_le _)
        · refine g_iconst hX dM_covers_54 (v := 1) (by decide) 55 rfl ?_
          refine g_goto hX dM_covers_55 59 (by decide) ?_
          exact g_iret hX rfl rfl dM_covers_59 ⟨by unfold q_cov; rw [if_neg c19, if_neg c32, if_neg c38, if_neg c51], rfl⟩ rfl (Nat.zero_le _) (Nat.zero_le _)
end
section
set_option maxRecDepth 100000 in
set_option maxHeartbeats 4000000 in
theorem c_M_over {l : Launch} (hl : l.stackTraces = false) {E : g_E} {A : w_A} {S : q_S} {h : g_H} (hW : r_W E A S h) (hB : w_B S) {j : Nat} (hj : j < q_ns S) (c : Int32)  : g_Rd l mM_over 5 80 [.ref (A 30 0), .int (nI j), .int c] E h (some (.int (q_over S j c))) := by
  refine g_Rd.of hl (by decide) rfl (Nat.le_of_ble_eq_true rfl) ?_
  intro X hX hXl hR
  obtain ⟨hnp, hns, hne, hpar, hhome, hact⟩ := hB
  show g_Go E X _ h true 0 0 0 [some (.ref (A 30 0)), some (.int (nI j)), some (.int c), none, none, none, none] []
  refine g_aload_n hX dM_over_0 rfl rfl (by first | rfl | exact g_rfr _) 1 rfl ?_
  refine g_iload_n hX dM_over_1 rfl rfl 2 rfl ?_
  refine g_iconst hX dM_over_2 (v := 4) (by decide) 3 rfl ?_
  refine g_cV2r (wt := 0) hX (c_M_value hX.tr hW ⟨hnp, hns, hne, hpar, hhome, hact⟩ (pr := 4) hj (by decide)) dM_over_3 (w_m hW) kM_107 (g_rm.of hR (by decide) (by decide)) (by first | exact Nat.zero_le _ | (rw [hR]; decide)) (by first | exact Nat.zero_le _ | (rw [hR]; decide)) (by first | decide | (simp [Value.category])) 6 rfl ?_
  refine g_istore_n hX (L' := [_, _, _, _, _, _, _]) dM_over_6 rfl (by decide) rfl 7 rfl ?_
  refine g_aload_n hX dM_over_7 rfl rfl (by first | rfl | exact g_rfr _) 8 rfl ?_
  refine g_iload_n hX dM_over_8 rfl rfl 9 rfl ?_
  refine g_iconst hX dM_over_9 (v := 5) (by decide) 10 rfl ?_
  refine g_cV2r (wt := 0) hX (c_M_valueNow hX.tr hW ⟨hnp, hns, hne, hpar, hhome, hact⟩ (pr := 5) hj (by decide)) dM_over_10 (w_m hW) kM_167 (g_rm.of hR (by decide) (by decide)) (by first | exact Nat.zero_le _ | (rw [hR]; decide)) (by first | exact Nat.zero_le _ | (rw [hR]; decide)) (by first | decide | (simp [Value.category])) 13 rfl ?_
  refine g_istore hX (L' := [_, _, _, _, _, _, _]) dM_over_13 (by decide) rfl 15 rfl ?_
  refine g_iconst hX dM_over_15 (v := 0) (by decide) 16 rfl ?_
  refine g_istore hX (L' := [_, _, _, _, _, _, _]) dM_over_16 (by decide) rfl 18 rfl ?_
  refine g_iconst hX dM_over_18 (v := 0) (by decide) 19 rfl ?_
  refine g_istore hX (L' := [_, _, _, _, _, _, _]) dM_over_19 (by decide) rfl 21 rfl ?_
  refine g_iload hX dM_over_21 rfl 23 rfl ?_
  refine g_bipush hX dM_over_23 (v := 24) (by decide) 25 rfl ?_
  refine g_icmp_ge hX dM_over_25 63 28 (by decide) rfl (fun c25 => ?_) (fun c25 => ?_)
  · exact absurd c25 (by decide)
  · refine g_iload hX dM_over_28 rfl 30 rfl ?_
    refine g_iload_n hX dM_over_30 rfl rfl 31 rfl ?_
    refine g_iload hX dM_over_31 rfl 33 rfl ?_
    refine g_ishr hX dM_over_33 34 rfl ?_
    refine g_sipush hX dM_over_34 (v := 255) (by decide) 37 rfl ?_
    refine g_iand hX dM_over_37 38 rfl ?_
    refine g_iload_n hX dM_over_38 rfl rfl 39 rfl ?_
    refine g_iload hX dM_over_39 rfl 41 rfl ?_
    refine g_ishr hX dM_over_41 42 rfl ?_
    refine g_sipush hX dM_over_42 (v := 255) (by decide) 45 rfl ?_
    refine g_iand hX dM_over_45 46 rfl ?_
    refine g_iload hX dM_over_46 rfl 48 rfl ?_
    refine g_cS3r (wt := 1) hX (c_M_mixed hX.tr E h _ _ _) dM_over_48 kM_170 (g_rm.of hR (by decide) (by decide)) (by first | exact Nat.zero_le _ | (rw [hR]; decide)) (by first | exact Nat.zero_le _ | (rw [hR]; decide)) (by first | decide | (simp [Value.category])) 51 rfl ?_
    refine g_iload hX dM_over_51 rfl 53 rfl ?_
    refine g_ishl hX dM_over_53 54 rfl ?_
    refine g_ior hX dM_over_54 55 rfl ?_
    refine g_istore hX (L' := [_, _, _, _, _, _, _]) dM_over_55 (by decide) rfl 57 rfl ?_
    refine g_iinc hX (L' := [_, _, _, _, _, _, _]) dM_over_57 rfl (v := 8) (by decide) rfl 60 rfl ?_
    refine g_goto hX dM_over_60 21 (by decide) ?_
    refine g_iload hX dM_over_21 rfl 23 rfl ?_
    refine g_bipush hX dM_over_23 (v := 24) (by decide) 25 rfl ?_
    refine g_icmp_ge hX dM_over_25 63 28 (by decide) rfl (fun c25 => ?_) (fun c25 => ?_)
    · exact absurd c25 (by decide)
    · refine g_iload hX dM_over_28 rfl 30 rfl ?_
      refine g_iload_n hX dM_over_30 rfl rfl 31 rfl ?_
      refine g_iload hX dM_over_31 rfl 33 rfl ?_
      refine g_ishr hX dM_over_33 34 rfl ?_
      refine g_sipush hX dM_over_34 (v := 255) (by decide) 37 rfl ?_
      refine g_iand hX dM_over_37 38 rfl ?_
      refine g_iload_n hX dM_over_38 rfl rfl 39 rfl ?_
      refine g_iload hX dM_over_39 rfl 41 rfl ?_
      refine g_ishr hX dM_over_41 42 rfl ?_
      refine g_sipush hX dM_over_42 (v := 255) (by decide) 45 rfl ?_
      refine g_iand hX dM_over_45 46 rfl ?_
      refine g_iload hX dM_over_46 rfl 48 rfl ?_
      refine g_cS3r (wt := 1) hX (c_M_mixed hX.tr E h _ _ _) dM_over_48 kM_170 (g_rm.of hR (by decide) (by decide)) (by first | exact Nat.zero_le _ | (rw [hR]; decide)) (by first | exact Nat.zero_le _ | (rw [hR]; decide)) (by first | decide | (simp [Value.category])) 51 rfl ?_
      refine g_iload hX dM_over_51 rfl 53 rfl ?_
      refine g_ishl hX dM_over_53 54 rfl ?_
      refine g_ior hX dM_over_54 55 rfl ?_
      refine g_istore hX (L' := [_, _, _, _, _, _, _]) dM_over_55 (by decide) rfl 57 rfl ?_
      refine g_iinc hX (L' := [_, _, _, _, _, _, _]) dM_over_57 rfl (v := 16) (by decide) rfl 60 rfl ?_
      refine g_goto hX dM_over_60 21 (by decide) ?_
      refine g_iload hX dM_over_21 rfl 23 rfl ?_
      refine g_bipush hX dM_over_23 (v := 24) (by decide) 25 rfl ?_
      refine g_icmp_ge hX dM_over_25 63 28 (by decide) rfl (fun c25 => ?_) (fun c25 => ?_)
      · exact absurd c25 (by decide)
      · refine g_iload hX dM_over_28 rfl 30 rfl ?_
        refine g_iload_n hX dM_over_30 rfl rfl 31 rfl ?_
        refine g_iload hX dM_over_31 rfl 33 rfl ?_
        refine g_ishr hX dM_over_33 34 rfl ?_
        refine g_sipush hX dM_over_34 (v := 255) (by decide) 37 rfl ?_
        refine g_iand hX dM_over_37 38 rfl ?_
        refine g_iload_n hX dM_over_38 rfl rfl 39 rfl ?_
        refine g_iload hX dM_over_39 rfl 41 rfl ?_
        refine g_ishr hX dM_over_41 42 rfl ?_
        refine g_sipush hX dM_over_42 (v := 255) (by decide) 45 rfl ?_
        refine g_iand hX dM_over_45 46 rfl ?_
        refine g_iload hX dM_over_46 rfl 48 rfl ?_
        refine g_cS3r (wt := 1) hX (c_M_mixed hX.tr E h _ _ _) dM_over_48 kM_170 (g_rm.of hR (by decide) (by decide)) (by first | exact Nat.zero_le _ | (rw [hR]; decide)) (by first | exact Nat.zero_le _ | (rw [hR]; decide)) (by first | decide | (simp [Value.category])) 51 rfl ?_
        refine g_iload hX dM_over_51 rfl 53 rfl ?_
        refine g_ishl hX dM_over_53 54 rfl ?_
        refine g_ior hX dM_over_54 55 rfl ?_
        refine g_istore hX (L' := [_, _, _, _, _, _, _]) dM_over_55 (by decide) rfl 57 rfl ?_
        refine g_iinc hX (L' := [_, _, _, _, _, _, _]) dM_over_57 rfl (v := 24) (by decide) rfl 60 rfl ?_
        refine g_goto hX dM_over_60 21 (by decide) ?_
        refine g_iload hX dM_over_21 rfl 23 rfl ?_
        refine g_bipush hX dM_over_23 (v := 24) (by decide) 25 rfl ?_
        refine g_icmp_ge hX dM_over_25 63 28 (by decide) rfl (fun c25 => ?_) (fun c25 => ?_)
        · refine g_iload hX dM_over_63 rfl 65 rfl ?_
          exact g_iret hX rfl rfl dM_over_65 ⟨by rfl, rfl⟩ rfl (Nat.zero_le _) (Nat.zero_le _)
        · exact absurd (by decide) c25
set_option maxRecDepth 100000 in
set_option maxHeartbeats 4000000 in
theorem lp_M_painted {E : g_E} {A : w_A} {S : q_S} {h : g_H} (hW : r_W E A S h) (hB : w_B S) {X : g_X} (hX : g_ok E X mM_painted) (hR : X.R = { frames := 6, cells := 0, slots := 0, locals := 98 }) {p : Nat} (hp : p < 2 ^ 31) {all x y c0 : Int32} : ∀ (r s : Nat) (c : Int32), s + r = q_ns S → c = q_paint S p all x y c0 s →
    g_Go E X (true, fun r' h' => r' = .inr (some (.int (q_paint S p all x y c0 (q_ns S)))) ∧ h' = h) h true 0 0 7 [some (.ref (A 30 0)), some (.int (nI p)), some (.int all), some (.int x), some (.int y), some (.int c0), some (.int c), some (.int (nI s))] [] := by
  obtain ⟨hnp, hns, hne, hpar, hhome, hact⟩ := hB
  intro r
  induction r with
  | zero =>
    intro s c hs hc
    have he2 : s = q_ns S := by omega
    subst he2
    refine g_iload hX dM_painted_7 rfl 9 rfl ?_
    refine g_aload_n hX dM_painted_9 rfl rfl (by first | rfl | exact g_rfr _) 10 rfl ?_
    refine g_get hX dM_painted_10 fM_82 (w_m hW) rfl 13 rfl ?_
    refine g_icmp_ge hX dM_painted_13 74 16 (by decide) rfl (fun c13 => ?_) (fun c13 => ?_)
    · refine g_iload hX dM_painted_74 rfl 76 rfl ?_
      exact g_iret hX rfl rfl dM_painted_76 ⟨by rw [hc], rfl⟩ rfl (Nat.zero_le _) (Nat.zero_le _)
    · exact absurd (nI_le (Nat.le_refl _) (by omega)) c13
  | succ r ih =>
    intro s c hs hc
    have hsn : s < q_ns S := by omega
    have hhk := (hhome _ hsn).1
    have hb1 : q_home S s < 2 ^ 31 := by omega
    refine g_iload hX dM_painted_7 rfl 9 rfl ?_
    refine g_aload_n hX dM_painted_9 rfl rfl (by first | rfl | exact g_rfr _) 10 rfl ?_
    refine g_get hX dM_painted_10 fM_82 (w_m hW) rfl 13 rfl ?_
    refine g_icmp_ge hX dM_painted_13 74 16 (by decide) rfl (fun c13 => ?_) (fun c13 => ?_)
    · exact absurd c13 (nI_ge (by omega) (by omega))
    · refine g_aload_n hX dM_painted_16 rfl rfl (by first | rfl | exact g_rfr _) 17 rfl ?_
      refine g_get hX dM_painted_17 fM_16 (w_m hW) rfl 20 rfl ?_
      refine g_iload hX dM_painted_20 rfl 22 rfl ?_
      refine g_iald hX dM_painted_22 (w_ar hW _ (by decide)) (g_ix.nat (by omega) (by decide)) 23 rfl ?_
      refine g_iload_n hX dM_painted_23 rfl rfl 24 rfl ?_
      refine g_icmp_ne hX dM_painted_24 64 27 (by decide) rfl (fun c24 => ?_) (fun c24 => ?_)
      · refine g_iload hX dM_painted_64 rfl 66 rfl ?_
        refine g_istore hX (L' := [_, _, _, _, _, _, _, _]) dM_painted_66 (by decide) rfl 68 rfl ?_
        refine g_iinc hX (L' := [_, _, _, _, _, _, _, _]) dM_painted_68 rfl (q_inc _) rfl 71 rfl ?_
        refine g_goto hX dM_painted_71 7 (by decide) ?_
        exact ih (s + 1) _ (by omega) (by rw [q_paint, if_neg (fun q => c24 (congrArg nI q.1))]; exact hc)
      · refine g_iload_n hX dM_painted_27 rfl rfl 28 rfl ?_
        refine g_if_ne hX dM_painted_28 41 31 (by decide) rfl (fun c28 => ?_) (fun c28 => ?_)
        · refine g_aload_n hX dM_painted_41 rfl rfl (by first | rfl | exact g_rfr _) 42 rfl ?_
          refine g_iload hX dM_painted_42 rfl 44 rfl ?_
          refine g_iload_n hX dM_painted_44 rfl rfl 45 rfl ?_
          refine g_iload hX dM_painted_45 rfl 47 rfl ?_
          refine g_cV3r (wt := 0) hX (c_M_covers hX.tr hW ⟨hnp, hns, hne, hpar, hhome, hact⟩ hsn x y) dM_painted_47 (w_m hW) kM_174 (g_rm.of hR (by decide) (by decide)) (by first | exact Nat.zero_le _ | (rw [hR]; decide)) (by first | exact Nat.zero_le _ | (rw [hR]; decide)) (by first | decide | (simp [Value.category])) 50 rfl ?_
          refine g_if_eq hX dM_painted_50 64 53 (by decide) rfl (fun c50 => ?_) (fun c50 => ?_)
          · refine g_iload hX dM_painted_64 rfl 66 rfl ?_
            refine g_istore hX (L' := [_, _, _, _, _, _, _, _]) dM_painted_66 (by decide) rfl 68 rfl ?_
            refine g_iinc hX (L' := [_, _, _, _, _, _, _, _]) dM_painted_68 rfl (q_inc _) rfl 71 rfl ?_
            refine g_goto hX dM_painted_71 7 (by decide) ?_
            exact ih (s + 1) _ (by omega) (by rw [q_paint, if_neg (fun q => q.2.2 c50)]; exact hc)
          · refine g_aload_n hX dM_painted_53 rfl rfl (by first | rfl | exact g_rfr _) 54 rfl ?_
            refine g_iload hX dM_painted_54 rfl 56 rfl ?_
            refine g_iload hX dM_painted_56 rfl 58 rfl ?_
            refine g_cV2r (wt := 0) hX (c_M_over hX.tr hW ⟨hnp, hns, hne, hpar, hhome, hact⟩ hsn c) dM_painted_58 (w_m hW) kM_178 (g_rm.of hR (by decide) (by decide)) (by first | exact Nat.zero_le _ | (rw [hR]; decide)) (by first | exact Nat.zero_le _ | (rw [hR]; decide)) (by first | decide | (simp [Value.category])) 61 rfl ?_
            refine g_goto hX dM_painted_61 66 (by decide) ?_
            refine g_istore hX (L' := [_, _, _, _, _, _, _, _]) dM_painted_66 (by decide) rfl 68 rfl ?_
            refine g_iinc hX (L' := [_, _, _, _, _, _, _, _]) dM_painted_68 rfl (q_inc _) rfl 71 rfl ?_
            refine g_goto hX dM_painted_71 7 (by decide) ?_
            exact ih (s + 1) _ (by omega) (by rw [q_paint, if_pos ⟨q_inj c24 hb1 hp, fun q => absurd q c28, c50⟩, ← hc])
        · refine g_aload_n hX dM_painted_31 rfl rfl (by first | rfl | exact g_rfr _) 32 rfl ?_
          refine g_get hX dM_painted_32 fM_19 (w_m hW) rfl 35 rfl ?_
          refine g_iload hX dM_painted_35 rfl 37 rfl ?_
          refine g_iald hX dM_painted_37 (w_ar hW _ (by decide)) (g_ix.nat (by omega) (by decide)) 38 rfl ?_
          refine g_if_ge hX dM_painted_38 64 41 (by decide) rfl (fun c38 => ?_) (fun c38 => ?_)
          · refine g_iload hX dM_painted_64 rfl 66 rfl ?_
            refine g_istore hX (L' := [_, _, _, _, _, _, _, _]) dM_painted_66 (by decide) rfl 68 rfl ?_
            refine g_iinc hX (L' := [_, _, _, _, _, _, _, _]) dM_painted_68 rfl (q_inc _) rfl 71 rfl ?_
            refine g_goto hX dM_painted_71 7 (by decide) ?_
            exact ih (s + 1) _ (by omega) (by rw [q_paint, if_neg (fun q => absurd (q.2.1 c28) (Int32.not_lt.mpr c38))]; exact hc)
          · refine g_aload_n hX dM_painted_41 rfl rfl (by first | rfl | exact g_rfr _) 42 rfl ?_
            refine g_iload hX dM_painted_42 rfl 44 rfl ?_
            refine g_iload_n hX dM_painted_44 rfl rfl 45 rfl ?_
            refine g_iload hX dM_painted_45 rfl 47 rfl ?_
            refine g_cV3r (wt := 0) hX (c_M_covers hX.tr hW ⟨hnp, hns, hne, hpar, hhome, hact⟩ hsn x y) dM_painted_47 (w_m hW) kM_174 (g_rm.of hR (by decide) (by decide)) (by first | exact Nat.zero_le _ | (rw [hR]; decide)) (by first | exact Nat.zero_le _ | (rw [hR]; decide)) (by first | decide | (simp [Value.category])) 50 rfl ?_
            refine g_if_eq hX dM_painted_50 64 53 (by decide) rfl (fun c50 => ?_) (fun c50 => ?_)
            · refine g_iload hX dM_painted_64 rfl 66 rfl ?_
              refine g_istore hX (L' := [_, _, _, _, _, _, _, _]) dM_painted_66 (by decide) rfl 68 rfl ?_
              refine g_iinc hX (L' := [_, _, _, _, _, _, _, _]) dM_painted_68 rfl (q_inc _) rfl 71 rfl ?_
              refine g_goto hX dM_painted_71 7 (by decide) ?_
              exact ih (s + 1) _ (by omega) (by rw [q_paint, if_neg (fun q => q.2.2 c50)]; exact hc)
            · refine g_aload_n hX dM_painted_53 rfl rfl (by first | rfl | exact g_rfr _) 54 rfl ?_
              refine g_iload hX dM_painted_54 rfl 56 rfl ?_
              refine g_iload hX dM_painted_56 rfl 58 rfl ?_
              refine g_cV2r (wt := 0) hX (c_M_over hX.tr hW ⟨hnp, hns, hne, hpar, hhome, hact⟩ hsn c) dM_painted_58 (w_m hW) kM_178 (g_rm.of hR (by decide) (by decide)) (by first | exact Nat.zero_le _ | (rw [hR]; decide)) (by first | exact Nat.zero_le _ | (rw [hR]; decide)) (by first | decide | (simp [Value.category])) 61 rfl ?_
              refine g_goto hX dM_painted_61 66 (by decide) ?_
              refine g_istore hX (L' := [_, _, _, _, _, _, _, _]) dM_painted_66 (by decide) rfl 68 rfl ?_
              refine g_iinc hX (L' := [_, _, _, _, _, _, _, _]) dM_painted_68 rfl (q_inc _) rfl 71 rfl ?_
              refine g_goto hX dM_painted_71 7 (by decide) ?_
              exact ih (s + 1) _ (by omega) (by rw [q_paint, if_pos ⟨q_inj c24 hb1 hp, fun _ => Int32.not_le.mp c38, c50⟩, ← hc])
set_option maxRecDepth 100000 in
set_option maxHeartbeats 4000000 in
theorem c_M_painted {l : Launch} (hl : l.stackTraces = false) {E : g_E} {A : w_A} {S : q_S} {h : g_H} (hW : r_W E A S h) (hB : w_B S) {p : Nat} (hp : p < 2 ^ 31) (all x y c0 : Int32)  : g_Rd l mM_painted 6 98 [.ref (A 30 0), .int (nI p), .int all, .int x, .int y, .int c0] E h (some (.int (q_paint S p all x y c0 (q_ns S)))) := by
  refine g_Rd.of hl (by decide) rfl (Nat.le_of_ble_eq_true rfl) ?_
  intro X hX hXl hR
  obtain ⟨hnp, hns, hne, hpar, hhome, hact⟩ := hB
  show g_Go E X _ h true 0 0 0 [some (.ref (A 30 0)), some (.int (nI p)), some (.int all), some (.int x), some (.int y), some (.int c0), none, none] []
  refine g_iload hX dM_painted_0 rfl 2 rfl ?_
  refine g_istore hX (L' := [_, _, _, _, _, _, _, _]) dM_painted_2 (by decide) rfl 4 rfl ?_
  refine g_iconst hX dM_painted_4 (v := 0) (by decide) 5 rfl ?_
  refine g_istore hX (L' := [_, _, _, _, _, _, _, _]) dM_painted_5 (by decide) rfl 7 rfl ?_
  have hlp := lp_M_painted hW ⟨hnp, hns, hne, hpar, hhome, hact⟩ hX hR hp (all := all) (x := x) (y := y) (c0 := c0) (q_ns S) 0 c0 (by omega) rfl
  rw [nI_0] at hlp
  exact hlp
end
