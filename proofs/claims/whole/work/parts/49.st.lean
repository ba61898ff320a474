/-! statics by name -/
theorem sA_39 : Cond.fieldLink "java/util/ArrayList" 39 "java/util/ArrayList" "DEFAULTCAPACITY_EMPTY_ELEMENTDATA" "[Ljava/lang/Object;" ∈ g_wl := (g_in 90 (by decide +kernel) (by decide +kernel))
theorem sS_303 : Cond.fieldLink "SlideStage" 303 "SlideStage" "LEAST" "[I" ∈ g_wl := (g_in 581 (by decide +kernel) (by decide +kernel))
theorem sS_306 : Cond.fieldLink "SlideStage" 306 "SlideStage" "GREATEST" "[I" ∈ g_wl := (g_in 583 (by decide +kernel) (by decide +kernel))
