abbrev exn : List String := ["java/lang/RuntimeException", "java/lang/Exception"]
theorem atg_125 : ∀ w ∈ (vx_at0 "TemplateHouse" 125 "java/lang/IllegalArgumentException" exn).filter goodWord, w ∈ zT := fun w hw => List.mem_filter.mpr ⟨(show ∀ w ∈ (vx_at0 "TemplateHouse" 125 "java/lang/IllegalArgumentException" exn).filter goodWord, w ∈ lw_tbl by decide +kernel) w hw, (List.mem_filter.mp hw).2⟩
theorem atb_125 : ∀ w ∈ (vx_at0 "TemplateHouse" 125 "java/lang/IllegalArgumentException" exn).filter (fun w => !goodWord w), w ∈ zNest := by decide +kernel
theorem ato_125 : ∀ w ∈ vx_at0 "TemplateHouse" 125 "java/lang/IllegalArgumentException" exn, vx_ot w = true := by decide +kernel
theorem atg_196 : ∀ w ∈ (vx_at0 "TemplateHouse" 196 "java/lang/IllegalStateException" exn).filter goodWord, w ∈ zT := fun w hw => List.mem_filter.mpr ⟨(show ∀ w ∈ (vx_at0 "TemplateHouse" 196 "java/lang/IllegalStateException" exn).filter goodWord, w ∈ lw_tbl by decide +kernel) w hw, (List.mem_filter.mp hw).2⟩
theorem atb_196 : ∀ w ∈ (vx_at0 "TemplateHouse" 196 "java/lang/IllegalStateException" exn).filter (fun w => !goodWord w), w ∈ zNest := by decide +kernel
theorem ato_196 : ∀ w ∈ vx_at0 "TemplateHouse" 196 "java/lang/IllegalStateException" exn, vx_ot w = true := by decide +kernel
