theorem xw_IAE : Cond.initialized "java/lang/IllegalArgumentException" ∈ jl_T := jl_in (by decide +kernel) (by decide +kernel)
theorem xw_IOE : Cond.initialized "java/lang/IndexOutOfBoundsException" ∈ jl_T := jl_in (by decide +kernel) (by decide +kernel)
theorem xw_ISE : Cond.initialized "java/lang/IllegalStateException" ∈ jl_T := jl_in (by decide +kernel) (by decide +kernel)
theorem xw_NSE : Cond.initialized "java/util/NoSuchElementException" ∈ jl_T := jl_in (by decide +kernel) (by decide +kernel)
theorem zw_St_50 : ("SiteswapStudio", 50, "no such mode or period") ∈ jl_Z := by decide +kernel
theorem zw_St_59 : ("SiteswapStudio", 59, "a synchronous period is even") ∈ jl_Z := by decide +kernel
theorem zw_St_79 : ("SiteswapStudio", 79, "no such throw in this mode") ∈ jl_Z := by decide +kernel
theorem zw_St_91 : ("SiteswapStudio", 91, "the draft is not multiplex") ∈ jl_Z := by decide +kernel
theorem zw_St_97 : ("SiteswapStudio", 97, "the site has three throws") ∈ jl_Z := by decide +kernel
theorem zw_St_135 : ("SiteswapStudio", 135, "no such throw") ∈ jl_Z := by decide +kernel
theorem zw_St_236 : ("SiteswapStudio", 236, "no such site") ∈ jl_Z := by decide +kernel
theorem zw_St_238 : ("SiteswapStudio", 238, "no such height") ∈ jl_Z := by decide +kernel
theorem zw_St_240 : ("SiteswapStudio", 240, "no such slot") ∈ jl_Z := by decide +kernel
theorem zw_St_242 : ("SiteswapStudio", 242, "the draft is not plain") ∈ jl_Z := by decide +kernel
theorem zw_St_244 : ("SiteswapStudio", 244, "the draft is not valid") ∈ jl_Z := by decide +kernel
theorem tw_52 : (∀ w ∈ (vx_atS "SiteswapStudio" 52 "java/lang/IllegalArgumentException" ["java/lang/RuntimeException", "java/lang/Exception"]).filter goodWord, w ∈ jl_T) ∧ (∀ w ∈ (vx_atS "SiteswapStudio" 52 "java/lang/IllegalArgumentException" ["java/lang/RuntimeException", "java/lang/Exception"]).filter (fun w => !goodWord w), w ∈ jl_N) ∧ True := by
  have h1 : ∀ w ∈ (vx_atS "SiteswapStudio" 52 "java/lang/IllegalArgumentException" ["java/lang/RuntimeException", "java/lang/Exception"]).filter goodWord, w ∈ lw_tbl ∧ goodWord w = true := by decide +kernel
  have h2 : ∀ w ∈ (vx_atS "SiteswapStudio" 52 "java/lang/IllegalArgumentException" ["java/lang/RuntimeException", "java/lang/Exception"]).filter (fun w => !goodWord w), w ∈ lw_tbl ∧ jl_nw w = true := by decide +kernel
  exact ⟨fun w hw => jl_in (h1 w hw).1 (h1 w hw).2, fun w hw => jl_inN (h2 w hw).1 (h2 w hw).2, trivial⟩
theorem tw_93 : (∀ w ∈ (vx_atS "SiteswapStudio" 93 "java/lang/IllegalStateException" ["java/lang/RuntimeException", "java/lang/Exception"]).filter goodWord, w ∈ jl_T) ∧ (∀ w ∈ (vx_atS "SiteswapStudio" 93 "java/lang/IllegalStateException" ["java/lang/RuntimeException", "java/lang/Exception"]).filter (fun w => !goodWord w), w ∈ jl_N) ∧ True := by
  have h1 : ∀ w ∈ (vx_atS "SiteswapStudio" 93 "java/lang/IllegalStateException" ["java/lang/RuntimeException", "java/lang/Exception"]).filter goodWord, w ∈ lw_tbl ∧ goodWord w = true := by decide +kernel
  have h2 : ∀ w ∈ (vx_atS "SiteswapStudio" 93 "java/lang/IllegalStateException" ["java/lang/RuntimeException", "java/lang/Exception"]).filter (fun w => !goodWord w), w ∈ lw_tbl ∧ jl_nw w = true := by decide +kernel
  exact ⟨fun w hw => jl_in (h1 w hw).1 (h1 w hw).2, fun w hw => jl_inN (h2 w hw).1 (h2 w hw).2, trivial⟩
theorem tw_137 : (∀ w ∈ (vx_atS "SiteswapStudio" 137 "java/lang/IndexOutOfBoundsException" ["java/lang/RuntimeException", "java/lang/Exception"]).filter goodWord, w ∈ jl_T) ∧ (∀ w ∈ (vx_atS "SiteswapStudio" 137 "java/lang/IndexOutOfBoundsException" ["java/lang/RuntimeException", "java/lang/Exception"]).filter (fun w => !goodWord w), w ∈ jl_N) ∧ True := by
  have h1 : ∀ w ∈ (vx_atS "SiteswapStudio" 137 "java/lang/IndexOutOfBoundsException" ["java/lang/RuntimeException", "java/lang/Exception"]).filter goodWord, w ∈ lw_tbl ∧ goodWord w = true := by decide +kernel
  have h2 : ∀ w ∈ (vx_atS "SiteswapStudio" 137 "java/lang/IndexOutOfBoundsException" ["java/lang/RuntimeException", "java/lang/Exception"]).filter (fun w => !goodWord w), w ∈ lw_tbl ∧ jl_nw w = true := by decide +kernel
  exact ⟨fun w hw => jl_in (h1 w hw).1 (h1 w hw).2, fun w hw => jl_inN (h2 w hw).1 (h2 w hw).2, trivial⟩
theorem tg_52_48 : ∀ w ∈ Cond.classLink "SiteswapStudio" 48 "java/lang/IllegalArgumentException" :: Cond.initialized "java/lang/IllegalArgumentException" :: vx_atS "SiteswapStudio" 52 "java/lang/IllegalArgumentException" ["java/lang/RuntimeException", "java/lang/Exception"], vx_ot w = true := by decide +kernel
theorem tg_93_89 : ∀ w ∈ Cond.classLink "SiteswapStudio" 89 "java/lang/IllegalStateException" :: Cond.initialized "java/lang/IllegalStateException" :: vx_atS "SiteswapStudio" 93 "java/lang/IllegalStateException" ["java/lang/RuntimeException", "java/lang/Exception"], vx_ot w = true := by decide +kernel
theorem tg_137_133 : ∀ w ∈ Cond.classLink "SiteswapStudio" 133 "java/lang/IndexOutOfBoundsException" :: Cond.initialized "java/lang/IndexOutOfBoundsException" :: vx_atS "SiteswapStudio" 137 "java/lang/IndexOutOfBoundsException" ["java/lang/RuntimeException", "java/lang/Exception"], vx_ot w = true := by decide +kernel
