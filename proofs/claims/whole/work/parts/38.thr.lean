/-! the throws of the class -/
theorem zth_IA : zth RX11 103 107 "java/lang/IllegalArgumentException" := by
  refine ⟨by decide +kernel, zt3 (List.mem_of_getElem? (i := 228) (by decide +kernel)) (by decide +kernel), List.mem_filter.mpr ⟨by decide +kernel, by decide +kernel⟩, fun w hw => ?_, by decide +kernel, by decide +kernel⟩
  exact List.mem_filter.mpr ⟨(show ∀ w ∈ (vx_atS RX11 107 "java/lang/IllegalArgumentException" zNms).filter goodWord, w ∈ lw_tbl by decide +kernel) w hw, (List.mem_filter.mp hw).2⟩
theorem zth_IS : zth RX11 326 330 "java/lang/IllegalStateException" := by
  refine ⟨by decide +kernel, zt5 (List.mem_of_getElem? (i := 202) (by decide +kernel)) (by decide +kernel), List.mem_filter.mpr ⟨by decide +kernel, by decide +kernel⟩, fun w hw => ?_, by decide +kernel, by decide +kernel⟩
  exact List.mem_filter.mpr ⟨(show ∀ w ∈ (vx_atS RX11 330 "java/lang/IllegalStateException" zNms).filter goodWord, w ∈ lw_tbl by decide +kernel) w hw, (List.mem_filter.mp hw).2⟩
theorem zth_IO : zth RX11 520 524 "java/lang/IndexOutOfBoundsException" := by
  refine ⟨by decide +kernel, zt7 (List.mem_of_getElem? (i := 61) (by decide +kernel)) (by decide +kernel), List.mem_filter.mpr ⟨by decide +kernel, by decide +kernel⟩, fun w hw => ?_, by decide +kernel, by decide +kernel⟩
  exact List.mem_filter.mpr ⟨(show ∀ w ∈ (vx_atS RX11 524 "java/lang/IndexOutOfBoundsException" zNms).filter goodWord, w ∈ lw_tbl by decide +kernel) w hw, (List.mem_filter.mp hw).2⟩
