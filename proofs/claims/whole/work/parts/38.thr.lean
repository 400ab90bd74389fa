/-! the throws of the class -/
theorem zth_IA : zth RX11 99 103 "java/lang/IllegalArgumentException" := by
  refine ⟨by decide +kernel, zt3 (List.mem_of_getElem? (i := 229) (by decide +kernel)) (by decide +kernel), List.mem_filter.mpr ⟨by decide +kernel, by decide +kernel⟩, fun w hw => ?_, by decide +kernel, by decide +kernel⟩
  exact List.mem_filter.mpr ⟨(show ∀ w ∈ (vx_atS RX11 103 "java/lang/IllegalArgumentException" zNms).filter goodWord, w ∈ lw_tbl by decide +kernel) w hw, (List.mem_filter.mp hw).2⟩
theorem zth_IS : zth RX11 322 326 "java/lang/IllegalStateException" := by
  refine ⟨by decide +kernel, zt5 (List.mem_of_getElem? (i := 203) (by decide +kernel)) (by decide +kernel), List.mem_filter.mpr ⟨by decide +kernel, by decide +kernel⟩, fun w hw => ?_, by decide +kernel, by decide +kernel⟩
  exact List.mem_filter.mpr ⟨(show ∀ w ∈ (vx_atS RX11 326 "java/lang/IllegalStateException" zNms).filter goodWord, w ∈ lw_tbl by decide +kernel) w hw, (List.mem_filter.mp hw).2⟩
theorem zth_IO : zth RX11 516 520 "java/lang/IndexOutOfBoundsException" := by
  refine ⟨by decide +kernel, zt7 (List.mem_of_getElem? (i := 62) (by decide +kernel)) (by decide +kernel), List.mem_filter.mpr ⟨by decide +kernel, by decide +kernel⟩, fun w hw => ?_, by decide +kernel, by decide +kernel⟩
  exact List.mem_filter.mpr ⟨(show ∀ w ∈ (vx_atS RX11 520 "java/lang/IndexOutOfBoundsException" zNms).filter goodWord, w ∈ lw_tbl by decide +kernel) w hw, (List.mem_filter.mp hw).2⟩
