/-! each row of each method holds: by program; written by wip/tools (chunks keep the memory small) -/
theorem ax_k0_0 : ax_t0_0.all (ax_rca 0) = true := by decide +kernel
theorem ax_k0_1 : ax_t0_1.all (ax_rca 0) = true := by decide +kernel
theorem ax_k0_2 : ax_t0_2.all (ax_rca 0) = true := by decide +kernel
theorem ax_k0_3 : ax_t0_3.all (ax_rca 0) = true := by decide +kernel
theorem ax_k0_4 : ax_t0_4.all (ax_rca 0) = true := by decide +kernel
theorem ax_k0_5 : ax_t0_5.all (ax_rca 0) = true := by decide +kernel
theorem ax_k0_6 : ax_t0_6.all (ax_rca 0) = true := by decide +kernel
theorem ax_k0_7 : ax_t0_7.all (ax_rca 0) = true := by decide +kernel
theorem ax_k0_8 : ax_t0_8.all (ax_rca 0) = true := by decide +kernel
theorem ax_k0_9 : ax_t0_9.all (ax_rca 0) = true := by decide +kernel
theorem ax_k0_10 : ax_t0_10.all (ax_rca 0) = true := by decide +kernel
theorem ax_k0_11 : ax_t0_11.all (ax_rca 0) = true := by decide +kernel
theorem ax_k0 : (ax_tab 0).all (ax_rca 0) = true := by
  show ax_t0.all (ax_rca 0) = true
  unfold ax_t0
  simp only [List.all_append, ax_k0_0, ax_k0_1, ax_k0_2, ax_k0_3, ax_k0_4, ax_k0_5, ax_k0_6, ax_k0_7, ax_k0_8, ax_k0_9, ax_k0_10, ax_k0_11, Bool.and_self]
