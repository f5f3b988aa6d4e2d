/-! each row of each method holds: by program; written by wip/tools (chunks keep the memory small) -/
theorem ax_k4 : (ax_tab 4).all (ax_rca 4) = true := by decide +kernel
theorem ax_k7 : (ax_tab 7).all (ax_rca 7) = true := by decide +kernel
theorem ax_k9 : (ax_tab 9).all (ax_rca 9) = true := by decide +kernel
theorem ax_k11 : (ax_tab 11).all (ax_rca 11) = true := by decide +kernel
theorem ax_k13 : (ax_tab 13).all (ax_rca 13) = true := by decide +kernel
theorem ax_k19 : (ax_tab 19).all (ax_rca 19) = true := by decide +kernel
theorem ax_k23 : (ax_tab 23).all (ax_rca 23) = true := by decide +kernel
theorem ax_k25 : (ax_tab 25).all (ax_rca 25) = true := by decide +kernel
theorem ax_k26 : (ax_tab 26).all (ax_rca 26) = true := by decide +kernel
theorem ax_k32 : (ax_tab 32).all (ax_rca 32) = true := by decide +kernel
theorem ax_k35 : (ax_tab 35).all (ax_rca 35) = true := by decide +kernel
theorem ax_k38 : (ax_tab 38).all (ax_rca 38) = true := by decide +kernel
theorem ax_k40 : (ax_tab 40).all (ax_rca 40) = true := by decide +kernel
theorem ax_k42 : (ax_tab 42).all (ax_rca 42) = true := by decide +kernel
theorem ax_k43 : (ax_tab 43).all (ax_rca 43) = true := by decide +kernel
theorem ax_k45_0 : ax_t45_0.all (ax_rca 45) = true := by decide +kernel
theorem ax_k45_1 : ax_t45_1.all (ax_rca 45) = true := by decide +kernel
theorem ax_k45 : (ax_tab 45).all (ax_rca 45) = true := by
  show ax_t45.all (ax_rca 45) = true
  unfold ax_t45
  simp only [List.all_append, ax_k45_0, ax_k45_1, Bool.and_self]
theorem ax_k46 : (ax_tab 46).all (ax_rca 46) = true := by decide +kernel
theorem ax_k48 : (ax_tab 48).all (ax_rca 48) = true := by decide +kernel
theorem ax_k50_0 : ax_t50_0.all (ax_rca 50) = true := by decide +kernel
theorem ax_k50_1 : ax_t50_1.all (ax_rca 50) = true := by decide +kernel
theorem ax_k50 : (ax_tab 50).all (ax_rca 50) = true := by
  show ax_t50.all (ax_rca 50) = true
  unfold ax_t50
  simp only [List.all_append, ax_k50_0, ax_k50_1, Bool.and_self]
theorem ax_k54 : (ax_tab 54).all (ax_rca 54) = true := by decide +kernel
theorem ax_k58 : (ax_tab 58).all (ax_rca 58) = true := by decide +kernel
theorem ax_k64 : (ax_tab 64).all (ax_rca 64) = true := by decide +kernel
theorem ax_k65 : (ax_tab 65).all (ax_rca 65) = true := by decide +kernel
theorem ax_k67 : (ax_tab 67).all (ax_rca 67) = true := by decide +kernel
theorem ax_k70 : (ax_tab 70).all (ax_rca 70) = true := by decide +kernel
theorem ax_k71 : (ax_tab 71).all (ax_rca 71) = true := by decide +kernel
theorem ax_k79 : (ax_tab 79).all (ax_rca 79) = true := by decide +kernel
theorem ax_k80 : (ax_tab 80).all (ax_rca 80) = true := by decide +kernel
theorem ax_k84 : (ax_tab 84).all (ax_rca 84) = true := by decide +kernel
theorem ax_k87 : (ax_tab 87).all (ax_rca 87) = true := by decide +kernel
theorem ax_k91_0 : ax_t91_0.all (ax_rca 91) = true := by decide +kernel
theorem ax_k91_1 : ax_t91_1.all (ax_rca 91) = true := by decide +kernel
theorem ax_k91 : (ax_tab 91).all (ax_rca 91) = true := by
  show ax_t91.all (ax_rca 91) = true
  unfold ax_t91
  simp only [List.all_append, ax_k91_0, ax_k91_1, Bool.and_self]
theorem ax_k93 : (ax_tab 93).all (ax_rca 93) = true := by decide +kernel
theorem ax_k95 : (ax_tab 95).all (ax_rca 95) = true := by decide +kernel
theorem ax_k98 : (ax_tab 98).all (ax_rca 98) = true := by decide +kernel
theorem ax_k105 : (ax_tab 105).all (ax_rca 105) = true := by decide +kernel
theorem ax_k106_0 : ax_t106_0.all (ax_rca 106) = true := by decide +kernel
theorem ax_k106_1 : ax_t106_1.all (ax_rca 106) = true := by decide +kernel
theorem ax_k106_2 : ax_t106_2.all (ax_rca 106) = true := by decide +kernel
theorem ax_k106 : (ax_tab 106).all (ax_rca 106) = true := by
  show ax_t106.all (ax_rca 106) = true
  unfold ax_t106
  simp only [List.all_append, ax_k106_0, ax_k106_1, ax_k106_2, Bool.and_self]
theorem ax_k107_0 : ax_t107_0.all (ax_rca 107) = true := by decide +kernel
theorem ax_k107_1 : ax_t107_1.all (ax_rca 107) = true := by decide +kernel
theorem ax_k107 : (ax_tab 107).all (ax_rca 107) = true := by
  show ax_t107.all (ax_rca 107) = true
  unfold ax_t107
  simp only [List.all_append, ax_k107_0, ax_k107_1, Bool.and_self]
theorem ax_k114 : (ax_tab 114).all (ax_rca 114) = true := by decide +kernel
theorem ax_k117 : (ax_tab 117).all (ax_rca 117) = true := by decide +kernel
theorem ax_k122 : (ax_tab 122).all (ax_rca 122) = true := by decide +kernel
theorem ax_k125 : (ax_tab 125).all (ax_rca 125) = true := by decide +kernel
theorem ax_k126_0 : ax_t126_0.all (ax_rca 126) = true := by decide +kernel
theorem ax_k126_1 : ax_t126_1.all (ax_rca 126) = true := by decide +kernel
theorem ax_k126 : (ax_tab 126).all (ax_rca 126) = true := by
  show ax_t126.all (ax_rca 126) = true
  unfold ax_t126
  simp only [List.all_append, ax_k126_0, ax_k126_1, Bool.and_self]
theorem ax_k127 : (ax_tab 127).all (ax_rca 127) = true := by decide +kernel
theorem ax_k128 : (ax_tab 128).all (ax_rca 128) = true := by decide +kernel
theorem ax_k132 : (ax_tab 132).all (ax_rca 132) = true := by decide +kernel
