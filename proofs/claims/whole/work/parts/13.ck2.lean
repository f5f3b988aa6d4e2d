/-! each row of each method holds: by program; written by wip/tools (chunks keep the memory small) -/
theorem ax_k2 : (ax_tab 2).all (ax_rca 2) = true := by decide +kernel
theorem ax_k3 : (ax_tab 3).all (ax_rca 3) = true := by decide +kernel
theorem ax_k10 : (ax_tab 10).all (ax_rca 10) = true := by decide +kernel
theorem ax_k12 : (ax_tab 12).all (ax_rca 12) = true := by decide +kernel
theorem ax_k16 : (ax_tab 16).all (ax_rca 16) = true := by decide +kernel
theorem ax_k17 : (ax_tab 17).all (ax_rca 17) = true := by decide +kernel
theorem ax_k18 : (ax_tab 18).all (ax_rca 18) = true := by decide +kernel
theorem ax_k21 : (ax_tab 21).all (ax_rca 21) = true := by decide +kernel
theorem ax_k24 : (ax_tab 24).all (ax_rca 24) = true := by decide +kernel
theorem ax_k28 : (ax_tab 28).all (ax_rca 28) = true := by decide +kernel
theorem ax_k29 : (ax_tab 29).all (ax_rca 29) = true := by decide +kernel
theorem ax_k30_0 : ax_t30_0.all (ax_rca 30) = true := by decide +kernel
theorem ax_k30_1 : ax_t30_1.all (ax_rca 30) = true := by decide +kernel
theorem ax_k30_2 : ax_t30_2.all (ax_rca 30) = true := by decide +kernel
theorem ax_k30 : (ax_tab 30).all (ax_rca 30) = true := by
  show ax_t30.all (ax_rca 30) = true
  unfold ax_t30
  simp only [List.all_append, ax_k30_0, ax_k30_1, ax_k30_2, Bool.and_self]
theorem ax_k34 : (ax_tab 34).all (ax_rca 34) = true := by decide +kernel
theorem ax_k36 : (ax_tab 36).all (ax_rca 36) = true := by decide +kernel
theorem ax_k37 : (ax_tab 37).all (ax_rca 37) = true := by decide +kernel
theorem ax_k41 : (ax_tab 41).all (ax_rca 41) = true := by decide +kernel
theorem ax_k49 : (ax_tab 49).all (ax_rca 49) = true := by decide +kernel
theorem ax_k51 : (ax_tab 51).all (ax_rca 51) = true := by decide +kernel
theorem ax_k53 : (ax_tab 53).all (ax_rca 53) = true := by decide +kernel
theorem ax_k55 : (ax_tab 55).all (ax_rca 55) = true := by decide +kernel
theorem ax_k57 : (ax_tab 57).all (ax_rca 57) = true := by decide +kernel
theorem ax_k59 : (ax_tab 59).all (ax_rca 59) = true := by decide +kernel
theorem ax_k63 : (ax_tab 63).all (ax_rca 63) = true := by decide +kernel
theorem ax_k66 : (ax_tab 66).all (ax_rca 66) = true := by decide +kernel
theorem ax_k69 : (ax_tab 69).all (ax_rca 69) = true := by decide +kernel
theorem ax_k75 : (ax_tab 75).all (ax_rca 75) = true := by decide +kernel
theorem ax_k76 : (ax_tab 76).all (ax_rca 76) = true := by decide +kernel
theorem ax_k77 : (ax_tab 77).all (ax_rca 77) = true := by decide +kernel
theorem ax_k83 : (ax_tab 83).all (ax_rca 83) = true := by decide +kernel
theorem ax_k85 : (ax_tab 85).all (ax_rca 85) = true := by decide +kernel
theorem ax_k88 : (ax_tab 88).all (ax_rca 88) = true := by decide +kernel
theorem ax_k92 : (ax_tab 92).all (ax_rca 92) = true := by decide +kernel
theorem ax_k94 : (ax_tab 94).all (ax_rca 94) = true := by decide +kernel
theorem ax_k97_0 : ax_t97_0.all (ax_rca 97) = true := by decide +kernel
theorem ax_k97_1 : ax_t97_1.all (ax_rca 97) = true := by decide +kernel
theorem ax_k97 : (ax_tab 97).all (ax_rca 97) = true := by
  show ax_t97.all (ax_rca 97) = true
  unfold ax_t97
  simp only [List.all_append, ax_k97_0, ax_k97_1, Bool.and_self]
theorem ax_k102 : (ax_tab 102).all (ax_rca 102) = true := by decide +kernel
theorem ax_k103 : (ax_tab 103).all (ax_rca 103) = true := by decide +kernel
theorem ax_k109_0 : ax_t109_0.all (ax_rca 109) = true := by decide +kernel
theorem ax_k109_1 : ax_t109_1.all (ax_rca 109) = true := by decide +kernel
theorem ax_k109 : (ax_tab 109).all (ax_rca 109) = true := by
  show ax_t109.all (ax_rca 109) = true
  unfold ax_t109
  simp only [List.all_append, ax_k109_0, ax_k109_1, Bool.and_self]
theorem ax_k110 : (ax_tab 110).all (ax_rca 110) = true := by decide +kernel
theorem ax_k116 : (ax_tab 116).all (ax_rca 116) = true := by decide +kernel
theorem ax_k118_0 : ax_t118_0.all (ax_rca 118) = true := by decide +kernel
theorem ax_k118_1 : ax_t118_1.all (ax_rca 118) = true := by decide +kernel
theorem ax_k118 : (ax_tab 118).all (ax_rca 118) = true := by
  show ax_t118.all (ax_rca 118) = true
  unfold ax_t118
  simp only [List.all_append, ax_k118_0, ax_k118_1, Bool.and_self]
theorem ax_k123 : (ax_tab 123).all (ax_rca 123) = true := by decide +kernel
theorem ax_k124_0 : ax_t124_0.all (ax_rca 124) = true := by decide +kernel
theorem ax_k124_1 : ax_t124_1.all (ax_rca 124) = true := by decide +kernel
theorem ax_k124 : (ax_tab 124).all (ax_rca 124) = true := by
  show ax_t124.all (ax_rca 124) = true
  unfold ax_t124
  simp only [List.all_append, ax_k124_0, ax_k124_1, Bool.and_self]
theorem ax_k130 : (ax_tab 130).all (ax_rca 130) = true := by decide +kernel
theorem ax_k131 : (ax_tab 131).all (ax_rca 131) = true := by decide +kernel
theorem ax_k136 : (ax_tab 136).all (ax_rca 136) = true := by decide +kernel
theorem ax_k137 : (ax_tab 137).all (ax_rca 137) = true := by decide +kernel
