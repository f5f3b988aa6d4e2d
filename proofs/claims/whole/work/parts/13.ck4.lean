/-! each row of each method holds: by program; written by wip/tools (chunks keep the memory small) -/
theorem ax_k1 : (ax_tab 1).all (ax_rca 1) = true := by decide +kernel
theorem ax_k5 : (ax_tab 5).all (ax_rca 5) = true := by decide +kernel
theorem ax_k6 : (ax_tab 6).all (ax_rca 6) = true := by decide +kernel
theorem ax_k8 : (ax_tab 8).all (ax_rca 8) = true := by decide +kernel
theorem ax_k14 : (ax_tab 14).all (ax_rca 14) = true := by decide +kernel
theorem ax_k15 : (ax_tab 15).all (ax_rca 15) = true := by decide +kernel
theorem ax_k20 : (ax_tab 20).all (ax_rca 20) = true := by decide +kernel
theorem ax_k22 : (ax_tab 22).all (ax_rca 22) = true := by decide +kernel
theorem ax_k27 : (ax_tab 27).all (ax_rca 27) = true := by decide +kernel
theorem ax_k31 : (ax_tab 31).all (ax_rca 31) = true := by decide +kernel
theorem ax_k33 : (ax_tab 33).all (ax_rca 33) = true := by decide +kernel
theorem ax_k39 : (ax_tab 39).all (ax_rca 39) = true := by decide +kernel
theorem ax_k44 : (ax_tab 44).all (ax_rca 44) = true := by decide +kernel
theorem ax_k47 : (ax_tab 47).all (ax_rca 47) = true := by decide +kernel
theorem ax_k52 : (ax_tab 52).all (ax_rca 52) = true := by decide +kernel
theorem ax_k56 : (ax_tab 56).all (ax_rca 56) = true := by decide +kernel
theorem ax_k60 : (ax_tab 60).all (ax_rca 60) = true := by decide +kernel
theorem ax_k61_0 : ax_t61_0.all (ax_rca 61) = true := by decide +kernel
theorem ax_k61_1 : ax_t61_1.all (ax_rca 61) = true := by decide +kernel
theorem ax_k61 : (ax_tab 61).all (ax_rca 61) = true := by
  show ax_t61.all (ax_rca 61) = true
  unfold ax_t61
  simp only [List.all_append, ax_k61_0, ax_k61_1, Bool.and_self]
theorem ax_k62 : (ax_tab 62).all (ax_rca 62) = true := by decide +kernel
theorem ax_k68 : (ax_tab 68).all (ax_rca 68) = true := by decide +kernel
theorem ax_k72 : (ax_tab 72).all (ax_rca 72) = true := by decide +kernel
theorem ax_k73 : (ax_tab 73).all (ax_rca 73) = true := by decide +kernel
theorem ax_k74 : (ax_tab 74).all (ax_rca 74) = true := by decide +kernel
theorem ax_k78 : (ax_tab 78).all (ax_rca 78) = true := by decide +kernel
theorem ax_k81 : (ax_tab 81).all (ax_rca 81) = true := by decide +kernel
theorem ax_k82 : (ax_tab 82).all (ax_rca 82) = true := by decide +kernel
theorem ax_k86 : (ax_tab 86).all (ax_rca 86) = true := by decide +kernel
theorem ax_k89 : (ax_tab 89).all (ax_rca 89) = true := by decide +kernel
theorem ax_k90 : (ax_tab 90).all (ax_rca 90) = true := by decide +kernel
theorem ax_k96 : (ax_tab 96).all (ax_rca 96) = true := by decide +kernel
theorem ax_k99 : (ax_tab 99).all (ax_rca 99) = true := by decide +kernel
theorem ax_k100 : (ax_tab 100).all (ax_rca 100) = true := by decide +kernel
theorem ax_k101_0 : ax_t101_0.all (ax_rca 101) = true := by decide +kernel
theorem ax_k101_1 : ax_t101_1.all (ax_rca 101) = true := by decide +kernel
theorem ax_k101 : (ax_tab 101).all (ax_rca 101) = true := by
  show ax_t101.all (ax_rca 101) = true
  unfold ax_t101
  simp only [List.all_append, ax_k101_0, ax_k101_1, Bool.and_self]
theorem ax_k104 : (ax_tab 104).all (ax_rca 104) = true := by decide +kernel
theorem ax_k108_0 : ax_t108_0.all (ax_rca 108) = true := by decide +kernel
theorem ax_k108_1 : ax_t108_1.all (ax_rca 108) = true := by decide +kernel
theorem ax_k108_2 : ax_t108_2.all (ax_rca 108) = true := by decide +kernel
theorem ax_k108 : (ax_tab 108).all (ax_rca 108) = true := by
  show ax_t108.all (ax_rca 108) = true
  unfold ax_t108
  simp only [List.all_append, ax_k108_0, ax_k108_1, ax_k108_2, Bool.and_self]
theorem ax_k111 : (ax_tab 111).all (ax_rca 111) = true := by decide +kernel
theorem ax_k112_0 : ax_t112_0.all (ax_rca 112) = true := by decide +kernel
theorem ax_k112_1 : ax_t112_1.all (ax_rca 112) = true := by decide +kernel
theorem ax_k112 : (ax_tab 112).all (ax_rca 112) = true := by
  show ax_t112.all (ax_rca 112) = true
  unfold ax_t112
  simp only [List.all_append, ax_k112_0, ax_k112_1, Bool.and_self]
theorem ax_k113 : (ax_tab 113).all (ax_rca 113) = true := by decide +kernel
theorem ax_k115 : (ax_tab 115).all (ax_rca 115) = true := by decide +kernel
theorem ax_k119 : (ax_tab 119).all (ax_rca 119) = true := by decide +kernel
theorem ax_k120_0 : ax_t120_0.all (ax_rca 120) = true := by decide +kernel
theorem ax_k120_1 : ax_t120_1.all (ax_rca 120) = true := by decide +kernel
theorem ax_k120 : (ax_tab 120).all (ax_rca 120) = true := by
  show ax_t120.all (ax_rca 120) = true
  unfold ax_t120
  simp only [List.all_append, ax_k120_0, ax_k120_1, Bool.and_self]
theorem ax_k121 : (ax_tab 121).all (ax_rca 121) = true := by decide +kernel
theorem ax_k129_0 : ax_t129_0.all (ax_rca 129) = true := by decide +kernel
theorem ax_k129_1 : ax_t129_1.all (ax_rca 129) = true := by decide +kernel
theorem ax_k129_2 : ax_t129_2.all (ax_rca 129) = true := by decide +kernel
theorem ax_k129 : (ax_tab 129).all (ax_rca 129) = true := by
  show ax_t129.all (ax_rca 129) = true
  unfold ax_t129
  simp only [List.all_append, ax_k129_0, ax_k129_1, ax_k129_2, Bool.and_self]
theorem ax_k133 : (ax_tab 133).all (ax_rca 133) = true := by decide +kernel
theorem ax_k134 : (ax_tab 134).all (ax_rca 134) = true := by decide +kernel
theorem ax_k135 : (ax_tab 135).all (ax_rca 135) = true := by decide +kernel
