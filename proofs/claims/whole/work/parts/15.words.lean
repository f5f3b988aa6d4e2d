/-! words of the methods in the tables; written by wip/tools/gen15.py -/
def ax_cw (k : Nat) : Cond := if ax_hx k = [] then .code (ax_md k) (ax_by k) (ax_ml k) (ax_rt k) else .codeWith (ax_md k) (ax_by k) (ax_ml k) (ax_rt k) (ax_hx k)
set_option maxRecDepth 100000 in
theorem ax_cw_in : ∀ k, 0 < k → k < 138 → ax_cw k ∈ lw_tbl := by
  intro k h0 h
  match k, h0, h with
  | 0, h0, _ => exact absurd h0 (by omega)
  | 1, _, _ => exact List.mem_of_getElem? (i := 298) rfl
  | 2, _, _ => exact List.mem_of_getElem? (i := 399) rfl
  | 3, _, _ => exact List.mem_of_getElem? (i := 434) rfl
  | 4, _, _ => exact List.mem_of_getElem? (i := 445) rfl
  | 5, _, _ => exact List.mem_of_getElem? (i := 479) rfl
  | 6, _, _ => exact List.mem_of_getElem? (i := 490) rfl
  | 7, _, _ => exact List.mem_of_getElem? (i := 622) rfl
  | 8, _, _ => exact List.mem_of_getElem? (i := 638) rfl
  | 9, _, _ => exact List.mem_of_getElem? (i := 646) rfl
  | 10, _, _ => exact List.mem_of_getElem? (i := 662) rfl
  | 11, _, _ => exact List.mem_of_getElem? (i := 700) rfl
  | 12, _, _ => exact List.mem_of_getElem? (i := 711) rfl
  | 13, _, _ => exact List.mem_of_getElem? (i := 719) rfl
  | 14, _, _ => exact List.mem_of_getElem? (i := 726) rfl
  | 15, _, _ => exact List.mem_of_getElem? (i := 85) rfl
  | 16, _, _ => exact List.mem_of_getElem? (i := 427) rfl
  | 17, _, _ => exact List.mem_of_getElem? (i := 476) rfl
  | 18, _, _ => exact List.mem_of_getElem? (i := 487) rfl
  | 19, _, _ => exact List.mem_of_getElem? (i := 531) rfl
  | 20, _, _ => exact List.mem_of_getElem? (i := 91) rfl
  | 21, _, _ => exact List.mem_of_getElem? (i := 385) rfl
  | 22, _, _ => exact List.mem_of_getElem? (i := 230) rfl
  | 23, _, _ => exact List.mem_of_getElem? (i := 658) rfl
  | 24, _, _ => exact List.mem_of_getElem? (i := 165) rfl
  | 25, _, _ => exact List.mem_of_getElem? (i := 393) rfl
  | 26, _, _ => exact List.mem_of_getElem? (i := 498) rfl
  | 27, _, _ => exact List.mem_of_getElem? (i := 502) rfl
  | 28, _, _ => exact List.mem_of_getElem? (i := 506) rfl
  | 29, _, _ => exact List.mem_of_getElem? (i := 527) rfl
  | 30, _, _ => exact List.mem_of_getElem? (i := 558) rfl
  | 31, _, _ => exact List.mem_of_getElem? (i := 563) rfl
  | 32, _, _ => exact List.mem_of_getElem? (i := 567) rfl
  | 33, _, _ => exact List.mem_of_getElem? (i := 572) rfl
  | 34, _, _ => exact List.mem_of_getElem? (i := 576) rfl
  | 35, _, _ => exact List.mem_of_getElem? (i := 588) rfl
  | 36, _, _ => exact List.mem_of_getElem? (i := 596) rfl
  | 37, _, _ => exact List.mem_of_getElem? (i := 605) rfl
  | 38, _, _ => exact List.mem_of_getElem? (i := 610) rfl
  | 39, _, _ => exact List.mem_of_getElem? (i := 614) rfl
  | 40, _, _ => exact List.mem_of_getElem? (i := 619) rfl
  | 41, _, _ => exact List.mem_of_getElem? (i := 631) rfl
  | 42, _, _ => exact List.mem_of_getElem? (i := 223) rfl
  | 43, _, _ => exact List.mem_of_getElem? (i := 654) rfl
  | 44, _, _ => exact List.mem_of_getElem? (i := 670) rfl
  | 45, _, _ => exact List.mem_of_getElem? (i := 674) rfl
  | 46, _, _ => exact List.mem_of_getElem? (i := 678) rfl
  | 47, _, _ => exact List.mem_of_getElem? (i := 684) rfl
  | 48, _, _ => exact List.mem_of_getElem? (i := 688) rfl
  | 49, _, _ => exact List.mem_of_getElem? (i := 692) rfl
  | 50, _, _ => exact List.mem_of_getElem? (i := 697) rfl
  | 51, _, _ => exact List.mem_of_getElem? (i := 708) rfl
  | 52, _, _ => exact List.mem_of_getElem? (i := 76) rfl
  | 53, _, _ => exact List.mem_of_getElem? (i := 381) rfl
  | 54, _, _ => exact List.mem_of_getElem? (i := 442) rfl
  | 55, _, _ => exact List.mem_of_getElem? (i := 172) rfl
  | 56, _, _ => exact List.mem_of_getElem? (i := 510) rfl
  | 57, _, _ => exact List.mem_of_getElem? (i := 515) rfl
  | 58, _, _ => exact List.mem_of_getElem? (i := 519) rfl
  | 59, _, _ => exact List.mem_of_getElem? (i := 536) rfl
  | 60, _, _ => exact List.mem_of_getElem? (i := 540) rfl
  | 61, _, _ => exact List.mem_of_getElem? (i := 547) rfl
  | 62, _, _ => exact List.mem_of_getElem? (i := 550) rfl
  | 63, _, _ => exact List.mem_of_getElem? (i := 554) rfl
  | 64, _, _ => exact List.mem_of_getElem? (i := 580) rfl
  | 65, _, _ => exact List.mem_of_getElem? (i := 584) rfl
  | 66, _, _ => exact List.mem_of_getElem? (i := 592) rfl
  | 67, _, _ => exact List.mem_of_getElem? (i := 600) rfl
  | 68, _, _ => exact List.mem_of_getElem? (i := 635) rfl
  | 69, _, _ => exact List.mem_of_getElem? (i := 68) rfl
  | 70, _, _ => exact List.mem_of_getElem? (i := 303) rfl
  | 71, _, _ => exact List.mem_of_getElem? (i := 306) rfl
  | 72, _, _ => exact List.mem_of_getElem? (i := 309) rfl
  | 73, _, _ => exact List.mem_of_getElem? (i := 389) rfl
  | 74, _, _ => exact List.mem_of_getElem? (i := 404) rfl
  | 75, _, _ => exact List.mem_of_getElem? (i := 407) rfl
  | 76, _, _ => exact List.mem_of_getElem? (i := 438) rfl
  | 77, _, _ => exact List.mem_of_getElem? (i := 450) rfl
  | 78, _, _ => exact List.mem_of_getElem? (i := 453) rfl
  | 79, _, _ => exact List.mem_of_getElem? (i := 472) rfl
  | 80, _, _ => exact List.mem_of_getElem? (i := 483) rfl
  | 81, _, _ => exact List.mem_of_getElem? (i := 494) rfl
  | 82, _, _ => exact List.mem_of_getElem? (i := 522) rfl
  | 83, _, _ => exact List.mem_of_getElem? (i := 626) rfl
  | 84, _, _ => exact List.mem_of_getElem? (i := 642) rfl
  | 85, _, _ => exact List.mem_of_getElem? (i := 650) rfl
  | 86, _, _ => exact List.mem_of_getElem? (i := 666) rfl
  | 87, _, _ => exact List.mem_of_getElem? (i := 704) rfl
  | 88, _, _ => exact List.mem_of_getElem? (i := 715) rfl
  | 89, _, _ => exact List.mem_of_getElem? (i := 723) rfl
  | 90, _, _ => exact List.mem_of_getElem? (i := 730) rfl
  | 91, _, _ => exact List.mem_of_getElem? (i := 735) rfl
  | 92, _, _ => exact List.mem_of_getElem? (i := 856) rfl
  | 93, _, _ => exact List.mem_of_getElem? (i := 860) rfl
  | 94, _, _ => exact List.mem_of_getElem? (i := 863) rfl
  | 95, _, _ => exact List.mem_of_getElem? (i := 866) rfl
  | 96, _, _ => exact List.mem_of_getElem? (i := 870) rfl
  | 97, _, _ => exact List.mem_of_getElem? (i := 874) rfl
  | 98, _, _ => exact List.mem_of_getElem? (i := 877) rfl
  | 99, _, _ => exact List.mem_of_getElem? (i := 880) rfl
  | 100, _, _ => exact List.mem_of_getElem? (i := 884) rfl
  | 101, _, _ => exact List.mem_of_getElem? (i := 888) rfl
  | 102, _, _ => exact List.mem_of_getElem? (i := 891) rfl
  | 103, _, _ => exact List.mem_of_getElem? (i := 894) rfl
  | 104, _, _ => exact List.mem_of_getElem? (i := 898) rfl
  | 105, _, _ => exact List.mem_of_getElem? (i := 902) rfl
  | 106, _, _ => exact List.mem_of_getElem? (i := 906) rfl
  | 107, _, _ => exact List.mem_of_getElem? (i := 910) rfl
  | 108, _, _ => exact List.mem_of_getElem? (i := 914) rfl
  | 109, _, _ => exact List.mem_of_getElem? (i := 918) rfl
  | 110, _, _ => exact List.mem_of_getElem? (i := 922) rfl
  | 111, _, _ => exact List.mem_of_getElem? (i := 926) rfl
  | 112, _, _ => exact List.mem_of_getElem? (i := 930) rfl
  | 113, _, _ => exact List.mem_of_getElem? (i := 934) rfl
  | 114, _, _ => exact List.mem_of_getElem? (i := 938) rfl
  | 115, _, _ => exact List.mem_of_getElem? (i := 942) rfl
  | 116, _, _ => exact List.mem_of_getElem? (i := 946) rfl
  | 117, _, _ => exact List.mem_of_getElem? (i := 950) rfl
  | 118, _, _ => exact List.mem_of_getElem? (i := 954) rfl
  | 119, _, _ => exact List.mem_of_getElem? (i := 958) rfl
  | 120, _, _ => exact List.mem_of_getElem? (i := 962) rfl
  | 121, _, _ => exact List.mem_of_getElem? (i := 966) rfl
  | 122, _, _ => exact List.mem_of_getElem? (i := 970) rfl
  | 123, _, _ => exact List.mem_of_getElem? (i := 974) rfl
  | 124, _, _ => exact List.mem_of_getElem? (i := 978) rfl
  | 125, _, _ => exact List.mem_of_getElem? (i := 982) rfl
  | 126, _, _ => exact List.mem_of_getElem? (i := 986) rfl
  | 127, _, _ => exact List.mem_of_getElem? (i := 990) rfl
  | 128, _, _ => exact List.mem_of_getElem? (i := 994) rfl
  | 129, _, _ => exact List.mem_of_getElem? (i := 998) rfl
  | 130, _, _ => exact List.mem_of_getElem? (i := 1002) rfl
  | 131, _, _ => exact List.mem_of_getElem? (i := 1006) rfl
  | 132, _, _ => exact List.mem_of_getElem? (i := 1010) rfl
  | 133, _, _ => exact List.mem_of_getElem? (i := 1014) rfl
  | 134, _, _ => exact List.mem_of_getElem? (i := 1018) rfl
  | 135, _, _ => exact List.mem_of_getElem? (i := 1022) rfl
  | 136, _, _ => exact List.mem_of_getElem? (i := 431) rfl
  | 137, _, _ => exact List.mem_of_getElem? (i := 396) rfl
  | n + 138, _, h => exact absurd h (by omega)
def ax_kw (k : Nat) : Cond := if ax_st k = true then .static (ax_md k) else .instanceMethod (ax_md k)
theorem ax_kw_in : ∀ k, 0 < k → k < 138 → ax_kw k ∈ lw_tbl := by
  intro k h0 h
  match k, h0, h with
  | 0, h0, _ => exact absurd h0 (by omega)
  | 1, _, _ => exact List.mem_of_getElem? (i := 297) (by decide +kernel)
  | 2, _, _ => exact List.mem_of_getElem? (i := 398) (by decide +kernel)
  | 3, _, _ => exact List.mem_of_getElem? (i := 433) (by decide +kernel)
  | 4, _, _ => exact List.mem_of_getElem? (i := 444) (by decide +kernel)
  | 5, _, _ => exact List.mem_of_getElem? (i := 478) (by decide +kernel)
  | 6, _, _ => exact List.mem_of_getElem? (i := 489) (by decide +kernel)
  | 7, _, _ => exact List.mem_of_getElem? (i := 621) (by decide +kernel)
  | 8, _, _ => exact List.mem_of_getElem? (i := 637) (by decide +kernel)
  | 9, _, _ => exact List.mem_of_getElem? (i := 645) (by decide +kernel)
  | 10, _, _ => exact List.mem_of_getElem? (i := 661) (by decide +kernel)
  | 11, _, _ => exact List.mem_of_getElem? (i := 699) (by decide +kernel)
  | 12, _, _ => exact List.mem_of_getElem? (i := 710) (by decide +kernel)
  | 13, _, _ => exact List.mem_of_getElem? (i := 718) (by decide +kernel)
  | 14, _, _ => exact List.mem_of_getElem? (i := 725) (by decide +kernel)
  | 15, _, _ => exact List.mem_of_getElem? (i := 84) (by decide +kernel)
  | 16, _, _ => exact List.mem_of_getElem? (i := 425) (by decide +kernel)
  | 17, _, _ => exact List.mem_of_getElem? (i := 474) (by decide +kernel)
  | 18, _, _ => exact List.mem_of_getElem? (i := 485) (by decide +kernel)
  | 19, _, _ => exact List.mem_of_getElem? (i := 529) (by decide +kernel)
  | 20, _, _ => exact List.mem_of_getElem? (i := 90) (by decide +kernel)
  | 21, _, _ => exact List.mem_of_getElem? (i := 383) (by decide +kernel)
  | 22, _, _ => exact List.mem_of_getElem? (i := 229) (by decide +kernel)
  | 23, _, _ => exact List.mem_of_getElem? (i := 656) (by decide +kernel)
  | 24, _, _ => exact List.mem_of_getElem? (i := 164) (by decide +kernel)
  | 25, _, _ => exact List.mem_of_getElem? (i := 391) (by decide +kernel)
  | 26, _, _ => exact List.mem_of_getElem? (i := 496) (by decide +kernel)
  | 27, _, _ => exact List.mem_of_getElem? (i := 501) (by decide +kernel)
  | 28, _, _ => exact List.mem_of_getElem? (i := 505) (by decide +kernel)
  | 29, _, _ => exact List.mem_of_getElem? (i := 526) (by decide +kernel)
  | 30, _, _ => exact List.mem_of_getElem? (i := 557) (by decide +kernel)
  | 31, _, _ => exact List.mem_of_getElem? (i := 562) (by decide +kernel)
  | 32, _, _ => exact List.mem_of_getElem? (i := 566) (by decide +kernel)
  | 33, _, _ => exact List.mem_of_getElem? (i := 571) (by decide +kernel)
  | 34, _, _ => exact List.mem_of_getElem? (i := 575) (by decide +kernel)
  | 35, _, _ => exact List.mem_of_getElem? (i := 587) (by decide +kernel)
  | 36, _, _ => exact List.mem_of_getElem? (i := 595) (by decide +kernel)
  | 37, _, _ => exact List.mem_of_getElem? (i := 604) (by decide +kernel)
  | 38, _, _ => exact List.mem_of_getElem? (i := 609) (by decide +kernel)
  | 39, _, _ => exact List.mem_of_getElem? (i := 613) (by decide +kernel)
  | 40, _, _ => exact List.mem_of_getElem? (i := 618) (by decide +kernel)
  | 41, _, _ => exact List.mem_of_getElem? (i := 629) (by decide +kernel)
  | 42, _, _ => exact List.mem_of_getElem? (i := 222) (by decide +kernel)
  | 43, _, _ => exact List.mem_of_getElem? (i := 652) (by decide +kernel)
  | 44, _, _ => exact List.mem_of_getElem? (i := 668) (by decide +kernel)
  | 45, _, _ => exact List.mem_of_getElem? (i := 673) (by decide +kernel)
  | 46, _, _ => exact List.mem_of_getElem? (i := 676) (by decide +kernel)
  | 47, _, _ => exact List.mem_of_getElem? (i := 683) (by decide +kernel)
  | 48, _, _ => exact List.mem_of_getElem? (i := 687) (by decide +kernel)
  | 49, _, _ => exact List.mem_of_getElem? (i := 691) (by decide +kernel)
  | 50, _, _ => exact List.mem_of_getElem? (i := 696) (by decide +kernel)
  | 51, _, _ => exact List.mem_of_getElem? (i := 706) (by decide +kernel)
  | 52, _, _ => exact List.mem_of_getElem? (i := 75) (by decide +kernel)
  | 53, _, _ => exact List.mem_of_getElem? (i := 379) (by decide +kernel)
  | 54, _, _ => exact List.mem_of_getElem? (i := 440) (by decide +kernel)
  | 55, _, _ => exact List.mem_of_getElem? (i := 171) (by decide +kernel)
  | 56, _, _ => exact List.mem_of_getElem? (i := 508) (by decide +kernel)
  | 57, _, _ => exact List.mem_of_getElem? (i := 513) (by decide +kernel)
  | 58, _, _ => exact List.mem_of_getElem? (i := 517) (by decide +kernel)
  | 59, _, _ => exact List.mem_of_getElem? (i := 534) (by decide +kernel)
  | 60, _, _ => exact List.mem_of_getElem? (i := 538) (by decide +kernel)
  | 61, _, _ => exact List.mem_of_getElem? (i := 546) (by decide +kernel)
  | 62, _, _ => exact List.mem_of_getElem? (i := 549) (by decide +kernel)
  | 63, _, _ => exact List.mem_of_getElem? (i := 552) (by decide +kernel)
  | 64, _, _ => exact List.mem_of_getElem? (i := 578) (by decide +kernel)
  | 65, _, _ => exact List.mem_of_getElem? (i := 582) (by decide +kernel)
  | 66, _, _ => exact List.mem_of_getElem? (i := 590) (by decide +kernel)
  | 67, _, _ => exact List.mem_of_getElem? (i := 598) (by decide +kernel)
  | 68, _, _ => exact List.mem_of_getElem? (i := 633) (by decide +kernel)
  | 69, _, _ => exact List.mem_of_getElem? (i := 67) (by decide +kernel)
  | 70, _, _ => exact List.mem_of_getElem? (i := 301) (by decide +kernel)
  | 71, _, _ => exact List.mem_of_getElem? (i := 305) (by decide +kernel)
  | 72, _, _ => exact List.mem_of_getElem? (i := 308) (by decide +kernel)
  | 73, _, _ => exact List.mem_of_getElem? (i := 388) (by decide +kernel)
  | 74, _, _ => exact List.mem_of_getElem? (i := 402) (by decide +kernel)
  | 75, _, _ => exact List.mem_of_getElem? (i := 406) (by decide +kernel)
  | 76, _, _ => exact List.mem_of_getElem? (i := 436) (by decide +kernel)
  | 77, _, _ => exact List.mem_of_getElem? (i := 448) (by decide +kernel)
  | 78, _, _ => exact List.mem_of_getElem? (i := 452) (by decide +kernel)
  | 79, _, _ => exact List.mem_of_getElem? (i := 471) (by decide +kernel)
  | 80, _, _ => exact List.mem_of_getElem? (i := 481) (by decide +kernel)
  | 81, _, _ => exact List.mem_of_getElem? (i := 492) (by decide +kernel)
  | 82, _, _ => exact List.mem_of_getElem? (i := 521) (by decide +kernel)
  | 83, _, _ => exact List.mem_of_getElem? (i := 624) (by decide +kernel)
  | 84, _, _ => exact List.mem_of_getElem? (i := 640) (by decide +kernel)
  | 85, _, _ => exact List.mem_of_getElem? (i := 648) (by decide +kernel)
  | 86, _, _ => exact List.mem_of_getElem? (i := 664) (by decide +kernel)
  | 87, _, _ => exact List.mem_of_getElem? (i := 702) (by decide +kernel)
  | 88, _, _ => exact List.mem_of_getElem? (i := 713) (by decide +kernel)
  | 89, _, _ => exact List.mem_of_getElem? (i := 721) (by decide +kernel)
  | 90, _, _ => exact List.mem_of_getElem? (i := 728) (by decide +kernel)
  | 91, _, _ => exact List.mem_of_getElem? (i := 734) (by decide +kernel)
  | 92, _, _ => exact List.mem_of_getElem? (i := 854) (by decide +kernel)
  | 93, _, _ => exact List.mem_of_getElem? (i := 858) (by decide +kernel)
  | 94, _, _ => exact List.mem_of_getElem? (i := 862) (by decide +kernel)
  | 95, _, _ => exact List.mem_of_getElem? (i := 865) (by decide +kernel)
  | 96, _, _ => exact List.mem_of_getElem? (i := 869) (by decide +kernel)
  | 97, _, _ => exact List.mem_of_getElem? (i := 872) (by decide +kernel)
  | 98, _, _ => exact List.mem_of_getElem? (i := 876) (by decide +kernel)
  | 99, _, _ => exact List.mem_of_getElem? (i := 879) (by decide +kernel)
  | 100, _, _ => exact List.mem_of_getElem? (i := 882) (by decide +kernel)
  | 101, _, _ => exact List.mem_of_getElem? (i := 886) (by decide +kernel)
  | 102, _, _ => exact List.mem_of_getElem? (i := 890) (by decide +kernel)
  | 103, _, _ => exact List.mem_of_getElem? (i := 893) (by decide +kernel)
  | 104, _, _ => exact List.mem_of_getElem? (i := 896) (by decide +kernel)
  | 105, _, _ => exact List.mem_of_getElem? (i := 900) (by decide +kernel)
  | 106, _, _ => exact List.mem_of_getElem? (i := 905) (by decide +kernel)
  | 107, _, _ => exact List.mem_of_getElem? (i := 909) (by decide +kernel)
  | 108, _, _ => exact List.mem_of_getElem? (i := 913) (by decide +kernel)
  | 109, _, _ => exact List.mem_of_getElem? (i := 917) (by decide +kernel)
  | 110, _, _ => exact List.mem_of_getElem? (i := 921) (by decide +kernel)
  | 111, _, _ => exact List.mem_of_getElem? (i := 925) (by decide +kernel)
  | 112, _, _ => exact List.mem_of_getElem? (i := 929) (by decide +kernel)
  | 113, _, _ => exact List.mem_of_getElem? (i := 933) (by decide +kernel)
  | 114, _, _ => exact List.mem_of_getElem? (i := 937) (by decide +kernel)
  | 115, _, _ => exact List.mem_of_getElem? (i := 941) (by decide +kernel)
  | 116, _, _ => exact List.mem_of_getElem? (i := 945) (by decide +kernel)
  | 117, _, _ => exact List.mem_of_getElem? (i := 949) (by decide +kernel)
  | 118, _, _ => exact List.mem_of_getElem? (i := 953) (by decide +kernel)
  | 119, _, _ => exact List.mem_of_getElem? (i := 957) (by decide +kernel)
  | 120, _, _ => exact List.mem_of_getElem? (i := 960) (by decide +kernel)
  | 121, _, _ => exact List.mem_of_getElem? (i := 965) (by decide +kernel)
  | 122, _, _ => exact List.mem_of_getElem? (i := 968) (by decide +kernel)
  | 123, _, _ => exact List.mem_of_getElem? (i := 972) (by decide +kernel)
  | 124, _, _ => exact List.mem_of_getElem? (i := 977) (by decide +kernel)
  | 125, _, _ => exact List.mem_of_getElem? (i := 980) (by decide +kernel)
  | 126, _, _ => exact List.mem_of_getElem? (i := 985) (by decide +kernel)
  | 127, _, _ => exact List.mem_of_getElem? (i := 989) (by decide +kernel)
  | 128, _, _ => exact List.mem_of_getElem? (i := 993) (by decide +kernel)
  | 129, _, _ => exact List.mem_of_getElem? (i := 997) (by decide +kernel)
  | 130, _, _ => exact List.mem_of_getElem? (i := 1001) (by decide +kernel)
  | 131, _, _ => exact List.mem_of_getElem? (i := 1005) (by decide +kernel)
  | 132, _, _ => exact List.mem_of_getElem? (i := 1008) (by decide +kernel)
  | 133, _, _ => exact List.mem_of_getElem? (i := 1012) (by decide +kernel)
  | 134, _, _ => exact List.mem_of_getElem? (i := 1016) (by decide +kernel)
  | 135, _, _ => exact List.mem_of_getElem? (i := 1020) (by decide +kernel)
  | 136, _, _ => exact List.mem_of_getElem? (i := 430) (by decide +kernel)
  | 137, _, _ => exact List.mem_of_getElem? (i := 395) (by decide +kernel)
  | n + 138, _, h => exact absurd h (by omega)
theorem ax_iw_in : ∀ k, 0 < k → k < 138 → Cond.initialized (ax_ow k) ∈ lw_tbl := by
  intro k h0 h
  match k, h0, h with
  | 0, h0, _ => exact absurd h0 (by omega)
  | 1, _, _ => exact List.mem_of_getElem? (i := 45) (by decide +kernel)
  | 2, _, _ => exact List.mem_of_getElem? (i := 45) (by decide +kernel)
  | 3, _, _ => exact List.mem_of_getElem? (i := 45) (by decide +kernel)
  | 4, _, _ => exact List.mem_of_getElem? (i := 45) (by decide +kernel)
  | 5, _, _ => exact List.mem_of_getElem? (i := 45) (by decide +kernel)
  | 6, _, _ => exact List.mem_of_getElem? (i := 45) (by decide +kernel)
  | 7, _, _ => exact List.mem_of_getElem? (i := 45) (by decide +kernel)
  | 8, _, _ => exact List.mem_of_getElem? (i := 45) (by decide +kernel)
  | 9, _, _ => exact List.mem_of_getElem? (i := 45) (by decide +kernel)
  | 10, _, _ => exact List.mem_of_getElem? (i := 45) (by decide +kernel)
  | 11, _, _ => exact List.mem_of_getElem? (i := 45) (by decide +kernel)
  | 12, _, _ => exact List.mem_of_getElem? (i := 45) (by decide +kernel)
  | 13, _, _ => exact List.mem_of_getElem? (i := 45) (by decide +kernel)
  | 14, _, _ => exact List.mem_of_getElem? (i := 45) (by decide +kernel)
  | 15, _, _ => exact List.mem_of_getElem? (i := 48) (by decide +kernel)
  | 16, _, _ => exact List.mem_of_getElem? (i := 48) (by decide +kernel)
  | 17, _, _ => exact List.mem_of_getElem? (i := 48) (by decide +kernel)
  | 18, _, _ => exact List.mem_of_getElem? (i := 48) (by decide +kernel)
  | 19, _, _ => exact List.mem_of_getElem? (i := 48) (by decide +kernel)
  | 20, _, _ => exact List.mem_of_getElem? (i := 49) (by decide +kernel)
  | 21, _, _ => exact List.mem_of_getElem? (i := 49) (by decide +kernel)
  | 22, _, _ => exact List.mem_of_getElem? (i := 53) (by decide +kernel)
  | 23, _, _ => exact List.mem_of_getElem? (i := 53) (by decide +kernel)
  | 24, _, _ => exact List.mem_of_getElem? (i := 50) (by decide +kernel)
  | 25, _, _ => exact List.mem_of_getElem? (i := 50) (by decide +kernel)
  | 26, _, _ => exact List.mem_of_getElem? (i := 50) (by decide +kernel)
  | 27, _, _ => exact List.mem_of_getElem? (i := 50) (by decide +kernel)
  | 28, _, _ => exact List.mem_of_getElem? (i := 50) (by decide +kernel)
  | 29, _, _ => exact List.mem_of_getElem? (i := 50) (by decide +kernel)
  | 30, _, _ => exact List.mem_of_getElem? (i := 50) (by decide +kernel)
  | 31, _, _ => exact List.mem_of_getElem? (i := 50) (by decide +kernel)
  | 32, _, _ => exact List.mem_of_getElem? (i := 50) (by decide +kernel)
  | 33, _, _ => exact List.mem_of_getElem? (i := 50) (by decide +kernel)
  | 34, _, _ => exact List.mem_of_getElem? (i := 50) (by decide +kernel)
  | 35, _, _ => exact List.mem_of_getElem? (i := 50) (by decide +kernel)
  | 36, _, _ => exact List.mem_of_getElem? (i := 50) (by decide +kernel)
  | 37, _, _ => exact List.mem_of_getElem? (i := 50) (by decide +kernel)
  | 38, _, _ => exact List.mem_of_getElem? (i := 50) (by decide +kernel)
  | 39, _, _ => exact List.mem_of_getElem? (i := 50) (by decide +kernel)
  | 40, _, _ => exact List.mem_of_getElem? (i := 50) (by decide +kernel)
  | 41, _, _ => exact List.mem_of_getElem? (i := 50) (by decide +kernel)
  | 42, _, _ => exact List.mem_of_getElem? (i := 52) (by decide +kernel)
  | 43, _, _ => exact List.mem_of_getElem? (i := 52) (by decide +kernel)
  | 44, _, _ => exact List.mem_of_getElem? (i := 52) (by decide +kernel)
  | 45, _, _ => exact List.mem_of_getElem? (i := 52) (by decide +kernel)
  | 46, _, _ => exact List.mem_of_getElem? (i := 52) (by decide +kernel)
  | 47, _, _ => exact List.mem_of_getElem? (i := 52) (by decide +kernel)
  | 48, _, _ => exact List.mem_of_getElem? (i := 52) (by decide +kernel)
  | 49, _, _ => exact List.mem_of_getElem? (i := 52) (by decide +kernel)
  | 50, _, _ => exact List.mem_of_getElem? (i := 52) (by decide +kernel)
  | 51, _, _ => exact List.mem_of_getElem? (i := 52) (by decide +kernel)
  | 52, _, _ => exact List.mem_of_getElem? (i := 47) (by decide +kernel)
  | 53, _, _ => exact List.mem_of_getElem? (i := 47) (by decide +kernel)
  | 54, _, _ => exact List.mem_of_getElem? (i := 47) (by decide +kernel)
  | 55, _, _ => exact List.mem_of_getElem? (i := 51) (by decide +kernel)
  | 56, _, _ => exact List.mem_of_getElem? (i := 51) (by decide +kernel)
  | 57, _, _ => exact List.mem_of_getElem? (i := 51) (by decide +kernel)
  | 58, _, _ => exact List.mem_of_getElem? (i := 51) (by decide +kernel)
  | 59, _, _ => exact List.mem_of_getElem? (i := 51) (by decide +kernel)
  | 60, _, _ => exact List.mem_of_getElem? (i := 51) (by decide +kernel)
  | 61, _, _ => exact List.mem_of_getElem? (i := 51) (by decide +kernel)
  | 62, _, _ => exact List.mem_of_getElem? (i := 51) (by decide +kernel)
  | 63, _, _ => exact List.mem_of_getElem? (i := 51) (by decide +kernel)
  | 64, _, _ => exact List.mem_of_getElem? (i := 51) (by decide +kernel)
  | 65, _, _ => exact List.mem_of_getElem? (i := 51) (by decide +kernel)
  | 66, _, _ => exact List.mem_of_getElem? (i := 51) (by decide +kernel)
  | 67, _, _ => exact List.mem_of_getElem? (i := 51) (by decide +kernel)
  | 68, _, _ => exact List.mem_of_getElem? (i := 51) (by decide +kernel)
  | 69, _, _ => exact List.mem_of_getElem? (i := 46) (by decide +kernel)
  | 70, _, _ => exact List.mem_of_getElem? (i := 46) (by decide +kernel)
  | 71, _, _ => exact List.mem_of_getElem? (i := 46) (by decide +kernel)
  | 72, _, _ => exact List.mem_of_getElem? (i := 46) (by decide +kernel)
  | 73, _, _ => exact List.mem_of_getElem? (i := 46) (by decide +kernel)
  | 74, _, _ => exact List.mem_of_getElem? (i := 46) (by decide +kernel)
  | 75, _, _ => exact List.mem_of_getElem? (i := 46) (by decide +kernel)
  | 76, _, _ => exact List.mem_of_getElem? (i := 46) (by decide +kernel)
  | 77, _, _ => exact List.mem_of_getElem? (i := 46) (by decide +kernel)
  | 78, _, _ => exact List.mem_of_getElem? (i := 46) (by decide +kernel)
  | 79, _, _ => exact List.mem_of_getElem? (i := 46) (by decide +kernel)
  | 80, _, _ => exact List.mem_of_getElem? (i := 46) (by decide +kernel)
  | 81, _, _ => exact List.mem_of_getElem? (i := 46) (by decide +kernel)
  | 82, _, _ => exact List.mem_of_getElem? (i := 46) (by decide +kernel)
  | 83, _, _ => exact List.mem_of_getElem? (i := 46) (by decide +kernel)
  | 84, _, _ => exact List.mem_of_getElem? (i := 46) (by decide +kernel)
  | 85, _, _ => exact List.mem_of_getElem? (i := 46) (by decide +kernel)
  | 86, _, _ => exact List.mem_of_getElem? (i := 46) (by decide +kernel)
  | 87, _, _ => exact List.mem_of_getElem? (i := 46) (by decide +kernel)
  | 88, _, _ => exact List.mem_of_getElem? (i := 46) (by decide +kernel)
  | 89, _, _ => exact List.mem_of_getElem? (i := 46) (by decide +kernel)
  | 90, _, _ => exact List.mem_of_getElem? (i := 46) (by decide +kernel)
  | 91, _, _ => exact List.mem_of_getElem? (i := 54) (by decide +kernel)
  | 92, _, _ => exact List.mem_of_getElem? (i := 54) (by decide +kernel)
  | 93, _, _ => exact List.mem_of_getElem? (i := 54) (by decide +kernel)
  | 94, _, _ => exact List.mem_of_getElem? (i := 54) (by decide +kernel)
  | 95, _, _ => exact List.mem_of_getElem? (i := 54) (by decide +kernel)
  | 96, _, _ => exact List.mem_of_getElem? (i := 54) (by decide +kernel)
  | 97, _, _ => exact List.mem_of_getElem? (i := 54) (by decide +kernel)
  | 98, _, _ => exact List.mem_of_getElem? (i := 54) (by decide +kernel)
  | 99, _, _ => exact List.mem_of_getElem? (i := 54) (by decide +kernel)
  | 100, _, _ => exact List.mem_of_getElem? (i := 54) (by decide +kernel)
  | 101, _, _ => exact List.mem_of_getElem? (i := 54) (by decide +kernel)
  | 102, _, _ => exact List.mem_of_getElem? (i := 54) (by decide +kernel)
  | 103, _, _ => exact List.mem_of_getElem? (i := 54) (by decide +kernel)
  | 104, _, _ => exact List.mem_of_getElem? (i := 54) (by decide +kernel)
  | 105, _, _ => exact List.mem_of_getElem? (i := 54) (by decide +kernel)
  | 106, _, _ => exact List.mem_of_getElem? (i := 54) (by decide +kernel)
  | 107, _, _ => exact List.mem_of_getElem? (i := 54) (by decide +kernel)
  | 108, _, _ => exact List.mem_of_getElem? (i := 54) (by decide +kernel)
  | 109, _, _ => exact List.mem_of_getElem? (i := 54) (by decide +kernel)
  | 110, _, _ => exact List.mem_of_getElem? (i := 54) (by decide +kernel)
  | 111, _, _ => exact List.mem_of_getElem? (i := 54) (by decide +kernel)
  | 112, _, _ => exact List.mem_of_getElem? (i := 54) (by decide +kernel)
  | 113, _, _ => exact List.mem_of_getElem? (i := 54) (by decide +kernel)
  | 114, _, _ => exact List.mem_of_getElem? (i := 54) (by decide +kernel)
  | 115, _, _ => exact List.mem_of_getElem? (i := 54) (by decide +kernel)
  | 116, _, _ => exact List.mem_of_getElem? (i := 54) (by decide +kernel)
  | 117, _, _ => exact List.mem_of_getElem? (i := 54) (by decide +kernel)
  | 118, _, _ => exact List.mem_of_getElem? (i := 54) (by decide +kernel)
  | 119, _, _ => exact List.mem_of_getElem? (i := 54) (by decide +kernel)
  | 120, _, _ => exact List.mem_of_getElem? (i := 54) (by decide +kernel)
  | 121, _, _ => exact List.mem_of_getElem? (i := 54) (by decide +kernel)
  | 122, _, _ => exact List.mem_of_getElem? (i := 54) (by decide +kernel)
  | 123, _, _ => exact List.mem_of_getElem? (i := 54) (by decide +kernel)
  | 124, _, _ => exact List.mem_of_getElem? (i := 54) (by decide +kernel)
  | 125, _, _ => exact List.mem_of_getElem? (i := 54) (by decide +kernel)
  | 126, _, _ => exact List.mem_of_getElem? (i := 54) (by decide +kernel)
  | 127, _, _ => exact List.mem_of_getElem? (i := 54) (by decide +kernel)
  | 128, _, _ => exact List.mem_of_getElem? (i := 54) (by decide +kernel)
  | 129, _, _ => exact List.mem_of_getElem? (i := 54) (by decide +kernel)
  | 130, _, _ => exact List.mem_of_getElem? (i := 54) (by decide +kernel)
  | 131, _, _ => exact List.mem_of_getElem? (i := 54) (by decide +kernel)
  | 132, _, _ => exact List.mem_of_getElem? (i := 54) (by decide +kernel)
  | 133, _, _ => exact List.mem_of_getElem? (i := 54) (by decide +kernel)
  | 134, _, _ => exact List.mem_of_getElem? (i := 54) (by decide +kernel)
  | 135, _, _ => exact List.mem_of_getElem? (i := 54) (by decide +kernel)
  | 136, _, _ => exact List.mem_of_getElem? (i := 61) (by decide +kernel)
  | 137, _, _ => exact List.mem_of_getElem? (i := 59) (by decide +kernel)
  | n + 138, _, h => exact absurd h (by omega)
theorem ax_sw_in : ∀ k, 0 < k → k < 138 → (ax_st k = false ∧ ax_nm k ≠ "<init>") → Cond.selects (ax_ow k) (ax_md k) (ax_md k) ∈ lw_tbl := by
  intro k h0 h
  match k, h0, h with
  | 0, h0, _ => exact absurd h0 (by omega)
  | 1, _, _ => exact fun h => absurd h (by decide)
  | 2, _, _ => exact fun h => absurd h (by decide)
  | 3, _, _ => exact fun h => absurd h (by decide)
  | 4, _, _ => exact fun h => absurd h (by decide)
  | 5, _, _ => exact fun h => absurd h (by decide)
  | 6, _, _ => exact fun h => absurd h (by decide)
  | 7, _, _ => exact fun h => absurd h (by decide)
  | 8, _, _ => exact fun h => absurd h (by decide)
  | 9, _, _ => exact fun h => absurd h (by decide)
  | 10, _, _ => exact fun h => absurd h (by decide)
  | 11, _, _ => exact fun h => absurd h (by decide)
  | 12, _, _ => exact fun h => absurd h (by decide)
  | 13, _, _ => exact fun h => absurd h (by decide)
  | 14, _, _ => exact fun h => absurd h (by decide)
  | 15, _, _ => exact fun h => absurd h (by decide)
  | 16, _, _ => exact fun _ => List.mem_of_getElem? (i := 426) (by decide +kernel)
  | 17, _, _ => exact fun _ => List.mem_of_getElem? (i := 475) (by decide +kernel)
  | 18, _, _ => exact fun _ => List.mem_of_getElem? (i := 486) (by decide +kernel)
  | 19, _, _ => exact fun _ => List.mem_of_getElem? (i := 530) (by decide +kernel)
  | 20, _, _ => exact fun h => absurd h (by decide)
  | 21, _, _ => exact fun _ => List.mem_of_getElem? (i := 384) (by decide +kernel)
  | 22, _, _ => exact fun h => absurd h (by decide)
  | 23, _, _ => exact fun _ => List.mem_of_getElem? (i := 657) (by decide +kernel)
  | 24, _, _ => exact fun h => absurd h (by decide)
  | 25, _, _ => exact fun _ => List.mem_of_getElem? (i := 392) (by decide +kernel)
  | 26, _, _ => exact fun _ => List.mem_of_getElem? (i := 497) (by decide +kernel)
  | 27, _, _ => exact fun _ => List.mem_of_getElem? (i := 2) (by decide +kernel)
  | 28, _, _ => exact fun _ => List.mem_of_getElem? (i := 3) (by decide +kernel)
  | 29, _, _ => exact fun _ => List.mem_of_getElem? (i := 4) (by decide +kernel)
  | 30, _, _ => exact fun _ => List.mem_of_getElem? (i := 6) (by decide +kernel)
  | 31, _, _ => exact fun _ => List.mem_of_getElem? (i := 7) (by decide +kernel)
  | 32, _, _ => exact fun _ => List.mem_of_getElem? (i := 8) (by decide +kernel)
  | 33, _, _ => exact fun _ => List.mem_of_getElem? (i := 9) (by decide +kernel)
  | 34, _, _ => exact fun _ => List.mem_of_getElem? (i := 10) (by decide +kernel)
  | 35, _, _ => exact fun _ => List.mem_of_getElem? (i := 11) (by decide +kernel)
  | 36, _, _ => exact fun _ => List.mem_of_getElem? (i := 12) (by decide +kernel)
  | 37, _, _ => exact fun _ => List.mem_of_getElem? (i := 13) (by decide +kernel)
  | 38, _, _ => exact fun _ => List.mem_of_getElem? (i := 14) (by decide +kernel)
  | 39, _, _ => exact fun _ => List.mem_of_getElem? (i := 15) (by decide +kernel)
  | 40, _, _ => exact fun _ => List.mem_of_getElem? (i := 16) (by decide +kernel)
  | 41, _, _ => exact fun _ => List.mem_of_getElem? (i := 630) (by decide +kernel)
  | 42, _, _ => exact fun h => absurd h (by decide)
  | 43, _, _ => exact fun _ => List.mem_of_getElem? (i := 653) (by decide +kernel)
  | 44, _, _ => exact fun _ => List.mem_of_getElem? (i := 669) (by decide +kernel)
  | 45, _, _ => exact fun _ => List.mem_of_getElem? (i := 17) (by decide +kernel)
  | 46, _, _ => exact fun _ => List.mem_of_getElem? (i := 677) (by decide +kernel)
  | 47, _, _ => exact fun _ => List.mem_of_getElem? (i := 18) (by decide +kernel)
  | 48, _, _ => exact fun _ => List.mem_of_getElem? (i := 19) (by decide +kernel)
  | 49, _, _ => exact fun _ => List.mem_of_getElem? (i := 20) (by decide +kernel)
  | 50, _, _ => exact fun _ => List.mem_of_getElem? (i := 21) (by decide +kernel)
  | 51, _, _ => exact fun _ => List.mem_of_getElem? (i := 707) (by decide +kernel)
  | 52, _, _ => exact fun h => absurd h (by decide)
  | 53, _, _ => exact fun _ => List.mem_of_getElem? (i := 380) (by decide +kernel)
  | 54, _, _ => exact fun _ => List.mem_of_getElem? (i := 441) (by decide +kernel)
  | 55, _, _ => exact fun h => absurd h (by decide)
  | 56, _, _ => exact fun _ => List.mem_of_getElem? (i := 509) (by decide +kernel)
  | 57, _, _ => exact fun _ => List.mem_of_getElem? (i := 514) (by decide +kernel)
  | 58, _, _ => exact fun _ => List.mem_of_getElem? (i := 518) (by decide +kernel)
  | 59, _, _ => exact fun _ => List.mem_of_getElem? (i := 535) (by decide +kernel)
  | 60, _, _ => exact fun _ => List.mem_of_getElem? (i := 539) (by decide +kernel)
  | 61, _, _ => exact fun _ => List.mem_of_getElem? (i := 5) (by decide +kernel)
  | 62, _, _ => exact fun h => absurd h (by decide)
  | 63, _, _ => exact fun _ => List.mem_of_getElem? (i := 553) (by decide +kernel)
  | 64, _, _ => exact fun _ => List.mem_of_getElem? (i := 579) (by decide +kernel)
  | 65, _, _ => exact fun _ => List.mem_of_getElem? (i := 583) (by decide +kernel)
  | 66, _, _ => exact fun _ => List.mem_of_getElem? (i := 591) (by decide +kernel)
  | 67, _, _ => exact fun _ => List.mem_of_getElem? (i := 599) (by decide +kernel)
  | 68, _, _ => exact fun _ => List.mem_of_getElem? (i := 634) (by decide +kernel)
  | 69, _, _ => exact fun h => absurd h (by decide)
  | 70, _, _ => exact fun _ => List.mem_of_getElem? (i := 302) (by decide +kernel)
  | 71, _, _ => exact fun h => absurd h (by decide)
  | 72, _, _ => exact fun h => absurd h (by decide)
  | 73, _, _ => exact fun _ => List.mem_of_getElem? (i := 1) (by decide +kernel)
  | 74, _, _ => exact fun _ => List.mem_of_getElem? (i := 403) (by decide +kernel)
  | 75, _, _ => exact fun h => absurd h (by decide)
  | 76, _, _ => exact fun _ => List.mem_of_getElem? (i := 437) (by decide +kernel)
  | 77, _, _ => exact fun _ => List.mem_of_getElem? (i := 449) (by decide +kernel)
  | 78, _, _ => exact fun h => absurd h (by decide)
  | 79, _, _ => exact fun h => absurd h (by decide)
  | 80, _, _ => exact fun _ => List.mem_of_getElem? (i := 482) (by decide +kernel)
  | 81, _, _ => exact fun _ => List.mem_of_getElem? (i := 493) (by decide +kernel)
  | 82, _, _ => exact fun h => absurd h (by decide)
  | 83, _, _ => exact fun _ => List.mem_of_getElem? (i := 625) (by decide +kernel)
  | 84, _, _ => exact fun _ => List.mem_of_getElem? (i := 641) (by decide +kernel)
  | 85, _, _ => exact fun _ => List.mem_of_getElem? (i := 649) (by decide +kernel)
  | 86, _, _ => exact fun _ => List.mem_of_getElem? (i := 665) (by decide +kernel)
  | 87, _, _ => exact fun _ => List.mem_of_getElem? (i := 703) (by decide +kernel)
  | 88, _, _ => exact fun _ => List.mem_of_getElem? (i := 714) (by decide +kernel)
  | 89, _, _ => exact fun _ => List.mem_of_getElem? (i := 722) (by decide +kernel)
  | 90, _, _ => exact fun _ => List.mem_of_getElem? (i := 729) (by decide +kernel)
  | 91, _, _ => exact fun h => absurd h (by decide)
  | 92, _, _ => exact fun _ => List.mem_of_getElem? (i := 855) (by decide +kernel)
  | 93, _, _ => exact fun _ => List.mem_of_getElem? (i := 859) (by decide +kernel)
  | 94, _, _ => exact fun h => absurd h (by decide)
  | 95, _, _ => exact fun h => absurd h (by decide)
  | 96, _, _ => exact fun _ => List.mem_of_getElem? (i := 22) (by decide +kernel)
  | 97, _, _ => exact fun _ => List.mem_of_getElem? (i := 873) (by decide +kernel)
  | 98, _, _ => exact fun h => absurd h (by decide)
  | 99, _, _ => exact fun h => absurd h (by decide)
  | 100, _, _ => exact fun _ => List.mem_of_getElem? (i := 883) (by decide +kernel)
  | 101, _, _ => exact fun _ => List.mem_of_getElem? (i := 887) (by decide +kernel)
  | 102, _, _ => exact fun h => absurd h (by decide)
  | 103, _, _ => exact fun h => absurd h (by decide)
  | 104, _, _ => exact fun _ => List.mem_of_getElem? (i := 897) (by decide +kernel)
  | 105, _, _ => exact fun _ => List.mem_of_getElem? (i := 901) (by decide +kernel)
  | 106, _, _ => exact fun _ => List.mem_of_getElem? (i := 23) (by decide +kernel)
  | 107, _, _ => exact fun _ => List.mem_of_getElem? (i := 24) (by decide +kernel)
  | 108, _, _ => exact fun _ => List.mem_of_getElem? (i := 25) (by decide +kernel)
  | 109, _, _ => exact fun _ => List.mem_of_getElem? (i := 26) (by decide +kernel)
  | 110, _, _ => exact fun _ => List.mem_of_getElem? (i := 27) (by decide +kernel)
  | 111, _, _ => exact fun _ => List.mem_of_getElem? (i := 28) (by decide +kernel)
  | 112, _, _ => exact fun _ => List.mem_of_getElem? (i := 29) (by decide +kernel)
  | 113, _, _ => exact fun _ => List.mem_of_getElem? (i := 30) (by decide +kernel)
  | 114, _, _ => exact fun _ => List.mem_of_getElem? (i := 31) (by decide +kernel)
  | 115, _, _ => exact fun _ => List.mem_of_getElem? (i := 32) (by decide +kernel)
  | 116, _, _ => exact fun _ => List.mem_of_getElem? (i := 33) (by decide +kernel)
  | 117, _, _ => exact fun _ => List.mem_of_getElem? (i := 34) (by decide +kernel)
  | 118, _, _ => exact fun _ => List.mem_of_getElem? (i := 35) (by decide +kernel)
  | 119, _, _ => exact fun _ => List.mem_of_getElem? (i := 36) (by decide +kernel)
  | 120, _, _ => exact fun _ => List.mem_of_getElem? (i := 961) (by decide +kernel)
  | 121, _, _ => exact fun _ => List.mem_of_getElem? (i := 37) (by decide +kernel)
  | 122, _, _ => exact fun _ => List.mem_of_getElem? (i := 969) (by decide +kernel)
  | 123, _, _ => exact fun _ => List.mem_of_getElem? (i := 973) (by decide +kernel)
  | 124, _, _ => exact fun _ => List.mem_of_getElem? (i := 38) (by decide +kernel)
  | 125, _, _ => exact fun _ => List.mem_of_getElem? (i := 981) (by decide +kernel)
  | 126, _, _ => exact fun _ => List.mem_of_getElem? (i := 39) (by decide +kernel)
  | 127, _, _ => exact fun _ => List.mem_of_getElem? (i := 40) (by decide +kernel)
  | 128, _, _ => exact fun _ => List.mem_of_getElem? (i := 41) (by decide +kernel)
  | 129, _, _ => exact fun _ => List.mem_of_getElem? (i := 42) (by decide +kernel)
  | 130, _, _ => exact fun _ => List.mem_of_getElem? (i := 43) (by decide +kernel)
  | 131, _, _ => exact fun _ => List.mem_of_getElem? (i := 44) (by decide +kernel)
  | 132, _, _ => exact fun _ => List.mem_of_getElem? (i := 1009) (by decide +kernel)
  | 133, _, _ => exact fun _ => List.mem_of_getElem? (i := 1013) (by decide +kernel)
  | 134, _, _ => exact fun _ => List.mem_of_getElem? (i := 1017) (by decide +kernel)
  | 135, _, _ => exact fun _ => List.mem_of_getElem? (i := 1021) (by decide +kernel)
  | 136, _, _ => exact fun h => absurd h (by decide)
  | 137, _, _ => exact fun h => absurd h (by decide)
  | n + 138, _, h => exact absurd h (by omega)
theorem ax_dn : ∀ k, 0 < k → k < 138 → (parseMethodDescriptor (ax_ds k)).map (fun d => d.parameters.length) = some (if ax_st k = true then ax_np k else ax_np k - 1) ∧ (ax_st k = false → 0 < ax_np k) ∧ ax_np k ≤ ax_ml k ∧ plainFor (ax_md k) = true ∧ ax_ow k ≠ "java/lang/invoke/MethodHandle" ∧ ax_ow k ≠ "java/lang/invoke/VarHandle" := by
  intro k h0 h
  match k, h0, h with
  | 0, h0, _ => exact absurd h0 (by omega)
  | 1, _, _ => exact by decide +kernel
  | 2, _, _ => exact by decide +kernel
  | 3, _, _ => exact by decide +kernel
  | 4, _, _ => exact by decide +kernel
  | 5, _, _ => exact by decide +kernel
  | 6, _, _ => exact by decide +kernel
  | 7, _, _ => exact by decide +kernel
  | 8, _, _ => exact by decide +kernel
  | 9, _, _ => exact by decide +kernel
  | 10, _, _ => exact by decide +kernel
  | 11, _, _ => exact by decide +kernel
  | 12, _, _ => exact by decide +kernel
  | 13, _, _ => exact by decide +kernel
  | 14, _, _ => exact by decide +kernel
  | 15, _, _ => exact by decide +kernel
  | 16, _, _ => exact by decide +kernel
  | 17, _, _ => exact by decide +kernel
  | 18, _, _ => exact by decide +kernel
  | 19, _, _ => exact by decide +kernel
  | 20, _, _ => exact by decide +kernel
  | 21, _, _ => exact by decide +kernel
  | 22, _, _ => exact by decide +kernel
  | 23, _, _ => exact by decide +kernel
  | 24, _, _ => exact by decide +kernel
  | 25, _, _ => exact by decide +kernel
  | 26, _, _ => exact by decide +kernel
  | 27, _, _ => exact by decide +kernel
  | 28, _, _ => exact by decide +kernel
  | 29, _, _ => exact by decide +kernel
  | 30, _, _ => exact by decide +kernel
  | 31, _, _ => exact by decide +kernel
  | 32, _, _ => exact by decide +kernel
  | 33, _, _ => exact by decide +kernel
  | 34, _, _ => exact by decide +kernel
  | 35, _, _ => exact by decide +kernel
  | 36, _, _ => exact by decide +kernel
  | 37, _, _ => exact by decide +kernel
  | 38, _, _ => exact by decide +kernel
  | 39, _, _ => exact by decide +kernel
  | 40, _, _ => exact by decide +kernel
  | 41, _, _ => exact by decide +kernel
  | 42, _, _ => exact by decide +kernel
  | 43, _, _ => exact by decide +kernel
  | 44, _, _ => exact by decide +kernel
  | 45, _, _ => exact by decide +kernel
  | 46, _, _ => exact by decide +kernel
  | 47, _, _ => exact by decide +kernel
  | 48, _, _ => exact by decide +kernel
  | 49, _, _ => exact by decide +kernel
  | 50, _, _ => exact by decide +kernel
  | 51, _, _ => exact by decide +kernel
  | 52, _, _ => exact by decide +kernel
  | 53, _, _ => exact by decide +kernel
  | 54, _, _ => exact by decide +kernel
  | 55, _, _ => exact by decide +kernel
  | 56, _, _ => exact by decide +kernel
  | 57, _, _ => exact by decide +kernel
  | 58, _, _ => exact by decide +kernel
  | 59, _, _ => exact by decide +kernel
  | 60, _, _ => exact by decide +kernel
  | 61, _, _ => exact by decide +kernel
  | 62, _, _ => exact by decide +kernel
  | 63, _, _ => exact by decide +kernel
  | 64, _, _ => exact by decide +kernel
  | 65, _, _ => exact by decide +kernel
  | 66, _, _ => exact by decide +kernel
  | 67, _, _ => exact by decide +kernel
  | 68, _, _ => exact by decide +kernel
  | 69, _, _ => exact by decide +kernel
  | 70, _, _ => exact by decide +kernel
  | 71, _, _ => exact by decide +kernel
  | 72, _, _ => exact by decide +kernel
  | 73, _, _ => exact by decide +kernel
  | 74, _, _ => exact by decide +kernel
  | 75, _, _ => exact by decide +kernel
  | 76, _, _ => exact by decide +kernel
  | 77, _, _ => exact by decide +kernel
  | 78, _, _ => exact by decide +kernel
  | 79, _, _ => exact by decide +kernel
  | 80, _, _ => exact by decide +kernel
  | 81, _, _ => exact by decide +kernel
  | 82, _, _ => exact by decide +kernel
  | 83, _, _ => exact by decide +kernel
  | 84, _, _ => exact by decide +kernel
  | 85, _, _ => exact by decide +kernel
  | 86, _, _ => exact by decide +kernel
  | 87, _, _ => exact by decide +kernel
  | 88, _, _ => exact by decide +kernel
  | 89, _, _ => exact by decide +kernel
  | 90, _, _ => exact by decide +kernel
  | 91, _, _ => exact by decide +kernel
  | 92, _, _ => exact by decide +kernel
  | 93, _, _ => exact by decide +kernel
  | 94, _, _ => exact by decide +kernel
  | 95, _, _ => exact by decide +kernel
  | 96, _, _ => exact by decide +kernel
  | 97, _, _ => exact by decide +kernel
  | 98, _, _ => exact by decide +kernel
  | 99, _, _ => exact by decide +kernel
  | 100, _, _ => exact by decide +kernel
  | 101, _, _ => exact by decide +kernel
  | 102, _, _ => exact by decide +kernel
  | 103, _, _ => exact by decide +kernel
  | 104, _, _ => exact by decide +kernel
  | 105, _, _ => exact by decide +kernel
  | 106, _, _ => exact by decide +kernel
  | 107, _, _ => exact by decide +kernel
  | 108, _, _ => exact by decide +kernel
  | 109, _, _ => exact by decide +kernel
  | 110, _, _ => exact by decide +kernel
  | 111, _, _ => exact by decide +kernel
  | 112, _, _ => exact by decide +kernel
  | 113, _, _ => exact by decide +kernel
  | 114, _, _ => exact by decide +kernel
  | 115, _, _ => exact by decide +kernel
  | 116, _, _ => exact by decide +kernel
  | 117, _, _ => exact by decide +kernel
  | 118, _, _ => exact by decide +kernel
  | 119, _, _ => exact by decide +kernel
  | 120, _, _ => exact by decide +kernel
  | 121, _, _ => exact by decide +kernel
  | 122, _, _ => exact by decide +kernel
  | 123, _, _ => exact by decide +kernel
  | 124, _, _ => exact by decide +kernel
  | 125, _, _ => exact by decide +kernel
  | 126, _, _ => exact by decide +kernel
  | 127, _, _ => exact by decide +kernel
  | 128, _, _ => exact by decide +kernel
  | 129, _, _ => exact by decide +kernel
  | 130, _, _ => exact by decide +kernel
  | 131, _, _ => exact by decide +kernel
  | 132, _, _ => exact by decide +kernel
  | 133, _, _ => exact by decide +kernel
  | 134, _, _ => exact by decide +kernel
  | 135, _, _ => exact by decide +kernel
  | 136, _, _ => exact by decide +kernel
  | 137, _, _ => exact by decide +kernel
  | n + 138, _, h => exact absurd h (by omega)
