set_option maxRecDepth 100000 in
set_option maxHeartbeats 4000000 in
theorem z_fits {w1 w2 : WC} {x : Cy} {b L : Nat} {xs : Nat → Int32} (C : Lx w1 w2 x b L xs) (hS : Sv w1) (hX : Nx w1) {fz : Option Nat} (hJ : Jz w1 fz) {sa sv : Nat → Nat} (hT : Tx w1 sa sv) (hM : Md w2) (hL : L ≤ 3072) {i : Nat} (hi : i + 6 ≤ L) (k : ∀ μ ν, Rl μ ν → Lz w1 w2 x μ ν 1443 (lvL w1 w2 b i) []) {μ ν : Me} (h : Rl μ ν) : Lz w1 w2 x μ ν 849 (lvL w1 w2 b i) [] := by
  refine z_aload_n C dL_law_849 rfl rfl ?_
  refine z_arg (j := 1) C dL_law_850 dL_law_851 dL_law_852 dL_law_853 dL_law_854 ic_1 rfl rfl (by omega) hL rfl ?_
  refine z_arg (j := 2) C dL_law_855 dL_law_856 dL_law_857 dL_law_858 dL_law_859 ic_2 rfl rfl (by omega) hL rfl ?_
  refine z_i1 C dL_law_860 mi_X4_fits (c_X4_fits hS hX h.ivS h.1.1 h.1.2) rfl hS.1.1 hS.1.2 rfl ml_L_101 (rk_of2 rfl) rfl (Nat.le_of_ble_eq_true rfl) rfl (fun r1 u1 p1 => ?_)
  refine z_aload_n C dL_law_863 rfl rfl ?_
  refine z_arg (j := 1) C dL_law_864 dL_law_865 dL_law_866 dL_law_867 dL_law_868 ic_1 rfl rfl (by omega) hL rfl ?_
  refine z_arg (j := 2) C dL_law_869 dL_law_870 dL_law_871 dL_law_872 dL_law_873 ic_2 rfl rfl (by omega) hL rfl ?_
  refine z_i2 C dL_law_874 mi_X5_fits (c_X5_fits hM h.ivZ h.1.2) rfl hM.1.1 hM.1.2 rfl ml_L_104 (rk_of2 rfl) rfl (Nat.le_of_ble_eq_true rfl) rfl (fun r2 u2 p2 => ?_)
  obtain ⟨e, hR⟩ := (ag_fits h) _ _ _ _ p1 p2
  subst e
  exact z_icmp_eq C 1443 880 dL_law_877 (by decide) rfl (fun _ => k _ _ hR) (fun q => absurd rfl q)

set_option maxRecDepth 100000 in
set_option maxHeartbeats 4000000 in
theorem z_mood {w1 w2 : WC} {x : Cy} {b L : Nat} {xs : Nat → Int32} (C : Lx w1 w2 x b L xs) (hS : Sv w1) (hX : Nx w1) {fz : Option Nat} (hJ : Jz w1 fz) {sa sv : Nat → Nat} (hT : Tx w1 sa sv) (hM : Md w2) (hL : L ≤ 3072) {i : Nat} (hi : i + 6 ≤ L) (k : ∀ μ ν, Rl μ ν → Lz w1 w2 x μ ν 1443 (lvL w1 w2 b i) []) {μ ν : Me} (h : Rl μ ν) : Lz w1 w2 x μ ν 882 (lvL w1 w2 b i) [] := by
  refine z_aload_n C dL_law_882 rfl rfl ?_
  refine z_arg (j := 1) C dL_law_883 dL_law_884 dL_law_885 dL_law_886 dL_law_887 ic_1 rfl rfl (by omega) hL rfl ?_
  refine z_arg (j := 2) C dL_law_888 dL_law_889 dL_law_890 dL_law_891 dL_law_892 ic_2 rfl rfl (by omega) hL rfl ?_
  refine z_i1 C dL_law_893 mi_X4_mood (c_X4_mood hS hX h.ivS h.1.1 h.1.2) rfl hS.1.1 hS.1.2 rfl ml_L_105 (rk_of2 rfl) rfl (Nat.le_of_ble_eq_true rfl) rfl (fun r1 u1 p1 => ?_)
  refine z_aload_n C dL_law_896 rfl rfl ?_
  refine z_arg (j := 1) C dL_law_897 dL_law_898 dL_law_899 dL_law_900 dL_law_901 ic_1 rfl rfl (by omega) hL rfl ?_
  refine z_arg (j := 2) C dL_law_902 dL_law_903 dL_law_904 dL_law_905 dL_law_906 ic_2 rfl rfl (by omega) hL rfl ?_
  refine z_i2 C dL_law_907 mi_X5_mood (c_X5_mood hM h.ivZ h.1.2) rfl hM.1.1 hM.1.2 rfl ml_L_108 (rk_of2 rfl) rfl (Nat.le_of_ble_eq_true rfl) rfl (fun r2 u2 p2 => ?_)
  obtain ⟨e, hR⟩ := (ag_mood h) _ _ _ _ p1 p2
  subst e
  exact z_icmp_eq C 1443 913 dL_law_910 (by decide) rfl (fun _ => k _ _ hR) (fun q => absurd rfl q)

set_option maxRecDepth 100000 in
set_option maxHeartbeats 4000000 in
theorem z_kinds {w1 w2 : WC} {x : Cy} {b L : Nat} {xs : Nat → Int32} (C : Lx w1 w2 x b L xs) (hS : Sv w1) (hX : Nx w1) {fz : Option Nat} (hJ : Jz w1 fz) {sa sv : Nat → Nat} (hT : Tx w1 sa sv) (hM : Md w2) (hL : L ≤ 3072) {i : Nat} (hi : i + 6 ≤ L) (k : ∀ μ ν, Rl μ ν → Lz w1 w2 x μ ν 1443 (lvL w1 w2 b i) []) {μ ν : Me} (h : Rl μ ν) : Lz w1 w2 x μ ν 915 (lvL w1 w2 b i) [] := by
  refine z_aload_n C dL_law_915 rfl rfl ?_
  refine z_arg (j := 1) C dL_law_916 dL_law_917 dL_law_918 dL_law_919 dL_law_920 ic_1 rfl rfl (by omega) hL rfl ?_
  refine z_arg (j := 2) C dL_law_921 dL_law_922 dL_law_923 dL_law_924 dL_law_925 ic_2 rfl rfl (by omega) hL rfl ?_
  refine z_i1 C dL_law_926 mi_X4_kinds (c_X4_kinds hS hX h.ivS h.1.1 h.1.2) rfl hS.1.1 hS.1.2 rfl ml_L_109 (rk_of2 rfl) rfl (Nat.le_of_ble_eq_true rfl) rfl (fun r1 u1 p1 => ?_)
  refine z_aload_n C dL_law_929 rfl rfl ?_
  refine z_arg (j := 1) C dL_law_930 dL_law_931 dL_law_932 dL_law_933 dL_law_934 ic_1 rfl rfl (by omega) hL rfl ?_
  refine z_arg (j := 2) C dL_law_935 dL_law_936 dL_law_937 dL_law_938 dL_law_939 ic_2 rfl rfl (by omega) hL rfl ?_
  refine z_i2 C dL_law_940 mi_X5_kinds (c_X5_kinds hM h.ivZ h.1.2) rfl hM.1.1 hM.1.2 rfl ml_L_112 (rk_of2 rfl) rfl (Nat.le_of_ble_eq_true rfl) rfl (fun r2 u2 p2 => ?_)
  obtain ⟨e, hR⟩ := (ag_kinds h) _ _ _ _ p1 p2
  subst e
  exact z_icmp_eq C 1443 946 dL_law_943 (by decide) rfl (fun _ => k _ _ hR) (fun q => absurd rfl q)

set_option maxRecDepth 100000 in
set_option maxHeartbeats 4000000 in
theorem z_come {w1 w2 : WC} {x : Cy} {b L : Nat} {xs : Nat → Int32} (C : Lx w1 w2 x b L xs) (hS : Sv w1) (hX : Nx w1) {fz : Option Nat} (hJ : Jz w1 fz) {sa sv : Nat → Nat} (hT : Tx w1 sa sv) (hM : Md w2) (hL : L ≤ 3072) {i : Nat} (hi : i + 6 ≤ L) (k : ∀ μ ν, Rl μ ν → Lz w1 w2 x μ ν 1443 (lvL w1 w2 b i) []) {μ ν : Me} (h : Rl μ ν) : Lz w1 w2 x μ ν 948 (lvL w1 w2 b i) [] := by
  refine z_aload_n C dL_law_948 rfl rfl ?_
  refine z_arg (j := 1) C dL_law_949 dL_law_950 dL_law_951 dL_law_952 dL_law_953 ic_1 rfl rfl (by omega) hL rfl ?_
  refine z_i1 C dL_law_954 mi_X4_come (c_X4_come hS hX h.1.1 h.1.2) rfl hS.1.1 hS.1.2 rfl ml_L_113 (rk_of2 rfl) rfl (Nat.le_of_ble_eq_true rfl) rfl (fun r1 u1 p1 => ?_)
  refine z_aload_n C dL_law_957 rfl rfl ?_
  refine z_arg (j := 1) C dL_law_958 dL_law_959 dL_law_960 dL_law_961 dL_law_962 ic_1 rfl rfl (by omega) hL rfl ?_
  refine z_i2 C dL_law_963 mi_X5_come (c_X5_come hM h.1.2) rfl hM.1.1 hM.1.2 rfl ml_L_116 (rk_of2 rfl) rfl (Nat.le_of_ble_eq_true rfl) rfl (fun r2 u2 p2 => ?_)
  obtain ⟨e, hR⟩ := (ag_come h) _ _ _ _ p1 p2
  subst e
  exact z_icmp_eq C 1443 969 dL_law_966 (by decide) rfl (fun _ => k _ _ hR) (fun q => absurd rfl q)

set_option maxRecDepth 100000 in
set_option maxHeartbeats 4000000 in
theorem z_odds {w1 w2 : WC} {x : Cy} {b L : Nat} {xs : Nat → Int32} (C : Lx w1 w2 x b L xs) (hS : Sv w1) (hX : Nx w1) {fz : Option Nat} (hJ : Jz w1 fz) {sa sv : Nat → Nat} (hT : Tx w1 sa sv) (hM : Md w2) (hL : L ≤ 3072) {i : Nat} (hi : i + 6 ≤ L) (k : ∀ μ ν, Rl μ ν → Lz w1 w2 x μ ν 1443 (lvL w1 w2 b i) []) {μ ν : Me} (h : Rl μ ν) : Lz w1 w2 x μ ν 971 (lvL w1 w2 b i) [] := by
  refine z_aload_n C dL_law_971 rfl rfl ?_
  refine z_arg (j := 1) C dL_law_972 dL_law_973 dL_law_974 dL_law_975 dL_law_976 ic_1 rfl rfl (by omega) hL rfl ?_
  refine z_arg (j := 2) C dL_law_977 dL_law_978 dL_law_979 dL_law_980 dL_law_981 ic_2 rfl rfl (by omega) hL rfl ?_
  refine z_arg (j := 3) C dL_law_982 dL_law_983 dL_law_984 dL_law_985 dL_law_986 ic_3 rfl rfl (by omega) hL rfl ?_
  refine z_l1 C dL_law_987 mi_X4_odds (c_X4_odds hS hX h.1.1 h.1.2) rfl hS.1.1 hS.1.2 rfl ml_L_117 (rk_of2 rfl) rfl (Nat.le_of_ble_eq_true rfl) rfl (fun r1 u1 p1 => ?_)
  refine z_aload_n C dL_law_990 rfl rfl ?_
  refine z_arg (j := 1) C dL_law_991 dL_law_992 dL_law_993 dL_law_994 dL_law_995 ic_1 rfl rfl (by omega) hL rfl ?_
  refine z_arg (j := 2) C dL_law_996 dL_law_997 dL_law_998 dL_law_999 dL_law_1000 ic_2 rfl rfl (by omega) hL rfl ?_
  refine z_arg (j := 3) C dL_law_1001 dL_law_1002 dL_law_1003 dL_law_1004 dL_law_1005 ic_3 rfl rfl (by omega) hL rfl ?_
  refine z_l2 C dL_law_1006 mi_X5_odds (c_X5_odds hM h.1.2) rfl hM.1.1 hM.1.2 rfl ml_L_121 (rk_of2 rfl) rfl (Nat.le_of_ble_eq_true rfl) rfl (fun r2 u2 p2 => ?_)
  obtain ⟨e, hR⟩ := (ag_odds h) _ _ _ _ p1 p2
  subst e
  refine z_lcmp C dL_law_1009 rfl ?_
  exact z_if_eq C 1443 1013 dL_law_1010 (by decide) rfl (fun _ => k _ _ hR) (fun q => absurd ((lg_cmp_eq _ _).mpr rfl) q)

set_option maxRecDepth 100000 in
set_option maxHeartbeats 4000000 in
theorem z_seed {w1 w2 : WC} {x : Cy} {b L : Nat} {xs : Nat → Int32} (C : Lx w1 w2 x b L xs) (hS : Sv w1) (hX : Nx w1) {fz : Option Nat} (hJ : Jz w1 fz) {sa sv : Nat → Nat} (hT : Tx w1 sa sv) (hM : Md w2) (hL : L ≤ 3072) {i : Nat} (hi : i + 6 ≤ L) (k : ∀ μ ν, Rl μ ν → Lz w1 w2 x μ ν 1443 (lvL w1 w2 b i) []) {μ ν : Me} (h : Rl μ ν) : Lz w1 w2 x μ ν 1015 (lvL w1 w2 b i) [] := by
  refine z_aload_n C dL_law_1015 rfl rfl ?_
  refine z_arg (j := 1) C dL_law_1016 dL_law_1017 dL_law_1018 dL_law_1019 dL_law_1020 ic_1 rfl rfl (by omega) hL rfl ?_
  refine z_i1 C dL_law_1021 mi_X4_seed (c_X4_seed hS hX) rfl hS.1.1 hS.1.2 rfl ml_L_122 (rk_of2 rfl) rfl (Nat.le_of_ble_eq_true rfl) rfl (fun r1 u1 p1 => ?_)
  refine z_aload_n C dL_law_1024 rfl rfl ?_
  refine z_arg (j := 1) C dL_law_1025 dL_law_1026 dL_law_1027 dL_law_1028 dL_law_1029 ic_1 rfl rfl (by omega) hL rfl ?_
  refine z_i2 C dL_law_1030 mi_X5_seed (c_X5_seed hM) rfl hM.1.1 hM.1.2 rfl ml_L_125 (rk_of2 rfl) rfl (Nat.le_of_ble_eq_true rfl) rfl (fun r2 u2 p2 => ?_)
  obtain ⟨e, hR⟩ := (ag_seed h) _ _ _ _ p1 p2
  subst e
  exact z_icmp_eq C 1443 1036 dL_law_1033 (by decide) rfl (fun _ => k _ _ hR) (fun q => absurd rfl q)

set_option maxRecDepth 100000 in
set_option maxHeartbeats 4000000 in
theorem z_feed {w1 w2 : WC} {x : Cy} {b L : Nat} {xs : Nat → Int32} (C : Lx w1 w2 x b L xs) (hS : Sv w1) (hX : Nx w1) {fz : Option Nat} (hJ : Jz w1 fz) {sa sv : Nat → Nat} (hT : Tx w1 sa sv) (hM : Md w2) (hL : L ≤ 3072) {i : Nat} (hi : i + 6 ≤ L) (k : ∀ μ ν, Rl μ ν → Lz w1 w2 x μ ν 1443 (lvL w1 w2 b i) []) {μ ν : Me} (h : Rl μ ν) : Lz w1 w2 x μ ν 1038 (lvL w1 w2 b i) [] := by
  obtain ⟨a, n, hz, hm⟩ := h.2.2.2.1
  refine z_aload_n C dL_law_1038 rfl rfl ?_
  refine z_arg (j := 1) C dL_law_1039 dL_law_1040 dL_law_1041 dL_law_1042 dL_law_1043 ic_1 rfl rfl (by omega) hL rfl ?_
  refine z_arg (j := 2) C dL_law_1044 dL_law_1045 dL_law_1046 dL_law_1047 dL_law_1048 ic_2 rfl rfl (by omega) hL rfl ?_
  refine z_i1 C dL_law_1049 mi_X4_feed (c_X4_feed hS hX hz.2.1 hz.1) rfl hS.1.1 hS.1.2 rfl ml_L_126 (rk_of2 rfl) rfl (Nat.le_of_ble_eq_true rfl) rfl (fun r1 u1 p1 => ?_)
  refine z_aload_n C dL_law_1052 rfl rfl ?_
  refine z_arg (j := 1) C dL_law_1053 dL_law_1054 dL_law_1055 dL_law_1056 dL_law_1057 ic_1 rfl rfl (by omega) hL rfl ?_
  refine z_arg (j := 2) C dL_law_1058 dL_law_1059 dL_law_1060 dL_law_1061 dL_law_1062 ic_2 rfl rfl (by omega) hL rfl ?_
  refine z_i2 C dL_law_1063 mi_X5_feed (c_X5_feed hM hz.2.1 hm.1) rfl hM.1.1 hM.1.2 rfl ml_L_129 (rk_of2 rfl) rfl (Nat.le_of_ble_eq_true rfl) rfl (fun r2 u2 p2 => ?_)
  obtain ⟨e, hR⟩ := (ag_feed h hz.2.1 hz.1 hm.1) _ _ _ _ p1 p2
  subst e
  exact z_icmp_eq C 1443 1069 dL_law_1066 (by decide) rfl (fun _ => k _ _ hR) (fun q => absurd rfl q)

set_option maxRecDepth 100000 in
set_option maxHeartbeats 4000000 in
theorem z_wipe {w1 w2 : WC} {x : Cy} {b L : Nat} {xs : Nat → Int32} (C : Lx w1 w2 x b L xs) (hS : Sv w1) (hX : Nx w1) {fz : Option Nat} (hJ : Jz w1 fz) {sa sv : Nat → Nat} (hT : Tx w1 sa sv) (hM : Md w2) (hL : L ≤ 3072) {i : Nat} (hi : i + 6 ≤ L) (k : ∀ μ ν, Rl μ ν → Lz w1 w2 x μ ν 1443 (lvL w1 w2 b i) []) {μ ν : Me} (h : Rl μ ν) : Lz w1 w2 x μ ν 1071 (lvL w1 w2 b i) [] := by
  refine z_aload_n C dL_law_1071 rfl rfl ?_
  refine z_i1 C dL_law_1072 mi_X4_wipe (c_X4_wipe hS hX) rfl hS.1.1 hS.1.2 rfl ml_L_130 (rk_of2 rfl) rfl (Nat.le_of_ble_eq_true rfl) rfl (fun r1 u1 p1 => ?_)
  refine z_aload_n C dL_law_1075 rfl rfl ?_
  refine z_i2 C dL_law_1076 mi_X5_wipe (c_X5_wipe hM) rfl hM.1.1 hM.1.2 rfl ml_L_133 (rk_of2 rfl) rfl (Nat.le_of_ble_eq_true rfl) rfl (fun r2 u2 p2 => ?_)
  obtain ⟨e, hR⟩ := (ag_wipe h) _ _ _ _ p1 p2
  subst e
  exact z_icmp_eq C 1443 1082 dL_law_1079 (by decide) rfl (fun _ => k _ _ hR) (fun q => absurd rfl q)

set_option maxRecDepth 100000 in
set_option maxHeartbeats 4000000 in
theorem z_text {w1 w2 : WC} {x : Cy} {b L : Nat} {xs : Nat → Int32} (C : Lx w1 w2 x b L xs) (hS : Sv w1) (hX : Nx w1) {fz : Option Nat} (hJ : Jz w1 fz) {sa sv : Nat → Nat} (hT : Tx w1 sa sv) (hM : Md w2) (hL : L ≤ 3072) {i : Nat} (hi : i + 6 ≤ L) (k : ∀ μ ν, Rl μ ν → Lz w1 w2 x μ ν 1443 (lvL w1 w2 b i) []) {μ ν : Me} (h : Rl μ ν) : Lz w1 w2 x μ ν 1084 (lvL w1 w2 b i) [] := by
  obtain ⟨a, n, hz, hm⟩ := h.2.2.2.1
  refine z_aload_n C dL_law_1084 rfl rfl ?_
  refine z_i1 C dL_law_1085 mi_X4_text (c_X4_text hS hX hJ hT hz h.1.1 h.1.2) rfl hS.1.1 hS.1.2 rfl ml_L_134 (rk_of2 rfl) rfl (Nat.le_of_ble_eq_true rfl) rfl (fun r1 u1 p1 => ?_)
  refine z_aload_n C dL_law_1088 rfl rfl ?_
  refine z_i2 C dL_law_1089 mi_X5_text (c_X5_text hM hm h.1.2) rfl hM.1.1 hM.1.2 rfl ml_L_137 (rk_of2 rfl) rfl (Nat.le_of_ble_eq_true rfl) rfl (fun r2 u2 p2 => ?_)
  obtain ⟨e, hR⟩ := (ag_text h hz) _ _ _ _ p1 p2
  subst e
  exact z_icmp_eq C 1443 1095 dL_law_1092 (by decide) rfl (fun _ => k _ _ hR) (fun q => absurd rfl q)

set_option maxRecDepth 100000 in
set_option maxHeartbeats 4000000 in
theorem z_hold {w1 w2 : WC} {x : Cy} {b L : Nat} {xs : Nat → Int32} (C : Lx w1 w2 x b L xs) (hS : Sv w1) (hX : Nx w1) {fz : Option Nat} (hJ : Jz w1 fz) {sa sv : Nat → Nat} (hT : Tx w1 sa sv) (hM : Md w2) (hL : L ≤ 3072) {i : Nat} (hi : i + 6 ≤ L) (k : ∀ μ ν, Rl μ ν → Lz w1 w2 x μ ν 1443 (lvL w1 w2 b i) []) {μ ν : Me} (h : Rl μ ν) : Lz w1 w2 x μ ν 1097 (lvL w1 w2 b i) [] := by
  refine z_aload_n C dL_law_1097 rfl rfl ?_
  refine z_arg (j := 1) C dL_law_1098 dL_law_1099 dL_law_1100 dL_law_1101 dL_law_1102 ic_1 rfl rfl (by omega) hL rfl ?_
  refine z_arg (j := 2) C dL_law_1103 dL_law_1104 dL_law_1105 dL_law_1106 dL_law_1107 ic_2 rfl rfl (by omega) hL rfl ?_
  refine z_i1 C dL_law_1108 mi_X4_hold (c_X4_hold hS hX h.1.1 h.1.2) rfl hS.1.1 hS.1.2 rfl ml_L_138 (rk_of2 rfl) rfl (Nat.le_of_ble_eq_true rfl) rfl (fun r1 u1 p1 => ?_)
  refine z_aload_n C dL_law_1111 rfl rfl ?_
  refine z_arg (j := 1) C dL_law_1112 dL_law_1113 dL_law_1114 dL_law_1115 dL_law_1116 ic_1 rfl rfl (by omega) hL rfl ?_
  refine z_arg (j := 2) C dL_law_1117 dL_law_1118 dL_law_1119 dL_law_1120 dL_law_1121 ic_2 rfl rfl (by omega) hL rfl ?_
  refine z_i2 C dL_law_1122 mi_X5_hold (c_X5_hold hM h.1.2) rfl hM.1.1 hM.1.2 rfl ml_L_141 (rk_of2 rfl) rfl (Nat.le_of_ble_eq_true rfl) rfl (fun r2 u2 p2 => ?_)
  obtain ⟨e, hR⟩ := (ag_hold h) _ _ _ _ p1 p2
  subst e
  exact z_icmp_eq C 1443 1128 dL_law_1125 (by decide) rfl (fun _ => k _ _ hR) (fun q => absurd rfl q)

set_option maxRecDepth 100000 in
set_option maxHeartbeats 4000000 in
theorem z_as {w1 w2 : WC} {x : Cy} {b L : Nat} {xs : Nat → Int32} (C : Lx w1 w2 x b L xs) (hS : Sv w1) (hX : Nx w1) {fz : Option Nat} (hJ : Jz w1 fz) {sa sv : Nat → Nat} (hT : Tx w1 sa sv) (hM : Md w2) (hL : L ≤ 3072) {i : Nat} (hi : i + 6 ≤ L) (k : ∀ μ ν, Rl μ ν → Lz w1 w2 x μ ν 1443 (lvL w1 w2 b i) []) {μ ν : Me} (h : Rl μ ν) : Lz w1 w2 x μ ν 1130 (lvL w1 w2 b i) [] := by
  refine z_aload_n C dL_law_1130 rfl rfl ?_
  refine z_arg (j := 1) C dL_law_1131 dL_law_1132 dL_law_1133 dL_law_1134 dL_law_1135 ic_1 rfl rfl (by omega) hL rfl ?_
  refine z_arg (j := 2) C dL_law_1136 dL_law_1137 dL_law_1138 dL_law_1139 dL_law_1140 ic_2 rfl rfl (by omega) hL rfl ?_
  refine z_i1 C dL_law_1141 mi_X4_as (c_X4_as hS hX h.1.1 h.1.2) rfl hS.1.1 hS.1.2 rfl ml_L_142 (rk_of2 rfl) rfl (Nat.le_of_ble_eq_true rfl) rfl (fun r1 u1 p1 => ?_)
  refine z_aload_n C dL_law_1144 rfl rfl ?_
  refine z_arg (j := 1) C dL_law_1145 dL_law_1146 dL_law_1147 dL_law_1148 dL_law_1149 ic_1 rfl rfl (by omega) hL rfl ?_
  refine z_arg (j := 2) C dL_law_1150 dL_law_1151 dL_law_1152 dL_law_1153 dL_law_1154 ic_2 rfl rfl (by omega) hL rfl ?_
  refine z_i2 C dL_law_1155 mi_X5_as (c_X5_as hM h.1.2) rfl hM.1.1 hM.1.2 rfl ml_L_145 (rk_of2 rfl) rfl (Nat.le_of_ble_eq_true rfl) rfl (fun r2 u2 p2 => ?_)
  obtain ⟨e, hR⟩ := (ag_as h) _ _ _ _ p1 p2
  subst e
  exact z_icmp_eq C 1443 1161 dL_law_1158 (by decide) rfl (fun _ => k _ _ hR) (fun q => absurd rfl q)

set_option maxRecDepth 100000 in
set_option maxHeartbeats 4000000 in
theorem z_sheet {w1 w2 : WC} {x : Cy} {b L : Nat} {xs : Nat → Int32} (C : Lx w1 w2 x b L xs) (hS : Sv w1) (hX : Nx w1) {fz : Option Nat} (hJ : Jz w1 fz) {sa sv : Nat → Nat} (hT : Tx w1 sa sv) (hM : Md w2) (hL : L ≤ 3072) {i : Nat} (hi : i + 6 ≤ L) (k : ∀ μ ν, Rl μ ν → Lz w1 w2 x μ ν 1443 (lvL w1 w2 b i) []) {μ ν : Me} (h : Rl μ ν) : Lz w1 w2 x μ ν 1163 (lvL w1 w2 b i) [] := by
  refine z_aload_n C dL_law_1163 rfl rfl ?_
  refine z_arg (j := 1) C dL_law_1164 dL_law_1165 dL_law_1166 dL_law_1167 dL_law_1168 ic_1 rfl rfl (by omega) hL rfl ?_
  refine z_arg (j := 2) C dL_law_1169 dL_law_1170 dL_law_1171 dL_law_1172 dL_law_1173 ic_2 rfl rfl (by omega) hL rfl ?_
  refine z_arg (j := 3) C dL_law_1174 dL_law_1175 dL_law_1176 dL_law_1177 dL_law_1178 ic_3 rfl rfl (by omega) hL rfl ?_
  refine z_i1 C dL_law_1179 mi_X4_sheet (c_X4_sheet hS hX) rfl hS.1.1 hS.1.2 rfl ml_L_146 (rk_of2 rfl) rfl (Nat.le_of_ble_eq_true rfl) rfl (fun r1 u1 p1 => ?_)
  refine z_aload_n C dL_law_1182 rfl rfl ?_
  refine z_arg (j := 1) C dL_law_1183 dL_law_1184 dL_law_1185 dL_law_1186 dL_law_1187 ic_1 rfl rfl (by omega) hL rfl ?_
  refine z_arg (j := 2) C dL_law_1188 dL_law_1189 dL_law_1190 dL_law_1191 dL_law_1192 ic_2 rfl rfl (by omega) hL rfl ?_
  refine z_arg (j := 3) C dL_law_1193 dL_law_1194 dL_law_1195 dL_law_1196 dL_law_1197 ic_3 rfl rfl (by omega) hL rfl ?_
  refine z_i2 C dL_law_1198 mi_X5_sheet (c_X5_sheet hM) rfl hM.1.1 hM.1.2 rfl ml_L_149 (rk_of2 rfl) rfl (Nat.le_of_ble_eq_true rfl) rfl (fun r2 u2 p2 => ?_)
  obtain ⟨e, hR⟩ := (ag_sheet h) _ _ _ _ p1 p2
  subst e
  exact z_icmp_eq C 1443 1204 dL_law_1201 (by decide) rfl (fun _ => k _ _ hR) (fun q => absurd rfl q)

set_option maxRecDepth 100000 in
set_option maxHeartbeats 4000000 in
theorem z_write {w1 w2 : WC} {x : Cy} {b L : Nat} {xs : Nat → Int32} (C : Lx w1 w2 x b L xs) (hS : Sv w1) (hX : Nx w1) {fz : Option Nat} (hJ : Jz w1 fz) {sa sv : Nat → Nat} (hT : Tx w1 sa sv) (hM : Md w2) (hL : L ≤ 3072) {i : Nat} (hi : i + 6 ≤ L) (k : ∀ μ ν, Rl μ ν → Lz w1 w2 x μ ν 1443 (lvL w1 w2 b i) []) {μ ν : Me} (h : Rl μ ν) : Lz w1 w2 x μ ν 1206 (lvL w1 w2 b i) [] := by
  refine z_aload_n C dL_law_1206 rfl rfl ?_
  refine z_arg (j := 1) C dL_law_1207 dL_law_1208 dL_law_1209 dL_law_1210 dL_law_1211 ic_1 rfl rfl (by omega) hL rfl ?_
  refine z_arg (j := 2) C dL_law_1212 dL_law_1213 dL_law_1214 dL_law_1215 dL_law_1216 ic_2 rfl rfl (by omega) hL rfl ?_
  refine z_arg (j := 3) C dL_law_1217 dL_law_1218 dL_law_1219 dL_law_1220 dL_law_1221 ic_3 rfl rfl (by omega) hL rfl ?_
  refine z_i1 C dL_law_1222 mi_X4_write (c_X4_write hS hX h.ivS) rfl hS.1.1 hS.1.2 rfl ml_L_150 (rk_of2 rfl) rfl (Nat.le_of_ble_eq_true rfl) rfl (fun r1 u1 p1 => ?_)
  refine z_aload_n C dL_law_1225 rfl rfl ?_
  refine z_arg (j := 1) C dL_law_1226 dL_law_1227 dL_law_1228 dL_law_1229 dL_law_1230 ic_1 rfl rfl (by omega) hL rfl ?_
  refine z_arg (j := 2) C dL_law_1231 dL_law_1232 dL_law_1233 dL_law_1234 dL_law_1235 ic_2 rfl rfl (by omega) hL rfl ?_
  refine z_arg (j := 3) C dL_law_1236 dL_law_1237 dL_law_1238 dL_law_1239 dL_law_1240 ic_3 rfl rfl (by omega) hL rfl ?_
  refine z_i2 C dL_law_1241 mi_X5_write (c_X5_write hM h.ivZ) rfl hM.1.1 hM.1.2 rfl ml_L_153 (rk_of2 rfl) rfl (Nat.le_of_ble_eq_true rfl) rfl (fun r2 u2 p2 => ?_)
  obtain ⟨e, hR⟩ := (ag_write h) _ _ _ _ p1 p2
  subst e
  exact z_icmp_eq C 1443 1247 dL_law_1244 (by decide) rfl (fun _ => k _ _ hR) (fun q => absurd rfl q)

set_option maxRecDepth 100000 in
set_option maxHeartbeats 4000000 in
theorem z_copy {w1 w2 : WC} {x : Cy} {b L : Nat} {xs : Nat → Int32} (C : Lx w1 w2 x b L xs) (hS : Sv w1) (hX : Nx w1) {fz : Option Nat} (hJ : Jz w1 fz) {sa sv : Nat → Nat} (hT : Tx w1 sa sv) (hM : Md w2) (hL : L ≤ 3072) {i : Nat} (hi : i + 6 ≤ L) (k : ∀ μ ν, Rl μ ν → Lz w1 w2 x μ ν 1443 (lvL w1 w2 b i) []) {μ ν : Me} (h : Rl μ ν) : Lz w1 w2 x μ ν 1249 (lvL w1 w2 b i) [] := by
  refine z_aload_n C dL_law_1249 rfl rfl ?_
  refine z_arg (j := 1) C dL_law_1250 dL_law_1251 dL_law_1252 dL_law_1253 dL_law_1254 ic_1 rfl rfl (by omega) hL rfl ?_
  refine z_arg (j := 2) C dL_law_1255 dL_law_1256 dL_law_1257 dL_law_1258 dL_law_1259 ic_2 rfl rfl (by omega) hL rfl ?_
  refine z_arg (j := 3) C dL_law_1260 dL_law_1261 dL_law_1262 dL_law_1263 dL_law_1264 ic_3 rfl rfl (by omega) hL rfl ?_
  refine z_arg (j := 4) C dL_law_1265 dL_law_1266 dL_law_1267 dL_law_1268 dL_law_1269 ic_4 rfl rfl (by omega) hL rfl ?_
  refine z_arg (j := 5) C dL_law_1270 dL_law_1271 dL_law_1272 dL_law_1273 dL_law_1274 ic_5 rfl rfl (by omega) hL rfl ?_
  refine z_i1 C dL_law_1275 mi_X4_copy (c_X4_copy hS hX h.ivS) rfl hS.1.1 hS.1.2 rfl ml_L_154 (rk_of2 rfl) rfl (Nat.le_of_ble_eq_true rfl) rfl (fun r1 u1 p1 => ?_)
  refine z_aload_n C dL_law_1278 rfl rfl ?_
  refine z_arg (j := 1) C dL_law_1279 dL_law_1280 dL_law_1281 dL_law_1282 dL_law_1283 ic_1 rfl rfl (by omega) hL rfl ?_
  refine z_arg (j := 2) C dL_law_1284 dL_law_1285 dL_law_1286 dL_law_1287 dL_law_1288 ic_2 rfl rfl (by omega) hL rfl ?_
  refine z_arg (j := 3) C dL_law_1289 dL_law_1290 dL_law_1291 dL_law_1292 dL_law_1293 ic_3 rfl rfl (by omega) hL rfl ?_
  refine z_arg (j := 4) C dL_law_1294 dL_law_1295 dL_law_1296 dL_law_1297 dL_law_1298 ic_4 rfl rfl (by omega) hL rfl ?_
  refine z_arg (j := 5) C dL_law_1299 dL_law_1300 dL_law_1301 dL_law_1302 dL_law_1303 ic_5 rfl rfl (by omega) hL rfl ?_
  refine z_i2 C dL_law_1304 mi_X5_copy (c_X5_copy hM h.ivZ) rfl hM.1.1 hM.1.2 rfl ml_L_158 (rk_of2 rfl) rfl (Nat.le_of_ble_eq_true rfl) rfl (fun r2 u2 p2 => ?_)
  obtain ⟨e, hR⟩ := (ag_copy h) _ _ _ _ p1 p2
  subst e
  exact z_icmp_eq C 1443 1310 dL_law_1307 (by decide) rfl (fun _ => k _ _ hR) (fun q => absurd rfl q)

set_option maxRecDepth 100000 in
set_option maxHeartbeats 4000000 in
theorem z_load {w1 w2 : WC} {x : Cy} {b L : Nat} {xs : Nat → Int32} (C : Lx w1 w2 x b L xs) (hS : Sv w1) (hX : Nx w1) {fz : Option Nat} (hJ : Jz w1 fz) {sa sv : Nat → Nat} (hT : Tx w1 sa sv) (hM : Md w2) (hL : L ≤ 3072) {i : Nat} (hi : i + 6 ≤ L) (k : ∀ μ ν, Rl μ ν → Lz w1 w2 x μ ν 1443 (lvL w1 w2 b i) []) {μ ν : Me} (h : Rl μ ν) : Lz w1 w2 x μ ν 1312 (lvL w1 w2 b i) [] := by
  refine z_aload_n C dL_law_1312 rfl rfl ?_
  refine z_arg (j := 1) C dL_law_1313 dL_law_1314 dL_law_1315 dL_law_1316 dL_law_1317 ic_1 rfl rfl (by omega) hL rfl ?_
  refine z_i1 C dL_law_1318 mi_X4_load (c_X4_load hS hX h.ivS) rfl hS.1.1 hS.1.2 rfl ml_L_159 (rk_of2 rfl) rfl (Nat.le_of_ble_eq_true rfl) rfl (fun r1 u1 p1 => ?_)
  refine z_aload_n C dL_law_1321 rfl rfl ?_
  refine z_arg (j := 1) C dL_law_1322 dL_law_1323 dL_law_1324 dL_law_1325 dL_law_1326 ic_1 rfl rfl (by omega) hL rfl ?_
  refine z_i2 C dL_law_1327 mi_X5_load (c_X5_load hM h.ivZ) rfl hM.1.1 hM.1.2 rfl ml_L_162 (rk_of2 rfl) rfl (Nat.le_of_ble_eq_true rfl) rfl (fun r2 u2 p2 => ?_)
  obtain ⟨e, hR⟩ := (ag_load h) _ _ _ _ p1 p2
  subst e
  exact z_icmp_eq C 1443 1333 dL_law_1330 (by decide) rfl (fun _ => k _ _ hR) (fun q => absurd rfl q)

set_option maxRecDepth 100000 in
set_option maxHeartbeats 4000000 in
theorem z_judge {w1 w2 : WC} {x : Cy} {b L : Nat} {xs : Nat → Int32} (C : Lx w1 w2 x b L xs) (hS : Sv w1) (hX : Nx w1) {fz : Option Nat} (hJ : Jz w1 fz) {sa sv : Nat → Nat} (hT : Tx w1 sa sv) (hM : Md w2) (hL : L ≤ 3072) {i : Nat} (hi : i + 6 ≤ L) (k : ∀ μ ν, Rl μ ν → Lz w1 w2 x μ ν 1443 (lvL w1 w2 b i) []) {μ ν : Me} (h : Rl μ ν) : Lz w1 w2 x μ ν 1335 (lvL w1 w2 b i) [] := by
  refine z_aload_n C dL_law_1335 rfl rfl ?_
  refine z_arg (j := 1) C dL_law_1336 dL_law_1337 dL_law_1338 dL_law_1339 dL_law_1340 ic_1 rfl rfl (by omega) hL rfl ?_
  refine z_i1 C dL_law_1341 mi_X4_judge (c_X4_judge hS hX h.ivS h.1.1 h.1.2) rfl hS.1.1 hS.1.2 rfl ml_L_163 (rk_of2 rfl) rfl (Nat.le_of_ble_eq_true rfl) rfl (fun r1 u1 p1 => ?_)
  refine z_aload_n C dL_law_1344 rfl rfl ?_
  refine z_arg (j := 1) C dL_law_1345 dL_law_1346 dL_law_1347 dL_law_1348 dL_law_1349 ic_1 rfl rfl (by omega) hL rfl ?_
  refine z_i2 C dL_law_1350 mi_X5_judge (c_X5_judge hM h.ivZ h.1.2) rfl hM.1.1 hM.1.2 rfl ml_L_166 (rk_of2 rfl) rfl (Nat.le_of_ble_eq_true rfl) rfl (fun r2 u2 p2 => ?_)
  obtain ⟨e, hR⟩ := (ag_judge h) _ _ _ _ p1 p2
  subst e
  exact z_icmp_eq C 1443 1356 dL_law_1353 (by decide) rfl (fun _ => k _ _ hR) (fun q => absurd rfl q)

set_option maxRecDepth 100000 in
set_option maxHeartbeats 4000000 in
theorem z_image {w1 w2 : WC} {x : Cy} {b L : Nat} {xs : Nat → Int32} (C : Lx w1 w2 x b L xs) (hS : Sv w1) (hX : Nx w1) {fz : Option Nat} (hJ : Jz w1 fz) {sa sv : Nat → Nat} (hT : Tx w1 sa sv) (hM : Md w2) (hL : L ≤ 3072) {i : Nat} (hi : i + 6 ≤ L) (k : ∀ μ ν, Rl μ ν → Lz w1 w2 x μ ν 1443 (lvL w1 w2 b i) []) {μ ν : Me} (h : Rl μ ν) : Lz w1 w2 x μ ν 1358 (lvL w1 w2 b i) [] := by
  refine z_aload_n C dL_law_1358 rfl rfl ?_
  refine z_i1 C dL_law_1359 mi_X4_image (c_X4_image hS hX h.1.1 h.1.2) rfl hS.1.1 hS.1.2 rfl ml_L_167 (rk_of2 rfl) rfl (Nat.le_of_ble_eq_true rfl) rfl (fun r1 u1 p1 => ?_)
  refine z_aload_n C dL_law_1362 rfl rfl ?_
  refine z_i2 C dL_law_1363 mi_X5_image (c_X5_image hM) rfl hM.1.1 hM.1.2 rfl ml_L_170 (rk_of2 rfl) rfl (Nat.le_of_ble_eq_true rfl) rfl (fun r2 u2 p2 => ?_)
  obtain ⟨e, hR⟩ := (ag_image h) _ _ _ _ p1 p2
  subst e
  exact z_icmp_eq C 1443 1369 dL_law_1366 (by decide) rfl (fun _ => k _ _ hR) (fun q => absurd rfl q)

set_option maxRecDepth 100000 in
set_option maxHeartbeats 4000000 in
theorem z_undo {w1 w2 : WC} {x : Cy} {b L : Nat} {xs : Nat → Int32} (C : Lx w1 w2 x b L xs) (hS : Sv w1) (hX : Nx w1) {fz : Option Nat} (hJ : Jz w1 fz) {sa sv : Nat → Nat} (hT : Tx w1 sa sv) (hM : Md w2) (hL : L ≤ 3072) {i : Nat} (hi : i + 6 ≤ L) (k : ∀ μ ν, Rl μ ν → Lz w1 w2 x μ ν 1443 (lvL w1 w2 b i) []) {μ ν : Me} (h : Rl μ ν) : Lz w1 w2 x μ ν 1371 (lvL w1 w2 b i) [] := by
  refine z_aload_n C dL_law_1371 rfl rfl ?_
  refine z_i1 C dL_law_1372 mi_X4_undo (c_X4_undo hS hX (fun q => (h.2.1.2 q).1) (fun q => (h.2.1.2 q).2)) rfl hS.1.1 hS.1.2 rfl ml_L_171 (rk_of2 rfl) rfl (Nat.le_of_ble_eq_true rfl) rfl (fun r1 u1 p1 => ?_)
  refine z_aload_n C dL_law_1375 rfl rfl ?_
  refine z_i2 C dL_law_1376 mi_X5_undo (c_X5_undo hM) rfl hM.1.1 hM.1.2 rfl ml_L_174 (rk_of2 rfl) rfl (Nat.le_of_ble_eq_true rfl) rfl (fun r2 u2 p2 => ?_)
  obtain ⟨e, hR⟩ := (ag_undo h) _ _ _ _ p1 p2
  subst e
  exact z_icmp_eq C 1443 1382 dL_law_1379 (by decide) rfl (fun _ => k _ _ hR) (fun q => absurd rfl q)

set_option maxRecDepth 100000 in
set_option maxHeartbeats 4000000 in
theorem z_tear {w1 w2 : WC} {x : Cy} {b L : Nat} {xs : Nat → Int32} (C : Lx w1 w2 x b L xs) (hS : Sv w1) (hX : Nx w1) {fz : Option Nat} (hJ : Jz w1 fz) {sa sv : Nat → Nat} (hT : Tx w1 sa sv) (hM : Md w2) (hL : L ≤ 3072) {i : Nat} (hi : i + 6 ≤ L) (k : ∀ μ ν, Rl μ ν → Lz w1 w2 x μ ν 1443 (lvL w1 w2 b i) []) {μ ν : Me} (h : Rl μ ν) : Lz w1 w2 x μ ν 1384 (lvL w1 w2 b i) [] := by
  refine z_aload_n C dL_law_1384 rfl rfl ?_
  refine z_i1 C dL_law_1385 mi_X4_tear (c_X4_tear hS hX) rfl hS.1.1 hS.1.2 rfl ml_L_175 (rk_of2 rfl) rfl (Nat.le_of_ble_eq_true rfl) rfl (fun r1 u1 p1 => ?_)
  refine z_aload_n C dL_law_1388 rfl rfl ?_
  refine z_i2 C dL_law_1389 mi_X5_tear (c_X5_tear hM) rfl hM.1.1 hM.1.2 rfl ml_L_178 (rk_of2 rfl) rfl (Nat.le_of_ble_eq_true rfl) rfl (fun r2 u2 p2 => ?_)
  obtain ⟨e, hR⟩ := (ag_tear h) _ _ _ _ p1 p2
  subst e
  exact z_icmp_eq C 1443 1395 dL_law_1392 (by decide) rfl (fun _ => k _ _ hR) (fun q => absurd rfl q)

set_option maxRecDepth 100000 in
set_option maxHeartbeats 4000000 in
theorem z_count {w1 w2 : WC} {x : Cy} {b L : Nat} {xs : Nat → Int32} (C : Lx w1 w2 x b L xs) (hS : Sv w1) (hX : Nx w1) {fz : Option Nat} (hJ : Jz w1 fz) {sa sv : Nat → Nat} (hT : Tx w1 sa sv) (hM : Md w2) (hL : L ≤ 3072) {i : Nat} (hi : i + 6 ≤ L) (k : ∀ μ ν, Rl μ ν → Lz w1 w2 x μ ν 1443 (lvL w1 w2 b i) []) {μ ν : Me} (h : Rl μ ν) : Lz w1 w2 x μ ν 1397 (lvL w1 w2 b i) [] := by
  refine z_aload_n C dL_law_1397 rfl rfl ?_
  refine z_arg (j := 1) C dL_law_1398 dL_law_1399 dL_law_1400 dL_law_1401 dL_law_1402 ic_1 rfl rfl (by omega) hL rfl ?_
  refine z_i1 C dL_law_1403 mi_X4_count (c_X4_count hS hX h.1.1 h.1.2) rfl hS.1.1 hS.1.2 rfl ml_L_179 (rk_of2 rfl) rfl (Nat.le_of_ble_eq_true rfl) rfl (fun r1 u1 p1 => ?_)
  refine z_aload_n C dL_law_1406 rfl rfl ?_
  refine z_arg (j := 1) C dL_law_1407 dL_law_1408 dL_law_1409 dL_law_1410 dL_law_1411 ic_1 rfl rfl (by omega) hL rfl ?_
  refine z_i2 C dL_law_1412 mi_X5_count (c_X5_count hM h.1.2) rfl hM.1.1 hM.1.2 rfl ml_L_182 (rk_of2 rfl) rfl (Nat.le_of_ble_eq_true rfl) rfl (fun r2 u2 p2 => ?_)
  obtain ⟨e, hR⟩ := (ag_count h) _ _ _ _ p1 p2
  subst e
  exact z_icmp_eq C 1443 1418 dL_law_1415 (by decide) rfl (fun _ => k _ _ hR) (fun q => absurd rfl q)

set_option maxRecDepth 100000 in
set_option maxHeartbeats 4000000 in
theorem z_status {w1 w2 : WC} {x : Cy} {b L : Nat} {xs : Nat → Int32} (C : Lx w1 w2 x b L xs) (hS : Sv w1) (hX : Nx w1) {fz : Option Nat} (hJ : Jz w1 fz) {sa sv : Nat → Nat} (hT : Tx w1 sa sv) (hM : Md w2) (hL : L ≤ 3072) {i : Nat} (hi : i + 6 ≤ L) (k : ∀ μ ν, Rl μ ν → Lz w1 w2 x μ ν 1443 (lvL w1 w2 b i) []) {μ ν : Me} (h : Rl μ ν) : Lz w1 w2 x μ ν 1420 (lvL w1 w2 b i) [] := by
  refine z_aload_n C dL_law_1420 rfl rfl ?_
  refine z_arg (j := 1) C dL_law_1421 dL_law_1422 dL_law_1423 dL_law_1424 dL_law_1425 ic_1 rfl rfl (by omega) hL rfl ?_
  refine z_i1 C dL_law_1426 mi_X4_status (c_X4_status hS hX) rfl hS.1.1 hS.1.2 rfl ml_L_183 (rk_of2 rfl) rfl (Nat.le_of_ble_eq_true rfl) rfl (fun r1 u1 p1 => ?_)
  refine z_aload_n C dL_law_1429 rfl rfl ?_
  refine z_arg (j := 1) C dL_law_1430 dL_law_1431 dL_law_1432 dL_law_1433 dL_law_1434 ic_1 rfl rfl (by omega) hL rfl ?_
  refine z_i2 C dL_law_1435 mi_X5_status (c_X5_status hM) rfl hM.1.1 hM.1.2 rfl ml_L_186 (rk_of2 rfl) rfl (Nat.le_of_ble_eq_true rfl) rfl (fun r2 u2 p2 => ?_)
  obtain ⟨e, hR⟩ := (ag_status h) _ _ _ _ p1 p2
  subst e
  exact z_icmp_eq C 1443 1441 dL_law_1438 (by decide) rfl (fun _ => k _ _ hR) (fun q => absurd rfl q)
