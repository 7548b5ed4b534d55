set_option maxRecDepth 100000 in
set_option maxHeartbeats 8000000 in
theorem okl_96 : ((ab_le 0 (ab_lo nd_law_96.2.1.1 nd_law_96.2.2) && ab_s0k nd_law_96.2.1) && ab_ckL (cdl_1221, C_law.2) nd_law_96.2.2 tk_law_96 [(nd_law_96.1, ab_s0 nd_law_96.2.1)]) = true := by decide +kernel
set_option maxRecDepth 100000 in
set_option maxHeartbeats 8000000 in
theorem okl_97 : ((ab_le 0 (ab_lo nd_law_97.2.1.1 nd_law_97.2.2) && ab_s0k nd_law_97.2.1) && ab_ckL (cdl_1221, C_law.2) nd_law_97.2.2 tk_law_97 [(nd_law_97.1, ab_s0 nd_law_97.2.1)]) = true := by decide +kernel
set_option maxRecDepth 100000 in
set_option maxHeartbeats 8000000 in
theorem okl_98 : ((ab_le 0 (ab_lo nd_law_98.2.1.1 nd_law_98.2.2) && ab_s0k nd_law_98.2.1) && ab_ckL (cdl_1221, C_law.2) nd_law_98.2.2 tk_law_98 [(nd_law_98.1, ab_s0 nd_law_98.2.1)]) = true := by decide +kernel
set_option maxRecDepth 100000 in
set_option maxHeartbeats 8000000 in
theorem okl_99 : ((ab_le 0 (ab_lo nd_law_99.2.1.1 nd_law_99.2.2) && ab_s0k nd_law_99.2.1) && ab_ckL (cdl_1221, C_law.2) nd_law_99.2.2 tk_law_99 [(nd_law_99.1, ab_s0 nd_law_99.2.1)]) = true := by decide +kernel
set_option maxRecDepth 100000 in
set_option maxHeartbeats 8000000 in
theorem okl_100 : ((ab_le 0 (ab_lo nd_law_100.2.1.1 nd_law_100.2.2) && ab_s0k nd_law_100.2.1) && ab_ckL (cdl_1264, C_law.2) nd_law_100.2.2 tk_law_100 [(nd_law_100.1, ab_s0 nd_law_100.2.1)]) = true := by decide +kernel
set_option maxRecDepth 100000 in
set_option maxHeartbeats 8000000 in
theorem okl_101 : ((ab_le 0 (ab_lo nd_law_101.2.1.1 nd_law_101.2.2) && ab_s0k nd_law_101.2.1) && ab_ckL (cdl_1264, C_law.2) nd_law_101.2.2 tk_law_101 [(nd_law_101.1, ab_s0 nd_law_101.2.1)]) = true := by decide +kernel
set_option maxRecDepth 100000 in
set_option maxHeartbeats 8000000 in
theorem okl_102 : ((ab_le 0 (ab_lo nd_law_102.2.1.1 nd_law_102.2.2) && ab_s0k nd_law_102.2.1) && ab_ckL (cdl_1264, C_law.2) nd_law_102.2.2 tk_law_102 [(nd_law_102.1, ab_s0 nd_law_102.2.1)]) = true := by decide +kernel
set_option maxRecDepth 100000 in
set_option maxHeartbeats 8000000 in
theorem okl_103 : ((ab_le 0 (ab_lo nd_law_103.2.1.1 nd_law_103.2.2) && ab_s0k nd_law_103.2.1) && ab_ckL (cdl_1264, C_law.2) nd_law_103.2.2 tk_law_103 [(nd_law_103.1, ab_s0 nd_law_103.2.1)]) = true := by decide +kernel
set_option maxRecDepth 100000 in
set_option maxHeartbeats 8000000 in
theorem okl_104 : ((ab_le 0 (ab_lo nd_law_104.2.1.1 nd_law_104.2.2) && ab_s0k nd_law_104.2.1) && ab_ckL (cdl_1327, C_law.2) nd_law_104.2.2 tk_law_104 [(nd_law_104.1, ab_s0 nd_law_104.2.1)]) = true := by decide +kernel
set_option maxRecDepth 100000 in
set_option maxHeartbeats 8000000 in
theorem okl_105 : ((ab_le 0 (ab_lo nd_law_105.2.1.1 nd_law_105.2.2) && ab_s0k nd_law_105.2.1) && ab_ckL (cdl_1327, C_law.2) nd_law_105.2.2 tk_law_105 [(nd_law_105.1, ab_s0 nd_law_105.2.1)]) = true := by decide +kernel
set_option maxRecDepth 100000 in
set_option maxHeartbeats 8000000 in
theorem okl_106 : ((ab_le 0 (ab_lo nd_law_106.2.1.1 nd_law_106.2.2) && ab_s0k nd_law_106.2.1) && ab_ckL (cdl_1327, C_law.2) nd_law_106.2.2 tk_law_106 [(nd_law_106.1, ab_s0 nd_law_106.2.1)]) = true := by decide +kernel
set_option maxRecDepth 100000 in
set_option maxHeartbeats 8000000 in
theorem okl_107 : ((ab_le 0 (ab_lo nd_law_107.2.1.1 nd_law_107.2.2) && ab_s0k nd_law_107.2.1) && ab_ckL (cdl_1327, C_law.2) nd_law_107.2.2 tk_law_107 [(nd_law_107.1, ab_s0 nd_law_107.2.1)]) = true := by decide +kernel
set_option maxRecDepth 100000 in
set_option maxHeartbeats 8000000 in
theorem okl_108 : ((ab_le 0 (ab_lo nd_law_108.2.1.1 nd_law_108.2.2) && ab_s0k nd_law_108.2.1) && ab_ckL (cdl_1370, C_law.2) nd_law_108.2.2 tk_law_108 [(nd_law_108.1, ab_s0 nd_law_108.2.1)]) = true := by decide +kernel
set_option maxRecDepth 100000 in
set_option maxHeartbeats 8000000 in
theorem okl_109 : ((ab_le 0 (ab_lo nd_law_109.2.1.1 nd_law_109.2.2) && ab_s0k nd_law_109.2.1) && ab_ckL (cdl_1370, C_law.2) nd_law_109.2.2 tk_law_109 [(nd_law_109.1, ab_s0 nd_law_109.2.1)]) = true := by decide +kernel
set_option maxRecDepth 100000 in
set_option maxHeartbeats 8000000 in
theorem okl_110 : ((ab_le 0 (ab_lo nd_law_110.2.1.1 nd_law_110.2.2) && ab_s0k nd_law_110.2.1) && ab_ckL (cdl_1370, C_law.2) nd_law_110.2.2 tk_law_110 [(nd_law_110.1, ab_s0 nd_law_110.2.1)]) = true := by decide +kernel
set_option maxRecDepth 100000 in
set_option maxHeartbeats 8000000 in
theorem okl_111 : ((ab_le 0 (ab_lo nd_law_111.2.1.1 nd_law_111.2.2) && ab_s0k nd_law_111.2.1) && ab_ckL (cdl_1370, C_law.2) nd_law_111.2.2 tk_law_111 [(nd_law_111.1, ab_s0 nd_law_111.2.1)]) = true := by decide +kernel
set_option maxRecDepth 100000 in
set_option maxHeartbeats 8000000 in
theorem okl_112 : ((ab_le 0 (ab_lo nd_law_112.2.1.1 nd_law_112.2.2) && ab_s0k nd_law_112.2.1) && ab_ckL (cdl_1403, C_law.2) nd_law_112.2.2 tk_law_112 [(nd_law_112.1, ab_s0 nd_law_112.2.1)]) = true := by decide +kernel
set_option maxRecDepth 100000 in
set_option maxHeartbeats 8000000 in
theorem okl_113 : ((ab_le 0 (ab_lo nd_law_113.2.1.1 nd_law_113.2.2) && ab_s0k nd_law_113.2.1) && ab_ckL (cdl_1403, C_law.2) nd_law_113.2.2 tk_law_113 [(nd_law_113.1, ab_s0 nd_law_113.2.1)]) = true := by decide +kernel
set_option maxRecDepth 100000 in
set_option maxHeartbeats 8000000 in
theorem okl_114 : ((ab_le 0 (ab_lo nd_law_114.2.1.1 nd_law_114.2.2) && ab_s0k nd_law_114.2.1) && ab_ckL (cdl_1403, C_law.2) nd_law_114.2.2 tk_law_114 [(nd_law_114.1, ab_s0 nd_law_114.2.1)]) = true := by decide +kernel
set_option maxRecDepth 100000 in
set_option maxHeartbeats 8000000 in
theorem okl_115 : ((ab_le 0 (ab_lo nd_law_115.2.1.1 nd_law_115.2.2) && ab_s0k nd_law_115.2.1) && ab_ckL (cdl_1403, C_law.2) nd_law_115.2.2 tk_law_115 [(nd_law_115.1, ab_s0 nd_law_115.2.1)]) = true := by decide +kernel
set_option maxRecDepth 100000 in
set_option maxHeartbeats 8000000 in
theorem okl_116 : ((ab_le 0 (ab_lo nd_law_116.2.1.1 nd_law_116.2.2) && ab_s0k nd_law_116.2.1) && ab_ckL (cdl_1426, C_law.2) nd_law_116.2.2 tk_law_116 [(nd_law_116.1, ab_s0 nd_law_116.2.1)]) = true := by decide +kernel
set_option maxRecDepth 100000 in
set_option maxHeartbeats 8000000 in
theorem okl_117 : ((ab_le 0 (ab_lo nd_law_117.2.1.1 nd_law_117.2.2) && ab_s0k nd_law_117.2.1) && ab_ckL (cdl_1426, C_law.2) nd_law_117.2.2 tk_law_117 [(nd_law_117.1, ab_s0 nd_law_117.2.1)]) = true := by decide +kernel
set_option maxRecDepth 100000 in
set_option maxHeartbeats 8000000 in
theorem okl_118 : ((ab_le 0 (ab_lo nd_law_118.2.1.1 nd_law_118.2.2) && ab_s0k nd_law_118.2.1) && ab_ckL (cdl_1426, C_law.2) nd_law_118.2.2 tk_law_118 [(nd_law_118.1, ab_s0 nd_law_118.2.1)]) = true := by decide +kernel
set_option maxRecDepth 100000 in
set_option maxHeartbeats 8000000 in
theorem okl_119 : ((ab_le 0 (ab_lo nd_law_119.2.1.1 nd_law_119.2.2) && ab_s0k nd_law_119.2.1) && ab_ckL (cdl_1426, C_law.2) nd_law_119.2.2 tk_law_119 [(nd_law_119.1, ab_s0 nd_law_119.2.1)]) = true := by decide +kernel
