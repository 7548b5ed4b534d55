set_option maxRecDepth 100000 in
set_option maxHeartbeats 8000000 in
theorem okl_72 : ((ab_le 0 (ab_lo nd_law_72.2.1.1 nd_law_72.2.2) && ab_s0k nd_law_72.2.1) && ab_ckL (cdl_881, C_law.2) nd_law_72.2.2 tk_law_72 [(nd_law_72.1, ab_s0 nd_law_72.2.1)]) = true := by decide +kernel
set_option maxRecDepth 100000 in
set_option maxHeartbeats 8000000 in
theorem okl_73 : ((ab_le 0 (ab_lo nd_law_73.2.1.1 nd_law_73.2.2) && ab_s0k nd_law_73.2.1) && ab_ckL (cdl_881, C_law.2) nd_law_73.2.2 tk_law_73 [(nd_law_73.1, ab_s0 nd_law_73.2.1)]) = true := by decide +kernel
set_option maxRecDepth 100000 in
set_option maxHeartbeats 8000000 in
theorem okl_74 : ((ab_le 0 (ab_lo nd_law_74.2.1.1 nd_law_74.2.2) && ab_s0k nd_law_74.2.1) && ab_ckL (cdl_881, C_law.2) nd_law_74.2.2 tk_law_74 [(nd_law_74.1, ab_s0 nd_law_74.2.1)]) = true := by decide +kernel
set_option maxRecDepth 100000 in
set_option maxHeartbeats 8000000 in
theorem okl_75 : ((ab_le 0 (ab_lo nd_law_75.2.1.1 nd_law_75.2.2) && ab_s0k nd_law_75.2.1) && ab_ckL (cdl_881, C_law.2) nd_law_75.2.2 tk_law_75 [(nd_law_75.1, ab_s0 nd_law_75.2.1)]) = true := by decide +kernel
set_option maxRecDepth 100000 in
set_option maxHeartbeats 8000000 in
theorem okl_76 : ((ab_le 0 (ab_lo nd_law_76.2.1.1 nd_law_76.2.2) && ab_s0k nd_law_76.2.1) && ab_ckL (cdl_944, C_law.2) nd_law_76.2.2 tk_law_76 [(nd_law_76.1, ab_s0 nd_law_76.2.1)]) = true := by decide +kernel
set_option maxRecDepth 100000 in
set_option maxHeartbeats 8000000 in
theorem okl_77 : ((ab_le 0 (ab_lo nd_law_77.2.1.1 nd_law_77.2.2) && ab_s0k nd_law_77.2.1) && ab_ckL (cdl_944, C_law.2) nd_law_77.2.2 tk_law_77 [(nd_law_77.1, ab_s0 nd_law_77.2.1)]) = true := by decide +kernel
set_option maxRecDepth 100000 in
set_option maxHeartbeats 8000000 in
theorem okl_78 : ((ab_le 0 (ab_lo nd_law_78.2.1.1 nd_law_78.2.2) && ab_s0k nd_law_78.2.1) && ab_ckL (cdl_944, C_law.2) nd_law_78.2.2 tk_law_78 [(nd_law_78.1, ab_s0 nd_law_78.2.1)]) = true := by decide +kernel
set_option maxRecDepth 100000 in
set_option maxHeartbeats 8000000 in
theorem okl_79 : ((ab_le 0 (ab_lo nd_law_79.2.1.1 nd_law_79.2.2) && ab_s0k nd_law_79.2.1) && ab_ckL (cdl_944, C_law.2) nd_law_79.2.2 tk_law_79 [(nd_law_79.1, ab_s0 nd_law_79.2.1)]) = true := by decide +kernel
set_option maxRecDepth 100000 in
set_option maxHeartbeats 8000000 in
theorem okl_80 : ((ab_le 0 (ab_lo nd_law_80.2.1.1 nd_law_80.2.2) && ab_s0k nd_law_80.2.1) && ab_ckL (cdl_997, C_law.2) nd_law_80.2.2 tk_law_80 [(nd_law_80.1, ab_s0 nd_law_80.2.1)]) = true := by decide +kernel
set_option maxRecDepth 100000 in
set_option maxHeartbeats 8000000 in
theorem okl_81 : ((ab_le 0 (ab_lo nd_law_81.2.1.1 nd_law_81.2.2) && ab_s0k nd_law_81.2.1) && ab_ckL (cdl_997, C_law.2) nd_law_81.2.2 tk_law_81 [(nd_law_81.1, ab_s0 nd_law_81.2.1)]) = true := by decide +kernel
set_option maxRecDepth 100000 in
set_option maxHeartbeats 8000000 in
theorem okl_82 : ((ab_le 0 (ab_lo nd_law_82.2.1.1 nd_law_82.2.2) && ab_s0k nd_law_82.2.1) && ab_ckL (cdl_997, C_law.2) nd_law_82.2.2 tk_law_82 [(nd_law_82.1, ab_s0 nd_law_82.2.1)]) = true := by decide +kernel
set_option maxRecDepth 100000 in
set_option maxHeartbeats 8000000 in
theorem okl_83 : ((ab_le 0 (ab_lo nd_law_83.2.1.1 nd_law_83.2.2) && ab_s0k nd_law_83.2.1) && ab_ckL (cdl_997, C_law.2) nd_law_83.2.2 tk_law_83 [(nd_law_83.1, ab_s0 nd_law_83.2.1)]) = true := by decide +kernel
set_option maxRecDepth 100000 in
set_option maxHeartbeats 8000000 in
theorem okl_84 : ((ab_le 0 (ab_lo nd_law_84.2.1.1 nd_law_84.2.2) && ab_s0k nd_law_84.2.1) && ab_ckL (cdl_1060, C_law.2) nd_law_84.2.2 tk_law_84 [(nd_law_84.1, ab_s0 nd_law_84.2.1)]) = true := by decide +kernel
set_option maxRecDepth 100000 in
set_option maxHeartbeats 8000000 in
theorem okl_85 : ((ab_le 0 (ab_lo nd_law_85.2.1.1 nd_law_85.2.2) && ab_s0k nd_law_85.2.1) && ab_ckL (cdl_1060, C_law.2) nd_law_85.2.2 tk_law_85 [(nd_law_85.1, ab_s0 nd_law_85.2.1)]) = true := by decide +kernel
set_option maxRecDepth 100000 in
set_option maxHeartbeats 8000000 in
theorem okl_86 : ((ab_le 0 (ab_lo nd_law_86.2.1.1 nd_law_86.2.2) && ab_s0k nd_law_86.2.1) && ab_ckL (cdl_1060, C_law.2) nd_law_86.2.2 tk_law_86 [(nd_law_86.1, ab_s0 nd_law_86.2.1)]) = true := by decide +kernel
set_option maxRecDepth 100000 in
set_option maxHeartbeats 8000000 in
theorem okl_87 : ((ab_le 0 (ab_lo nd_law_87.2.1.1 nd_law_87.2.2) && ab_s0k nd_law_87.2.1) && ab_ckL (cdl_1060, C_law.2) nd_law_87.2.2 tk_law_87 [(nd_law_87.1, ab_s0 nd_law_87.2.1)]) = true := by decide +kernel
set_option maxRecDepth 100000 in
set_option maxHeartbeats 8000000 in
theorem okl_88 : ((ab_le 0 (ab_lo nd_law_88.2.1.1 nd_law_88.2.2) && ab_s0k nd_law_88.2.1) && ab_ckL (cdl_1135, C_law.2) nd_law_88.2.2 tk_law_88 [(nd_law_88.1, ab_s0 nd_law_88.2.1)]) = true := by decide +kernel
set_option maxRecDepth 100000 in
set_option maxHeartbeats 8000000 in
theorem okl_89 : ((ab_le 0 (ab_lo nd_law_89.2.1.1 nd_law_89.2.2) && ab_s0k nd_law_89.2.1) && ab_ckL (cdl_1135, C_law.2) nd_law_89.2.2 tk_law_89 [(nd_law_89.1, ab_s0 nd_law_89.2.1)]) = true := by decide +kernel
set_option maxRecDepth 100000 in
set_option maxHeartbeats 8000000 in
theorem okl_90 : ((ab_le 0 (ab_lo nd_law_90.2.1.1 nd_law_90.2.2) && ab_s0k nd_law_90.2.1) && ab_ckL (cdl_1135, C_law.2) nd_law_90.2.2 tk_law_90 [(nd_law_90.1, ab_s0 nd_law_90.2.1)]) = true := by decide +kernel
set_option maxRecDepth 100000 in
set_option maxHeartbeats 8000000 in
theorem okl_91 : ((ab_le 0 (ab_lo nd_law_91.2.1.1 nd_law_91.2.2) && ab_s0k nd_law_91.2.1) && ab_ckL (cdl_1135, C_law.2) nd_law_91.2.2 tk_law_91 [(nd_law_91.1, ab_s0 nd_law_91.2.1)]) = true := by decide +kernel
set_option maxRecDepth 100000 in
set_option maxHeartbeats 8000000 in
theorem okl_92 : ((ab_le 0 (ab_lo nd_law_92.2.1.1 nd_law_92.2.2) && ab_s0k nd_law_92.2.1) && ab_ckL (cdl_1168, C_law.2) nd_law_92.2.2 tk_law_92 [(nd_law_92.1, ab_s0 nd_law_92.2.1)]) = true := by decide +kernel
set_option maxRecDepth 100000 in
set_option maxHeartbeats 8000000 in
theorem okl_93 : ((ab_le 0 (ab_lo nd_law_93.2.1.1 nd_law_93.2.2) && ab_s0k nd_law_93.2.1) && ab_ckL (cdl_1168, C_law.2) nd_law_93.2.2 tk_law_93 [(nd_law_93.1, ab_s0 nd_law_93.2.1)]) = true := by decide +kernel
set_option maxRecDepth 100000 in
set_option maxHeartbeats 8000000 in
theorem okl_94 : ((ab_le 0 (ab_lo nd_law_94.2.1.1 nd_law_94.2.2) && ab_s0k nd_law_94.2.1) && ab_ckL (cdl_1168, C_law.2) nd_law_94.2.2 tk_law_94 [(nd_law_94.1, ab_s0 nd_law_94.2.1)]) = true := by decide +kernel
set_option maxRecDepth 100000 in
set_option maxHeartbeats 8000000 in
theorem okl_95 : ((ab_le 0 (ab_lo nd_law_95.2.1.1 nd_law_95.2.2) && ab_s0k nd_law_95.2.1) && ab_ckL (cdl_1168, C_law.2) nd_law_95.2.2 tk_law_95 [(nd_law_95.1, ab_s0 nd_law_95.2.1)]) = true := by decide +kernel
