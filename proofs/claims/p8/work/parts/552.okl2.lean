set_option maxRecDepth 100000 in
set_option maxHeartbeats 8000000 in
theorem okl_48 : ((ab_le 0 (ab_lo nd_law_48.2.1.1 nd_law_48.2.2) && ab_s0k nd_law_48.2.1) && ab_ckL (cdl_533, C_law.2) nd_law_48.2.2 tk_law_48 [(nd_law_48.1, ab_s0 nd_law_48.2.1)]) = true := by decide +kernel
set_option maxRecDepth 100000 in
set_option maxHeartbeats 8000000 in
theorem okl_49 : ((ab_le 0 (ab_lo nd_law_49.2.1.1 nd_law_49.2.2) && ab_s0k nd_law_49.2.1) && ab_ckL (cdl_533, C_law.2) nd_law_49.2.2 tk_law_49 [(nd_law_49.1, ab_s0 nd_law_49.2.1)]) = true := by decide +kernel
set_option maxRecDepth 100000 in
set_option maxHeartbeats 8000000 in
theorem okl_50 : ((ab_le 0 (ab_lo nd_law_50.2.1.1 nd_law_50.2.2) && ab_s0k nd_law_50.2.1) && ab_ckL (cdl_533, C_law.2) nd_law_50.2.2 tk_law_50 [(nd_law_50.1, ab_s0 nd_law_50.2.1)]) = true := by decide +kernel
set_option maxRecDepth 100000 in
set_option maxHeartbeats 8000000 in
theorem okl_51 : ((ab_le 0 (ab_lo nd_law_51.2.1.1 nd_law_51.2.2) && ab_s0k nd_law_51.2.1) && ab_ckL (cdl_533, C_law.2) nd_law_51.2.2 tk_law_51 [(nd_law_51.1, ab_s0 nd_law_51.2.1)]) = true := by decide +kernel
set_option maxRecDepth 100000 in
set_option maxHeartbeats 8000000 in
theorem okl_52 : ((ab_le 0 (ab_lo nd_law_52.2.1.1 nd_law_52.2.2) && ab_s0k nd_law_52.2.1) && ab_ckL (cdl_596, C_law.2) nd_law_52.2.2 tk_law_52 [(nd_law_52.1, ab_s0 nd_law_52.2.1)]) = true := by decide +kernel
set_option maxRecDepth 100000 in
set_option maxHeartbeats 8000000 in
theorem okl_53 : ((ab_le 0 (ab_lo nd_law_53.2.1.1 nd_law_53.2.2) && ab_s0k nd_law_53.2.1) && ab_ckL (cdl_596, C_law.2) nd_law_53.2.2 tk_law_53 [(nd_law_53.1, ab_s0 nd_law_53.2.1)]) = true := by decide +kernel
set_option maxRecDepth 100000 in
set_option maxHeartbeats 8000000 in
theorem okl_54 : ((ab_le 0 (ab_lo nd_law_54.2.1.1 nd_law_54.2.2) && ab_s0k nd_law_54.2.1) && ab_ckL (cdl_596, C_law.2) nd_law_54.2.2 tk_law_54 [(nd_law_54.1, ab_s0 nd_law_54.2.1)]) = true := by decide +kernel
set_option maxRecDepth 100000 in
set_option maxHeartbeats 8000000 in
theorem okl_55 : ((ab_le 0 (ab_lo nd_law_55.2.1.1 nd_law_55.2.2) && ab_s0k nd_law_55.2.1) && ab_ckL (cdl_596, C_law.2) nd_law_55.2.2 tk_law_55 [(nd_law_55.1, ab_s0 nd_law_55.2.1)]) = true := by decide +kernel
set_option maxRecDepth 100000 in
set_option maxHeartbeats 8000000 in
theorem okl_56 : ((ab_le 0 (ab_lo nd_law_56.2.1.1 nd_law_56.2.2) && ab_s0k nd_law_56.2.1) && ab_ckL (cdl_659, C_law.2) nd_law_56.2.2 tk_law_56 [(nd_law_56.1, ab_s0 nd_law_56.2.1)]) = true := by decide +kernel
set_option maxRecDepth 100000 in
set_option maxHeartbeats 8000000 in
theorem okl_57 : ((ab_le 0 (ab_lo nd_law_57.2.1.1 nd_law_57.2.2) && ab_s0k nd_law_57.2.1) && ab_ckL (cdl_659, C_law.2) nd_law_57.2.2 tk_law_57 [(nd_law_57.1, ab_s0 nd_law_57.2.1)]) = true := by decide +kernel
set_option maxRecDepth 100000 in
set_option maxHeartbeats 8000000 in
theorem okl_58 : ((ab_le 0 (ab_lo nd_law_58.2.1.1 nd_law_58.2.2) && ab_s0k nd_law_58.2.1) && ab_ckL (cdl_659, C_law.2) nd_law_58.2.2 tk_law_58 [(nd_law_58.1, ab_s0 nd_law_58.2.1)]) = true := by decide +kernel
set_option maxRecDepth 100000 in
set_option maxHeartbeats 8000000 in
theorem okl_59 : ((ab_le 0 (ab_lo nd_law_59.2.1.1 nd_law_59.2.2) && ab_s0k nd_law_59.2.1) && ab_ckL (cdl_659, C_law.2) nd_law_59.2.2 tk_law_59 [(nd_law_59.1, ab_s0 nd_law_59.2.1)]) = true := by decide +kernel
set_option maxRecDepth 100000 in
set_option maxHeartbeats 8000000 in
theorem okl_60 : ((ab_le 0 (ab_lo nd_law_60.2.1.1 nd_law_60.2.2) && ab_s0k nd_law_60.2.1) && ab_ckL (cdl_722, C_law.2) nd_law_60.2.2 tk_law_60 [(nd_law_60.1, ab_s0 nd_law_60.2.1)]) = true := by decide +kernel
set_option maxRecDepth 100000 in
set_option maxHeartbeats 8000000 in
theorem okl_61 : ((ab_le 0 (ab_lo nd_law_61.2.1.1 nd_law_61.2.2) && ab_s0k nd_law_61.2.1) && ab_ckL (cdl_722, C_law.2) nd_law_61.2.2 tk_law_61 [(nd_law_61.1, ab_s0 nd_law_61.2.1)]) = true := by decide +kernel
set_option maxRecDepth 100000 in
set_option maxHeartbeats 8000000 in
theorem okl_62 : ((ab_le 0 (ab_lo nd_law_62.2.1.1 nd_law_62.2.2) && ab_s0k nd_law_62.2.1) && ab_ckL (cdl_722, C_law.2) nd_law_62.2.2 tk_law_62 [(nd_law_62.1, ab_s0 nd_law_62.2.1)]) = true := by decide +kernel
set_option maxRecDepth 100000 in
set_option maxHeartbeats 8000000 in
theorem okl_63 : ((ab_le 0 (ab_lo nd_law_63.2.1.1 nd_law_63.2.2) && ab_s0k nd_law_63.2.1) && ab_ckL (cdl_722, C_law.2) nd_law_63.2.2 tk_law_63 [(nd_law_63.1, ab_s0 nd_law_63.2.1)]) = true := by decide +kernel
set_option maxRecDepth 100000 in
set_option maxHeartbeats 8000000 in
theorem okl_64 : ((ab_le 0 (ab_lo nd_law_64.2.1.1 nd_law_64.2.2) && ab_s0k nd_law_64.2.1) && ab_ckL (cdl_775, C_law.2) nd_law_64.2.2 tk_law_64 [(nd_law_64.1, ab_s0 nd_law_64.2.1)]) = true := by decide +kernel
set_option maxRecDepth 100000 in
set_option maxHeartbeats 8000000 in
theorem okl_65 : ((ab_le 0 (ab_lo nd_law_65.2.1.1 nd_law_65.2.2) && ab_s0k nd_law_65.2.1) && ab_ckL (cdl_775, C_law.2) nd_law_65.2.2 tk_law_65 [(nd_law_65.1, ab_s0 nd_law_65.2.1)]) = true := by decide +kernel
set_option maxRecDepth 100000 in
set_option maxHeartbeats 8000000 in
theorem okl_66 : ((ab_le 0 (ab_lo nd_law_66.2.1.1 nd_law_66.2.2) && ab_s0k nd_law_66.2.1) && ab_ckL (cdl_775, C_law.2) nd_law_66.2.2 tk_law_66 [(nd_law_66.1, ab_s0 nd_law_66.2.1)]) = true := by decide +kernel
set_option maxRecDepth 100000 in
set_option maxHeartbeats 8000000 in
theorem okl_67 : ((ab_le 0 (ab_lo nd_law_67.2.1.1 nd_law_67.2.2) && ab_s0k nd_law_67.2.1) && ab_ckL (cdl_775, C_law.2) nd_law_67.2.2 tk_law_67 [(nd_law_67.1, ab_s0 nd_law_67.2.1)]) = true := by decide +kernel
set_option maxRecDepth 100000 in
set_option maxHeartbeats 8000000 in
theorem okl_68 : ((ab_le 0 (ab_lo nd_law_68.2.1.1 nd_law_68.2.2) && ab_s0k nd_law_68.2.1) && ab_ckL (cdl_828, C_law.2) nd_law_68.2.2 tk_law_68 [(nd_law_68.1, ab_s0 nd_law_68.2.1)]) = true := by decide +kernel
set_option maxRecDepth 100000 in
set_option maxHeartbeats 8000000 in
theorem okl_69 : ((ab_le 0 (ab_lo nd_law_69.2.1.1 nd_law_69.2.2) && ab_s0k nd_law_69.2.1) && ab_ckL (cdl_828, C_law.2) nd_law_69.2.2 tk_law_69 [(nd_law_69.1, ab_s0 nd_law_69.2.1)]) = true := by decide +kernel
set_option maxRecDepth 100000 in
set_option maxHeartbeats 8000000 in
theorem okl_70 : ((ab_le 0 (ab_lo nd_law_70.2.1.1 nd_law_70.2.2) && ab_s0k nd_law_70.2.1) && ab_ckL (cdl_828, C_law.2) nd_law_70.2.2 tk_law_70 [(nd_law_70.1, ab_s0 nd_law_70.2.1)]) = true := by decide +kernel
set_option maxRecDepth 100000 in
set_option maxHeartbeats 8000000 in
theorem okl_71 : ((ab_le 0 (ab_lo nd_law_71.2.1.1 nd_law_71.2.2) && ab_s0k nd_law_71.2.1) && ab_ckL (cdl_828, C_law.2) nd_law_71.2.2 tk_law_71 [(nd_law_71.1, ab_s0 nd_law_71.2.1)]) = true := by decide +kernel
