set_option maxRecDepth 100000 in
set_option maxHeartbeats 8000000 in
theorem okl_0 : ((ab_le 0 (ab_lo nd_law_0.2.1.1 nd_law_0.2.2) && ab_s0k nd_law_0.2.1) && ab_ckL (cdl_18, C_law.2) nd_law_0.2.2 tk_law_0 [(nd_law_0.1, ab_s0 nd_law_0.2.1)]) = true := by decide +kernel
set_option maxRecDepth 100000 in
set_option maxHeartbeats 8000000 in
theorem okl_1 : ((ab_le 0 (ab_lo nd_law_1.2.1.1 nd_law_1.2.2) && ab_s0k nd_law_1.2.1) && ab_ckL (cdl_18, C_law.2) nd_law_1.2.2 tk_law_1 [(nd_law_1.1, ab_s0 nd_law_1.2.1)]) = true := by decide +kernel
set_option maxRecDepth 100000 in
set_option maxHeartbeats 8000000 in
theorem okl_2 : ((ab_le 0 (ab_lo nd_law_2.2.1.1 nd_law_2.2.2) && ab_s0k nd_law_2.2.1) && ab_ckL (cdl_18, C_law.2) nd_law_2.2.2 tk_law_2 [(nd_law_2.1, ab_s0 nd_law_2.2.1)]) = true := by decide +kernel
set_option maxRecDepth 100000 in
set_option maxHeartbeats 8000000 in
theorem okl_3 : ((ab_le 0 (ab_lo nd_law_3.2.1.1 nd_law_3.2.2) && ab_s0k nd_law_3.2.1) && ab_ckL (cdl_18, C_law.2) nd_law_3.2.2 tk_law_3 [(nd_law_3.1, ab_s0 nd_law_3.2.1)]) = true := by decide +kernel
set_option maxRecDepth 100000 in
set_option maxHeartbeats 8000000 in
theorem okl_4 : ((ab_le 0 (ab_lo nd_law_4.2.1.1 nd_law_4.2.2) && ab_s0k nd_law_4.2.1) && ab_ckL (cdl_160, C_law.2) nd_law_4.2.2 tk_law_4 [(nd_law_4.1, ab_s0 nd_law_4.2.1)]) = true := by decide +kernel
set_option maxRecDepth 100000 in
set_option maxHeartbeats 8000000 in
theorem okl_5 : ((ab_le 0 (ab_lo nd_law_5.2.1.1 nd_law_5.2.2) && ab_s0k nd_law_5.2.1) && ab_ckL (cdl_160, C_law.2) nd_law_5.2.2 tk_law_5 [(nd_law_5.1, ab_s0 nd_law_5.2.1)]) = true := by decide +kernel
set_option maxRecDepth 100000 in
set_option maxHeartbeats 8000000 in
theorem okl_6 : ((ab_le 0 (ab_lo nd_law_6.2.1.1 nd_law_6.2.2) && ab_s0k nd_law_6.2.1) && ab_ckL (cdl_160, C_law.2) nd_law_6.2.2 tk_law_6 [(nd_law_6.1, ab_s0 nd_law_6.2.1)]) = true := by decide +kernel
set_option maxRecDepth 100000 in
set_option maxHeartbeats 8000000 in
theorem okl_7 : ((ab_le 0 (ab_lo nd_law_7.2.1.1 nd_law_7.2.2) && ab_s0k nd_law_7.2.1) && ab_ckL (cdl_160, C_law.2) nd_law_7.2.2 tk_law_7 [(nd_law_7.1, ab_s0 nd_law_7.2.1)]) = true := by decide +kernel
set_option maxRecDepth 100000 in
set_option maxHeartbeats 8000000 in
theorem okl_8 : ((ab_le 0 (ab_lo nd_law_8.2.1.1 nd_law_8.2.2) && ab_s0k nd_law_8.2.1) && ab_ckL (cdl_223, C_law.2) nd_law_8.2.2 tk_law_8 [(nd_law_8.1, ab_s0 nd_law_8.2.1)]) = true := by decide +kernel
set_option maxRecDepth 100000 in
set_option maxHeartbeats 8000000 in
theorem okl_9 : ((ab_le 0 (ab_lo nd_law_9.2.1.1 nd_law_9.2.2) && ab_s0k nd_law_9.2.1) && ab_ckL (cdl_223, C_law.2) nd_law_9.2.2 tk_law_9 [(nd_law_9.1, ab_s0 nd_law_9.2.1)]) = true := by decide +kernel
set_option maxRecDepth 100000 in
set_option maxHeartbeats 8000000 in
theorem okl_10 : ((ab_le 0 (ab_lo nd_law_10.2.1.1 nd_law_10.2.2) && ab_s0k nd_law_10.2.1) && ab_ckL (cdl_223, C_law.2) nd_law_10.2.2 tk_law_10 [(nd_law_10.1, ab_s0 nd_law_10.2.1)]) = true := by decide +kernel
set_option maxRecDepth 100000 in
set_option maxHeartbeats 8000000 in
theorem okl_11 : ((ab_le 0 (ab_lo nd_law_11.2.1.1 nd_law_11.2.2) && ab_s0k nd_law_11.2.1) && ab_ckL (cdl_223, C_law.2) nd_law_11.2.2 tk_law_11 [(nd_law_11.1, ab_s0 nd_law_11.2.1)]) = true := by decide +kernel
set_option maxRecDepth 100000 in
set_option maxHeartbeats 8000000 in
theorem okl_12 : ((ab_le 0 (ab_lo nd_law_12.2.1.1 nd_law_12.2.2) && ab_s0k nd_law_12.2.1) && ab_ckL (cdl_246, C_law.2) nd_law_12.2.2 tk_law_12 [(nd_law_12.1, ab_s0 nd_law_12.2.1)]) = true := by decide +kernel
set_option maxRecDepth 100000 in
set_option maxHeartbeats 8000000 in
theorem okl_13 : ((ab_le 0 (ab_lo nd_law_13.2.1.1 nd_law_13.2.2) && ab_s0k nd_law_13.2.1) && ab_ckL (cdl_246, C_law.2) nd_law_13.2.2 tk_law_13 [(nd_law_13.1, ab_s0 nd_law_13.2.1)]) = true := by decide +kernel
set_option maxRecDepth 100000 in
set_option maxHeartbeats 8000000 in
theorem okl_14 : ((ab_le 0 (ab_lo nd_law_14.2.1.1 nd_law_14.2.2) && ab_s0k nd_law_14.2.1) && ab_ckL (cdl_246, C_law.2) nd_law_14.2.2 tk_law_14 [(nd_law_14.1, ab_s0 nd_law_14.2.1)]) = true := by decide +kernel
set_option maxRecDepth 100000 in
set_option maxHeartbeats 8000000 in
theorem okl_15 : ((ab_le 0 (ab_lo nd_law_15.2.1.1 nd_law_15.2.2) && ab_s0k nd_law_15.2.1) && ab_ckL (cdl_246, C_law.2) nd_law_15.2.2 tk_law_15 [(nd_law_15.1, ab_s0 nd_law_15.2.1)]) = true := by decide +kernel
set_option maxRecDepth 100000 in
set_option maxHeartbeats 8000000 in
theorem okl_16 : ((ab_le 0 (ab_lo nd_law_16.2.1.1 nd_law_16.2.2) && ab_s0k nd_law_16.2.1) && ab_ckL (cdl_259, C_law.2) nd_law_16.2.2 tk_law_16 [(nd_law_16.1, ab_s0 nd_law_16.2.1)]) = true := by decide +kernel
set_option maxRecDepth 100000 in
set_option maxHeartbeats 8000000 in
theorem okl_17 : ((ab_le 0 (ab_lo nd_law_17.2.1.1 nd_law_17.2.2) && ab_s0k nd_law_17.2.1) && ab_ckL (cdl_259, C_law.2) nd_law_17.2.2 tk_law_17 [(nd_law_17.1, ab_s0 nd_law_17.2.1)]) = true := by decide +kernel
set_option maxRecDepth 100000 in
set_option maxHeartbeats 8000000 in
theorem okl_18 : ((ab_le 0 (ab_lo nd_law_18.2.1.1 nd_law_18.2.2) && ab_s0k nd_law_18.2.1) && ab_ckL (cdl_259, C_law.2) nd_law_18.2.2 tk_law_18 [(nd_law_18.1, ab_s0 nd_law_18.2.1)]) = true := by decide +kernel
set_option maxRecDepth 100000 in
set_option maxHeartbeats 8000000 in
theorem okl_19 : ((ab_le 0 (ab_lo nd_law_19.2.1.1 nd_law_19.2.2) && ab_s0k nd_law_19.2.1) && ab_ckL (cdl_259, C_law.2) nd_law_19.2.2 tk_law_19 [(nd_law_19.1, ab_s0 nd_law_19.2.1)]) = true := by decide +kernel
set_option maxRecDepth 100000 in
set_option maxHeartbeats 8000000 in
theorem okl_20 : ((ab_le 0 (ab_lo nd_law_20.2.1.1 nd_law_20.2.2) && ab_s0k nd_law_20.2.1) && ab_ckL (cdl_282, C_law.2) nd_law_20.2.2 tk_law_20 [(nd_law_20.1, ab_s0 nd_law_20.2.1)]) = true := by decide +kernel
set_option maxRecDepth 100000 in
set_option maxHeartbeats 8000000 in
theorem okl_21 : ((ab_le 0 (ab_lo nd_law_21.2.1.1 nd_law_21.2.2) && ab_s0k nd_law_21.2.1) && ab_ckL (cdl_282, C_law.2) nd_law_21.2.2 tk_law_21 [(nd_law_21.1, ab_s0 nd_law_21.2.1)]) = true := by decide +kernel
set_option maxRecDepth 100000 in
set_option maxHeartbeats 8000000 in
theorem okl_22 : ((ab_le 0 (ab_lo nd_law_22.2.1.1 nd_law_22.2.2) && ab_s0k nd_law_22.2.1) && ab_ckL (cdl_282, C_law.2) nd_law_22.2.2 tk_law_22 [(nd_law_22.1, ab_s0 nd_law_22.2.1)]) = true := by decide +kernel
set_option maxRecDepth 100000 in
set_option maxHeartbeats 8000000 in
theorem okl_23 : ((ab_le 0 (ab_lo nd_law_23.2.1.1 nd_law_23.2.2) && ab_s0k nd_law_23.2.1) && ab_ckL (cdl_282, C_law.2) nd_law_23.2.2 tk_law_23 [(nd_law_23.1, ab_s0 nd_law_23.2.1)]) = true := by decide +kernel
