set_option maxRecDepth 100000 in
set_option maxHeartbeats 8000000 in
theorem okl_24 : ((ab_le 0 (ab_lo nd_law_24.2.1.1 nd_law_24.2.2) && ab_s0k nd_law_24.2.1) && ab_ckL (cdl_315, C_law.2) nd_law_24.2.2 tk_law_24 [(nd_law_24.1, ab_s0 nd_law_24.2.1)]) = true := by decide +kernel
set_option maxRecDepth 100000 in
set_option maxHeartbeats 8000000 in
theorem okl_25 : ((ab_le 0 (ab_lo nd_law_25.2.1.1 nd_law_25.2.2) && ab_s0k nd_law_25.2.1) && ab_ckL (cdl_315, C_law.2) nd_law_25.2.2 tk_law_25 [(nd_law_25.1, ab_s0 nd_law_25.2.1)]) = true := by decide +kernel
set_option maxRecDepth 100000 in
set_option maxHeartbeats 8000000 in
theorem okl_26 : ((ab_le 0 (ab_lo nd_law_26.2.1.1 nd_law_26.2.2) && ab_s0k nd_law_26.2.1) && ab_ckL (cdl_315, C_law.2) nd_law_26.2.2 tk_law_26 [(nd_law_26.1, ab_s0 nd_law_26.2.1)]) = true := by decide +kernel
set_option maxRecDepth 100000 in
set_option maxHeartbeats 8000000 in
theorem okl_27 : ((ab_le 0 (ab_lo nd_law_27.2.1.1 nd_law_27.2.2) && ab_s0k nd_law_27.2.1) && ab_ckL (cdl_315, C_law.2) nd_law_27.2.2 tk_law_27 [(nd_law_27.1, ab_s0 nd_law_27.2.1)]) = true := by decide +kernel
set_option maxRecDepth 100000 in
set_option maxHeartbeats 8000000 in
theorem okl_28 : ((ab_le 0 (ab_lo nd_law_28.2.1.1 nd_law_28.2.2) && ab_s0k nd_law_28.2.1) && ab_ckL (cdl_338, C_law.2) nd_law_28.2.2 tk_law_28 [(nd_law_28.1, ab_s0 nd_law_28.2.1)]) = true := by decide +kernel
set_option maxRecDepth 100000 in
set_option maxHeartbeats 8000000 in
theorem okl_29 : ((ab_le 0 (ab_lo nd_law_29.2.1.1 nd_law_29.2.2) && ab_s0k nd_law_29.2.1) && ab_ckL (cdl_338, C_law.2) nd_law_29.2.2 tk_law_29 [(nd_law_29.1, ab_s0 nd_law_29.2.1)]) = true := by decide +kernel
set_option maxRecDepth 100000 in
set_option maxHeartbeats 8000000 in
theorem okl_30 : ((ab_le 0 (ab_lo nd_law_30.2.1.1 nd_law_30.2.2) && ab_s0k nd_law_30.2.1) && ab_ckL (cdl_338, C_law.2) nd_law_30.2.2 tk_law_30 [(nd_law_30.1, ab_s0 nd_law_30.2.1)]) = true := by decide +kernel
set_option maxRecDepth 100000 in
set_option maxHeartbeats 8000000 in
theorem okl_31 : ((ab_le 0 (ab_lo nd_law_31.2.1.1 nd_law_31.2.2) && ab_s0k nd_law_31.2.1) && ab_ckL (cdl_338, C_law.2) nd_law_31.2.2 tk_law_31 [(nd_law_31.1, ab_s0 nd_law_31.2.1)]) = true := by decide +kernel
set_option maxRecDepth 100000 in
set_option maxHeartbeats 8000000 in
theorem okl_32 : ((ab_le 0 (ab_lo nd_law_32.2.1.1 nd_law_32.2.2) && ab_s0k nd_law_32.2.1) && ab_ckL (cdl_361, C_law.2) nd_law_32.2.2 tk_law_32 [(nd_law_32.1, ab_s0 nd_law_32.2.1)]) = true := by decide +kernel
set_option maxRecDepth 100000 in
set_option maxHeartbeats 8000000 in
theorem okl_33 : ((ab_le 0 (ab_lo nd_law_33.2.1.1 nd_law_33.2.2) && ab_s0k nd_law_33.2.1) && ab_ckL (cdl_361, C_law.2) nd_law_33.2.2 tk_law_33 [(nd_law_33.1, ab_s0 nd_law_33.2.1)]) = true := by decide +kernel
set_option maxRecDepth 100000 in
set_option maxHeartbeats 8000000 in
theorem okl_34 : ((ab_le 0 (ab_lo nd_law_34.2.1.1 nd_law_34.2.2) && ab_s0k nd_law_34.2.1) && ab_ckL (cdl_361, C_law.2) nd_law_34.2.2 tk_law_34 [(nd_law_34.1, ab_s0 nd_law_34.2.1)]) = true := by decide +kernel
set_option maxRecDepth 100000 in
set_option maxHeartbeats 8000000 in
theorem okl_35 : ((ab_le 0 (ab_lo nd_law_35.2.1.1 nd_law_35.2.2) && ab_s0k nd_law_35.2.1) && ab_ckL (cdl_361, C_law.2) nd_law_35.2.2 tk_law_35 [(nd_law_35.1, ab_s0 nd_law_35.2.1)]) = true := by decide +kernel
set_option maxRecDepth 100000 in
set_option maxHeartbeats 8000000 in
theorem okl_36 : ((ab_le 0 (ab_lo nd_law_36.2.1.1 nd_law_36.2.2) && ab_s0k nd_law_36.2.1) && ab_ckL (cdl_404, C_law.2) nd_law_36.2.2 tk_law_36 [(nd_law_36.1, ab_s0 nd_law_36.2.1)]) = true := by decide +kernel
set_option maxRecDepth 100000 in
set_option maxHeartbeats 8000000 in
theorem okl_37 : ((ab_le 0 (ab_lo nd_law_37.2.1.1 nd_law_37.2.2) && ab_s0k nd_law_37.2.1) && ab_ckL (cdl_404, C_law.2) nd_law_37.2.2 tk_law_37 [(nd_law_37.1, ab_s0 nd_law_37.2.1)]) = true := by decide +kernel
set_option maxRecDepth 100000 in
set_option maxHeartbeats 8000000 in
theorem okl_38 : ((ab_le 0 (ab_lo nd_law_38.2.1.1 nd_law_38.2.2) && ab_s0k nd_law_38.2.1) && ab_ckL (cdl_404, C_law.2) nd_law_38.2.2 tk_law_38 [(nd_law_38.1, ab_s0 nd_law_38.2.1)]) = true := by decide +kernel
set_option maxRecDepth 100000 in
set_option maxHeartbeats 8000000 in
theorem okl_39 : ((ab_le 0 (ab_lo nd_law_39.2.1.1 nd_law_39.2.2) && ab_s0k nd_law_39.2.1) && ab_ckL (cdl_404, C_law.2) nd_law_39.2.2 tk_law_39 [(nd_law_39.1, ab_s0 nd_law_39.2.1)]) = true := by decide +kernel
set_option maxRecDepth 100000 in
set_option maxHeartbeats 8000000 in
theorem okl_40 : ((ab_le 0 (ab_lo nd_law_40.2.1.1 nd_law_40.2.2) && ab_s0k nd_law_40.2.1) && ab_ckL (cdl_437, C_law.2) nd_law_40.2.2 tk_law_40 [(nd_law_40.1, ab_s0 nd_law_40.2.1)]) = true := by decide +kernel
set_option maxRecDepth 100000 in
set_option maxHeartbeats 8000000 in
theorem okl_41 : ((ab_le 0 (ab_lo nd_law_41.2.1.1 nd_law_41.2.2) && ab_s0k nd_law_41.2.1) && ab_ckL (cdl_437, C_law.2) nd_law_41.2.2 tk_law_41 [(nd_law_41.1, ab_s0 nd_law_41.2.1)]) = true := by decide +kernel
set_option maxRecDepth 100000 in
set_option maxHeartbeats 8000000 in
theorem okl_42 : ((ab_le 0 (ab_lo nd_law_42.2.1.1 nd_law_42.2.2) && ab_s0k nd_law_42.2.1) && ab_ckL (cdl_437, C_law.2) nd_law_42.2.2 tk_law_42 [(nd_law_42.1, ab_s0 nd_law_42.2.1)]) = true := by decide +kernel
set_option maxRecDepth 100000 in
set_option maxHeartbeats 8000000 in
theorem okl_43 : ((ab_le 0 (ab_lo nd_law_43.2.1.1 nd_law_43.2.2) && ab_s0k nd_law_43.2.1) && ab_ckL (cdl_437, C_law.2) nd_law_43.2.2 tk_law_43 [(nd_law_43.1, ab_s0 nd_law_43.2.1)]) = true := by decide +kernel
set_option maxRecDepth 100000 in
set_option maxHeartbeats 8000000 in
theorem okl_44 : ((ab_le 0 (ab_lo nd_law_44.2.1.1 nd_law_44.2.2) && ab_s0k nd_law_44.2.1) && ab_ckL (cdl_470, C_law.2) nd_law_44.2.2 tk_law_44 [(nd_law_44.1, ab_s0 nd_law_44.2.1)]) = true := by decide +kernel
set_option maxRecDepth 100000 in
set_option maxHeartbeats 8000000 in
theorem okl_45 : ((ab_le 0 (ab_lo nd_law_45.2.1.1 nd_law_45.2.2) && ab_s0k nd_law_45.2.1) && ab_ckL (cdl_470, C_law.2) nd_law_45.2.2 tk_law_45 [(nd_law_45.1, ab_s0 nd_law_45.2.1)]) = true := by decide +kernel
set_option maxRecDepth 100000 in
set_option maxHeartbeats 8000000 in
theorem okl_46 : ((ab_le 0 (ab_lo nd_law_46.2.1.1 nd_law_46.2.2) && ab_s0k nd_law_46.2.1) && ab_ckL (cdl_470, C_law.2) nd_law_46.2.2 tk_law_46 [(nd_law_46.1, ab_s0 nd_law_46.2.1)]) = true := by decide +kernel
set_option maxRecDepth 100000 in
set_option maxHeartbeats 8000000 in
theorem okl_47 : ((ab_le 0 (ab_lo nd_law_47.2.1.1 nd_law_47.2.2) && ab_s0k nd_law_47.2.1) && ab_ckL (cdl_470, C_law.2) nd_law_47.2.2 tk_law_47 [(nd_law_47.1, ab_s0 nd_law_47.2.1)]) = true := by decide +kernel
