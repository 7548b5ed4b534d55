theorem ab_nil {α : Type} {P : α → Prop} : ∀ q ∈ ([] : List α), P q := fun _ h => by cases h
theorem ab_cons {α : Type} {P : α → Prop} {a : α} {l : List α} (h : P a) (t : ∀ q ∈ l, P q) : ∀ q ∈ a :: l, P q := fun q hq => by
  rcases List.mem_cons.mp hq with rfl | hq
  · exact h
  · exact t q hq
theorem f_NF_45 : ab_Fl R_NF (45, 11, 5, 9) := ⟨R_NF, F_NF, 11, t_NF, rfl, i_NF, by decide, k_465, t_NF_ok, n_NF, fun h => absurd h (by decide), fun h => absurd h (by decide), fun h => absurd h (by decide)⟩
theorem f_Deaths_28 : ab_Fl R_Deaths (28, 1, 1, 0) := ⟨R_Deaths, F_Deaths, 6, t_Deaths, rfl, i_Deaths, by decide, k_395, t_Deaths_ok, n_Deaths, fun _ => ⟨rfl, rfl⟩, fun h => absurd h (by decide), fun h => absurd h (by decide)⟩
theorem f_Mo_33 : ab_Fl R_Mo (33, 12, 15, 9) := ⟨R_Mo, F_Mo, 55, t_Mo, rfl, i_Mo, by decide, k_1033, t_Mo_ok, n_Mo, fun h => absurd h (by decide), fun h => absurd h (by decide), fun h => absurd h (by decide)⟩
theorem f_Mo_91 : ab_Fl R_Mo (91, 12, 34, 9) := ⟨R_Mo, F_Mo, 55, t_Mo, rfl, i_Mo, by decide, k_1052, t_Mo_ok, n_Mo, fun h => absurd h (by decide), fun h => absurd h (by decide), fun h => absurd h (by decide)⟩
theorem f_Mo_106 : ab_Fl R_Mo (106, 12, 41, 9) := ⟨R_Mo, F_Mo, 55, t_Mo, rfl, i_Mo, by decide, k_1059, t_Mo_ok, n_Mo, fun h => absurd h (by decide), fun h => absurd h (by decide), fun h => absurd h (by decide)⟩
theorem f_Mo_109 : ab_Fl R_Mo (109, 12, 42, 9) := ⟨R_Mo, F_Mo, 55, t_Mo, rfl, i_Mo, by decide, k_1060, t_Mo_ok, n_Mo, fun h => absurd h (by decide), fun h => absurd h (by decide), fun h => absurd h (by decide)⟩
theorem f_Mo_112 : ab_Fl R_Mo (112, 12, 43, 9) := ⟨R_Mo, F_Mo, 55, t_Mo, rfl, i_Mo, by decide, k_1061, t_Mo_ok, n_Mo, fun h => absurd h (by decide), fun h => absurd h (by decide), fun h => absurd h (by decide)⟩
theorem f_Mo_115 : ab_Fl R_Mo (115, 12, 44, 9) := ⟨R_Mo, F_Mo, 55, t_Mo, rfl, i_Mo, by decide, k_1062, t_Mo_ok, n_Mo, fun h => absurd h (by decide), fun h => absurd h (by decide), fun h => absurd h (by decide)⟩
theorem f_Mo_118 : ab_Fl R_Mo (118, 12, 47, 9) := ⟨R_Mo, F_Mo, 55, t_Mo, rfl, i_Mo, by decide, k_1065, t_Mo_ok, n_Mo, fun h => absurd h (by decide), fun h => absurd h (by decide), fun h => absurd h (by decide)⟩
theorem f_Mo_240 : ab_Fl R_Mo (240, 12, 39, 0) := ⟨R_Mo, F_Mo, 55, t_Mo, rfl, i_Mo, by decide, k_1057, t_Mo_ok, n_Mo, fun _ => ⟨rfl, rfl⟩, fun h => absurd h (by decide), fun h => absurd h (by decide)⟩
theorem f_Mo_249 : ab_Fl R_Mo (249, 12, 45, 0) := ⟨R_Mo, F_Mo, 55, t_Mo, rfl, i_Mo, by decide, k_1063, t_Mo_ok, n_Mo, fun _ => ⟨rfl, rfl⟩, fun h => absurd h (by decide), fun h => absurd h (by decide)⟩
theorem f_Mo_318 : ab_Fl R_Mo (318, 12, 46, 0) := ⟨R_Mo, F_Mo, 55, t_Mo, rfl, i_Mo, by decide, k_1064, t_Mo_ok, n_Mo, fun _ => ⟨rfl, rfl⟩, fun h => absurd h (by decide), fun h => absurd h (by decide)⟩
def cd_Mo_isIn : List (Nat × Instr × Nat) := [(0, .iload_n 0, 1), (1, .iload_n 1, 1), (2, .if_icmp .lt 12, 3), (5, .iload_n 0, 1), (6, .iload_n 2, 1), (7, .if_icmp .gt 7, 3), (10, .iconst 1, 1), (11, .goto 4, 3), (14, .iconst 0, 1), (15, .ireturn, 1)]
theorem cdk_Mo_isIn : ab_cod b_Mo_isIn cd_Mo_isIn := by unfold ab_cod; decide +kernel
def tb_Mo_isIn : ab_T := ([], [], [], 3)
theorem tbk_Mo_isIn : ab_Tok R_Mo 3 tb_Mo_isIn := ⟨ab_nil, ab_nil, ab_nil, rfl⟩
def cd_Mo_later : List (Nat × Instr × Nat) := [(0, .iload_n 1, 1), (1, .iconst 0, 1), (2, .sipush 1000, 3), (5, .invokestatic 305, 3), (8, .ifCond .eq 15, 3), (11, .aload_n 0, 1), (12, .getfield 318, 3), (15, .iload_n 1, 1), (16, .iadd, 1), (17, .ldc_w 321, 3), (20, .if_icmp .le 5, 3), (23, .iconst (-1), 1), (24, .ireturn, 1), (25, .aload_n 0, 1), (26, .dup, 1), (27, .getfield 318, 3), (30, .iload_n 1, 1), (31, .iadd, 1), (32, .putfield 318, 3), (35, .aload_n 0, 1), (36, .getfield 318, 3), (39, .ireturn, 1)]
theorem cdk_Mo_later : ab_cod b_Mo_later cd_Mo_later := by unfold ab_cod; decide +kernel
def tb_Mo_later : ab_T := ([(318, 12, 46, 0)], [(321, 100000)], [], 2)
theorem tbk_Mo_later : ab_Tok R_Mo 2 tb_Mo_later := ⟨ab_cons f_Mo_318 (ab_nil), ab_cons ⟨100000, rfl, k_1344⟩ (ab_nil), ab_nil, rfl⟩
def cd_Mo_isPerson : List (Nat × Instr × Nat) := [(0, .iload_n 1, 1), (1, .iconst 0, 1), (2, .aload_n 0, 1), (3, .getfield 33, 3), (6, .aload_n 0, 1), (7, .getfield 240, 3), (10, .iaload, 1), (11, .iconst 1, 1), (12, .isub, 1), (13, .invokestatic 305, 3), (16, .ireturn, 1)]
theorem cdk_Mo_isPerson : ab_cod b_Mo_isPerson cd_Mo_isPerson := by unfold ab_cod; decide +kernel
def tb_Mo_isPerson : ab_T := ([(33, 12, 15, 9), (240, 12, 39, 0)], [], [], 2)
theorem tbk_Mo_isPerson : ab_Tok R_Mo 2 tb_Mo_isPerson := ⟨ab_cons f_Mo_33 (ab_cons f_Mo_240 (ab_nil)), ab_nil, ab_nil, rfl⟩
def cd_Mo_isYear : List (Nat × Instr × Nat) := [(0, .iload_n 0, 1), (1, .iconst 0, 1), (2, .sipush 199, 3), (5, .invokestatic 305, 3), (8, .ireturn, 1)]
theorem cdk_Mo_isYear : ab_cod b_Mo_isYear cd_Mo_isYear := by unfold ab_cod; decide +kernel
def tb_Mo_isYear : ab_T := ([], [], [], 1)
theorem tbk_Mo_isYear : ab_Tok R_Mo 1 tb_Mo_isYear := ⟨ab_nil, ab_nil, ab_nil, rfl⟩
def cd_Mo_bornOf : List (Nat × Instr × Nat) := [(0, .aload_n 0, 1), (1, .getfield 91, 3), (4, .bipush 12, 2), (6, .aload_n 0, 1), (7, .getfield 240, 3), (10, .imul, 1), (11, .iload_n 1, 1), (12, .iadd, 1), (13, .iaload, 1), (14, .ireturn, 1)]
theorem cdk_Mo_bornOf : ab_cod b_Mo_bornOf cd_Mo_bornOf := by unfold ab_cod; decide +kernel
def tb_Mo_bornOf : ab_T := ([(91, 12, 34, 9), (240, 12, 39, 0)], [], [], 2)
theorem tbk_Mo_bornOf : ab_Tok R_Mo 2 tb_Mo_bornOf := ⟨ab_cons f_Mo_91 (ab_cons f_Mo_240 (ab_nil)), ab_nil, ab_nil, rfl⟩
def cd_Mo_die : List (Nat × Instr × Nat) := [(0, .aload_n 0, 1), (1, .iload_n 1, 1), (2, .invokevirtual 309, 3), (5, .ifCond .eq 28, 3), (8, .iload_n 2, 1), (9, .invokestatic 312, 3), (12, .ifCond .eq 21, 3), (15, .iload_n 2, 1), (16, .aload_n 0, 1), (17, .iload_n 1, 1), (18, .invokevirtual 315, 3), (21, .if_icmp .lt 12, 3), (24, .aload_n 0, 1), (25, .getfield 249, 3), (28, .bipush 60, 2), (30, .if_icmp .ne 5, 3), (33, .iconst (-1), 1), (34, .ireturn, 1), (35, .aload_n 0, 1), (36, .getfield 106, 3), (39, .aload_n 0, 1), (40, .getfield 249, 3), (43, .iload_n 1, 1), (44, .iastore, 1), (45, .aload_n 0, 1), (46, .getfield 109, 3), (49, .aload_n 0, 1), (50, .getfield 249, 3), (53, .iload_n 2, 1), (54, .iastore, 1), (55, .aload_n 0, 1), (56, .getfield 112, 3), (59, .aload_n 0, 1), (60, .getfield 249, 3), (63, .aload_n 0, 1), (64, .getfield 318, 3), (67, .iastore, 1), (68, .aload_n 0, 1), (69, .getfield 115, 3), (72, .aload_n 0, 1), (73, .getfield 249, 3), (76, .iconst (-1), 1), (77, .iastore, 1), (78, .aload_n 0, 1), (79, .dup, 1), (80, .getfield 249, 3), (83, .iconst 1, 1), (84, .iadd, 1), (85, .putfield 249, 3), (88, .aload_n 0, 1), (89, .getfield 249, 3), (92, .iconst 1, 1), (93, .isub, 1), (94, .ireturn, 1)]
theorem cdk_Mo_die : ab_cod b_Mo_die cd_Mo_die := by unfold ab_cod; decide +kernel
def tb_Mo_die : ab_T := ([(249, 12, 45, 0), (106, 12, 41, 9), (109, 12, 42, 9), (112, 12, 43, 9), (318, 12, 46, 0), (115, 12, 44, 9)], [], [], 3)
theorem tbk_Mo_die : ab_Tok R_Mo 3 tb_Mo_die := ⟨ab_cons f_Mo_249 (ab_cons f_Mo_106 (ab_cons f_Mo_109 (ab_cons f_Mo_112 (ab_cons f_Mo_318 (ab_cons f_Mo_115 (ab_nil)))))), ab_nil, ab_nil, rfl⟩
def cd_Deaths_goOn : List (Nat × Instr × Nat) := [(0, .iload_n 1, 1), (1, .ifCond .lt 21, 3), (4, .iload_n 1, 1), (5, .sipush 1000, 3), (8, .if_icmp .gt 14, 3), (11, .aload_n 0, 1), (12, .getfield 28, 3), (15, .iload_n 1, 1), (16, .iadd, 1), (17, .ldc 31, 2), (19, .if_icmp .le 5, 3), (22, .iconst (-1), 1), (23, .ireturn, 1), (24, .aload_n 0, 1), (25, .dup, 1), (26, .getfield 28, 3), (29, .iload_n 1, 1), (30, .iadd, 1), (31, .putfield 28, 3), (34, .aload_n 0, 1), (35, .getfield 28, 3), (38, .ireturn, 1)]
theorem cdk_Deaths_goOn : ab_cod b_Deaths_goOn cd_Deaths_goOn := by unfold ab_cod; decide +kernel
def tb_Deaths_goOn : ab_T := ([(28, 1, 1, 0)], [(31, 100000)], [], 2)
theorem tbk_Deaths_goOn : ab_Tok R_Deaths 2 tb_Deaths_goOn := ⟨ab_cons f_Deaths_28 (ab_nil), ab_cons ⟨100000, rfl, k_721⟩ (ab_nil), ab_nil, rfl⟩
def cd_NF_later : List (Nat × Instr × Nat) := [(0, .aload_n 0, 1), (1, .getfield 45, 3), (4, .iload_n 1, 1), (5, .invokevirtual 127, 3), (8, .ireturn, 1)]
theorem cdk_NF_later : ab_cod b_NF_later cd_NF_later := by unfold ab_cod; decide +kernel
def tb_NF_later : ab_T := ([(45, 11, 5, 9)], [], [], 2)
theorem tbk_NF_later : ab_Tok R_NF 2 tb_NF_later := ⟨ab_cons f_NF_45 (ab_nil), ab_nil, ab_nil, rfl⟩
def cd_Mo_know : List (Nat × Instr × Nat) := [(0, .iconst 0, 1), (1, .istore_n 2, 1), (2, .iload_n 2, 1), (3, .bipush 12, 2), (5, .if_icmp .ge 16, 3), (8, .aload_n 0, 1), (9, .getfield 118, 3), (12, .iload_n 2, 1), (13, .iconst (-1), 1), (14, .iastore, 1), (15, .iinc 2 1, 3), (18, .goto (-16), 3), (21, .iconst 0, 1), (22, .istore_n 2, 1), (23, .iload_n 2, 1), (24, .aload_n 0, 1), (25, .getfield 249, 3), (28, .if_icmp .ge 55, 3), (31, .aload_n 0, 1), (32, .getfield 112, 3), (35, .iload_n 2, 1), (36, .iaload, 1), (37, .iload_n 1, 1), (38, .if_icmp .gt 39, 3), (41, .aload_n 0, 1), (42, .getfield 115, 3), (45, .iload_n 2, 1), (46, .iaload, 1), (47, .ifCond .lt 13, 3), (50, .aload_n 0, 1), (51, .getfield 115, 3), (54, .iload_n 2, 1), (55, .iaload, 1), (56, .iload_n 1, 1), (57, .if_icmp .le 20, 3), (60, .aload_n 0, 1), (61, .getfield 118, 3), (64, .aload_n 0, 1), (65, .getfield 106, 3), (68, .iload_n 2, 1), (69, .iaload, 1), (70, .aload_n 0, 1), (71, .getfield 109, 3), (74, .iload_n 2, 1), (75, .iaload, 1), (76, .iastore, 1), (77, .iinc 2 1, 3), (80, .goto (-57), 3), (83, .return_, 1)]
theorem cdk_Mo_know : ab_cod b_Mo_know cd_Mo_know := by unfold ab_cod; decide +kernel
def tb_Mo_know : ab_T := ([(118, 12, 47, 9), (249, 12, 45, 0), (112, 12, 43, 9), (115, 12, 44, 9), (106, 12, 41, 9), (109, 12, 42, 9)], [], [], 3)
theorem tbk_Mo_know : ab_Tok R_Mo 3 tb_Mo_know := ⟨ab_cons f_Mo_118 (ab_cons f_Mo_249 (ab_cons f_Mo_112 (ab_cons f_Mo_115 (ab_cons f_Mo_106 (ab_cons f_Mo_109 (ab_nil)))))), ab_nil, ab_nil, rfl⟩
def cd_Mo_isAlive : List (Nat × Instr × Nat) := [(0, .iload_n 2, 1), (1, .aload_n 0, 1), (2, .iload_n 1, 1), (3, .invokevirtual 315, 3), (6, .if_icmp .lt 26, 3), (9, .aload_n 0, 1), (10, .getfield 118, 3), (13, .iload_n 1, 1), (14, .iaload, 1), (15, .ifCond .lt 13, 3), (18, .iload_n 2, 1), (19, .aload_n 0, 1), (20, .getfield 118, 3), (23, .iload_n 1, 1), (24, .iaload, 1), (25, .if_icmp .ge 7, 3), (28, .iconst 1, 1), (29, .goto 4, 3), (32, .iconst 0, 1), (33, .ireturn, 1)]
theorem cdk_Mo_isAlive : ab_cod b_Mo_isAlive cd_Mo_isAlive := by unfold ab_cod; decide +kernel
def tb_Mo_isAlive : ab_T := ([(118, 12, 47, 9)], [], [], 3)
theorem tbk_Mo_isAlive : ab_Tok R_Mo 3 tb_Mo_isAlive := ⟨ab_cons f_Mo_118 (ab_nil), ab_nil, ab_nil, rfl⟩
def cd_Mo_alive : List (Nat × Instr × Nat) := [(0, .aload_n 0, 1), (1, .iload_n 1, 1), (2, .invokevirtual 309, 3), (5, .ifCond .eq 10, 3), (8, .iload_n 2, 1), (9, .invokestatic 312, 3), (12, .ifCond .ne 5, 3), (15, .iconst (-1), 1), (16, .ireturn, 1), (17, .aload_n 0, 1), (18, .iload_n 3, 1), (19, .invokevirtual 322, 3), (22, .aload_n 0, 1), (23, .iload_n 1, 1), (24, .iload_n 2, 1), (25, .invokevirtual 326, 3), (28, .ifCond .eq 7, 3), (31, .iconst 1, 1), (32, .goto 4, 3), (35, .iconst 0, 1), (36, .ireturn, 1)]
theorem cdk_Mo_alive : ab_cod b_Mo_alive cd_Mo_alive := by unfold ab_cod; decide +kernel
def tb_Mo_alive : ab_T := ([], [], [], 4)
theorem tbk_Mo_alive : ab_Tok R_Mo 4 tb_Mo_alive := ⟨ab_nil, ab_nil, ab_nil, rfl⟩
