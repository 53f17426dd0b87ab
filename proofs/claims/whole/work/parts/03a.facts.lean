set_option maxRecDepth 20000 in
theorem xu_P : ∀ w ∈ u_ws "PathTree" xF_P 7, w ∈ tb := by decide +kernel
set_option maxRecDepth 20000 in
theorem tk_P : t_okk xF_P 7 := ⟨⟨xT_P, by decide +kernel⟩, by decide +kernel⟩
set_option maxRecDepth 20000 in
theorem xu_T : ∀ w ∈ u_ws "PathTree$PathText" xF_T 2, w ∈ tb := by decide +kernel
set_option maxRecDepth 20000 in
theorem tk_T : t_okk xF_T 2 := ⟨⟨xT_T, by decide +kernel⟩, by decide +kernel⟩
set_option maxRecDepth 20000 in
theorem xu_D : ∀ w ∈ u_ws "PathTree$Directory" xF_D 5, w ∈ tb := by decide +kernel
set_option maxRecDepth 20000 in
theorem tk_D : t_okk xF_D 5 := ⟨⟨xT_D, by decide +kernel⟩, by decide +kernel⟩
set_option maxRecDepth 20000 in
theorem xu_F : ∀ w ∈ u_ws "PathTree$FileEntry" xF_F 5, w ∈ tb := by decide +kernel
set_option maxRecDepth 20000 in
theorem tk_F : t_okk xF_F 5 := ⟨⟨xT_F, by decide +kernel⟩, by decide +kernel⟩
set_option maxRecDepth 20000 in
theorem xu_R : ∀ w ∈ u_ws "PathTreeModel" xF_R 14, w ∈ tb := by decide +kernel
set_option maxRecDepth 20000 in
theorem tk_R : t_okk xF_R 14 := ⟨⟨xT_R, by decide +kernel⟩, by decide +kernel⟩
set_option maxRecDepth 20000 in
theorem f_T_9_1 : f_ok "PathTree$PathText" 9 1 0 := ⟨_, _, _, "PathTree$PathText", rfl, xu_T, by decide, Or.inl (t_in 71 rfl rfl), Or.inl rfl⟩
set_option maxRecDepth 20000 in
theorem p_T_9_1 {ini : Prop} (hi : ini) : p_ok "PathTree$PathText" 9 1 0 (.array .char) ini := ⟨_, _, _, "PathTree$PathText", rfl, xu_T, by decide, Or.inl (t_in 71 rfl rfl), Or.inl rfl, tk_T, by decide +kernel, Or.inr ⟨rfl, hi, rfl⟩⟩
set_option maxRecDepth 20000 in
theorem f_T_13_1 : f_ok "PathTree$PathText" 13 1 1 := ⟨_, _, _, "PathTree$PathText", rfl, xu_T, by decide, Or.inl (t_in 73 rfl rfl), Or.inl rfl⟩
set_option maxRecDepth 20000 in
theorem p_T_13_1 {ini : Prop} : p_ok "PathTree$PathText" 13 1 1 (.int) ini := ⟨_, _, _, "PathTree$PathText", rfl, xu_T, by decide, Or.inl (t_in 73 rfl rfl), Or.inl rfl, tk_T, by decide +kernel, Or.inl rfl⟩
set_option maxRecDepth 20000 in
theorem f_D_7_2 : f_ok "PathTree$Directory" 7 2 3 := ⟨_, _, _, "PathTree$Directory", rfl, xu_D, by decide, Or.inl (t_in 90 rfl rfl), Or.inl rfl⟩
set_option maxRecDepth 20000 in
theorem p_D_7_2 {ini : Prop} : p_ok "PathTree$Directory" 7 2 3 (.object "PathTree$Entry") ini := ⟨_, _, _, "PathTree$Directory", rfl, xu_D, by decide, Or.inl (t_in 90 rfl rfl), Or.inl rfl, tk_D, by decide +kernel, Or.inl rfl⟩
set_option maxRecDepth 20000 in
theorem f_D_13_2 : f_ok "PathTree$Directory" 13 2 4 := ⟨_, _, _, "PathTree$Directory", rfl, xu_D, by decide, Or.inl (t_in 91 rfl rfl), Or.inl rfl⟩
set_option maxRecDepth 20000 in
theorem p_D_13_2 {ini : Prop} : p_ok "PathTree$Directory" 13 2 4 (.int) ini := ⟨_, _, _, "PathTree$Directory", rfl, xu_D, by decide, Or.inl (t_in 91 rfl rfl), Or.inl rfl, tk_D, by decide +kernel, Or.inl rfl⟩
set_option maxRecDepth 20000 in
theorem f_E_17_2 : f_ok "PathTree$Entry" 17 2 0 := ⟨_, _, _, "PathTree$Entry", rfl, xu_D, by decide, Or.inl (t_in 93 rfl rfl), Or.inl rfl⟩
set_option maxRecDepth 20000 in
theorem p_E_17_2 {ini : Prop} : p_ok "PathTree$Entry" 17 2 0 (.array .char) ini := ⟨_, _, _, "PathTree$Entry", rfl, xu_D, by decide, Or.inl (t_in 93 rfl rfl), Or.inl rfl, tk_D, by decide +kernel, Or.inl rfl⟩
set_option maxRecDepth 20000 in
theorem f_E_17_3 : f_ok "PathTree$Entry" 17 3 0 := ⟨_, _, _, "PathTree$Entry", rfl, xu_F, by decide, Or.inl (t_in 93 rfl rfl), Or.inl rfl⟩
set_option maxRecDepth 20000 in
theorem p_E_17_3 {ini : Prop} : p_ok "PathTree$Entry" 17 3 0 (.array .char) ini := ⟨_, _, _, "PathTree$Entry", rfl, xu_F, by decide, Or.inl (t_in 93 rfl rfl), Or.inl rfl, tk_F, by decide +kernel, Or.inl rfl⟩
set_option maxRecDepth 20000 in
theorem f_D_28_2 : f_ok "PathTree$Directory" 28 2 0 := ⟨_, _, _, "PathTree$Entry", rfl, xu_D, by decide, Or.inl (t_in 94 rfl rfl), Or.inl rfl⟩
set_option maxRecDepth 20000 in
theorem p_D_28_2 {ini : Prop} : p_ok "PathTree$Directory" 28 2 0 (.array .char) ini := ⟨_, _, _, "PathTree$Entry", rfl, xu_D, by decide, Or.inl (t_in 94 rfl rfl), Or.inl rfl, tk_D, by decide +kernel, Or.inl rfl⟩
set_option maxRecDepth 20000 in
theorem f_D_28_3 : f_ok "PathTree$Directory" 28 3 0 := ⟨_, _, _, "PathTree$Entry", rfl, xu_F, by decide, Or.inl (t_in 94 rfl rfl), Or.inl rfl⟩
set_option maxRecDepth 20000 in
theorem p_D_28_3 {ini : Prop} : p_ok "PathTree$Directory" 28 3 0 (.array .char) ini := ⟨_, _, _, "PathTree$Entry", rfl, xu_F, by decide, Or.inl (t_in 94 rfl rfl), Or.inl rfl, tk_F, by decide +kernel, Or.inl rfl⟩
set_option maxRecDepth 20000 in
theorem f_P_123_2 : f_ok "PathTree" 123 2 0 := ⟨_, _, _, "PathTree$Entry", rfl, xu_D, by decide, Or.inl (t_in 95 rfl rfl), Or.inl rfl⟩
set_option maxRecDepth 20000 in
theorem p_P_123_2 {ini : Prop} : p_ok "PathTree" 123 2 0 (.array .char) ini := ⟨_, _, _, "PathTree$Entry", rfl, xu_D, by decide, Or.inl (t_in 95 rfl rfl), Or.inl rfl, tk_D, by decide +kernel, Or.inl rfl⟩
set_option maxRecDepth 20000 in
theorem f_P_123_3 : f_ok "PathTree" 123 3 0 := ⟨_, _, _, "PathTree$Entry", rfl, xu_F, by decide, Or.inl (t_in 95 rfl rfl), Or.inl rfl⟩
set_option maxRecDepth 20000 in
theorem p_P_123_3 {ini : Prop} : p_ok "PathTree" 123 3 0 (.array .char) ini := ⟨_, _, _, "PathTree$Entry", rfl, xu_F, by decide, Or.inl (t_in 95 rfl rfl), Or.inl rfl, tk_F, by decide +kernel, Or.inl rfl⟩
set_option maxRecDepth 20000 in
theorem f_P_177_3 : f_ok "PathTree" 177 3 0 := ⟨_, _, _, "PathTree$FileEntry", rfl, xu_F, by decide, Or.inl (t_in 96 rfl rfl), Or.inr (t_in 97 rfl rfl)⟩
set_option maxRecDepth 20000 in
theorem p_P_177_3 {ini : Prop} : p_ok "PathTree" 177 3 0 (.array .char) ini := ⟨_, _, _, "PathTree$FileEntry", rfl, xu_F, by decide, Or.inl (t_in 96 rfl rfl), Or.inr (t_in 97 rfl rfl), tk_F, by decide +kernel, Or.inl rfl⟩
set_option maxRecDepth 20000 in
theorem f_E_7_2 : f_ok "PathTree$Entry" 7 2 1 := ⟨_, _, _, "PathTree$Entry", rfl, xu_D, by decide, Or.inl (t_in 98 rfl rfl), Or.inl rfl⟩
set_option maxRecDepth 20000 in
theorem p_E_7_2 {ini : Prop} : p_ok "PathTree$Entry" 7 2 1 (.object "PathTree$Directory") ini := ⟨_, _, _, "PathTree$Entry", rfl, xu_D, by decide, Or.inl (t_in 98 rfl rfl), Or.inl rfl, tk_D, by decide +kernel, Or.inl rfl⟩
set_option maxRecDepth 20000 in
theorem f_E_7_3 : f_ok "PathTree$Entry" 7 3 1 := ⟨_, _, _, "PathTree$Entry", rfl, xu_F, by decide, Or.inl (t_in 98 rfl rfl), Or.inl rfl⟩
set_option maxRecDepth 20000 in
theorem p_E_7_3 {ini : Prop} : p_ok "PathTree$Entry" 7 3 1 (.object "PathTree$Directory") ini := ⟨_, _, _, "PathTree$Entry", rfl, xu_F, by decide, Or.inl (t_in 98 rfl rfl), Or.inl rfl, tk_F, by decide +kernel, Or.inl rfl⟩
set_option maxRecDepth 20000 in
theorem f_D_24_2 : f_ok "PathTree$Directory" 24 2 1 := ⟨_, _, _, "PathTree$Directory", rfl, xu_D, by decide, Or.inl (t_in 99 rfl rfl), Or.inr (t_in 100 rfl rfl)⟩
set_option maxRecDepth 20000 in
theorem p_D_24_2 {ini : Prop} : p_ok "PathTree$Directory" 24 2 1 (.object "PathTree$Directory") ini := ⟨_, _, _, "PathTree$Directory", rfl, xu_D, by decide, Or.inl (t_in 99 rfl rfl), Or.inr (t_in 100 rfl rfl), tk_D, by decide +kernel, Or.inl rfl⟩
set_option maxRecDepth 20000 in
theorem f_D_36_2 : f_ok "PathTree$Directory" 36 2 1 := ⟨_, _, _, "PathTree$Entry", rfl, xu_D, by decide, Or.inl (t_in 101 rfl rfl), Or.inl rfl⟩
set_option maxRecDepth 20000 in
theorem p_D_36_2 {ini : Prop} : p_ok "PathTree$Directory" 36 2 1 (.object "PathTree$Directory") ini := ⟨_, _, _, "PathTree$Entry", rfl, xu_D, by decide, Or.inl (t_in 101 rfl rfl), Or.inl rfl, tk_D, by decide +kernel, Or.inl rfl⟩
set_option maxRecDepth 20000 in
theorem f_D_36_3 : f_ok "PathTree$Directory" 36 3 1 := ⟨_, _, _, "PathTree$Entry", rfl, xu_F, by decide, Or.inl (t_in 101 rfl rfl), Or.inl rfl⟩
set_option maxRecDepth 20000 in
theorem p_D_36_3 {ini : Prop} : p_ok "PathTree$Directory" 36 3 1 (.object "PathTree$Directory") ini := ⟨_, _, _, "PathTree$Entry", rfl, xu_F, by decide, Or.inl (t_in 101 rfl rfl), Or.inl rfl, tk_F, by decide +kernel, Or.inl rfl⟩
set_option maxRecDepth 20000 in
theorem f_P_87_3 : f_ok "PathTree" 87 3 1 := ⟨_, _, _, "PathTree$FileEntry", rfl, xu_F, by decide, Or.inl (t_in 102 rfl rfl), Or.inr (t_in 103 rfl rfl)⟩
set_option maxRecDepth 20000 in
theorem p_P_87_3 {ini : Prop} : p_ok "PathTree" 87 3 1 (.object "PathTree$Directory") ini := ⟨_, _, _, "PathTree$FileEntry", rfl, xu_F, by decide, Or.inl (t_in 102 rfl rfl), Or.inr (t_in 103 rfl rfl), tk_F, by decide +kernel, Or.inl rfl⟩
set_option maxRecDepth 20000 in
theorem f_P_155_2 : f_ok "PathTree" 155 2 1 := ⟨_, _, _, "PathTree$Directory", rfl, xu_D, by decide, Or.inl (t_in 104 rfl rfl), Or.inr (t_in 100 rfl rfl)⟩
set_option maxRecDepth 20000 in
theorem p_P_155_2 {ini : Prop} : p_ok "PathTree" 155 2 1 (.object "PathTree$Directory") ini := ⟨_, _, _, "PathTree$Directory", rfl, xu_D, by decide, Or.inl (t_in 104 rfl rfl), Or.inr (t_in 100 rfl rfl), tk_D, by decide +kernel, Or.inl rfl⟩
set_option maxRecDepth 20000 in
theorem f_P_173_2 : f_ok "PathTree" 173 2 1 := ⟨_, _, _, "PathTree$Entry", rfl, xu_D, by decide, Or.inl (t_in 105 rfl rfl), Or.inl rfl⟩
set_option maxRecDepth 20000 in
theorem p_P_173_2 {ini : Prop} : p_ok "PathTree" 173 2 1 (.object "PathTree$Directory") ini := ⟨_, _, _, "PathTree$Entry", rfl, xu_D, by decide, Or.inl (t_in 105 rfl rfl), Or.inl rfl, tk_D, by decide +kernel, Or.inl rfl⟩
set_option maxRecDepth 20000 in
theorem f_P_173_3 : f_ok "PathTree" 173 3 1 := ⟨_, _, _, "PathTree$Entry", rfl, xu_F, by decide, Or.inl (t_in 105 rfl rfl), Or.inl rfl⟩
set_option maxRecDepth 20000 in
theorem p_P_173_3 {ini : Prop} : p_ok "PathTree" 173 3 1 (.object "PathTree$Directory") ini := ⟨_, _, _, "PathTree$Entry", rfl, xu_F, by decide, Or.inl (t_in 105 rfl rfl), Or.inl rfl, tk_F, by decide +kernel, Or.inl rfl⟩
set_option maxRecDepth 20000 in
theorem f_E_13_2 : f_ok "PathTree$Entry" 13 2 2 := ⟨_, _, _, "PathTree$Entry", rfl, xu_D, by decide, Or.inl (t_in 106 rfl rfl), Or.inl rfl⟩
set_option maxRecDepth 20000 in
theorem p_E_13_2 {ini : Prop} : p_ok "PathTree$Entry" 13 2 2 (.object "PathTree$Entry") ini := ⟨_, _, _, "PathTree$Entry", rfl, xu_D, by decide, Or.inl (t_in 106 rfl rfl), Or.inl rfl, tk_D, by decide +kernel, Or.inl rfl⟩
set_option maxRecDepth 20000 in
theorem f_E_13_3 : f_ok "PathTree$Entry" 13 3 2 := ⟨_, _, _, "PathTree$Entry", rfl, xu_F, by decide, Or.inl (t_in 106 rfl rfl), Or.inl rfl⟩
set_option maxRecDepth 20000 in
theorem p_E_13_3 {ini : Prop} : p_ok "PathTree$Entry" 13 3 2 (.object "PathTree$Entry") ini := ⟨_, _, _, "PathTree$Entry", rfl, xu_F, by decide, Or.inl (t_in 106 rfl rfl), Or.inl rfl, tk_F, by decide +kernel, Or.inl rfl⟩
set_option maxRecDepth 20000 in
theorem f_D_21_2 : f_ok "PathTree$Directory" 21 2 2 := ⟨_, _, _, "PathTree$Entry", rfl, xu_D, by decide, Or.inl (t_in 107 rfl rfl), Or.inl rfl⟩
set_option maxRecDepth 20000 in
theorem p_D_21_2 {ini : Prop} : p_ok "PathTree$Directory" 21 2 2 (.object "PathTree$Entry") ini := ⟨_, _, _, "PathTree$Entry", rfl, xu_D, by decide, Or.inl (t_in 107 rfl rfl), Or.inl rfl, tk_D, by decide +kernel, Or.inl rfl⟩
set_option maxRecDepth 20000 in
theorem f_D_21_3 : f_ok "PathTree$Directory" 21 3 2 := ⟨_, _, _, "PathTree$Entry", rfl, xu_F, by decide, Or.inl (t_in 107 rfl rfl), Or.inl rfl⟩
set_option maxRecDepth 20000 in
theorem p_D_21_3 {ini : Prop} : p_ok "PathTree$Directory" 21 3 2 (.object "PathTree$Entry") ini := ⟨_, _, _, "PathTree$Entry", rfl, xu_F, by decide, Or.inl (t_in 107 rfl rfl), Or.inl rfl, tk_F, by decide +kernel, Or.inl rfl⟩
set_option maxRecDepth 20000 in
theorem f_P_10_0 : f_ok "PathTree" 10 0 0 := ⟨_, _, _, "PathTree", rfl, xu_P, by decide, Or.inl (t_in 119 rfl rfl), Or.inl rfl⟩
set_option maxRecDepth 20000 in
theorem p_P_10_0 {ini : Prop} (hi : ini) : p_ok "PathTree" 10 0 0 (.object "PathTree$PathText") ini := ⟨_, _, _, "PathTree", rfl, xu_P, by decide, Or.inl (t_in 119 rfl rfl), Or.inl rfl, tk_P, by decide +kernel, Or.inr ⟨rfl, hi, rfl⟩⟩
set_option maxRecDepth 20000 in
theorem f_P_21_0 : f_ok "PathTree" 21 0 1 := ⟨_, _, _, "PathTree", rfl, xu_P, by decide, Or.inl (t_in 120 rfl rfl), Or.inl rfl⟩
set_option maxRecDepth 20000 in
theorem p_P_21_0 {ini : Prop} (hi : ini) : p_ok "PathTree" 21 0 1 (.object "PathTree$Directory") ini := ⟨_, _, _, "PathTree", rfl, xu_P, by decide, Or.inl (t_in 120 rfl rfl), Or.inl rfl, tk_P, by decide +kernel, Or.inr ⟨rfl, hi, rfl⟩⟩
set_option maxRecDepth 20000 in
theorem f_P_25_0 : f_ok "PathTree" 25 0 2 := ⟨_, _, _, "PathTree", rfl, xu_P, by decide, Or.inl (t_in 121 rfl rfl), Or.inl rfl⟩
set_option maxRecDepth 20000 in
theorem p_P_25_0 {ini : Prop} : p_ok "PathTree" 25 0 2 (.object "PathTree$Directory") ini := ⟨_, _, _, "PathTree", rfl, xu_P, by decide, Or.inl (t_in 121 rfl rfl), Or.inl rfl, tk_P, by decide +kernel, Or.inl rfl⟩
set_option maxRecDepth 20000 in
theorem f_P_28_0 : f_ok "PathTree" 28 0 3 := ⟨_, _, _, "PathTree", rfl, xu_P, by decide, Or.inl (t_in 122 rfl rfl), Or.inl rfl⟩
set_option maxRecDepth 20000 in
theorem p_P_28_0 {ini : Prop} : p_ok "PathTree" 28 0 3 (.object "PathTree$FileEntry") ini := ⟨_, _, _, "PathTree", rfl, xu_P, by decide, Or.inl (t_in 122 rfl rfl), Or.inl rfl, tk_P, by decide +kernel, Or.inl rfl⟩
set_option maxRecDepth 20000 in
theorem f_P_32_0 : f_ok "PathTree" 32 0 4 := ⟨_, _, _, "PathTree", rfl, xu_P, by decide, Or.inl (t_in 123 rfl rfl), Or.inl rfl⟩
set_option maxRecDepth 20000 in
theorem p_P_32_0 {ini : Prop} : p_ok "PathTree" 32 0 4 (.int) ini := ⟨_, _, _, "PathTree", rfl, xu_P, by decide, Or.inl (t_in 123 rfl rfl), Or.inl rfl, tk_P, by decide +kernel, Or.inl rfl⟩
set_option maxRecDepth 20000 in
theorem f_P_36_0 : f_ok "PathTree" 36 0 5 := ⟨_, _, _, "PathTree", rfl, xu_P, by decide, Or.inl (t_in 124 rfl rfl), Or.inl rfl⟩
set_option maxRecDepth 20000 in
theorem p_P_36_0 {ini : Prop} : p_ok "PathTree" 36 0 5 (.int) ini := ⟨_, _, _, "PathTree", rfl, xu_P, by decide, Or.inl (t_in 124 rfl rfl), Or.inl rfl, tk_P, by decide +kernel, Or.inl rfl⟩
set_option maxRecDepth 20000 in
theorem f_P_39_0 : f_ok "PathTree" 39 0 6 := ⟨_, _, _, "PathTree", rfl, xu_P, by decide, Or.inl (t_in 125 rfl rfl), Or.inl rfl⟩
set_option maxRecDepth 20000 in
theorem p_P_39_0 {ini : Prop} : p_ok "PathTree" 39 0 6 (.int) ini := ⟨_, _, _, "PathTree", rfl, xu_P, by decide, Or.inl (t_in 125 rfl rfl), Or.inl rfl, tk_P, by decide +kernel, Or.inl rfl⟩
set_option maxRecDepth 20000 in
theorem f_F_11_3 : f_ok "PathTree$FileEntry" 11 3 3 := ⟨_, _, _, "PathTree$FileEntry", rfl, xu_F, by decide, Or.inl (t_in 284 rfl rfl), Or.inl rfl⟩
set_option maxRecDepth 20000 in
theorem p_F_11_3 {ini : Prop} : p_ok "PathTree$FileEntry" 11 3 3 (.array .byte) ini := ⟨_, _, _, "PathTree$FileEntry", rfl, xu_F, by decide, Or.inl (t_in 284 rfl rfl), Or.inl rfl, tk_F, by decide +kernel, Or.inl rfl⟩
set_option maxRecDepth 20000 in
theorem f_F_15_3 : f_ok "PathTree$FileEntry" 15 3 4 := ⟨_, _, _, "PathTree$FileEntry", rfl, xu_F, by decide, Or.inl (t_in 285 rfl rfl), Or.inl rfl⟩
set_option maxRecDepth 20000 in
theorem p_F_15_3 {ini : Prop} : p_ok "PathTree$FileEntry" 15 3 4 (.int) ini := ⟨_, _, _, "PathTree$FileEntry", rfl, xu_F, by decide, Or.inl (t_in 285 rfl rfl), Or.inl rfl, tk_F, by decide +kernel, Or.inl rfl⟩
set_option maxRecDepth 20000 in
theorem f_R_7_4 : f_ok "PathTreeModel" 7 4 0 := ⟨_, _, _, "PathTreeModel", rfl, xu_R, by decide, Or.inl (t_in 385 rfl rfl), Or.inl rfl⟩
set_option maxRecDepth 20000 in
theorem p_R_7_4 {ini : Prop} (hi : ini) : p_ok "PathTreeModel" 7 4 0 (.array .int) ini := ⟨_, _, _, "PathTreeModel", rfl, xu_R, by decide, Or.inl (t_in 385 rfl rfl), Or.inl rfl, tk_R, by decide +kernel, Or.inr ⟨rfl, hi, rfl⟩⟩
set_option maxRecDepth 20000 in
theorem f_R_44_4 : f_ok "PathTreeModel" 44 4 1 := ⟨_, _, _, "PathTreeModel", rfl, xu_R, by decide, Or.inl (t_in 386 rfl rfl), Or.inl rfl⟩
set_option maxRecDepth 20000 in
theorem p_R_44_4 {ini : Prop} : p_ok "PathTreeModel" 44 4 1 (.int) ini := ⟨_, _, _, "PathTreeModel", rfl, xu_R, by decide, Or.inl (t_in 386 rfl rfl), Or.inl rfl, tk_R, by decide +kernel, Or.inl rfl⟩
set_option maxRecDepth 20000 in
theorem f_R_13_4 : f_ok "PathTreeModel" 13 4 2 := ⟨_, _, _, "PathTreeModel", rfl, xu_R, by decide, Or.inl (t_in 387 rfl rfl), Or.inl rfl⟩
set_option maxRecDepth 20000 in
theorem p_R_13_4 {ini : Prop} (hi : ini) : p_ok "PathTreeModel" 13 4 2 (.array .int) ini := ⟨_, _, _, "PathTreeModel", rfl, xu_R, by decide, Or.inl (t_in 387 rfl rfl), Or.inl rfl, tk_R, by decide +kernel, Or.inr ⟨rfl, hi, rfl⟩⟩
set_option maxRecDepth 20000 in
theorem f_R_16_4 : f_ok "PathTreeModel" 16 4 3 := ⟨_, _, _, "PathTreeModel", rfl, xu_R, by decide, Or.inl (t_in 388 rfl rfl), Or.inl rfl⟩
set_option maxRecDepth 20000 in
theorem p_R_16_4 {ini : Prop} (hi : ini) : p_ok "PathTreeModel" 16 4 3 (.array .int) ini := ⟨_, _, _, "PathTreeModel", rfl, xu_R, by decide, Or.inl (t_in 388 rfl rfl), Or.inl rfl, tk_R, by decide +kernel, Or.inr ⟨rfl, hi, rfl⟩⟩
set_option maxRecDepth 20000 in
theorem f_R_19_4 : f_ok "PathTreeModel" 19 4 4 := ⟨_, _, _, "PathTreeModel", rfl, xu_R, by decide, Or.inl (t_in 389 rfl rfl), Or.inl rfl⟩
set_option maxRecDepth 20000 in
theorem p_R_19_4 {ini : Prop} (hi : ini) : p_ok "PathTreeModel" 19 4 4 (.array .int) ini := ⟨_, _, _, "PathTreeModel", rfl, xu_R, by decide, Or.inl (t_in 389 rfl rfl), Or.inl rfl, tk_R, by decide +kernel, Or.inr ⟨rfl, hi, rfl⟩⟩
set_option maxRecDepth 20000 in
theorem f_R_22_4 : f_ok "PathTreeModel" 22 4 5 := ⟨_, _, _, "PathTreeModel", rfl, xu_R, by decide, Or.inl (t_in 390 rfl rfl), Or.inl rfl⟩
set_option maxRecDepth 20000 in
theorem p_R_22_4 {ini : Prop} (hi : ini) : p_ok "PathTreeModel" 22 4 5 (.array .int) ini := ⟨_, _, _, "PathTreeModel", rfl, xu_R, by decide, Or.inl (t_in 390 rfl rfl), Or.inl rfl, tk_R, by decide +kernel, Or.inr ⟨rfl, hi, rfl⟩⟩
set_option maxRecDepth 20000 in
theorem f_R_25_4 : f_ok "PathTreeModel" 25 4 6 := ⟨_, _, _, "PathTreeModel", rfl, xu_R, by decide, Or.inl (t_in 391 rfl rfl), Or.inl rfl⟩
set_option maxRecDepth 20000 in
theorem p_R_25_4 {ini : Prop} (hi : ini) : p_ok "PathTreeModel" 25 4 6 (.array .int) ini := ⟨_, _, _, "PathTreeModel", rfl, xu_R, by decide, Or.inl (t_in 391 rfl rfl), Or.inl rfl, tk_R, by decide +kernel, Or.inr ⟨rfl, hi, rfl⟩⟩
set_option maxRecDepth 20000 in
theorem f_R_28_4 : f_ok "PathTreeModel" 28 4 7 := ⟨_, _, _, "PathTreeModel", rfl, xu_R, by decide, Or.inl (t_in 392 rfl rfl), Or.inl rfl⟩
set_option maxRecDepth 20000 in
theorem p_R_28_4 {ini : Prop} : p_ok "PathTreeModel" 28 4 7 (.int) ini := ⟨_, _, _, "PathTreeModel", rfl, xu_R, by decide, Or.inl (t_in 392 rfl rfl), Or.inl rfl, tk_R, by decide +kernel, Or.inl rfl⟩
set_option maxRecDepth 20000 in
theorem f_R_55_4 : f_ok "PathTreeModel" 55 4 8 := ⟨_, _, _, "PathTreeModel", rfl, xu_R, by decide, Or.inl (t_in 393 rfl rfl), Or.inl rfl⟩
set_option maxRecDepth 20000 in
theorem p_R_55_4 {ini : Prop} : p_ok "PathTreeModel" 55 4 8 (.int) ini := ⟨_, _, _, "PathTreeModel", rfl, xu_R, by decide, Or.inl (t_in 393 rfl rfl), Or.inl rfl, tk_R, by decide +kernel, Or.inl rfl⟩
set_option maxRecDepth 20000 in
theorem f_R_32_4 : f_ok "PathTreeModel" 32 4 9 := ⟨_, _, _, "PathTreeModel", rfl, xu_R, by decide, Or.inl (t_in 394 rfl rfl), Or.inl rfl⟩
set_option maxRecDepth 20000 in
theorem p_R_32_4 {ini : Prop} : p_ok "PathTreeModel" 32 4 9 (.int) ini := ⟨_, _, _, "PathTreeModel", rfl, xu_R, by decide, Or.inl (t_in 394 rfl rfl), Or.inl rfl, tk_R, by decide +kernel, Or.inl rfl⟩
set_option maxRecDepth 20000 in
theorem f_R_83_4 : f_ok "PathTreeModel" 83 4 10 := ⟨_, _, _, "PathTreeModel", rfl, xu_R, by decide, Or.inl (t_in 395 rfl rfl), Or.inl rfl⟩
set_option maxRecDepth 20000 in
theorem p_R_83_4 {ini : Prop} : p_ok "PathTreeModel" 83 4 10 (.boolean) ini := ⟨_, _, _, "PathTreeModel", rfl, xu_R, by decide, Or.inl (t_in 395 rfl rfl), Or.inl rfl, tk_R, by decide +kernel, Or.inl rfl⟩
set_option maxRecDepth 20000 in
theorem f_R_87_4 : f_ok "PathTreeModel" 87 4 11 := ⟨_, _, _, "PathTreeModel", rfl, xu_R, by decide, Or.inl (t_in 396 rfl rfl), Or.inl rfl⟩
set_option maxRecDepth 20000 in
theorem p_R_87_4 {ini : Prop} : p_ok "PathTreeModel" 87 4 11 (.int) ini := ⟨_, _, _, "PathTreeModel", rfl, xu_R, by decide, Or.inl (t_in 396 rfl rfl), Or.inl rfl, tk_R, by decide +kernel, Or.inl rfl⟩
set_option maxRecDepth 20000 in
theorem f_R_36_4 : f_ok "PathTreeModel" 36 4 12 := ⟨_, _, _, "PathTreeModel", rfl, xu_R, by decide, Or.inl (t_in 397 rfl rfl), Or.inl rfl⟩
set_option maxRecDepth 20000 in
theorem p_R_36_4 {ini : Prop} (hi : ini) : p_ok "PathTreeModel" 36 4 12 (.array .byte) ini := ⟨_, _, _, "PathTreeModel", rfl, xu_R, by decide, Or.inl (t_in 397 rfl rfl), Or.inl rfl, tk_R, by decide +kernel, Or.inr ⟨rfl, hi, rfl⟩⟩
set_option maxRecDepth 20000 in
theorem f_R_40_4 : f_ok "PathTreeModel" 40 4 13 := ⟨_, _, _, "PathTreeModel", rfl, xu_R, by decide, Or.inl (t_in 398 rfl rfl), Or.inl rfl⟩
set_option maxRecDepth 20000 in
theorem p_R_40_4 {ini : Prop} (hi : ini) : p_ok "PathTreeModel" 40 4 13 (.array .short) ini := ⟨_, _, _, "PathTreeModel", rfl, xu_R, by decide, Or.inl (t_in 398 rfl rfl), Or.inl rfl, tk_R, by decide +kernel, Or.inr ⟨rfl, hi, rfl⟩⟩
set_option maxRecDepth 20000 in
theorem f_P_156_1 : f_ok "PathTree" 156 1 0 := ⟨_, _, _, "PathTree$PathText", rfl, xu_T, by decide, Or.inr ⟨"PathTree", by decide⟩, Or.inl rfl⟩
set_option maxRecDepth 20000 in
theorem f_P_54_1 : f_ok "PathTree" 54 1 1 := ⟨_, _, _, "PathTree$PathText", rfl, xu_T, by decide, Or.inr ⟨"PathTree", by decide⟩, Or.inl rfl⟩
set_option maxRecDepth 20000 in
theorem p_P_54_1 {ini : Prop} : p_ok "PathTree" 54 1 1 (.int) ini := ⟨_, _, _, "PathTree$PathText", rfl, xu_T, by decide, Or.inr ⟨rfl, "PathTree", by decide⟩, Or.inl rfl, tk_T, by decide +kernel, Or.inl rfl⟩
set_option maxRecDepth 20000 in
theorem f_P_129_2 : f_ok "PathTree" 129 2 4 := ⟨_, _, _, "PathTree$Directory", rfl, xu_D, by decide, Or.inr ⟨"PathTree", by decide⟩, Or.inl rfl⟩
set_option maxRecDepth 20000 in
theorem p_P_129_2 {ini : Prop} : p_ok "PathTree" 129 2 4 (.int) ini := ⟨_, _, _, "PathTree$Directory", rfl, xu_D, by decide, Or.inr ⟨rfl, "PathTree", by decide⟩, Or.inl rfl, tk_D, by decide +kernel, Or.inl rfl⟩
set_option maxRecDepth 20000 in
theorem f_P_82_3 : f_ok "PathTree" 82 3 4 := ⟨_, _, _, "PathTree$FileEntry", rfl, xu_F, by decide, Or.inr ⟨"PathTree", by decide⟩, Or.inl rfl⟩
set_option maxRecDepth 20000 in
theorem p_P_82_3 {ini : Prop} : p_ok "PathTree" 82 3 4 (.int) ini := ⟨_, _, _, "PathTree$FileEntry", rfl, xu_F, by decide, Or.inr ⟨rfl, "PathTree", by decide⟩, Or.inl rfl, tk_F, by decide +kernel, Or.inl rfl⟩
set_option maxRecDepth 20000 in
theorem cl_L_7 : Cond.classLink "PathTreeLaw" 7 "PathTree" ∈ tb := t_in 57 rfl rfl
set_option maxRecDepth 20000 in
theorem w_L_7 : w_ok "PathTreeLaw" 7 0 7 xZ_P := ⟨_, _, xT_P, rfl, xu_P, by decide +kernel, cl_L_7, t_in 58 rfl rfl, t_in 48 rfl rfl, by decide +kernel⟩
set_option maxRecDepth 20000 in
theorem cl_P_7 : Cond.classLink "PathTree" 7 "PathTree$PathText" ∈ tb := t_in 65 rfl rfl
set_option maxRecDepth 20000 in
theorem w_P_7 : w_ok "PathTree" 7 1 2 xZ_T := ⟨_, _, xT_T, rfl, xu_T, by decide +kernel, cl_P_7, t_in 66 rfl rfl, t_in 49 rfl rfl, by decide +kernel⟩
set_option maxRecDepth 20000 in
theorem cl_P_16 : Cond.classLink "PathTree" 16 "PathTree$Directory" ∈ tb := t_in 81 rfl rfl
set_option maxRecDepth 20000 in
theorem w_P_16 : w_ok "PathTree" 16 2 5 xZ_D := ⟨_, _, xT_D, rfl, xu_D, by decide +kernel, cl_P_16, t_in 82 rfl rfl, t_in 51 rfl rfl, by decide +kernel⟩
set_option maxRecDepth 20000 in
theorem cl_J_323 : Cond.classLink "java/util/Arrays" 323 "[C" ∈ tb := t_in 257 rfl rfl
set_option maxRecDepth 20000 in
theorem cl_P_76 : Cond.classLink "PathTree" 76 "PathTree$FileEntry" ∈ tb := t_in 274 rfl rfl
set_option maxRecDepth 20000 in
theorem w_P_76 : w_ok "PathTree" 76 3 5 xZ_F := ⟨_, _, xT_F, rfl, xu_F, by decide +kernel, cl_P_76, t_in 279 rfl rfl, t_in 56 rfl rfl, by decide +kernel⟩
set_option maxRecDepth 20000 in
theorem cl_J_311 : Cond.classLink "java/util/Arrays" 311 "[B" ∈ tb := t_in 326 rfl rfl
set_option maxRecDepth 20000 in
theorem cl_L_10 : Cond.classLink "PathTreeLaw" 10 "PathTreeModel" ∈ tb := t_in 378 rfl rfl
set_option maxRecDepth 20000 in
theorem w_L_10 : w_ok "PathTreeLaw" 10 4 14 xZ_R := ⟨_, _, xT_R, rfl, xu_R, by decide +kernel, cl_L_10, t_in 379 rfl rfl, t_in 52 rfl rfl, by decide +kernel⟩
set_option maxRecDepth 20000 in
theorem ar_char : Cond.arrayClass (newarray.typeOf .char) ∈ tb := t_in 80 rfl rfl
set_option maxRecDepth 20000 in
theorem ar_byte : Cond.arrayClass (newarray.typeOf .byte) ∈ tb := t_in 295 rfl rfl
set_option maxRecDepth 20000 in
theorem ar_int : Cond.arrayClass (newarray.typeOf .int) ∈ tb := t_in 428 rfl rfl
set_option maxRecDepth 20000 in
theorem ar_short : Cond.arrayClass (newarray.typeOf .short) ∈ tb := t_in 429 rfl rfl
set_option maxRecDepth 20000 in
theorem okP_init : m_ok mP_init 0 := ⟨t_in 61 rfl rfl, t_in 48 rfl rfl, by decide +kernel, by decide +kernel, by decide⟩
set_option maxRecDepth 20000 in
theorem imP_init : Cond.instanceMethod (m_Y mP_init) ∈ tb := t_in 60 rfl rfl
set_option maxRecDepth 20000 in
theorem okT_init : m_ok mT_init 0 := ⟨t_in 69 rfl rfl, t_in 49 rfl rfl, by decide +kernel, by decide +kernel, by decide⟩
set_option maxRecDepth 20000 in
theorem imT_init : Cond.instanceMethod (m_Y mT_init) ∈ tb := t_in 68 rfl rfl
set_option maxRecDepth 20000 in
theorem okD_init : m_ok mD_init 1 := ⟨t_in 85 rfl rfl, t_in 51 rfl rfl, by decide +kernel, by decide +kernel, by decide⟩
set_option maxRecDepth 20000 in
theorem imD_init : Cond.instanceMethod (m_Y mD_init) ∈ tb := t_in 84 rfl rfl
set_option maxRecDepth 20000 in
theorem okE_init : m_ok mE_init 1 := ⟨t_in 88 rfl rfl, t_in 50 rfl rfl, by decide +kernel, by decide +kernel, by decide⟩
set_option maxRecDepth 20000 in
theorem imE_init : Cond.instanceMethod (m_Y mE_init) ∈ tb := t_in 87 rfl rfl
set_option maxRecDepth 20000 in
theorem okP_path : m_ok mP_path 2 := ⟨t_in 144 rfl rfl, t_in 48 rfl rfl, by decide +kernel, by decide +kernel, by decide⟩
set_option maxRecDepth 20000 in
theorem imP_path : Cond.instanceMethod (m_Y mP_path) ∈ tb := t_in 142 rfl rfl
set_option maxRecDepth 20000 in
theorem seP_path_P : Cond.selects "PathTree" (m_Y mP_path) (m_Y mP_path) ∈ tb := t_in 143 rfl rfl
set_option maxRecDepth 20000 in
theorem okP_isByteCount : m_ok mP_isByteCount 1 := ⟨t_in 147 rfl rfl, t_in 48 rfl rfl, by decide +kernel, by decide +kernel, by decide⟩
set_option maxRecDepth 20000 in
theorem stP_isByteCount : Cond.static (m_Y mP_isByteCount) ∈ tb := t_in 146 rfl rfl
set_option maxRecDepth 20000 in
theorem okT_takes : m_ok mT_takes 2 := ⟨t_in 151 rfl rfl, t_in 49 rfl rfl, by decide +kernel, by decide +kernel, by decide⟩
set_option maxRecDepth 20000 in
theorem imT_takes : Cond.instanceMethod (m_Y mT_takes) ∈ tb := t_in 150 rfl rfl
set_option maxRecDepth 20000 in
theorem seT_takes_T : Cond.selects "PathTree$PathText" (m_Y mT_takes) (m_Y mT_takes) ∈ tb := t_in 0 rfl rfl
set_option maxRecDepth 20000 in
theorem okP_byteOf : m_ok mP_byteOf 2 := ⟨t_in 154 rfl rfl, t_in 48 rfl rfl, by decide +kernel, by decide +kernel, by decide⟩
set_option maxRecDepth 20000 in
theorem stP_byteOf : Cond.static (m_Y mP_byteOf) ∈ tb := t_in 153 rfl rfl
set_option maxRecDepth 20000 in
theorem okT_isPathCharacter : m_ok mT_isPathCharacter 1 := ⟨t_in 157 rfl rfl, t_in 49 rfl rfl, by decide +kernel, by decide +kernel, by decide⟩
set_option maxRecDepth 20000 in
theorem stT_isPathCharacter : Cond.static (m_Y mT_isPathCharacter) ∈ tb := t_in 156 rfl rfl
set_option maxRecDepth 20000 in
theorem okT_append : m_ok mT_append 2 := ⟨t_in 161 rfl rfl, t_in 49 rfl rfl, by decide +kernel, by decide +kernel, by decide⟩
set_option maxRecDepth 20000 in
theorem imT_append : Cond.instanceMethod (m_Y mT_append) ∈ tb := t_in 160 rfl rfl
set_option maxRecDepth 20000 in
theorem seT_append_T : Cond.selects "PathTree$PathText" (m_Y mT_append) (m_Y mT_append) ∈ tb := t_in 1 rfl rfl
set_option maxRecDepth 20000 in
theorem okP_find : m_ok mP_find 0 := ⟨t_in 165 rfl rfl, t_in 48 rfl rfl, by decide +kernel, by decide +kernel, by decide⟩
set_option maxRecDepth 20000 in
theorem imP_find : Cond.instanceMethod (m_Y mP_find) ∈ tb := t_in 163 rfl rfl
set_option maxRecDepth 20000 in
theorem seP_find_P : Cond.selects "PathTree" (m_Y mP_find) (m_Y mP_find) ∈ tb := t_in 164 rfl rfl
set_option maxRecDepth 20000 in
theorem okP_target : m_ok mP_target 0 := ⟨t_in 169 rfl rfl, t_in 48 rfl rfl, by decide +kernel, by decide +kernel, by decide⟩
set_option maxRecDepth 20000 in
theorem imP_target : Cond.instanceMethod (m_Y mP_target) ∈ tb := t_in 168 rfl rfl
set_option maxRecDepth 20000 in
theorem seP_target_P : Cond.selects "PathTree" (m_Y mP_target) (m_Y mP_target) ∈ tb := t_in 2 rfl rfl
set_option maxRecDepth 20000 in
theorem okP_entryBefore : m_ok mP_entryBefore 1 := ⟨t_in 173 rfl rfl, t_in 48 rfl rfl, by decide +kernel, by decide +kernel, by decide⟩
set_option maxRecDepth 20000 in
theorem imP_entryBefore : Cond.instanceMethod (m_Y mP_entryBefore) ∈ tb := t_in 172 rfl rfl
set_option maxRecDepth 20000 in
theorem seP_entryBefore_P : Cond.selects "PathTree" (m_Y mP_entryBefore) (m_Y mP_entryBefore) ∈ tb := t_in 3 rfl rfl
set_option maxRecDepth 20000 in
theorem okT_isSlash : m_ok mT_isSlash 1 := ⟨t_in 177 rfl rfl, t_in 49 rfl rfl, by decide +kernel, by decide +kernel, by decide⟩
set_option maxRecDepth 20000 in
theorem imT_isSlash : Cond.instanceMethod (m_Y mT_isSlash) ∈ tb := t_in 176 rfl rfl
set_option maxRecDepth 20000 in
theorem seT_isSlash_T : Cond.selects "PathTree$PathText" (m_Y mT_isSlash) (m_Y mT_isSlash) ∈ tb := t_in 4 rfl rfl
set_option maxRecDepth 20000 in
theorem okT_is : m_ok mT_is 2 := ⟨t_in 181 rfl rfl, t_in 49 rfl rfl, by decide +kernel, by decide +kernel, by decide⟩
set_option maxRecDepth 20000 in
theorem imT_is : Cond.instanceMethod (m_Y mT_is) ∈ tb := t_in 180 rfl rfl
set_option maxRecDepth 20000 in
theorem seT_is_T : Cond.selects "PathTree$PathText" (m_Y mT_is) (m_Y mT_is) ∈ tb := t_in 5 rfl rfl
set_option maxRecDepth 20000 in
theorem okP_step : m_ok mP_step 3 := ⟨t_in 185 rfl rfl, t_in 48 rfl rfl, by decide +kernel, by decide +kernel, by decide⟩
set_option maxRecDepth 20000 in
theorem imP_step : Cond.instanceMethod (m_Y mP_step) ∈ tb := t_in 184 rfl rfl
set_option maxRecDepth 20000 in
theorem seP_step_P : Cond.selects "PathTree" (m_Y mP_step) (m_Y mP_step) ∈ tb := t_in 6 rfl rfl
set_option maxRecDepth 20000 in
theorem okT_isDot : m_ok mT_isDot 2 := ⟨t_in 189 rfl rfl, t_in 49 rfl rfl, by decide +kernel, by decide +kernel, by decide⟩
set_option maxRecDepth 20000 in
theorem imT_isDot : Cond.instanceMethod (m_Y mT_isDot) ∈ tb := t_in 188 rfl rfl
set_option maxRecDepth 20000 in
theorem seT_isDot_T : Cond.selects "PathTree$PathText" (m_Y mT_isDot) (m_Y mT_isDot) ∈ tb := t_in 7 rfl rfl
set_option maxRecDepth 20000 in
theorem okT_isDotDot : m_ok mT_isDotDot 2 := ⟨t_in 193 rfl rfl, t_in 49 rfl rfl, by decide +kernel, by decide +kernel, by decide⟩
set_option maxRecDepth 20000 in
theorem imT_isDotDot : Cond.instanceMethod (m_Y mT_isDotDot) ∈ tb := t_in 192 rfl rfl
set_option maxRecDepth 20000 in
theorem seT_isDotDot_T : Cond.selects "PathTree$PathText" (m_Y mT_isDotDot) (m_Y mT_isDotDot) ∈ tb := t_in 8 rfl rfl
set_option maxRecDepth 20000 in
theorem okD_entryCalled : m_ok mD_entryCalled 3 := ⟨t_in 197 rfl rfl, t_in 51 rfl rfl, by decide +kernel, by decide +kernel, by decide⟩
set_option maxRecDepth 20000 in
theorem imD_entryCalled : Cond.instanceMethod (m_Y mD_entryCalled) ∈ tb := t_in 196 rfl rfl
set_option maxRecDepth 20000 in
theorem seD_entryCalled_D : Cond.selects "PathTree$Directory" (m_Y mD_entryCalled) (m_Y mD_entryCalled) ∈ tb := t_in 9 rfl rfl
set_option maxRecDepth 20000 in
theorem okE_order : m_ok mE_order 3 := ⟨t_in 203 rfl rfl, t_in 50 rfl rfl, by decide +kernel, by decide +kernel, by decide⟩
set_option maxRecDepth 20000 in
theorem imE_order : Cond.instanceMethod (m_Y mE_order) ∈ tb := t_in 199 rfl rfl
set_option maxRecDepth 20000 in
theorem seE_order_D : Cond.selects "PathTree$Directory" (m_Y mE_order) (m_Y mE_order) ∈ tb := t_in 201 rfl rfl
set_option maxRecDepth 20000 in
theorem seE_order_F : Cond.selects "PathTree$FileEntry" (m_Y mE_order) (m_Y mE_order) ∈ tb := t_in 202 rfl rfl
set_option maxRecDepth 20000 in
theorem smE_order : Cond.sameMethod "PathTree$Entry" "PathTree$Entry" "order" "([CII)I" ∈ tb := t_in 200 rfl rfl
set_option maxRecDepth 20000 in
theorem okT_clear : m_ok mT_clear 0 := ⟨t_in 207 rfl rfl, t_in 49 rfl rfl, by decide +kernel, by decide +kernel, by decide⟩
set_option maxRecDepth 20000 in
theorem imT_clear : Cond.instanceMethod (m_Y mT_clear) ∈ tb := t_in 206 rfl rfl
set_option maxRecDepth 20000 in
theorem seT_clear_T : Cond.selects "PathTree$PathText" (m_Y mT_clear) (m_Y mT_clear) ∈ tb := t_in 10 rfl rfl
set_option maxRecDepth 20000 in
theorem okP_make : m_ok mP_make 0 := ⟨t_in 211 rfl rfl, t_in 48 rfl rfl, by decide +kernel, by decide +kernel, by decide⟩
set_option maxRecDepth 20000 in
theorem imP_make : Cond.instanceMethod (m_Y mP_make) ∈ tb := t_in 209 rfl rfl
set_option maxRecDepth 20000 in
theorem seP_make_P : Cond.selects "PathTree" (m_Y mP_make) (m_Y mP_make) ∈ tb := t_in 210 rfl rfl
set_option maxRecDepth 20000 in
theorem okP_homeOfNew : m_ok mP_homeOfNew 0 := ⟨t_in 215 rfl rfl, t_in 48 rfl rfl, by decide +kernel, by decide +kernel, by decide⟩
set_option maxRecDepth 20000 in
theorem imP_homeOfNew : Cond.instanceMethod (m_Y mP_homeOfNew) ∈ tb := t_in 214 rfl rfl
set_option maxRecDepth 20000 in
theorem seP_homeOfNew_P : Cond.selects "PathTree" (m_Y mP_homeOfNew) (m_Y mP_homeOfNew) ∈ tb := t_in 11 rfl rfl
set_option maxRecDepth 20000 in
theorem okT_lastNameCanBe : m_ok mT_lastNameCanBe 0 := ⟨t_in 219 rfl rfl, t_in 49 rfl rfl, by decide +kernel, by decide +kernel, by decide⟩
set_option maxRecDepth 20000 in
theorem imT_lastNameCanBe : Cond.instanceMethod (m_Y mT_lastNameCanBe) ∈ tb := t_in 218 rfl rfl
set_option maxRecDepth 20000 in
theorem seT_lastNameCanBe_T : Cond.selects "PathTree$PathText" (m_Y mT_lastNameCanBe) (m_Y mT_lastNameCanBe) ∈ tb := t_in 12 rfl rfl
set_option maxRecDepth 20000 in
theorem okT_lastSlash : m_ok mT_lastSlash 0 := ⟨t_in 223 rfl rfl, t_in 49 rfl rfl, by decide +kernel, by decide +kernel, by decide⟩
set_option maxRecDepth 20000 in
theorem imT_lastSlash : Cond.instanceMethod (m_Y mT_lastSlash) ∈ tb := t_in 222 rfl rfl
set_option maxRecDepth 20000 in
theorem seT_lastSlash_T : Cond.selects "PathTree$PathText" (m_Y mT_lastSlash) (m_Y mT_lastSlash) ∈ tb := t_in 13 rfl rfl
set_option maxRecDepth 20000 in
theorem okP_home : m_ok mP_home 0 := ⟨t_in 230 rfl rfl, t_in 48 rfl rfl, by decide +kernel, by decide +kernel, by decide⟩
set_option maxRecDepth 20000 in
theorem imP_home : Cond.instanceMethod (m_Y mP_home) ∈ tb := t_in 229 rfl rfl
set_option maxRecDepth 20000 in
theorem seP_home_P : Cond.selects "PathTree" (m_Y mP_home) (m_Y mP_home) ∈ tb := t_in 14 rfl rfl
set_option maxRecDepth 20000 in
theorem okT_lastName : m_ok mT_lastName 0 := ⟨t_in 235 rfl rfl, t_in 49 rfl rfl, by decide +kernel, by decide +kernel, by decide⟩
set_option maxRecDepth 20000 in
theorem imT_lastName : Cond.instanceMethod (m_Y mT_lastName) ∈ tb := t_in 234 rfl rfl
set_option maxRecDepth 20000 in
theorem seT_lastName_T : Cond.selects "PathTree$PathText" (m_Y mT_lastName) (m_Y mT_lastName) ∈ tb := t_in 15 rfl rfl
set_option maxRecDepth 20000 in
theorem okJ_copyOfRange : m_ok mJ_copyOfRange 3 := ⟨t_in 238 rfl rfl, t_in 53 rfl rfl, by decide +kernel, by decide +kernel, by decide⟩
set_option maxRecDepth 20000 in
theorem stJ_copyOfRange : Cond.static (m_Y mJ_copyOfRange) ∈ tb := t_in 237 rfl rfl
set_option maxRecDepth 20000 in
theorem okJ_copyOfRangeChar : m_ok mJ_copyOfRangeChar 3 := ⟨t_in 241 rfl rfl, t_in 53 rfl rfl, by decide +kernel, by decide +kernel, by decide⟩
set_option maxRecDepth 20000 in
theorem stJ_copyOfRangeChar : Cond.static (m_Y mJ_copyOfRangeChar) ∈ tb := t_in 240 rfl rfl
set_option maxRecDepth 20000 in
theorem okJ_checkLength : m_ok mJ_checkLength 2 := ⟨t_in 244 rfl rfl, t_in 53 rfl rfl, by decide +kernel, by decide +kernel, by decide⟩
set_option maxRecDepth 20000 in
theorem stJ_checkLength : Cond.static (m_Y mJ_checkLength) ∈ tb := t_in 243 rfl rfl
set_option maxRecDepth 20000 in
theorem okD_admit : m_ok mD_admit 1 := ⟨t_in 261 rfl rfl, t_in 51 rfl rfl, by decide +kernel, by decide +kernel, by decide⟩
set_option maxRecDepth 20000 in
theorem imD_admit : Cond.instanceMethod (m_Y mD_admit) ∈ tb := t_in 260 rfl rfl
set_option maxRecDepth 20000 in
theorem seD_admit_D : Cond.selects "PathTree$Directory" (m_Y mD_admit) (m_Y mD_admit) ∈ tb := t_in 16 rfl rfl
set_option maxRecDepth 20000 in
theorem okD_link : m_ok mD_link 2 := ⟨t_in 265 rfl rfl, t_in 51 rfl rfl, by decide +kernel, by decide +kernel, by decide⟩
set_option maxRecDepth 20000 in
theorem imD_link : Cond.instanceMethod (m_Y mD_link) ∈ tb := t_in 264 rfl rfl
set_option maxRecDepth 20000 in
theorem seD_link_D : Cond.selects "PathTree$Directory" (m_Y mD_link) (m_Y mD_link) ∈ tb := t_in 17 rfl rfl
set_option maxRecDepth 20000 in
theorem okP_go : m_ok mP_go 0 := ⟨t_in 269 rfl rfl, t_in 48 rfl rfl, by decide +kernel, by decide +kernel, by decide⟩
set_option maxRecDepth 20000 in
theorem imP_go : Cond.instanceMethod (m_Y mP_go) ∈ tb := t_in 267 rfl rfl
set_option maxRecDepth 20000 in
theorem seP_go_P : Cond.selects "PathTree" (m_Y mP_go) (m_Y mP_go) ∈ tb := t_in 268 rfl rfl
set_option maxRecDepth 20000 in
theorem okP_open : m_ok mP_open 0 := ⟨t_in 273 rfl rfl, t_in 48 rfl rfl, by decide +kernel, by decide +kernel, by decide⟩
set_option maxRecDepth 20000 in
theorem imP_open : Cond.instanceMethod (m_Y mP_open) ∈ tb := t_in 271 rfl rfl
set_option maxRecDepth 20000 in
theorem seP_open_P : Cond.selects "PathTree" (m_Y mP_open) (m_Y mP_open) ∈ tb := t_in 272 rfl rfl
set_option maxRecDepth 20000 in
theorem okP_newFile : m_ok mP_newFile 1 := ⟨t_in 278 rfl rfl, t_in 48 rfl rfl, by decide +kernel, by decide +kernel, by decide⟩
set_option maxRecDepth 20000 in
theorem imP_newFile : Cond.instanceMethod (m_Y mP_newFile) ∈ tb := t_in 277 rfl rfl
set_option maxRecDepth 20000 in
theorem seP_newFile_P : Cond.selects "PathTree" (m_Y mP_newFile) (m_Y mP_newFile) ∈ tb := t_in 18 rfl rfl
set_option maxRecDepth 20000 in
theorem okF_init : m_ok mF_init 1 := ⟨t_in 282 rfl rfl, t_in 56 rfl rfl, by decide +kernel, by decide +kernel, by decide⟩
set_option maxRecDepth 20000 in
theorem imF_init : Cond.instanceMethod (m_Y mF_init) ∈ tb := t_in 281 rfl rfl
set_option maxRecDepth 20000 in
theorem okP_empty : m_ok mP_empty 0 := ⟨t_in 299 rfl rfl, t_in 48 rfl rfl, by decide +kernel, by decide +kernel, by decide⟩
set_option maxRecDepth 20000 in
theorem imP_empty : Cond.instanceMethod (m_Y mP_empty) ∈ tb := t_in 297 rfl rfl
set_option maxRecDepth 20000 in
theorem seP_empty_P : Cond.selects "PathTree" (m_Y mP_empty) (m_Y mP_empty) ∈ tb := t_in 298 rfl rfl
set_option maxRecDepth 20000 in
theorem okP_dropBytes : m_ok mP_dropBytes 1 := ⟨t_in 303 rfl rfl, t_in 48 rfl rfl, by decide +kernel, by decide +kernel, by decide⟩
set_option maxRecDepth 20000 in
theorem imP_dropBytes : Cond.instanceMethod (m_Y mP_dropBytes) ∈ tb := t_in 302 rfl rfl
set_option maxRecDepth 20000 in
theorem seP_dropBytes_P : Cond.selects "PathTree" (m_Y mP_dropBytes) (m_Y mP_dropBytes) ∈ tb := t_in 19 rfl rfl
set_option maxRecDepth 20000 in
theorem okP_write : m_ok mP_write 2 := ⟨t_in 307 rfl rfl, t_in 48 rfl rfl, by decide +kernel, by decide +kernel, by decide⟩
set_option maxRecDepth 20000 in
theorem imP_write : Cond.instanceMethod (m_Y mP_write) ∈ tb := t_in 305 rfl rfl
set_option maxRecDepth 20000 in
theorem seP_write_P : Cond.selects "PathTree" (m_Y mP_write) (m_Y mP_write) ∈ tb := t_in 306 rfl rfl
set_option maxRecDepth 20000 in
theorem okF_room : m_ok mF_room 0 := ⟨t_in 311 rfl rfl, t_in 56 rfl rfl, by decide +kernel, by decide +kernel, by decide⟩
set_option maxRecDepth 20000 in
theorem imF_room : Cond.instanceMethod (m_Y mF_room) ∈ tb := t_in 310 rfl rfl
set_option maxRecDepth 20000 in
theorem seF_room_F : Cond.selects "PathTree$FileEntry" (m_Y mF_room) (m_Y mF_room) ∈ tb := t_in 20 rfl rfl
set_option maxRecDepth 20000 in
theorem okF_append : m_ok mF_append 1 := ⟨t_in 318 rfl rfl, t_in 56 rfl rfl, by decide +kernel, by decide +kernel, by decide⟩
set_option maxRecDepth 20000 in
theorem imF_append : Cond.instanceMethod (m_Y mF_append) ∈ tb := t_in 317 rfl rfl
set_option maxRecDepth 20000 in
theorem seF_append_F : Cond.selects "PathTree$FileEntry" (m_Y mF_append) (m_Y mF_append) ∈ tb := t_in 21 rfl rfl
set_option maxRecDepth 20000 in
theorem okJ_copyOf : m_ok mJ_copyOf 2 := ⟨t_in 321 rfl rfl, t_in 53 rfl rfl, by decide +kernel, by decide +kernel, by decide⟩
set_option maxRecDepth 20000 in
theorem stJ_copyOf : Cond.static (m_Y mJ_copyOf) ∈ tb := t_in 320 rfl rfl
set_option maxRecDepth 20000 in
theorem okP_byteAt : m_ok mP_byteAt 1 := ⟨t_in 330 rfl rfl, t_in 48 rfl rfl, by decide +kernel, by decide +kernel, by decide⟩
set_option maxRecDepth 20000 in
theorem imP_byteAt : Cond.instanceMethod (m_Y mP_byteAt) ∈ tb := t_in 328 rfl rfl
set_option maxRecDepth 20000 in
theorem seP_byteAt_P : Cond.selects "PathTree" (m_Y mP_byteAt) (m_Y mP_byteAt) ∈ tb := t_in 329 rfl rfl
set_option maxRecDepth 20000 in
theorem okF_at : m_ok mF_at 1 := ⟨t_in 334 rfl rfl, t_in 56 rfl rfl, by decide +kernel, by decide +kernel, by decide⟩
set_option maxRecDepth 20000 in
theorem imF_at : Cond.instanceMethod (m_Y mF_at) ∈ tb := t_in 333 rfl rfl
set_option maxRecDepth 20000 in
theorem seF_at_F : Cond.selects "PathTree$FileEntry" (m_Y mF_at) (m_Y mF_at) ∈ tb := t_in 22 rfl rfl
set_option maxRecDepth 20000 in
theorem okP_remove : m_ok mP_remove 0 := ⟨t_in 338 rfl rfl, t_in 48 rfl rfl, by decide +kernel, by decide +kernel, by decide⟩
set_option maxRecDepth 20000 in
theorem imP_remove : Cond.instanceMethod (m_Y mP_remove) ∈ tb := t_in 336 rfl rfl
set_option maxRecDepth 20000 in
theorem seP_remove_P : Cond.selects "PathTree" (m_Y mP_remove) (m_Y mP_remove) ∈ tb := t_in 337 rfl rfl
set_option maxRecDepth 20000 in
theorem okP_discard : m_ok mP_discard 1 := ⟨t_in 342 rfl rfl, t_in 48 rfl rfl, by decide +kernel, by decide +kernel, by decide⟩
set_option maxRecDepth 20000 in
theorem imP_discard : Cond.instanceMethod (m_Y mP_discard) ∈ tb := t_in 341 rfl rfl
set_option maxRecDepth 20000 in
theorem seP_discard_P : Cond.selects "PathTree" (m_Y mP_discard) (m_Y mP_discard) ∈ tb := t_in 23 rfl rfl
set_option maxRecDepth 20000 in
theorem okP_detach : m_ok mP_detach 1 := ⟨t_in 345 rfl rfl, t_in 48 rfl rfl, by decide +kernel, by decide +kernel, by decide⟩
set_option maxRecDepth 20000 in
theorem stP_detach : Cond.static (m_Y mP_detach) ∈ tb := t_in 344 rfl rfl
set_option maxRecDepth 20000 in
theorem okD_release : m_ok mD_release 1 := ⟨t_in 349 rfl rfl, t_in 51 rfl rfl, by decide +kernel, by decide +kernel, by decide⟩
set_option maxRecDepth 20000 in
theorem imD_release : Cond.instanceMethod (m_Y mD_release) ∈ tb := t_in 348 rfl rfl
set_option maxRecDepth 20000 in
theorem seD_release_D : Cond.selects "PathTree$Directory" (m_Y mD_release) (m_Y mD_release) ∈ tb := t_in 24 rfl rfl
set_option maxRecDepth 20000 in
theorem okP_move : m_ok mP_move 0 := ⟨t_in 353 rfl rfl, t_in 48 rfl rfl, by decide +kernel, by decide +kernel, by decide⟩
set_option maxRecDepth 20000 in
theorem imP_move : Cond.instanceMethod (m_Y mP_move) ∈ tb := t_in 351 rfl rfl
set_option maxRecDepth 20000 in
theorem seP_move_P : Cond.selects "PathTree" (m_Y mP_move) (m_Y mP_move) ∈ tb := t_in 352 rfl rfl
set_option maxRecDepth 20000 in
theorem okP_moveToPath : m_ok mP_moveToPath 1 := ⟨t_in 357 rfl rfl, t_in 48 rfl rfl, by decide +kernel, by decide +kernel, by decide⟩
set_option maxRecDepth 20000 in
theorem imP_moveToPath : Cond.instanceMethod (m_Y mP_moveToPath) ∈ tb := t_in 356 rfl rfl
set_option maxRecDepth 20000 in
theorem seP_moveToPath_P : Cond.selects "PathTree" (m_Y mP_moveToPath) (m_Y mP_moveToPath) ∈ tb := t_in 25 rfl rfl
set_option maxRecDepth 20000 in
theorem okP_moveInto : m_ok mP_moveInto 3 := ⟨t_in 361 rfl rfl, t_in 48 rfl rfl, by decide +kernel, by decide +kernel, by decide⟩
set_option maxRecDepth 20000 in
theorem imP_moveInto : Cond.instanceMethod (m_Y mP_moveInto) ∈ tb := t_in 360 rfl rfl
set_option maxRecDepth 20000 in
theorem seP_moveInto_P : Cond.selects "PathTree" (m_Y mP_moveInto) (m_Y mP_moveInto) ∈ tb := t_in 26 rfl rfl
set_option maxRecDepth 20000 in
theorem okP_name : m_ok mP_name 2 := ⟨t_in 365 rfl rfl, t_in 48 rfl rfl, by decide +kernel, by decide +kernel, by decide⟩
set_option maxRecDepth 20000 in
theorem imP_name : Cond.instanceMethod (m_Y mP_name) ∈ tb := t_in 363 rfl rfl
set_option maxRecDepth 20000 in
theorem seP_name_P : Cond.selects "PathTree" (m_Y mP_name) (m_Y mP_name) ∈ tb := t_in 364 rfl rfl
set_option maxRecDepth 20000 in
theorem okD_entryAt : m_ok mD_entryAt 1 := ⟨t_in 369 rfl rfl, t_in 51 rfl rfl, by decide +kernel, by decide +kernel, by decide⟩
set_option maxRecDepth 20000 in
theorem imD_entryAt : Cond.instanceMethod (m_Y mD_entryAt) ∈ tb := t_in 368 rfl rfl
set_option maxRecDepth 20000 in
theorem seD_entryAt_D : Cond.selects "PathTree$Directory" (m_Y mD_entryAt) (m_Y mD_entryAt) ∈ tb := t_in 27 rfl rfl
set_option maxRecDepth 20000 in
theorem okP_count : m_ok mP_count 1 := ⟨t_in 373 rfl rfl, t_in 48 rfl rfl, by decide +kernel, by decide +kernel, by decide⟩
set_option maxRecDepth 20000 in
theorem imP_count : Cond.instanceMethod (m_Y mP_count) ∈ tb := t_in 371 rfl rfl
set_option maxRecDepth 20000 in
theorem seP_count_P : Cond.selects "PathTree" (m_Y mP_count) (m_Y mP_count) ∈ tb := t_in 372 rfl rfl
set_option maxRecDepth 20000 in
theorem okD_depth : m_ok mD_depth 0 := ⟨t_in 377 rfl rfl, t_in 51 rfl rfl, by decide +kernel, by decide +kernel, by decide⟩
set_option maxRecDepth 20000 in
theorem imD_depth : Cond.instanceMethod (m_Y mD_depth) ∈ tb := t_in 376 rfl rfl
set_option maxRecDepth 20000 in
theorem seD_depth_D : Cond.selects "PathTree$Directory" (m_Y mD_depth) (m_Y mD_depth) ∈ tb := t_in 28 rfl rfl
set_option maxRecDepth 20000 in
theorem okR_init : m_ok mR_init 0 := ⟨t_in 382 rfl rfl, t_in 52 rfl rfl, by decide +kernel, by decide +kernel, by decide⟩
set_option maxRecDepth 20000 in
theorem imR_init : Cond.instanceMethod (m_Y mR_init) ∈ tb := t_in 381 rfl rfl
set_option maxRecDepth 20000 in
theorem okR_path : m_ok mR_path 2 := ⟨t_in 433 rfl rfl, t_in 52 rfl rfl, by decide +kernel, by decide +kernel, by decide⟩
set_option maxRecDepth 20000 in
theorem imR_path : Cond.instanceMethod (m_Y mR_path) ∈ tb := t_in 431 rfl rfl
set_option maxRecDepth 20000 in
theorem seR_path_R : Cond.selects "PathTreeModel" (m_Y mR_path) (m_Y mR_path) ∈ tb := t_in 432 rfl rfl
set_option maxRecDepth 20000 in
theorem okR_find : m_ok mR_find 0 := ⟨t_in 437 rfl rfl, t_in 52 rfl rfl, by decide +kernel, by decide +kernel, by decide⟩
set_option maxRecDepth 20000 in
theorem imR_find : Cond.instanceMethod (m_Y mR_find) ∈ tb := t_in 435 rfl rfl
set_option maxRecDepth 20000 in
theorem seR_find_R : Cond.selects "PathTreeModel" (m_Y mR_find) (m_Y mR_find) ∈ tb := t_in 436 rfl rfl
set_option maxRecDepth 20000 in
theorem okR_lead : m_ok mR_lead 1 := ⟨t_in 441 rfl rfl, t_in 52 rfl rfl, by decide +kernel, by decide +kernel, by decide⟩
set_option maxRecDepth 20000 in
theorem imR_lead : Cond.instanceMethod (m_Y mR_lead) ∈ tb := t_in 440 rfl rfl
set_option maxRecDepth 20000 in
theorem seR_lead_R : Cond.selects "PathTreeModel" (m_Y mR_lead) (m_Y mR_lead) ∈ tb := t_in 29 rfl rfl
set_option maxRecDepth 20000 in
theorem okR_along : m_ok mR_along 3 := ⟨t_in 445 rfl rfl, t_in 52 rfl rfl, by decide +kernel, by decide +kernel, by decide⟩
set_option maxRecDepth 20000 in
theorem imR_along : Cond.instanceMethod (m_Y mR_along) ∈ tb := t_in 444 rfl rfl
set_option maxRecDepth 20000 in
theorem seR_along_R : Cond.selects "PathTreeModel" (m_Y mR_along) (m_Y mR_along) ∈ tb := t_in 30 rfl rfl
set_option maxRecDepth 20000 in
theorem okR_isDots : m_ok mR_isDots 3 := ⟨t_in 449 rfl rfl, t_in 52 rfl rfl, by decide +kernel, by decide +kernel, by decide⟩
set_option maxRecDepth 20000 in
theorem imR_isDots : Cond.instanceMethod (m_Y mR_isDots) ∈ tb := t_in 448 rfl rfl
set_option maxRecDepth 20000 in
theorem seR_isDots_R : Cond.selects "PathTreeModel" (m_Y mR_isDots) (m_Y mR_isDots) ∈ tb := t_in 31 rfl rfl
set_option maxRecDepth 20000 in
theorem okR_entry : m_ok mR_entry 3 := ⟨t_in 453 rfl rfl, t_in 52 rfl rfl, by decide +kernel, by decide +kernel, by decide⟩
set_option maxRecDepth 20000 in
theorem imR_entry : Cond.instanceMethod (m_Y mR_entry) ∈ tb := t_in 452 rfl rfl
set_option maxRecDepth 20000 in
theorem seR_entry_R : Cond.selects "PathTreeModel" (m_Y mR_entry) (m_Y mR_entry) ∈ tb := t_in 32 rfl rfl
set_option maxRecDepth 20000 in
theorem okR_make : m_ok mR_make 0 := ⟨t_in 457 rfl rfl, t_in 52 rfl rfl, by decide +kernel, by decide +kernel, by decide⟩
set_option maxRecDepth 20000 in
theorem imR_make : Cond.instanceMethod (m_Y mR_make) ∈ tb := t_in 455 rfl rfl
set_option maxRecDepth 20000 in
theorem seR_make_R : Cond.selects "PathTreeModel" (m_Y mR_make) (m_Y mR_make) ∈ tb := t_in 456 rfl rfl
set_option maxRecDepth 20000 in
theorem okR_made : m_ok mR_made 1 := ⟨t_in 461 rfl rfl, t_in 52 rfl rfl, by decide +kernel, by decide +kernel, by decide⟩
set_option maxRecDepth 20000 in
theorem imR_made : Cond.instanceMethod (m_Y mR_made) ∈ tb := t_in 460 rfl rfl
set_option maxRecDepth 20000 in
theorem seR_made_R : Cond.selects "PathTreeModel" (m_Y mR_made) (m_Y mR_made) ∈ tb := t_in 33 rfl rfl
set_option maxRecDepth 20000 in
theorem okR_home : m_ok mR_home 0 := ⟨t_in 465 rfl rfl, t_in 52 rfl rfl, by decide +kernel, by decide +kernel, by decide⟩
set_option maxRecDepth 20000 in
theorem imR_home : Cond.instanceMethod (m_Y mR_home) ∈ tb := t_in 464 rfl rfl
set_option maxRecDepth 20000 in
theorem seR_home_R : Cond.selects "PathTreeModel" (m_Y mR_home) (m_Y mR_home) ∈ tb := t_in 34 rfl rfl
set_option maxRecDepth 20000 in
theorem okR_last : m_ok mR_last 0 := ⟨t_in 469 rfl rfl, t_in 52 rfl rfl, by decide +kernel, by decide +kernel, by decide⟩
set_option maxRecDepth 20000 in
theorem imR_last : Cond.instanceMethod (m_Y mR_last) ∈ tb := t_in 468 rfl rfl
set_option maxRecDepth 20000 in
theorem seR_last_R : Cond.selects "PathTreeModel" (m_Y mR_last) (m_Y mR_last) ∈ tb := t_in 35 rfl rfl
set_option maxRecDepth 20000 in
theorem okR_isName : m_ok mR_isName 0 := ⟨t_in 473 rfl rfl, t_in 52 rfl rfl, by decide +kernel, by decide +kernel, by decide⟩
set_option maxRecDepth 20000 in
theorem imR_isName : Cond.instanceMethod (m_Y mR_isName) ∈ tb := t_in 472 rfl rfl
set_option maxRecDepth 20000 in
theorem seR_isName_R : Cond.selects "PathTreeModel" (m_Y mR_isName) (m_Y mR_isName) ∈ tb := t_in 36 rfl rfl
set_option maxRecDepth 20000 in
theorem okR_put : m_ok mR_put 2 := ⟨t_in 477 rfl rfl, t_in 52 rfl rfl, by decide +kernel, by decide +kernel, by decide⟩
set_option maxRecDepth 20000 in
theorem imR_put : Cond.instanceMethod (m_Y mR_put) ∈ tb := t_in 476 rfl rfl
set_option maxRecDepth 20000 in
theorem seR_put_R : Cond.selects "PathTreeModel" (m_Y mR_put) (m_Y mR_put) ∈ tb := t_in 37 rfl rfl
set_option maxRecDepth 20000 in
theorem okR_go : m_ok mR_go 0 := ⟨t_in 481 rfl rfl, t_in 52 rfl rfl, by decide +kernel, by decide +kernel, by decide⟩
set_option maxRecDepth 20000 in
theorem imR_go : Cond.instanceMethod (m_Y mR_go) ∈ tb := t_in 479 rfl rfl
set_option maxRecDepth 20000 in
theorem seR_go_R : Cond.selects "PathTreeModel" (m_Y mR_go) (m_Y mR_go) ∈ tb := t_in 480 rfl rfl
set_option maxRecDepth 20000 in
theorem okR_open : m_ok mR_open 0 := ⟨t_in 485 rfl rfl, t_in 52 rfl rfl, by decide +kernel, by decide +kernel, by decide⟩
set_option maxRecDepth 20000 in
theorem imR_open : Cond.instanceMethod (m_Y mR_open) ∈ tb := t_in 483 rfl rfl
set_option maxRecDepth 20000 in
theorem seR_open_R : Cond.selects "PathTreeModel" (m_Y mR_open) (m_Y mR_open) ∈ tb := t_in 484 rfl rfl
set_option maxRecDepth 20000 in
theorem okR_empty : m_ok mR_empty 0 := ⟨t_in 489 rfl rfl, t_in 52 rfl rfl, by decide +kernel, by decide +kernel, by decide⟩
set_option maxRecDepth 20000 in
theorem imR_empty : Cond.instanceMethod (m_Y mR_empty) ∈ tb := t_in 487 rfl rfl
set_option maxRecDepth 20000 in
theorem seR_empty_R : Cond.selects "PathTreeModel" (m_Y mR_empty) (m_Y mR_empty) ∈ tb := t_in 488 rfl rfl
set_option maxRecDepth 20000 in
theorem okR_lose : m_ok mR_lose 1 := ⟨t_in 493 rfl rfl, t_in 52 rfl rfl, by decide +kernel, by decide +kernel, by decide⟩
set_option maxRecDepth 20000 in
theorem imR_lose : Cond.instanceMethod (m_Y mR_lose) ∈ tb := t_in 492 rfl rfl
set_option maxRecDepth 20000 in
theorem seR_lose_R : Cond.selects "PathTreeModel" (m_Y mR_lose) (m_Y mR_lose) ∈ tb := t_in 38 rfl rfl
set_option maxRecDepth 20000 in
theorem okR_write : m_ok mR_write 2 := ⟨t_in 497 rfl rfl, t_in 52 rfl rfl, by decide +kernel, by decide +kernel, by decide⟩
set_option maxRecDepth 20000 in
theorem imR_write : Cond.instanceMethod (m_Y mR_write) ∈ tb := t_in 495 rfl rfl
set_option maxRecDepth 20000 in
theorem seR_write_R : Cond.selects "PathTreeModel" (m_Y mR_write) (m_Y mR_write) ∈ tb := t_in 496 rfl rfl
set_option maxRecDepth 20000 in
theorem okR_byteAt : m_ok mR_byteAt 1 := ⟨t_in 501 rfl rfl, t_in 52 rfl rfl, by decide +kernel, by decide +kernel, by decide⟩
set_option maxRecDepth 20000 in
theorem imR_byteAt : Cond.instanceMethod (m_Y mR_byteAt) ∈ tb := t_in 499 rfl rfl
set_option maxRecDepth 20000 in
theorem seR_byteAt_R : Cond.selects "PathTreeModel" (m_Y mR_byteAt) (m_Y mR_byteAt) ∈ tb := t_in 500 rfl rfl
set_option maxRecDepth 20000 in
theorem okR_remove : m_ok mR_remove 0 := ⟨t_in 505 rfl rfl, t_in 52 rfl rfl, by decide +kernel, by decide +kernel, by decide⟩
set_option maxRecDepth 20000 in
theorem imR_remove : Cond.instanceMethod (m_Y mR_remove) ∈ tb := t_in 503 rfl rfl
set_option maxRecDepth 20000 in
theorem seR_remove_R : Cond.selects "PathTreeModel" (m_Y mR_remove) (m_Y mR_remove) ∈ tb := t_in 504 rfl rfl
set_option maxRecDepth 20000 in
theorem okR_removeFile : m_ok mR_removeFile 1 := ⟨t_in 509 rfl rfl, t_in 52 rfl rfl, by decide +kernel, by decide +kernel, by decide⟩
set_option maxRecDepth 20000 in
theorem imR_removeFile : Cond.instanceMethod (m_Y mR_removeFile) ∈ tb := t_in 508 rfl rfl
set_option maxRecDepth 20000 in
theorem seR_removeFile_R : Cond.selects "PathTreeModel" (m_Y mR_removeFile) (m_Y mR_removeFile) ∈ tb := t_in 39 rfl rfl
set_option maxRecDepth 20000 in
theorem okR_move : m_ok mR_move 0 := ⟨t_in 513 rfl rfl, t_in 52 rfl rfl, by decide +kernel, by decide +kernel, by decide⟩
set_option maxRecDepth 20000 in
theorem imR_move : Cond.instanceMethod (m_Y mR_move) ∈ tb := t_in 511 rfl rfl
set_option maxRecDepth 20000 in
theorem seR_move_R : Cond.selects "PathTreeModel" (m_Y mR_move) (m_Y mR_move) ∈ tb := t_in 512 rfl rfl
set_option maxRecDepth 20000 in
theorem okR_moved : m_ok mR_moved 0 := ⟨t_in 517 rfl rfl, t_in 52 rfl rfl, by decide +kernel, by decide +kernel, by decide⟩
set_option maxRecDepth 20000 in
theorem imR_moved : Cond.instanceMethod (m_Y mR_moved) ∈ tb := t_in 516 rfl rfl
set_option maxRecDepth 20000 in
theorem seR_moved_R : Cond.selects "PathTreeModel" (m_Y mR_moved) (m_Y mR_moved) ∈ tb := t_in 40 rfl rfl
set_option maxRecDepth 20000 in
theorem okR_namesake : m_ok mR_namesake 2 := ⟨t_in 521 rfl rfl, t_in 52 rfl rfl, by decide +kernel, by decide +kernel, by decide⟩
set_option maxRecDepth 20000 in
theorem imR_namesake : Cond.instanceMethod (m_Y mR_namesake) ∈ tb := t_in 520 rfl rfl
set_option maxRecDepth 20000 in
theorem seR_namesake_R : Cond.selects "PathTreeModel" (m_Y mR_namesake) (m_Y mR_namesake) ∈ tb := t_in 41 rfl rfl
set_option maxRecDepth 20000 in
theorem okR_name : m_ok mR_name 2 := ⟨t_in 525 rfl rfl, t_in 52 rfl rfl, by decide +kernel, by decide +kernel, by decide⟩
set_option maxRecDepth 20000 in
theorem imR_name : Cond.instanceMethod (m_Y mR_name) ∈ tb := t_in 523 rfl rfl
set_option maxRecDepth 20000 in
theorem seR_name_R : Cond.selects "PathTreeModel" (m_Y mR_name) (m_Y mR_name) ∈ tb := t_in 524 rfl rfl
set_option maxRecDepth 20000 in
theorem okR_inOrder : m_ok mR_inOrder 1 := ⟨t_in 529 rfl rfl, t_in 52 rfl rfl, by decide +kernel, by decide +kernel, by decide⟩
set_option maxRecDepth 20000 in
theorem imR_inOrder : Cond.instanceMethod (m_Y mR_inOrder) ∈ tb := t_in 528 rfl rfl
set_option maxRecDepth 20000 in
theorem seR_inOrder_R : Cond.selects "PathTreeModel" (m_Y mR_inOrder) (m_Y mR_inOrder) ∈ tb := t_in 42 rfl rfl
set_option maxRecDepth 20000 in
theorem okR_isBefore : m_ok mR_isBefore 2 := ⟨t_in 533 rfl rfl, t_in 52 rfl rfl, by decide +kernel, by decide +kernel, by decide⟩
set_option maxRecDepth 20000 in
theorem imR_isBefore : Cond.instanceMethod (m_Y mR_isBefore) ∈ tb := t_in 532 rfl rfl
set_option maxRecDepth 20000 in
theorem seR_isBefore_R : Cond.selects "PathTreeModel" (m_Y mR_isBefore) (m_Y mR_isBefore) ∈ tb := t_in 43 rfl rfl
set_option maxRecDepth 20000 in
theorem okR_count : m_ok mR_count 1 := ⟨t_in 537 rfl rfl, t_in 52 rfl rfl, by decide +kernel, by decide +kernel, by decide⟩
set_option maxRecDepth 20000 in
theorem imR_count : Cond.instanceMethod (m_Y mR_count) ∈ tb := t_in 535 rfl rfl
set_option maxRecDepth 20000 in
theorem seR_count_R : Cond.selects "PathTreeModel" (m_Y mR_count) (m_Y mR_count) ∈ tb := t_in 536 rfl rfl
set_option maxRecDepth 20000 in
theorem okR_many : m_ok mR_many 1 := ⟨t_in 541 rfl rfl, t_in 52 rfl rfl, by decide +kernel, by decide +kernel, by decide⟩
set_option maxRecDepth 20000 in
theorem imR_many : Cond.instanceMethod (m_Y mR_many) ∈ tb := t_in 540 rfl rfl
set_option maxRecDepth 20000 in
theorem seR_many_R : Cond.selects "PathTreeModel" (m_Y mR_many) (m_Y mR_many) ∈ tb := t_in 44 rfl rfl
set_option maxRecDepth 20000 in
theorem okR_atHand : m_ok mR_atHand 0 := ⟨t_in 545 rfl rfl, t_in 52 rfl rfl, by decide +kernel, by decide +kernel, by decide⟩
set_option maxRecDepth 20000 in
theorem imR_atHand : Cond.instanceMethod (m_Y mR_atHand) ∈ tb := t_in 544 rfl rfl
set_option maxRecDepth 20000 in
theorem seR_atHand_R : Cond.selects "PathTreeModel" (m_Y mR_atHand) (m_Y mR_atHand) ∈ tb := t_in 45 rfl rfl
set_option maxRecDepth 20000 in
theorem okR_above : m_ok mR_above 0 := ⟨t_in 549 rfl rfl, t_in 52 rfl rfl, by decide +kernel, by decide +kernel, by decide⟩
set_option maxRecDepth 20000 in
theorem imR_above : Cond.instanceMethod (m_Y mR_above) ∈ tb := t_in 548 rfl rfl
set_option maxRecDepth 20000 in
theorem seR_above_R : Cond.selects "PathTreeModel" (m_Y mR_above) (m_Y mR_above) ∈ tb := t_in 46 rfl rfl
set_option maxRecDepth 20000 in
theorem n_L_9 : n_ok "PathTreeLaw" 9 mP_init := Or.inl (t_in 59 rfl rfl)
set_option maxRecDepth 20000 in
theorem nl_P_1 : Cond.methodLink "PathTree" 1 ⟨"java/lang/Object", "<init>", "()V"⟩ ∈ tb := t_in 62 rfl rfl
set_option maxRecDepth 20000 in
theorem nl_T_1 : Cond.methodLink "PathTree$PathText" 1 ⟨"java/lang/Object", "<init>", "()V"⟩ ∈ tb := t_in 70 rfl rfl
set_option maxRecDepth 20000 in
theorem n_D_1 : n_ok "PathTree$Directory" 1 mE_init := Or.inl (t_in 86 rfl rfl)
set_option maxRecDepth 20000 in
theorem nl_E_1 : Cond.methodLink "PathTree$Entry" 1 ⟨"java/lang/Object", "<init>", "()V"⟩ ∈ tb := t_in 89 rfl rfl
set_option maxRecDepth 20000 in
theorem n_L_15 : n_ok "PathTreeLaw" 15 mP_path := Or.inl (t_in 141 rfl rfl)
set_option maxRecDepth 20000 in
theorem n_P_42 : n_ok "PathTree" 42 mP_isByteCount := Or.inl (t_in 145 rfl rfl)
set_option maxRecDepth 20000 in
theorem n_T_23 : n_ok "PathTree$PathText" 23 mT_isPathCharacter := Or.inl (t_in 155 rfl rfl)
set_option maxRecDepth 20000 in
theorem n_L_20 : n_ok "PathTreeLaw" 20 mP_find := Or.inl (t_in 162 rfl rfl)
set_option maxRecDepth 20000 in
theorem n_P_57 : n_ok "PathTree" 57 mP_target := Or.inl (t_in 166 rfl rfl)
set_option maxRecDepth 20000 in
theorem n_P_135 : n_ok "PathTree" 135 mP_entryBefore := Or.inl (t_in 170 rfl rfl)
set_option maxRecDepth 20000 in
theorem n_T_27 : n_ok "PathTree$PathText" 27 mT_is := Or.inl (t_in 178 rfl rfl)
set_option maxRecDepth 20000 in
theorem n_P_144 : n_ok "PathTree" 144 mP_step := Or.inl (t_in 182 rfl rfl)
set_option maxRecDepth 20000 in
theorem n_D_17 : n_ok "PathTree$Directory" 17 mE_order := Or.inl (t_in 198 rfl rfl)
set_option maxRecDepth 20000 in
theorem n_L_25 : n_ok "PathTreeLaw" 25 mP_make := Or.inl (t_in 208 rfl rfl)
set_option maxRecDepth 20000 in
theorem n_P_64 : n_ok "PathTree" 64 mP_homeOfNew := Or.inl (t_in 212 rfl rfl)
set_option maxRecDepth 20000 in
theorem n_T_34 : n_ok "PathTree$PathText" 34 mT_lastSlash := Or.inl (t_in 220 rfl rfl)
set_option maxRecDepth 20000 in
theorem n_T_31 : n_ok "PathTree$PathText" 31 mT_isSlash := Or.inl (t_in 224 rfl rfl)
set_option maxRecDepth 20000 in
theorem n_T_38 : n_ok "PathTree$PathText" 38 mT_isDot := Or.inl (t_in 225 rfl rfl)
set_option maxRecDepth 20000 in
theorem n_T_42 : n_ok "PathTree$PathText" 42 mT_isDotDot := Or.inl (t_in 226 rfl rfl)
set_option maxRecDepth 20000 in
theorem n_P_167 : n_ok "PathTree" 167 mP_home := Or.inl (t_in 227 rfl rfl)
set_option maxRecDepth 20000 in
theorem n_T_45 : n_ok "PathTree$PathText" 45 mJ_copyOfRange := Or.inl (t_in 236 rfl rfl)
set_option maxRecDepth 20000 in
theorem n_J_359 : n_ok "java/util/Arrays" 359 mJ_copyOfRangeChar := Or.inl (t_in 239 rfl rfl)
set_option maxRecDepth 20000 in
theorem n_J_343 : n_ok "java/util/Arrays" 343 mJ_checkLength := Or.inl (t_in 242 rfl rfl)
set_option maxRecDepth 20000 in
theorem nl_J_304 : Cond.methodLink "java/util/Arrays" 304 ⟨"java/lang/Math", "min", "(II)I"⟩ ∈ tb := t_in 245 rfl rfl
set_option maxRecDepth 20000 in
theorem nl_J_150 : Cond.methodLink "java/util/Arrays" 150 ⟨"java/lang/System", "arraycopy", "(Ljava/lang/Object;ILjava/lang/Object;II)V"⟩ ∈ tb := t_in 248 rfl rfl
set_option maxRecDepth 20000 in
theorem nl_J_322 : Cond.methodLink "java/util/Arrays" 322 ⟨"[C", "clone", "()Ljava/lang/Object;"⟩ ∈ tb := t_in 251 rfl rfl
set_option maxRecDepth 20000 in
theorem n_D_32 : n_ok "PathTree$Directory" 32 mD_link := Or.inl (t_in 262 rfl rfl)
set_option maxRecDepth 20000 in
theorem n_L_30 : n_ok "PathTreeLaw" 30 mP_go := Or.inl (t_in 266 rfl rfl)
set_option maxRecDepth 20000 in
theorem n_L_34 : n_ok "PathTreeLaw" 34 mP_open := Or.inl (t_in 270 rfl rfl)
set_option maxRecDepth 20000 in
theorem n_P_78 : n_ok "PathTree" 78 mP_newFile := Or.inl (t_in 275 rfl rfl)
set_option maxRecDepth 20000 in
theorem n_F_3 : n_ok "PathTree$FileEntry" 3 mE_init := Or.inl (t_in 283 rfl rfl)
set_option maxRecDepth 20000 in
theorem n_L_38 : n_ok "PathTreeLaw" 38 mP_empty := Or.inl (t_in 296 rfl rfl)
set_option maxRecDepth 20000 in
theorem n_P_83 : n_ok "PathTree" 83 mP_dropBytes := Or.inl (t_in 300 rfl rfl)
set_option maxRecDepth 20000 in
theorem n_L_42 : n_ok "PathTreeLaw" 42 mP_write := Or.inl (t_in 304 rfl rfl)
set_option maxRecDepth 20000 in
theorem nl_P_95 : Cond.methodLink "PathTree" 95 ⟨"java/lang/Math", "min", "(II)I"⟩ ∈ tb := t_in 313 rfl rfl
set_option maxRecDepth 20000 in
theorem n_P_101 : n_ok "PathTree" 101 mP_byteOf := Or.inl (t_in 314 rfl rfl)
set_option maxRecDepth 20000 in
theorem n_F_19 : n_ok "PathTree$FileEntry" 19 mJ_copyOf := Or.inl (t_in 319 rfl rfl)
set_option maxRecDepth 20000 in
theorem nl_J_310 : Cond.methodLink "java/util/Arrays" 310 ⟨"[B", "clone", "()Ljava/lang/Object;"⟩ ∈ tb := t_in 322 rfl rfl
set_option maxRecDepth 20000 in
theorem n_L_46 : n_ok "PathTreeLaw" 46 mP_byteAt := Or.inl (t_in 327 rfl rfl)
set_option maxRecDepth 20000 in
theorem n_L_51 : n_ok "PathTreeLaw" 51 mP_remove := Or.inl (t_in 335 rfl rfl)
set_option maxRecDepth 20000 in
theorem n_P_112 : n_ok "PathTree" 112 mP_discard := Or.inl (t_in 339 rfl rfl)
set_option maxRecDepth 20000 in
theorem n_P_170 : n_ok "PathTree" 170 mP_detach := Or.inl (t_in 343 rfl rfl)
set_option maxRecDepth 20000 in
theorem n_L_55 : n_ok "PathTreeLaw" 55 mP_move := Or.inl (t_in 350 rfl rfl)
set_option maxRecDepth 20000 in
theorem n_P_115 : n_ok "PathTree" 115 mP_moveToPath := Or.inl (t_in 354 rfl rfl)
set_option maxRecDepth 20000 in
theorem n_P_178 : n_ok "PathTree" 178 mP_moveInto := Or.inl (t_in 358 rfl rfl)
set_option maxRecDepth 20000 in
theorem n_L_59 : n_ok "PathTreeLaw" 59 mP_name := Or.inl (t_in 362 rfl rfl)
set_option maxRecDepth 20000 in
theorem n_L_64 : n_ok "PathTreeLaw" 64 mP_count := Or.inl (t_in 370 rfl rfl)
set_option maxRecDepth 20000 in
theorem n_L_12 : n_ok "PathTreeLaw" 12 mR_init := Or.inl (t_in 380 rfl rfl)
set_option maxRecDepth 20000 in
theorem nl_R_1 : Cond.methodLink "PathTreeModel" 1 ⟨"java/lang/Object", "<init>", "()V"⟩ ∈ tb := t_in 383 rfl rfl
set_option maxRecDepth 20000 in
theorem n_L_19 : n_ok "PathTreeLaw" 19 mR_path := Or.inl (t_in 430 rfl rfl)
set_option maxRecDepth 20000 in
theorem n_L_24 : n_ok "PathTreeLaw" 24 mR_find := Or.inl (t_in 434 rfl rfl)
set_option maxRecDepth 20000 in
theorem n_R_65 : n_ok "PathTreeModel" 65 mR_lead := Or.inl (t_in 438 rfl rfl)
set_option maxRecDepth 20000 in
theorem n_R_58 : n_ok "PathTreeModel" 58 mR_along := Or.inl (t_in 442 rfl rfl)
set_option maxRecDepth 20000 in
theorem n_R_47 : n_ok "PathTreeModel" 47 mR_isDots := Or.inl (t_in 446 rfl rfl)
set_option maxRecDepth 20000 in
theorem n_R_51 : n_ok "PathTreeModel" 51 mR_entry := Or.inl (t_in 450 rfl rfl)
set_option maxRecDepth 20000 in
theorem n_L_29 : n_ok "PathTreeLaw" 29 mR_make := Or.inl (t_in 454 rfl rfl)
set_option maxRecDepth 20000 in
theorem n_R_80 : n_ok "PathTreeModel" 80 mR_made := Or.inl (t_in 458 rfl rfl)
set_option maxRecDepth 20000 in
theorem n_R_69 : n_ok "PathTreeModel" 69 mR_home := Or.inl (t_in 462 rfl rfl)
set_option maxRecDepth 20000 in
theorem n_R_61 : n_ok "PathTreeModel" 61 mR_last := Or.inl (t_in 466 rfl rfl)
set_option maxRecDepth 20000 in
theorem n_R_72 : n_ok "PathTreeModel" 72 mR_isName := Or.inl (t_in 470 rfl rfl)
set_option maxRecDepth 20000 in
theorem n_R_76 : n_ok "PathTreeModel" 76 mR_put := Or.inl (t_in 474 rfl rfl)
set_option maxRecDepth 20000 in
theorem n_L_33 : n_ok "PathTreeLaw" 33 mR_go := Or.inl (t_in 478 rfl rfl)
set_option maxRecDepth 20000 in
theorem n_L_37 : n_ok "PathTreeLaw" 37 mR_open := Or.inl (t_in 482 rfl rfl)
set_option maxRecDepth 20000 in
theorem n_L_41 : n_ok "PathTreeLaw" 41 mR_empty := Or.inl (t_in 486 rfl rfl)
set_option maxRecDepth 20000 in
theorem n_R_90 : n_ok "PathTreeModel" 90 mR_lose := Or.inl (t_in 490 rfl rfl)
set_option maxRecDepth 20000 in
theorem n_L_45 : n_ok "PathTreeLaw" 45 mR_write := Or.inl (t_in 494 rfl rfl)
set_option maxRecDepth 20000 in
theorem n_L_50 : n_ok "PathTreeLaw" 50 mR_byteAt := Or.inl (t_in 498 rfl rfl)
set_option maxRecDepth 20000 in
theorem n_L_54 : n_ok "PathTreeLaw" 54 mR_remove := Or.inl (t_in 502 rfl rfl)
set_option maxRecDepth 20000 in
theorem n_R_93 : n_ok "PathTreeModel" 93 mR_removeFile := Or.inl (t_in 506 rfl rfl)
set_option maxRecDepth 20000 in
theorem n_L_58 : n_ok "PathTreeLaw" 58 mR_move := Or.inl (t_in 510 rfl rfl)
set_option maxRecDepth 20000 in
theorem n_R_101 : n_ok "PathTreeModel" 101 mR_moved := Or.inl (t_in 514 rfl rfl)
set_option maxRecDepth 20000 in
theorem n_R_97 : n_ok "PathTreeModel" 97 mR_namesake := Or.inl (t_in 518 rfl rfl)
set_option maxRecDepth 20000 in
theorem n_L_63 : n_ok "PathTreeLaw" 63 mR_name := Or.inl (t_in 522 rfl rfl)
set_option maxRecDepth 20000 in
theorem n_R_108 : n_ok "PathTreeModel" 108 mR_inOrder := Or.inl (t_in 526 rfl rfl)
set_option maxRecDepth 20000 in
theorem n_R_104 : n_ok "PathTreeModel" 104 mR_isBefore := Or.inl (t_in 530 rfl rfl)
set_option maxRecDepth 20000 in
theorem n_L_67 : n_ok "PathTreeLaw" 67 mR_count := Or.inl (t_in 534 rfl rfl)
set_option maxRecDepth 20000 in
theorem n_R_111 : n_ok "PathTreeModel" 111 mR_many := Or.inl (t_in 538 rfl rfl)
set_option maxRecDepth 20000 in
theorem n_R_114 : n_ok "PathTreeModel" 114 mR_atHand := Or.inl (t_in 542 rfl rfl)
set_option maxRecDepth 20000 in
theorem n_R_117 : n_ok "PathTreeModel" 117 mR_above := Or.inl (t_in 546 rfl rfl)
set_option maxRecDepth 20000 in
theorem n_P_9 : n_ok "PathTree" 9 mT_init := Or.inr ⟨"PathTree", by decide⟩
set_option maxRecDepth 20000 in
theorem n_P_18 : n_ok "PathTree" 18 mD_init := Or.inr ⟨"PathTree", by decide⟩
set_option maxRecDepth 20000 in
theorem n_P_46 : n_ok "PathTree" 46 mT_takes := Or.inr ⟨"PathTree", by decide⟩
set_option maxRecDepth 20000 in
theorem n_T_17 : n_ok "PathTree$PathText" 17 mP_byteOf := Or.inr ⟨"PathTree", by decide⟩
set_option maxRecDepth 20000 in
theorem n_P_50 : n_ok "PathTree" 50 mT_append := Or.inr ⟨"PathTree", by decide⟩
set_option maxRecDepth 20000 in
theorem n_P_138 : n_ok "PathTree" 138 mT_isSlash := Or.inr ⟨"PathTree", by decide⟩
set_option maxRecDepth 20000 in
theorem n_P_148 : n_ok "PathTree" 148 mT_isDot := Or.inr ⟨"PathTree", by decide⟩
set_option maxRecDepth 20000 in
theorem n_P_152 : n_ok "PathTree" 152 mT_isDotDot := Or.inr ⟨"PathTree", by decide⟩
set_option maxRecDepth 20000 in
theorem n_P_159 : n_ok "PathTree" 159 mD_entryCalled := Or.inr ⟨"PathTree", by decide⟩
set_option maxRecDepth 20000 in
theorem n_P_61 : n_ok "PathTree" 61 mT_clear := Or.inr ⟨"PathTree", by decide⟩
set_option maxRecDepth 20000 in
theorem n_P_163 : n_ok "PathTree" 163 mT_lastNameCanBe := Or.inr ⟨"PathTree", by decide⟩
set_option maxRecDepth 20000 in
theorem n_P_141 : n_ok "PathTree" 141 mT_lastSlash := Or.inr ⟨"PathTree", by decide⟩
set_option maxRecDepth 20000 in
theorem n_P_68 : n_ok "PathTree" 68 mT_lastName := Or.inr ⟨"PathTree", by decide⟩
set_option maxRecDepth 20000 in
theorem n_P_72 : n_ok "PathTree" 72 mD_admit := Or.inr ⟨"PathTree", by decide⟩
set_option maxRecDepth 20000 in
theorem n_P_169 : n_ok "PathTree" 169 mF_init := Or.inr ⟨"PathTree", by decide⟩
set_option maxRecDepth 20000 in
theorem n_P_90 : n_ok "PathTree" 90 mF_room := Or.inr ⟨"PathTree", by decide⟩
set_option maxRecDepth 20000 in
theorem n_P_105 : n_ok "PathTree" 105 mF_append := Or.inr ⟨"PathTree", by decide⟩
set_option maxRecDepth 20000 in
theorem n_P_108 : n_ok "PathTree" 108 mF_at := Or.inr ⟨"PathTree", by decide⟩
set_option maxRecDepth 20000 in
theorem n_P_174 : n_ok "PathTree" 174 mD_release := Or.inr ⟨"PathTree", by decide⟩
set_option maxRecDepth 20000 in
theorem n_P_119 : n_ok "PathTree" 119 mD_entryAt := Or.inr ⟨"PathTree", by decide⟩
set_option maxRecDepth 20000 in
theorem n_P_132 : n_ok "PathTree" 132 mD_depth := Or.inr ⟨"PathTree", by decide⟩
set_option maxRecDepth 20000 in
theorem co_P_94 : Jvm.Cond.constant "PathTree" 94 65536 ∈ tb := t_in 312 rfl rfl
set_option maxRecDepth 20000 in
theorem co_R_35 : Jvm.Cond.constant "PathTreeModel" 35 65536 ∈ tb := t_in 384 rfl rfl
set_option maxRecDepth 20000 in
theorem co_L_13 : Jvm.Cond.constantLong "PathTreeLaw" 13 4294967295 ∈ tb := t_in 550 rfl rfl
set_option maxRecDepth 20000 in
theorem oi_1 : Cond.instanceMethod objectInit ∈ tb := t_in 63 rfl rfl
set_option maxRecDepth 20000 in
theorem oi_2 : Cond.code objectInit ⟨#[0xb1]⟩ 1 none ∈ tb := t_in 64 rfl rfl
set_option maxRecDepth 20000 in
theorem mi_1 : Cond.static Lib.Math.min.name ∈ tb := t_in 246 rfl rfl
set_option maxRecDepth 20000 in
theorem mi_2 : Cond.initialized "java/lang/Math" ∈ tb := t_in 54 rfl rfl
set_option maxRecDepth 20000 in
theorem mi_3 : Cond.code Lib.Math.min.name Lib.Math.min.code 2 (some .int) ∈ tb := t_in 247 rfl rfl
set_option maxRecDepth 20000 in
theorem ac_1 : Cond.native arraycopyName ∈ tb := t_in 250 rfl rfl
set_option maxRecDepth 20000 in
theorem ac_2 : Cond.static arraycopyName ∈ tb := t_in 249 rfl rfl
set_option maxRecDepth 20000 in
theorem ac_3 : Cond.initialized "java/lang/System" ∈ tb := t_in 55 rfl rfl
