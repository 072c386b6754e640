abbrev wsZ0 : List Cond := u_ws RX0 TX0 8
abbrev wsZ1 : List Cond := u_ws RX1 TX1 6
abbrev wsZ2 : List Cond := u_ws RX2 TX2 3
abbrev wsZ3 : List Cond := u_ws RX3 TX3 3
abbrev wsZ4 : List Cond := u_ws RX4 TX4 5
abbrev wsZ5 : List Cond := u_ws RX5 TX5 7
abbrev wsZ6 : List Cond := u_ws RX6 TX6 31
set_option maxRecDepth 100000 in
theorem zc0 : zCls 0 RX0 TX0 8 := ⟨rfl, by show ∀ w ∈ wsZ0, w ∈ lw_tbl ∧ (goodWord w || zNestB w) = true; decide +kernel, ⟨tyX0, tyX0_ok⟩, nmX0⟩
set_option maxRecDepth 100000 in
theorem zc1 : zCls 1 RX1 TX1 6 := ⟨rfl, by show ∀ w ∈ wsZ1, w ∈ lw_tbl ∧ (goodWord w || zNestB w) = true; decide +kernel, ⟨tyX1, tyX1_ok⟩, nmX1⟩
set_option maxRecDepth 100000 in
theorem zc2 : zCls 2 RX2 TX2 3 := ⟨rfl, by show ∀ w ∈ wsZ2, w ∈ lw_tbl ∧ (goodWord w || zNestB w) = true; decide +kernel, ⟨tyX2, tyX2_ok⟩, nmX2⟩
set_option maxRecDepth 100000 in
theorem zc3 : zCls 3 RX3 TX3 3 := ⟨rfl, by show ∀ w ∈ wsZ3, w ∈ lw_tbl ∧ (goodWord w || zNestB w) = true; decide +kernel, ⟨tyX3, tyX3_ok⟩, nmX3⟩
set_option maxRecDepth 100000 in
theorem zc4 : zCls 4 RX4 TX4 5 := ⟨rfl, by show ∀ w ∈ wsZ4, w ∈ lw_tbl ∧ (goodWord w || zNestB w) = true; decide +kernel, ⟨tyX4, tyX4_ok⟩, nmX4⟩
set_option maxRecDepth 100000 in
theorem zc5 : zCls 5 RX5 TX5 7 := ⟨rfl, by show ∀ w ∈ wsZ5, w ∈ lw_tbl ∧ (goodWord w || zNestB w) = true; decide +kernel, ⟨tyX5, tyX5_ok⟩, nmX5⟩
set_option maxRecDepth 100000 in
theorem zc6 : zCls 6 RX6 TX6 31 := ⟨rfl, by show ∀ w ∈ wsZ6, w ∈ lw_tbl ∧ (goodWord w || zNestB w) = true; decide +kernel, ⟨tyX6, tyX6_ok⟩, nmX6⟩
set_option maxRecDepth 100000 in
theorem clL_7 : zW (.classLink RL 7 "HeadsOfRings") := zW.at 80 rfl rfl
set_option maxRecDepth 100000 in
theorem kiL_9 : zKI RL 9 yX5_init cX5_init 1 0 := ⟨Or.inl (zG1.at 82 rfl rfl), zG1.at 83 rfl rfl, zG1.at 71 rfl rfl, zG1.at 84 rfl rfl, rfl, by decide +kernel, by decide⟩
set_option maxRecDepth 100000 in
theorem oiX5_1 : zW (.methodLink RX5 1 objectInit) := zW.at 85 rfl rfl
set_option maxRecDepth 100000 in
theorem clX5_7 : zW (.classLink RX5 7 "HeadsOfRings$Text") := zW.at 88 rfl rfl
set_option maxRecDepth 100000 in
theorem kiX5_9 : zKI RX5 9 yX4_init cX4_init 1 0 := ⟨Or.inr ⟨"HeadsOfRings", zW.at 90 rfl rfl⟩, zG1.at 91 rfl rfl, zG1.at 72 rfl rfl, zG1.at 92 rfl rfl, rfl, by decide +kernel, by decide⟩
set_option maxRecDepth 100000 in
theorem oiX4_3 : zW (.methodLink RX4 3 objectInit) := zW.at 93 rfl rfl
set_option maxRecDepth 100000 in
theorem fdX4_9 : zFd RX4 9 4 0 := ⟨RX4, TX4, 5, zc4, by decide, rfl, Or.inl (zW.at 94 rfl rfl)⟩
set_option maxRecDepth 100000 in
theorem fpX4_9 : zFp RX4 9 4 0 (.array .int) true := ⟨RX4, TX4, 5, zc4, by decide, rfl, Or.inl ⟨rfl, rfl, zW.at 94 rfl rfl⟩, rfl, by decide +kernel⟩
set_option maxRecDepth 100000 in
theorem fdX4_15 : zFd RX4 15 4 1 := ⟨RX4, TX4, 5, zc4, by decide, rfl, Or.inl (zW.at 95 rfl rfl)⟩
set_option maxRecDepth 100000 in
theorem fpX4_15 : zFp RX4 15 4 1 (.int) false := ⟨RX4, TX4, 5, zc4, by decide, rfl, Or.inr ⟨rfl, Or.inl (zW.at 95 rfl rfl)⟩, rfl, by decide +kernel⟩
set_option maxRecDepth 100000 in
theorem fdX5_61 : zFd RX5 61 4 1 := ⟨RX4, TX4, 5, zc4, by decide, rfl, Or.inr ⟨"HeadsOfRings", zW.at 96 rfl rfl⟩⟩
set_option maxRecDepth 100000 in
theorem fpX5_61 : zFp RX5 61 4 1 (.int) false := ⟨RX4, TX4, 5, zc4, by decide, rfl, Or.inr ⟨rfl, Or.inr ⟨"HeadsOfRings", zW.at 96 rfl rfl⟩⟩, rfl, by decide +kernel⟩
set_option maxRecDepth 100000 in
theorem fdX4_19 : zFd RX4 19 4 2 := ⟨RX4, TX4, 5, zc4, by decide, rfl, Or.inl (zW.at 97 rfl rfl)⟩
set_option maxRecDepth 100000 in
theorem fpX4_19 : zFp RX4 19 4 2 (.int) false := ⟨RX4, TX4, 5, zc4, by decide, rfl, Or.inr ⟨rfl, Or.inl (zW.at 97 rfl rfl)⟩, rfl, by decide +kernel⟩
set_option maxRecDepth 100000 in
theorem fdX5_83 : zFd RX5 83 4 2 := ⟨RX4, TX4, 5, zc4, by decide, rfl, Or.inr ⟨"HeadsOfRings", zW.at 98 rfl rfl⟩⟩
set_option maxRecDepth 100000 in
theorem fpX5_83 : zFp RX5 83 4 2 (.int) false := ⟨RX4, TX4, 5, zc4, by decide, rfl, Or.inr ⟨rfl, Or.inr ⟨"HeadsOfRings", zW.at 98 rfl rfl⟩⟩, rfl, by decide +kernel⟩
set_option maxRecDepth 100000 in
theorem fdX4_22 : zFd RX4 22 4 3 := ⟨RX4, TX4, 5, zc4, by decide, rfl, Or.inl (zW.at 99 rfl rfl)⟩
set_option maxRecDepth 100000 in
theorem fpX4_22 : zFp RX4 22 4 3 (.int) false := ⟨RX4, TX4, 5, zc4, by decide, rfl, Or.inr ⟨rfl, Or.inl (zW.at 99 rfl rfl)⟩, rfl, by decide +kernel⟩
set_option maxRecDepth 100000 in
theorem fdX4_25 : zFd RX4 25 4 4 := ⟨RX4, TX4, 5, zc4, by decide, rfl, Or.inl (zW.at 100 rfl rfl)⟩
set_option maxRecDepth 100000 in
theorem fpX4_25 : zFp RX4 25 4 4 (.int) false := ⟨RX4, TX4, 5, zc4, by decide, rfl, Or.inr ⟨rfl, Or.inl (zW.at 100 rfl rfl)⟩, rfl, by decide +kernel⟩
set_option maxRecDepth 100000 in
theorem clX5_16 : zW (.classLink RX5 16 "HeadsOfRings$Ring") := zW.at 113 rfl rfl
set_option maxRecDepth 100000 in
theorem kiX5_18 : zKI RX5 18 yX3_init cX3_init 1 0 := ⟨Or.inr ⟨"HeadsOfRings", zW.at 115 rfl rfl⟩, zG1.at 116 rfl rfl, zG1.at 73 rfl rfl, zG1.at 117 rfl rfl, rfl, by decide +kernel, by decide⟩
set_option maxRecDepth 100000 in
theorem oiX3_3 : zW (.methodLink RX3 3 objectInit) := zW.at 118 rfl rfl
set_option maxRecDepth 100000 in
theorem fdX3_9 : zFd RX3 9 3 0 := ⟨RX3, TX3, 3, zc3, by decide, rfl, Or.inl (zW.at 119 rfl rfl)⟩
set_option maxRecDepth 100000 in
theorem fpX3_9 : zFp RX3 9 3 0 (.int) false := ⟨RX3, TX3, 3, zc3, by decide, rfl, Or.inr ⟨rfl, Or.inl (zW.at 119 rfl rfl)⟩, rfl, by decide +kernel⟩
set_option maxRecDepth 100000 in
theorem fdX4_28 : zFd RX4 28 3 0 := ⟨RX3, TX3, 3, zc3, by decide, rfl, Or.inr ⟨"HeadsOfRings", zW.at 120 rfl rfl⟩⟩
set_option maxRecDepth 100000 in
theorem fpX4_28 : zFp RX4 28 3 0 (.int) false := ⟨RX3, TX3, 3, zc3, by decide, rfl, Or.inr ⟨rfl, Or.inr ⟨"HeadsOfRings", zW.at 120 rfl rfl⟩⟩, rfl, by decide +kernel⟩
set_option maxRecDepth 100000 in
theorem fdX5_80 : zFd RX5 80 3 0 := ⟨RX3, TX3, 3, zc3, by decide, rfl, Or.inr ⟨"HeadsOfRings", zW.at 121 rfl rfl⟩⟩
set_option maxRecDepth 100000 in
theorem fpX5_80 : zFp RX5 80 3 0 (.int) false := ⟨RX3, TX3, 3, zc3, by decide, rfl, Or.inr ⟨rfl, Or.inr ⟨"HeadsOfRings", zW.at 121 rfl rfl⟩⟩, rfl, by decide +kernel⟩
set_option maxRecDepth 100000 in
theorem fdX0_64 : zFd RX0 64 3 0 := ⟨RX3, TX3, 3, zc3, by decide, rfl, Or.inr ⟨"HeadsOfRings", zW.at 122 rfl rfl⟩⟩
set_option maxRecDepth 100000 in
theorem fpX0_64 : zFp RX0 64 3 0 (.int) false := ⟨RX3, TX3, 3, zc3, by decide, rfl, Or.inr ⟨rfl, Or.inr ⟨"HeadsOfRings", zW.at 122 rfl rfl⟩⟩, rfl, by decide +kernel⟩
set_option maxRecDepth 100000 in
theorem fdX3_15 : zFd RX3 15 3 1 := ⟨RX3, TX3, 3, zc3, by decide, rfl, Or.inl (zW.at 123 rfl rfl)⟩
set_option maxRecDepth 100000 in
theorem fpX3_15 : zFp RX3 15 3 1 (.array .int) true := ⟨RX3, TX3, 3, zc3, by decide, rfl, Or.inl ⟨rfl, rfl, zW.at 123 rfl rfl⟩, rfl, by decide +kernel⟩
set_option maxRecDepth 100000 in
theorem fdX3_19 : zFd RX3 19 3 2 := ⟨RX3, TX3, 3, zc3, by decide, rfl, Or.inl (zW.at 124 rfl rfl)⟩
set_option maxRecDepth 100000 in
theorem fpX3_19 : zFp RX3 19 3 2 (.array .int) true := ⟨RX3, TX3, 3, zc3, by decide, rfl, Or.inl ⟨rfl, rfl, zW.at 124 rfl rfl⟩, rfl, by decide +kernel⟩
set_option maxRecDepth 100000 in
theorem clX5_26 : zW (.classLink RX5 26 "HeadsOfRings$Election") := zW.at 132 rfl rfl
set_option maxRecDepth 100000 in
theorem kiX5_28 : zKI RX5 28 yX0_init cX0_init 2 1 := ⟨Or.inl (zG1.at 134 rfl rfl), zG1.at 135 rfl rfl, zG1.at 74 rfl rfl, zG1.at 136 rfl rfl, rfl, by decide +kernel, by decide⟩
set_option maxRecDepth 100000 in
theorem oiX0_3 : zW (.methodLink RX0 3 objectInit) := zW.at 137 rfl rfl
set_option maxRecDepth 100000 in
theorem fdX0_34 : zFd RX0 34 0 0 := ⟨RX0, TX0, 8, zc0, by decide, rfl, Or.inl (zW.at 138 rfl rfl)⟩
set_option maxRecDepth 100000 in
theorem fpX0_34 : zFp RX0 34 0 0 (.object "HeadsOfRings$Ring") true := ⟨RX0, TX0, 8, zc0, by decide, rfl, Or.inl ⟨rfl, rfl, zW.at 138 rfl rfl⟩, rfl, by decide +kernel⟩
set_option maxRecDepth 100000 in
theorem fdX0_9 : zFd RX0 9 0 1 := ⟨RX0, TX0, 8, zc0, by decide, rfl, Or.inl (zW.at 139 rfl rfl)⟩
set_option maxRecDepth 100000 in
theorem fpX0_9 : zFp RX0 9 0 1 (.int) false := ⟨RX0, TX0, 8, zc0, by decide, rfl, Or.inr ⟨rfl, Or.inl (zW.at 139 rfl rfl)⟩, rfl, by decide +kernel⟩
set_option maxRecDepth 100000 in
theorem fdX5_199 : zFd RX5 199 0 1 := ⟨RX0, TX0, 8, zc0, by decide, rfl, Or.inr ⟨"HeadsOfRings", zW.at 140 rfl rfl⟩⟩
set_option maxRecDepth 100000 in
theorem fpX5_199 : zFp RX5 199 0 1 (.int) false := ⟨RX0, TX0, 8, zc0, by decide, rfl, Or.inr ⟨rfl, Or.inr ⟨"HeadsOfRings", zW.at 140 rfl rfl⟩⟩, rfl, by decide +kernel⟩
set_option maxRecDepth 100000 in
theorem fdX0_15 : zFd RX0 15 0 2 := ⟨RX0, TX0, 8, zc0, by decide, rfl, Or.inl (zW.at 141 rfl rfl)⟩
set_option maxRecDepth 100000 in
theorem fpX0_15 : zFp RX0 15 0 2 (.int) false := ⟨RX0, TX0, 8, zc0, by decide, rfl, Or.inr ⟨rfl, Or.inl (zW.at 141 rfl rfl)⟩, rfl, by decide +kernel⟩
set_option maxRecDepth 100000 in
theorem fdX0_18 : zFd RX0 18 0 3 := ⟨RX0, TX0, 8, zc0, by decide, rfl, Or.inl (zW.at 142 rfl rfl)⟩
set_option maxRecDepth 100000 in
theorem fpX0_18 : zFp RX0 18 0 3 (.array .int) true := ⟨RX0, TX0, 8, zc0, by decide, rfl, Or.inl ⟨rfl, rfl, zW.at 142 rfl rfl⟩, rfl, by decide +kernel⟩
set_option maxRecDepth 100000 in
theorem fdX0_22 : zFd RX0 22 0 4 := ⟨RX0, TX0, 8, zc0, by decide, rfl, Or.inl (zW.at 143 rfl rfl)⟩
set_option maxRecDepth 100000 in
theorem fpX0_22 : zFp RX0 22 0 4 (.array .int) true := ⟨RX0, TX0, 8, zc0, by decide, rfl, Or.inl ⟨rfl, rfl, zW.at 143 rfl rfl⟩, rfl, by decide +kernel⟩
set_option maxRecDepth 100000 in
theorem fdX0_25 : zFd RX0 25 0 5 := ⟨RX0, TX0, 8, zc0, by decide, rfl, Or.inl (zW.at 144 rfl rfl)⟩
set_option maxRecDepth 100000 in
theorem fpX0_25 : zFp RX0 25 0 5 (.int) false := ⟨RX0, TX0, 8, zc0, by decide, rfl, Or.inr ⟨rfl, Or.inl (zW.at 144 rfl rfl)⟩, rfl, by decide +kernel⟩
set_option maxRecDepth 100000 in
theorem fdX1_40 : zFd RX1 40 0 5 := ⟨RX0, TX0, 8, zc0, by decide, rfl, Or.inr ⟨"HeadsOfRings", zW.at 145 rfl rfl⟩⟩
set_option maxRecDepth 100000 in
theorem fpX1_40 : zFp RX1 40 0 5 (.int) false := ⟨RX0, TX0, 8, zc0, by decide, rfl, Or.inr ⟨rfl, Or.inr ⟨"HeadsOfRings", zW.at 145 rfl rfl⟩⟩, rfl, by decide +kernel⟩
set_option maxRecDepth 100000 in
theorem fdX5_124 : zFd RX5 124 0 5 := ⟨RX0, TX0, 8, zc0, by decide, rfl, Or.inr ⟨"HeadsOfRings", zW.at 146 rfl rfl⟩⟩
set_option maxRecDepth 100000 in
theorem fpX5_124 : zFp RX5 124 0 5 (.int) false := ⟨RX0, TX0, 8, zc0, by decide, rfl, Or.inr ⟨rfl, Or.inr ⟨"HeadsOfRings", zW.at 146 rfl rfl⟩⟩, rfl, by decide +kernel⟩
set_option maxRecDepth 100000 in
theorem fdX0_28 : zFd RX0 28 0 6 := ⟨RX0, TX0, 8, zc0, by decide, rfl, Or.inl (zW.at 147 rfl rfl)⟩
set_option maxRecDepth 100000 in
theorem fpX0_28 : zFp RX0 28 0 6 (.array .int) true := ⟨RX0, TX0, 8, zc0, by decide, rfl, Or.inl ⟨rfl, rfl, zW.at 147 rfl rfl⟩, rfl, by decide +kernel⟩
set_option maxRecDepth 100000 in
theorem fdX0_31 : zFd RX0 31 0 7 := ⟨RX0, TX0, 8, zc0, by decide, rfl, Or.inl (zW.at 148 rfl rfl)⟩
set_option maxRecDepth 100000 in
theorem fpX0_31 : zFp RX0 31 0 7 (.array .int) true := ⟨RX0, TX0, 8, zc0, by decide, rfl, Or.inl ⟨rfl, rfl, zW.at 148 rfl rfl⟩, rfl, by decide +kernel⟩
set_option maxRecDepth 100000 in
theorem clX5_38 : zW (.classLink RX5 38 "HeadsOfRings$History") := zW.at 166 rfl rfl
set_option maxRecDepth 100000 in
theorem kiX5_40 : zKI RX5 40 yX2_init cX2_init 3 1 := ⟨Or.inl (zG1.at 168 rfl rfl), zG1.at 169 rfl rfl, zG1.at 75 rfl rfl, zG1.at 170 rfl rfl, rfl, by decide +kernel, by decide⟩
set_option maxRecDepth 100000 in
theorem oiX2_3 : zW (.methodLink RX2 3 objectInit) := zW.at 171 rfl rfl
set_option maxRecDepth 100000 in
theorem clX2_9 : zW (.classLink RX2 9 "HeadsOfRings$Election") := zW.at 172 rfl rfl
set_option maxRecDepth 100000 in
theorem kiX2_24 : zKI RX2 24 yX0_init cX0_init 2 1 := ⟨Or.inl (zG1.at 174 rfl rfl), zG1.at 135 rfl rfl, zG1.at 74 rfl rfl, zG1.at 136 rfl rfl, rfl, by decide +kernel, by decide⟩
set_option maxRecDepth 100000 in
theorem fdX2_11 : zFd RX2 11 2 0 := ⟨RX2, TX2, 3, zc2, by decide, rfl, Or.inl (zW.at 175 rfl rfl)⟩
set_option maxRecDepth 100000 in
theorem fpX2_11 : zFp RX2 11 2 0 (.array (.object "HeadsOfRings$Election")) true := ⟨RX2, TX2, 3, zc2, by decide, rfl, Or.inl ⟨rfl, rfl, zW.at 175 rfl rfl⟩, rfl, by decide +kernel⟩
set_option maxRecDepth 100000 in
theorem fdX2_17 : zFd RX2 17 2 1 := ⟨RX2, TX2, 3, zc2, by decide, rfl, Or.inl (zW.at 176 rfl rfl)⟩
set_option maxRecDepth 100000 in
theorem fpX2_17 : zFp RX2 17 2 1 (.int) false := ⟨RX2, TX2, 3, zc2, by decide, rfl, Or.inr ⟨rfl, Or.inl (zW.at 176 rfl rfl)⟩, rfl, by decide +kernel⟩
set_option maxRecDepth 100000 in
theorem fdX2_21 : zFd RX2 21 2 2 := ⟨RX2, TX2, 3, zc2, by decide, rfl, Or.inl (zW.at 177 rfl rfl)⟩
set_option maxRecDepth 100000 in
theorem fpX2_21 : zFp RX2 21 2 2 (.int) false := ⟨RX2, TX2, 3, zc2, by decide, rfl, Or.inr ⟨rfl, Or.inl (zW.at 177 rfl rfl)⟩, rfl, by decide +kernel⟩
set_option maxRecDepth 100000 in
theorem fdX5_135 : zFd RX5 135 2 2 := ⟨RX2, TX2, 3, zc2, by decide, rfl, Or.inr ⟨"HeadsOfRings", zW.at 178 rfl rfl⟩⟩
set_option maxRecDepth 100000 in
theorem fpX5_135 : zFp RX5 135 2 2 (.int) false := ⟨RX2, TX2, 3, zc2, by decide, rfl, Or.inr ⟨rfl, Or.inr ⟨"HeadsOfRings", zW.at 178 rfl rfl⟩⟩, rfl, by decide +kernel⟩
set_option maxRecDepth 100000 in
theorem clX5_45 : zW (.classLink RX5 45 "HeadsOfRings$Foresight") := zW.at 186 rfl rfl
set_option maxRecDepth 100000 in
theorem kiX5_47 : zKI RX5 47 yX1_init cX1_init 3 1 := ⟨Or.inl (zG1.at 188 rfl rfl), zG1.at 189 rfl rfl, zG1.at 76 rfl rfl, zG1.at 190 rfl rfl, rfl, by decide +kernel, by decide⟩
set_option maxRecDepth 100000 in
theorem oiX1_3 : zW (.methodLink RX1 3 objectInit) := zW.at 191 rfl rfl
set_option maxRecDepth 100000 in
theorem clX1_9 : zW (.classLink RX1 9 "HeadsOfRings$Election") := zW.at 192 rfl rfl
set_option maxRecDepth 100000 in
theorem kiX1_33 : zKI RX1 33 yX0_init cX0_init 2 1 := ⟨Or.inl (zG1.at 193 rfl rfl), zG1.at 135 rfl rfl, zG1.at 74 rfl rfl, zG1.at 136 rfl rfl, rfl, by decide +kernel, by decide⟩
set_option maxRecDepth 100000 in
theorem fdX1_11 : zFd RX1 11 1 0 := ⟨RX1, TX1, 6, zc1, by decide, rfl, Or.inl (zW.at 194 rfl rfl)⟩
set_option maxRecDepth 100000 in
theorem fpX1_11 : zFp RX1 11 1 0 (.array (.object "HeadsOfRings$Election")) true := ⟨RX1, TX1, 6, zc1, by decide, rfl, Or.inl ⟨rfl, rfl, zW.at 194 rfl rfl⟩, rfl, by decide +kernel⟩
set_option maxRecDepth 100000 in
theorem fdX1_17 : zFd RX1 17 1 1 := ⟨RX1, TX1, 6, zc1, by decide, rfl, Or.inl (zW.at 195 rfl rfl)⟩
set_option maxRecDepth 100000 in
theorem fpX1_17 : zFp RX1 17 1 1 (.int) false := ⟨RX1, TX1, 6, zc1, by decide, rfl, Or.inr ⟨rfl, Or.inl (zW.at 195 rfl rfl)⟩, rfl, by decide +kernel⟩
set_option maxRecDepth 100000 in
theorem fdX1_21 : zFd RX1 21 1 2 := ⟨RX1, TX1, 6, zc1, by decide, rfl, Or.inl (zW.at 196 rfl rfl)⟩
set_option maxRecDepth 100000 in
theorem fpX1_21 : zFp RX1 21 1 2 (.int) false := ⟨RX1, TX1, 6, zc1, by decide, rfl, Or.inr ⟨rfl, Or.inl (zW.at 196 rfl rfl)⟩, rfl, by decide +kernel⟩
set_option maxRecDepth 100000 in
theorem fdX5_167 : zFd RX5 167 1 2 := ⟨RX1, TX1, 6, zc1, by decide, rfl, Or.inr ⟨"HeadsOfRings", zW.at 197 rfl rfl⟩⟩
set_option maxRecDepth 100000 in
theorem fpX5_167 : zFp RX5 167 1 2 (.int) false := ⟨RX1, TX1, 6, zc1, by decide, rfl, Or.inr ⟨rfl, Or.inr ⟨"HeadsOfRings", zW.at 197 rfl rfl⟩⟩, rfl, by decide +kernel⟩
set_option maxRecDepth 100000 in
theorem fdX1_24 : zFd RX1 24 1 3 := ⟨RX1, TX1, 6, zc1, by decide, rfl, Or.inl (zW.at 198 rfl rfl)⟩
set_option maxRecDepth 100000 in
theorem fpX1_24 : zFp RX1 24 1 3 (.int) false := ⟨RX1, TX1, 6, zc1, by decide, rfl, Or.inr ⟨rfl, Or.inl (zW.at 198 rfl rfl)⟩, rfl, by decide +kernel⟩
set_option maxRecDepth 100000 in
theorem fdX5_170 : zFd RX5 170 1 3 := ⟨RX1, TX1, 6, zc1, by decide, rfl, Or.inr ⟨"HeadsOfRings", zW.at 199 rfl rfl⟩⟩
set_option maxRecDepth 100000 in
theorem fpX5_170 : zFp RX5 170 1 3 (.int) false := ⟨RX1, TX1, 6, zc1, by decide, rfl, Or.inr ⟨rfl, Or.inr ⟨"HeadsOfRings", zW.at 199 rfl rfl⟩⟩, rfl, by decide +kernel⟩
set_option maxRecDepth 100000 in
theorem fdX1_27 : zFd RX1 27 1 4 := ⟨RX1, TX1, 6, zc1, by decide, rfl, Or.inl (zW.at 200 rfl rfl)⟩
set_option maxRecDepth 100000 in
theorem fpX1_27 : zFp RX1 27 1 4 (.int) false := ⟨RX1, TX1, 6, zc1, by decide, rfl, Or.inr ⟨rfl, Or.inl (zW.at 200 rfl rfl)⟩, rfl, by decide +kernel⟩
set_option maxRecDepth 100000 in
theorem fdX5_173 : zFd RX5 173 1 4 := ⟨RX1, TX1, 6, zc1, by decide, rfl, Or.inr ⟨"HeadsOfRings", zW.at 201 rfl rfl⟩⟩
set_option maxRecDepth 100000 in
theorem fpX5_173 : zFp RX5 173 1 4 (.int) false := ⟨RX1, TX1, 6, zc1, by decide, rfl, Or.inr ⟨rfl, Or.inr ⟨"HeadsOfRings", zW.at 201 rfl rfl⟩⟩, rfl, by decide +kernel⟩
set_option maxRecDepth 100000 in
theorem fdX1_30 : zFd RX1 30 1 5 := ⟨RX1, TX1, 6, zc1, by decide, rfl, Or.inl (zW.at 202 rfl rfl)⟩
set_option maxRecDepth 100000 in
theorem fpX1_30 : zFp RX1 30 1 5 (.int) false := ⟨RX1, TX1, 6, zc1, by decide, rfl, Or.inr ⟨rfl, Or.inl (zW.at 202 rfl rfl)⟩, rfl, by decide +kernel⟩
set_option maxRecDepth 100000 in
theorem fdX5_176 : zFd RX5 176 1 5 := ⟨RX1, TX1, 6, zc1, by decide, rfl, Or.inr ⟨"HeadsOfRings", zW.at 203 rfl rfl⟩⟩
set_option maxRecDepth 100000 in
theorem fpX5_176 : zFp RX5 176 1 5 (.int) false := ⟨RX1, TX1, 6, zc1, by decide, rfl, Or.inr ⟨rfl, Or.inr ⟨"HeadsOfRings", zW.at 203 rfl rfl⟩⟩, rfl, by decide +kernel⟩
set_option maxRecDepth 100000 in
theorem fdX5_10 : zFd RX5 10 5 0 := ⟨RX5, TX5, 7, zc5, by decide, rfl, Or.inl (zW.at 217 rfl rfl)⟩
set_option maxRecDepth 100000 in
theorem fpX5_10 : zFp RX5 10 5 0 (.object "HeadsOfRings$Text") true := ⟨RX5, TX5, 7, zc5, by decide, rfl, Or.inl ⟨rfl, rfl, zW.at 217 rfl rfl⟩, rfl, by decide +kernel⟩
set_option maxRecDepth 100000 in
theorem fdX5_19 : zFd RX5 19 5 1 := ⟨RX5, TX5, 7, zc5, by decide, rfl, Or.inl (zW.at 218 rfl rfl)⟩
set_option maxRecDepth 100000 in
theorem fpX5_19 : zFp RX5 19 5 1 (.object "HeadsOfRings$Ring") true := ⟨RX5, TX5, 7, zc5, by decide, rfl, Or.inl ⟨rfl, rfl, zW.at 218 rfl rfl⟩, rfl, by decide +kernel⟩
set_option maxRecDepth 100000 in
theorem fdX5_23 : zFd RX5 23 5 2 := ⟨RX5, TX5, 7, zc5, by decide, rfl, Or.inl (zW.at 219 rfl rfl)⟩
set_option maxRecDepth 100000 in
theorem fpX5_23 : zFp RX5 23 5 2 (.object "HeadsOfRings$Ring") true := ⟨RX5, TX5, 7, zc5, by decide, rfl, Or.inl ⟨rfl, rfl, zW.at 219 rfl rfl⟩, rfl, by decide +kernel⟩
set_option maxRecDepth 100000 in
theorem fdX5_31 : zFd RX5 31 5 3 := ⟨RX5, TX5, 7, zc5, by decide, rfl, Or.inl (zW.at 220 rfl rfl)⟩
set_option maxRecDepth 100000 in
theorem fpX5_31 : zFp RX5 31 5 3 (.object "HeadsOfRings$Election") true := ⟨RX5, TX5, 7, zc5, by decide, rfl, Or.inl ⟨rfl, rfl, zW.at 220 rfl rfl⟩, rfl, by decide +kernel⟩
set_option maxRecDepth 100000 in
theorem fdX5_35 : zFd RX5 35 5 4 := ⟨RX5, TX5, 7, zc5, by decide, rfl, Or.inl (zW.at 221 rfl rfl)⟩
set_option maxRecDepth 100000 in
theorem fpX5_35 : zFp RX5 35 5 4 (.object "HeadsOfRings$Election") true := ⟨RX5, TX5, 7, zc5, by decide, rfl, Or.inl ⟨rfl, rfl, zW.at 221 rfl rfl⟩, rfl, by decide +kernel⟩
set_option maxRecDepth 100000 in
theorem fdX5_41 : zFd RX5 41 5 5 := ⟨RX5, TX5, 7, zc5, by decide, rfl, Or.inl (zW.at 222 rfl rfl)⟩
set_option maxRecDepth 100000 in
theorem fpX5_41 : zFp RX5 41 5 5 (.object "HeadsOfRings$History") true := ⟨RX5, TX5, 7, zc5, by decide, rfl, Or.inl ⟨rfl, rfl, zW.at 222 rfl rfl⟩, rfl, by decide +kernel⟩
set_option maxRecDepth 100000 in
theorem fdX5_48 : zFd RX5 48 5 6 := ⟨RX5, TX5, 7, zc5, by decide, rfl, Or.inl (zW.at 223 rfl rfl)⟩
set_option maxRecDepth 100000 in
theorem fpX5_48 : zFp RX5 48 5 6 (.object "HeadsOfRings$Foresight") true := ⟨RX5, TX5, 7, zc5, by decide, rfl, Or.inl ⟨rfl, rfl, zW.at 223 rfl rfl⟩, rfl, by decide +kernel⟩
set_option maxRecDepth 100000 in
theorem kvL_13 : zKV RL 13 RX5 yX5_write cX5_write 2 (some .int) 1 := ⟨zG1.at 239 rfl rfl, zG1.at 240 rfl rfl, zG1.at 241 rfl rfl, zG1.at 71 rfl rfl, zG1.at 242 rfl rfl, by decide +kernel, by decide⟩
set_option maxRecDepth 100000 in
theorem ksX5_52 : zKS RX5 52 yX5_within cX5_within 3 (some .boolean) 3 := ⟨Or.inl (zG1.at 243 rfl rfl), zG1.at 244 rfl rfl, zG1.at 71 rfl rfl, zG1.at 245 rfl rfl, by decide +kernel, by decide⟩
set_option maxRecDepth 100000 in
theorem knX5_56 : zW (.constant RX5 56 (-1000002)) := zW.at 246 rfl rfl
set_option maxRecDepth 100000 in
theorem kvX5_57 : zKV RX5 57 RX4 yX4_append cX4_append 2 (some .boolean) 1 := ⟨zG1.at 247 rfl rfl, zG1.at 248 rfl rfl, zG1.at 249 rfl rfl, zG1.at 72 rfl rfl, zG1.at 250 rfl rfl, by decide +kernel, by decide⟩
set_option maxRecDepth 100000 in
theorem knX5_65 : zW (.constant RX5 65 (-1000004)) := zW.at 251 rfl rfl
set_option maxRecDepth 100000 in
theorem kvL_18 : zKV RL 18 RX5 yX5_ring cX5_ring 2 (some .int) 0 := ⟨zG1.at 252 rfl rfl, zG1.at 253 rfl rfl, zG1.at 254 rfl rfl, zG1.at 71 rfl rfl, zG1.at 255 rfl rfl, by decide +kernel, by decide⟩
set_option maxRecDepth 100000 in
theorem kvX5_66 : zKV RX5 66 RX4 yX4_readInto cX4_readInto 5 (some .int) 1 := ⟨zG1.at 256 rfl rfl, zG1.at 257 rfl rfl, zG1.at 258 rfl rfl, zG1.at 72 rfl rfl, zG1.at 259 rfl rfl, by decide +kernel, by decide⟩
set_option maxRecDepth 100000 in
theorem kvX4_33 : zKV RX4 33 RX4 yX4_findToken cX4_findToken 1 none 0 := ⟨zG1.at 260 rfl rfl, zG1.at 262 rfl rfl, zG1.at 0 rfl rfl, zG1.at 72 rfl rfl, zG1.at 263 rfl rfl, by decide +kernel, by decide⟩
set_option maxRecDepth 100000 in
theorem kvX4_44 : zKV RX4 44 RX4 yX4_byteAt cX4_byteAt 2 (some .int) 1 := ⟨zG1.at 264 rfl rfl, zG1.at 266 rfl rfl, zG1.at 1 rfl rfl, zG1.at 72 rfl rfl, zG1.at 267 rfl rfl, by decide +kernel, by decide⟩
set_option maxRecDepth 100000 in
theorem ksX4_48 : zKS RX4 48 yX4_isDigit cX4_isDigit 1 (some .boolean) 1 := ⟨Or.inl (zG1.at 268 rfl rfl), zG1.at 269 rfl rfl, zG1.at 72 rfl rfl, zG1.at 270 rfl rfl, by decide +kernel, by decide⟩
set_option maxRecDepth 100000 in
theorem kvX4_36 : zKV RX4 36 RX4 yX4_faultOfToken cX4_faultOfToken 4 (some .int) 2 := ⟨zG1.at 271 rfl rfl, zG1.at 273 rfl rfl, zG1.at 2 rfl rfl, zG1.at 72 rfl rfl, zG1.at 274 rfl rfl, by decide +kernel, by decide⟩
set_option maxRecDepth 100000 in
theorem kvX4_52 : zKV RX4 52 RX4 yX4_faultOfFigures cX4_faultOfFigures 2 (some .int) 1 := ⟨zG1.at 275 rfl rfl, zG1.at 277 rfl rfl, zG1.at 3 rfl rfl, zG1.at 72 rfl rfl, zG1.at 278 rfl rfl, by decide +kernel, by decide⟩
set_option maxRecDepth 100000 in
theorem kvX4_56 : zKV RX4 56 RX4 yX4_tokenValue cX4_tokenValue 3 (some .int) 0 := ⟨zG1.at 279 rfl rfl, zG1.at 281 rfl rfl, zG1.at 4 rfl rfl, zG1.at 72 rfl rfl, zG1.at 282 rfl rfl, by decide +kernel, by decide⟩
set_option maxRecDepth 100000 in
theorem kvX4_60 : zKV RX4 60 RX3 yX3_hasName cX3_hasName 3 (some .boolean) 1 := ⟨zG1.at 283 rfl rfl, zG1.at 284 rfl rfl, zG1.at 285 rfl rfl, zG1.at 73 rfl rfl, zG1.at 286 rfl rfl, by decide +kernel, by decide⟩
set_option maxRecDepth 100000 in
theorem kvX4_63 : zKV RX4 63 RX3 yX3_isFull cX3_isFull 1 (some .boolean) 0 := ⟨zG1.at 287 rfl rfl, zG1.at 288 rfl rfl, zG1.at 289 rfl rfl, zG1.at 73 rfl rfl, zG1.at 290 rfl rfl, by decide +kernel, by decide⟩
set_option maxRecDepth 100000 in
theorem kvX4_40 : zKV RX4 40 RX4 yX4_takeToken cX4_takeToken 3 none 2 := ⟨zG1.at 291 rfl rfl, zG1.at 293 rfl rfl, zG1.at 5 rfl rfl, zG1.at 72 rfl rfl, zG1.at 294 rfl rfl, by decide +kernel, by decide⟩
set_option maxRecDepth 100000 in
theorem kvX4_67 : zKV RX4 67 RX3 yX3_addName cX3_addName 2 none 1 := ⟨zG1.at 295 rfl rfl, zG1.at 296 rfl rfl, zG1.at 297 rfl rfl, zG1.at 73 rfl rfl, zG1.at 298 rfl rfl, by decide +kernel, by decide⟩
set_option maxRecDepth 100000 in
theorem kvX4_71 : zKV RX4 71 RX3 yX3_setLastSense cX3_setLastSense 2 none 1 := ⟨zG1.at 299 rfl rfl, zG1.at 300 rfl rfl, zG1.at 301 rfl rfl, zG1.at 73 rfl rfl, zG1.at 302 rfl rfl, by decide +kernel, by decide⟩
set_option maxRecDepth 100000 in
theorem kvX5_70 : zKV RX5 70 RX3 yX3_copyFrom cX3_copyFrom 2 none 1 := ⟨zG1.at 303 rfl rfl, zG1.at 304 rfl rfl, zG1.at 305 rfl rfl, zG1.at 73 rfl rfl, zG1.at 306 rfl rfl, by decide +kernel, by decide⟩
set_option maxRecDepth 100000 in
theorem acX3_22 : zW (.methodLink RX3 22 arraycopyName) := zW.at 307 rfl rfl
set_option maxRecDepth 100000 in
theorem kvX5_73 : zKV RX5 73 RX0 yX0_start cX0_start 5 none 3 := ⟨zG1.at 310 rfl rfl, zG1.at 311 rfl rfl, zG1.at 312 rfl rfl, zG1.at 74 rfl rfl, zG1.at 313 rfl rfl, by decide +kernel, by decide⟩
set_option maxRecDepth 100000 in
theorem kvX0_44 : zKV RX0 44 RX0 yX0_setCell cX0_setCell 5 none 3 := ⟨zG1.at 314 rfl rfl, zG1.at 316 rfl rfl, zG1.at 6 rfl rfl, zG1.at 74 rfl rfl, zG1.at 317 rfl rfl, by decide +kernel, by decide⟩
set_option maxRecDepth 100000 in
theorem kvX0_48 : zKV RX0 48 RX3 yX3_senseOf cX3_senseOf 2 (some .int) 1 := ⟨zG1.at 318 rfl rfl, zG1.at 319 rfl rfl, zG1.at 320 rfl rfl, zG1.at 73 rfl rfl, zG1.at 321 rfl rfl, by decide +kernel, by decide⟩
set_option maxRecDepth 100000 in
theorem ksX3_28 : zKS RX3 28 yX5_within cX5_within 3 (some .boolean) 3 := ⟨Or.inr ⟨"HeadsOfRings", zW.at 322 rfl rfl⟩, zG1.at 244 rfl rfl, zG1.at 71 rfl rfl, zG1.at 245 rfl rfl, by decide +kernel, by decide⟩
set_option maxRecDepth 100000 in
theorem knX0_54 : zW (.constantLong RX0 54 (2147483647)) := zW.at 323 rfl rfl
set_option maxRecDepth 100000 in
theorem kvX5_77 : zKV RX5 77 RX2 yX2_forget cX2_forget 1 none 0 := ⟨zG1.at 324 rfl rfl, zG1.at 325 rfl rfl, zG1.at 326 rfl rfl, zG1.at 75 rfl rfl, zG1.at 327 rfl rfl, by decide +kernel, by decide⟩
set_option maxRecDepth 100000 in
theorem kvL_23 : zKV RL 23 RX5 yX5_fault cX5_fault 1 (some .int) 0 := ⟨zG1.at 328 rfl rfl, zG1.at 329 rfl rfl, zG1.at 330 rfl rfl, zG1.at 71 rfl rfl, zG1.at 331 rfl rfl, by decide +kernel, by decide⟩
set_option maxRecDepth 100000 in
theorem kvL_27 : zKV RL 27 RX5 yX5_begin cX5_begin 5 (some .int) 3 := ⟨zG1.at 332 rfl rfl, zG1.at 333 rfl rfl, zG1.at 334 rfl rfl, zG1.at 71 rfl rfl, zG1.at 335 rfl rfl, by decide +kernel, by decide⟩
set_option maxRecDepth 100000 in
theorem knX5_86 : zW (.constant RX5 86 (999999)) := zW.at 336 rfl rfl
set_option maxRecDepth 100000 in
theorem kvX5_87 : zKV RX5 87 RX3 yX3_sensesAgree cX3_sensesAgree 2 (some .boolean) 0 := ⟨zG1.at 337 rfl rfl, zG1.at 338 rfl rfl, zG1.at 339 rfl rfl, zG1.at 73 rfl rfl, zG1.at 340 rfl rfl, by decide +kernel, by decide⟩
set_option maxRecDepth 100000 in
theorem knX5_91 : zW (.constant RX5 91 (-1000003)) := zW.at 341 rfl rfl
set_option maxRecDepth 100000 in
theorem kvL_32 : zKV RL 32 RX5 yX5_wake cX5_wake 3 (some .int) 1 := ⟨zG1.at 342 rfl rfl, zG1.at 343 rfl rfl, zG1.at 344 rfl rfl, zG1.at 71 rfl rfl, zG1.at 345 rfl rfl, by decide +kernel, by decide⟩
set_option maxRecDepth 100000 in
theorem kvX5_92 : zKV RX5 92 RX3 yX3_hasContender cX3_hasContender 2 (some .boolean) 1 := ⟨zG1.at 346 rfl rfl, zG1.at 347 rfl rfl, zG1.at 348 rfl rfl, zG1.at 73 rfl rfl, zG1.at 349 rfl rfl, by decide +kernel, by decide⟩
set_option maxRecDepth 100000 in
theorem knX5_95 : zW (.constant RX5 95 (-1000001)) := zW.at 350 rfl rfl
set_option maxRecDepth 100000 in
theorem kvX5_96 : zKV RX5 96 RX0 yX0_isBegun cX0_isBegun 1 (some .boolean) 0 := ⟨zG1.at 351 rfl rfl, zG1.at 352 rfl rfl, zG1.at 353 rfl rfl, zG1.at 74 rfl rfl, zG1.at 354 rfl rfl, by decide +kernel, by decide⟩
set_option maxRecDepth 100000 in
theorem kvX5_99 : zKV RX5 99 RX0 yX0_cell cX0_cell 4 (some .int) 2 := ⟨zG1.at 355 rfl rfl, zG1.at 356 rfl rfl, zG1.at 357 rfl rfl, zG1.at 74 rfl rfl, zG1.at 358 rfl rfl, by decide +kernel, by decide⟩
set_option maxRecDepth 100000 in
theorem kvX5_103 : zKV RX5 103 RX2 yX2_keep cX2_keep 3 none 1 := ⟨zG1.at 359 rfl rfl, zG1.at 360 rfl rfl, zG1.at 361 rfl rfl, zG1.at 75 rfl rfl, zG1.at 362 rfl rfl, by decide +kernel, by decide⟩
set_option maxRecDepth 100000 in
theorem kvX2_27 : zKV RX2 27 RX2 yX2_keptAt cX2_keptAt 2 (some (.object "HeadsOfRings$Election")) 1 := ⟨zG1.at 363 rfl rfl, zG1.at 365 rfl rfl, zG1.at 7 rfl rfl, zG1.at 75 rfl rfl, zG1.at 366 rfl rfl, by decide +kernel, by decide⟩
set_option maxRecDepth 100000 in
theorem kvX2_31 : zKV RX2 31 RX0 yX0_copyFrom cX0_copyFrom 2 none 1 := ⟨zG1.at 367 rfl rfl, zG1.at 368 rfl rfl, zG1.at 369 rfl rfl, zG1.at 74 rfl rfl, zG1.at 370 rfl rfl, by decide +kernel, by decide⟩
set_option maxRecDepth 100000 in
theorem acX0_38 : zW (.methodLink RX0 38 arraycopyName) := zW.at 371 rfl rfl
set_option maxRecDepth 100000 in
theorem kvX5_107 : zKV RX5 107 RX0 yX0_sentOf cX0_sentOf 2 (some .int) 1 := ⟨zG1.at 372 rfl rfl, zG1.at 373 rfl rfl, zG1.at 374 rfl rfl, zG1.at 74 rfl rfl, zG1.at 375 rfl rfl, by decide +kernel, by decide⟩
set_option maxRecDepth 100000 in
theorem ksX0_56 : zKS RX0 56 yX5_within cX5_within 3 (some .boolean) 3 := ⟨Or.inr ⟨"HeadsOfRings", zW.at 376 rfl rfl⟩, zG1.at 244 rfl rfl, zG1.at 71 rfl rfl, zG1.at 245 rfl rfl, by decide +kernel, by decide⟩
set_option maxRecDepth 100000 in
theorem kvX5_111 : zKV RX5 111 RX0 yX0_rouse cX0_rouse 2 none 1 := ⟨zG1.at 377 rfl rfl, zG1.at 378 rfl rfl, zG1.at 379 rfl rfl, zG1.at 74 rfl rfl, zG1.at 380 rfl rfl, by decide +kernel, by decide⟩
set_option maxRecDepth 100000 in
theorem kvX0_107 : zKV RX0 107 RX3 yX3_nameOf cX3_nameOf 2 (some .int) 1 := ⟨zG1.at 381 rfl rfl, zG1.at 382 rfl rfl, zG1.at 383 rfl rfl, zG1.at 73 rfl rfl, zG1.at 384 rfl rfl, by decide +kernel, by decide⟩
set_option maxRecDepth 100000 in
theorem kvX0_110 : zKV RX0 110 RX0 yX0_sendRight cX0_sendRight 4 none 3 := ⟨zG1.at 385 rfl rfl, zG1.at 387 rfl rfl, zG1.at 8 rfl rfl, zG1.at 74 rfl rfl, zG1.at 388 rfl rfl, by decide +kernel, by decide⟩
set_option maxRecDepth 100000 in
theorem kvX0_67 : zKV RX0 67 RX0 yX0_cell cX0_cell 4 (some .int) 2 := ⟨zG1.at 389 rfl rfl, zG1.at 356 rfl rfl, zG1.at 357 rfl rfl, zG1.at 74 rfl rfl, zG1.at 358 rfl rfl, by decide +kernel, by decide⟩
set_option maxRecDepth 100000 in
theorem ksX0_132 : zKS RX0 132 yX3_lineFrom cX3_lineFrom 2 (some .int) 2 := ⟨Or.inl (zG1.at 390 rfl rfl), zG1.at 391 rfl rfl, zG1.at 73 rfl rfl, zG1.at 392 rfl rfl, by decide +kernel, by decide⟩
set_option maxRecDepth 100000 in
theorem kvX0_135 : zKV RX0 135 RX0 yX0_send cX0_send 8 none 6 := ⟨zG1.at 393 rfl rfl, zG1.at 395 rfl rfl, zG1.at 9 rfl rfl, zG1.at 74 rfl rfl, zG1.at 396 rfl rfl, by decide +kernel, by decide⟩
set_option maxRecDepth 100000 in
theorem kvX0_113 : zKV RX0 113 RX0 yX0_sendProbes cX0_sendProbes 4 none 1 := ⟨zG1.at 397 rfl rfl, zG1.at 399 rfl rfl, zG1.at 10 rfl rfl, zG1.at 74 rfl rfl, zG1.at 400 rfl rfl, by decide +kernel, by decide⟩
set_option maxRecDepth 100000 in
theorem kvX0_117 : zKV RX0 117 RX0 yX0_draw cX0_draw 5 none 1 := ⟨zG1.at 401 rfl rfl, zG1.at 403 rfl rfl, zG1.at 11 rfl rfl, zG1.at 74 rfl rfl, zG1.at 404 rfl rfl, by decide +kernel, by decide⟩
set_option maxRecDepth 100000 in
theorem ksX0_81 : zKS RX0 81 yX5_following cX5_following 1 (some .int) 1 := ⟨Or.inr ⟨"HeadsOfRings", zW.at 405 rfl rfl⟩, zG1.at 406 rfl rfl, zG1.at 71 rfl rfl, zG1.at 407 rfl rfl, by decide +kernel, by decide⟩
set_option maxRecDepth 100000 in
theorem knX5_202 : zW (.constantLong RX5 202 (16807)) := zW.at 408 rfl rfl
set_option maxRecDepth 100000 in
theorem knX5_204 : zW (.constantLong RX5 204 (2147483647)) := zW.at 409 rfl rfl
set_option maxRecDepth 100000 in
theorem kvL_36 : zKV RL 36 RX5 yX5_deliver cX5_deliver 2 (some .int) 1 := ⟨zG1.at 410 rfl rfl, zG1.at 411 rfl rfl, zG1.at 412 rfl rfl, zG1.at 71 rfl rfl, zG1.at 413 rfl rfl, by decide +kernel, by decide⟩
set_option maxRecDepth 100000 in
theorem kvX5_115 : zKV RX5 115 RX3 yX3_hasLink cX3_hasLink 2 (some .boolean) 1 := ⟨zG1.at 414 rfl rfl, zG1.at 415 rfl rfl, zG1.at 416 rfl rfl, zG1.at 73 rfl rfl, zG1.at 417 rfl rfl, by decide +kernel, by decide⟩
set_option maxRecDepth 100000 in
theorem kvX5_118 : zKV RX5 118 RX0 yX0_isBusy cX0_isBusy 2 (some .boolean) 1 := ⟨zG1.at 418 rfl rfl, zG1.at 419 rfl rfl, zG1.at 420 rfl rfl, zG1.at 74 rfl rfl, zG1.at 421 rfl rfl, by decide +kernel, by decide⟩
set_option maxRecDepth 100000 in
theorem kvX0_74 : zKV RX0 74 RX0 yX0_placeOf cX0_placeOf 5 (some .int) 2 := ⟨zG1.at 422 rfl rfl, zG1.at 423 rfl rfl, zG1.at 424 rfl rfl, zG1.at 74 rfl rfl, zG1.at 425 rfl rfl, by decide +kernel, by decide⟩
set_option maxRecDepth 100000 in
theorem kvX0_71 : zKV RX0 71 RX0 yX0_letterCell cX0_letterCell 4 (some .int) 2 := ⟨zG1.at 426 rfl rfl, zG1.at 427 rfl rfl, zG1.at 428 rfl rfl, zG1.at 74 rfl rfl, zG1.at 429 rfl rfl, by decide +kernel, by decide⟩
set_option maxRecDepth 100000 in
theorem kvX5_121 : zKV RX5 121 RX0 yX0_deliverFrom cX0_deliverFrom 5 (some .int) 1 := ⟨zG1.at 430 rfl rfl, zG1.at 431 rfl rfl, zG1.at 432 rfl rfl, zG1.at 74 rfl rfl, zG1.at 433 rfl rfl, by decide +kernel, by decide⟩
set_option maxRecDepth 100000 in
theorem kvX0_120 : zKV RX0 120 RX0 yX0_takeInHand cX0_takeInHand 3 none 1 := ⟨zG1.at 434 rfl rfl, zG1.at 436 rfl rfl, zG1.at 12 rfl rfl, zG1.at 74 rfl rfl, zG1.at 437 rfl rfl, by decide +kernel, by decide⟩
set_option maxRecDepth 100000 in
theorem kvX0_123 : zKV RX0 123 RX3 yX3_receiverOf cX3_receiverOf 3 (some .int) 1 := ⟨zG1.at 438 rfl rfl, zG1.at 439 rfl rfl, zG1.at 440 rfl rfl, zG1.at 73 rfl rfl, zG1.at 441 rfl rfl, by decide +kernel, by decide⟩
set_option maxRecDepth 100000 in
theorem ksX3_32 : zKS RX3 32 yX3_directionOf cX3_directionOf 1 (some .int) 1 := ⟨Or.inl (zG1.at 442 rfl rfl), zG1.at 443 rfl rfl, zG1.at 73 rfl rfl, zG1.at 444 rfl rfl, by decide +kernel, by decide⟩
set_option maxRecDepth 100000 in
theorem kvX0_126 : zKV RX0 126 RX0 yX0_goesOn cX0_goesOn 2 (some .boolean) 1 := ⟨zG1.at 445 rfl rfl, zG1.at 447 rfl rfl, zG1.at 13 rfl rfl, zG1.at 74 rfl rfl, zG1.at 448 rfl rfl, by decide +kernel, by decide⟩
set_option maxRecDepth 100000 in
theorem kvX0_139 : zKV RX0 139 RX0 yX0_getsPast cX0_getsPast 3 (some .boolean) 1 := ⟨zG1.at 449 rfl rfl, zG1.at 451 rfl rfl, zG1.at 14 rfl rfl, zG1.at 74 rfl rfl, zG1.at 452 rfl rfl, by decide +kernel, by decide⟩
set_option maxRecDepth 100000 in
theorem kvX0_157 : zKV RX0 157 RX0 yX0_isRunning cX0_isRunning 2 (some .boolean) 1 := ⟨zG1.at 453 rfl rfl, zG1.at 455 rfl rfl, zG1.at 15 rfl rfl, zG1.at 74 rfl rfl, zG1.at 456 rfl rfl, by decide +kernel, by decide⟩
set_option maxRecDepth 100000 in
theorem kvX0_160 : zKV RX0 160 RX0 yX0_becomeHead cX0_becomeHead 3 none 2 := ⟨zG1.at 457 rfl rfl, zG1.at 459 rfl rfl, zG1.at 16 rfl rfl, zG1.at 74 rfl rfl, zG1.at 460 rfl rfl, by decide +kernel, by decide⟩
set_option maxRecDepth 100000 in
theorem kvX0_142 : zKV RX0 142 RX0 yX0_probeGoesOn cX0_probeGoesOn 3 (some .boolean) 1 := ⟨zG1.at 461 rfl rfl, zG1.at 463 rfl rfl, zG1.at 17 rfl rfl, zG1.at 74 rfl rfl, zG1.at 464 rfl rfl, by decide +kernel, by decide⟩
set_option maxRecDepth 100000 in
theorem ksX0_129 : zKS RX0 129 yX3_directionOf cX3_directionOf 1 (some .int) 1 := ⟨Or.inl (zG1.at 465 rfl rfl), zG1.at 443 rfl rfl, zG1.at 73 rfl rfl, zG1.at 444 rfl rfl, by decide +kernel, by decide⟩
set_option maxRecDepth 100000 in
theorem kvX0_145 : zKV RX0 145 RX0 yX0_replyGoesOn cX0_replyGoesOn 2 (some .boolean) 1 := ⟨zG1.at 466 rfl rfl, zG1.at 468 rfl rfl, zG1.at 18 rfl rfl, zG1.at 74 rfl rfl, zG1.at 469 rfl rfl, by decide +kernel, by decide⟩
set_option maxRecDepth 100000 in
theorem kvX0_148 : zKV RX0 148 RX0 yX0_markGoesOn cX0_markGoesOn 3 (some .boolean) 1 := ⟨zG1.at 470 rfl rfl, zG1.at 472 rfl rfl, zG1.at 19 rfl rfl, zG1.at 74 rfl rfl, zG1.at 473 rfl rfl, by decide +kernel, by decide⟩
set_option maxRecDepth 100000 in
theorem kvX0_164 : zKV RX0 164 RX0 yX0_takeFirst cX0_takeFirst 3 none 1 := ⟨zG1.at 474 rfl rfl, zG1.at 476 rfl rfl, zG1.at 20 rfl rfl, zG1.at 74 rfl rfl, zG1.at 477 rfl rfl, by decide +kernel, by decide⟩
set_option maxRecDepth 100000 in
theorem kvX0_167 : zKV RX0 167 RX0 yX0_takeSecond cX0_takeSecond 3 none 1 := ⟨zG1.at 478 rfl rfl, zG1.at 480 rfl rfl, zG1.at 21 rfl rfl, zG1.at 74 rfl rfl, zG1.at 481 rfl rfl, by decide +kernel, by decide⟩
set_option maxRecDepth 100000 in
theorem kvX0_151 : zKV RX0 151 RX0 yX0_tokenGoesOn cX0_tokenGoesOn 3 (some .boolean) 1 := ⟨zG1.at 482 rfl rfl, zG1.at 484 rfl rfl, zG1.at 22 rfl rfl, zG1.at 74 rfl rfl, zG1.at 485 rfl rfl, by decide +kernel, by decide⟩
set_option maxRecDepth 100000 in
theorem kvX0_170 : zKV RX0 170 RX0 yX0_tokenGetsPast cX0_tokenGetsPast 4 (some .boolean) 1 := ⟨zG1.at 486 rfl rfl, zG1.at 488 rfl rfl, zG1.at 23 rfl rfl, zG1.at 74 rfl rfl, zG1.at 489 rfl rfl, by decide +kernel, by decide⟩
set_option maxRecDepth 100000 in
theorem kvX0_173 : zKV RX0 173 RX0 yX0_tokenComesHome cX0_tokenComesHome 2 (some .boolean) 1 := ⟨zG1.at 490 rfl rfl, zG1.at 492 rfl rfl, zG1.at 24 rfl rfl, zG1.at 74 rfl rfl, zG1.at 493 rfl rfl, by decide +kernel, by decide⟩
set_option maxRecDepth 100000 in
theorem kvX0_154 : zKV RX0 154 RX0 yX0_crownGoesOn cX0_crownGoesOn 2 (some .boolean) 1 := ⟨zG1.at 494 rfl rfl, zG1.at 496 rfl rfl, zG1.at 25 rfl rfl, zG1.at 74 rfl rfl, zG1.at 497 rfl rfl, by decide +kernel, by decide⟩
set_option maxRecDepth 100000 in
theorem kvL_40 : zKV RL 40 RX5 yX5_run cX5_run 4 (some .int) 3 := ⟨zG1.at 498 rfl rfl, zG1.at 499 rfl rfl, zG1.at 500 rfl rfl, zG1.at 71 rfl rfl, zG1.at 501 rfl rfl, by decide +kernel, by decide⟩
set_option maxRecDepth 100000 in
theorem kvX5_127 : zKV RX5 127 RX0 yX0_deliverMany cX0_deliverMany 7 (some .int) 3 := ⟨zG1.at 502 rfl rfl, zG1.at 503 rfl rfl, zG1.at 504 rfl rfl, zG1.at 74 rfl rfl, zG1.at 505 rfl rfl, by decide +kernel, by decide⟩
set_option maxRecDepth 100000 in
theorem kvX0_84 : zKV RX0 84 RX0 yX0_chosenLine cX0_chosenLine 4 (some .int) 3 := ⟨zG1.at 506 rfl rfl, zG1.at 508 rfl rfl, zG1.at 26 rfl rfl, zG1.at 74 rfl rfl, zG1.at 509 rfl rfl, by decide +kernel, by decide⟩
set_option maxRecDepth 100000 in
theorem kvX0_91 : zKV RX0 91 RX0 yX0_leastBusyAfter cX0_leastBusyAfter 3 (some .int) 1 := ⟨zG1.at 510 rfl rfl, zG1.at 512 rfl rfl, zG1.at 27 rfl rfl, zG1.at 74 rfl rfl, zG1.at 513 rfl rfl, by decide +kernel, by decide⟩
set_option maxRecDepth 100000 in
theorem kvX0_77 : zKV RX0 77 RX0 yX0_isBusy cX0_isBusy 2 (some .boolean) 1 := ⟨zG1.at 514 rfl rfl, zG1.at 419 rfl rfl, zG1.at 420 rfl rfl, zG1.at 74 rfl rfl, zG1.at 421 rfl rfl, by decide +kernel, by decide⟩
set_option maxRecDepth 100000 in
theorem kvX0_94 : zKV RX0 94 RX0 yX0_greatestBusy cX0_greatestBusy 2 (some .int) 0 := ⟨zG1.at 515 rfl rfl, zG1.at 517 rfl rfl, zG1.at 28 rfl rfl, zG1.at 74 rfl rfl, zG1.at 518 rfl rfl, by decide +kernel, by decide⟩
set_option maxRecDepth 100000 in
theorem kvX0_98 : zKV RX0 98 RX0 yX0_nextBusyRound cX0_nextBusyRound 3 (some .int) 1 := ⟨zG1.at 519 rfl rfl, zG1.at 521 rfl rfl, zG1.at 29 rfl rfl, zG1.at 74 rfl rfl, zG1.at 522 rfl rfl, by decide +kernel, by decide⟩
set_option maxRecDepth 100000 in
theorem kvX0_101 : zKV RX0 101 RX0 yX0_busyByNumber cX0_busyByNumber 5 (some .int) 1 := ⟨zG1.at 523 rfl rfl, zG1.at 525 rfl rfl, zG1.at 30 rfl rfl, zG1.at 74 rfl rfl, zG1.at 526 rfl rfl, by decide +kernel, by decide⟩
set_option maxRecDepth 100000 in
theorem kvX0_104 : zKV RX0 104 RX0 yX0_busyLinks cX0_busyLinks 3 (some .int) 0 := ⟨zG1.at 527 rfl rfl, zG1.at 528 rfl rfl, zG1.at 529 rfl rfl, zG1.at 74 rfl rfl, zG1.at 530 rfl rfl, by decide +kernel, by decide⟩
set_option maxRecDepth 100000 in
theorem kvX0_88 : zKV RX0 88 RX0 yX0_deliverFrom cX0_deliverFrom 5 (some .int) 1 := ⟨zG1.at 531 rfl rfl, zG1.at 431 rfl rfl, zG1.at 432 rfl rfl, zG1.at 74 rfl rfl, zG1.at 433 rfl rfl, by decide +kernel, by decide⟩
set_option maxRecDepth 100000 in
theorem kvL_44 : zKV RL 44 RX5 yX5_undo cX5_undo 1 (some .int) 0 := ⟨zG1.at 532 rfl rfl, zG1.at 533 rfl rfl, zG1.at 534 rfl rfl, zG1.at 71 rfl rfl, zG1.at 535 rfl rfl, by decide +kernel, by decide⟩
set_option maxRecDepth 100000 in
theorem kvX5_131 : zKV RX5 131 RX2 yX2_giveBack cX2_giveBack 4 (some .boolean) 1 := ⟨zG1.at 536 rfl rfl, zG1.at 537 rfl rfl, zG1.at 538 rfl rfl, zG1.at 75 rfl rfl, zG1.at 539 rfl rfl, by decide +kernel, by decide⟩
set_option maxRecDepth 100000 in
theorem kvL_48 : zKV RL 48 RX5 yX5_contender cX5_contender 3 (some .int) 2 := ⟨zG1.at 540 rfl rfl, zG1.at 541 rfl rfl, zG1.at 542 rfl rfl, zG1.at 71 rfl rfl, zG1.at 543 rfl rfl, by decide +kernel, by decide⟩
set_option maxRecDepth 100000 in
theorem kvX5_136 : zKV RX5 136 RX3 yX3_nameOf cX3_nameOf 2 (some .int) 1 := ⟨zG1.at 544 rfl rfl, zG1.at 382 rfl rfl, zG1.at 383 rfl rfl, zG1.at 73 rfl rfl, zG1.at 384 rfl rfl, by decide +kernel, by decide⟩
set_option maxRecDepth 100000 in
theorem kvL_53 : zKV RL 53 RX5 yX5_link cX5_link 2 (some .int) 1 := ⟨zG1.at 545 rfl rfl, zG1.at 546 rfl rfl, zG1.at 547 rfl rfl, zG1.at 71 rfl rfl, zG1.at 548 rfl rfl, by decide +kernel, by decide⟩
set_option maxRecDepth 100000 in
theorem kvX5_139 : zKV RX5 139 RX0 yX0_lettersOn cX0_lettersOn 4 (some .int) 1 := ⟨zG1.at 549 rfl rfl, zG1.at 550 rfl rfl, zG1.at 551 rfl rfl, zG1.at 74 rfl rfl, zG1.at 552 rfl rfl, by decide +kernel, by decide⟩
set_option maxRecDepth 100000 in
theorem kvL_57 : zKV RL 57 RX5 yX5_letter cX5_letter 5 (some .int) 3 := ⟨zG1.at 553 rfl rfl, zG1.at 554 rfl rfl, zG1.at 555 rfl rfl, zG1.at 71 rfl rfl, zG1.at 556 rfl rfl, by decide +kernel, by decide⟩
set_option maxRecDepth 100000 in
theorem kvX5_142 : zKV RX5 142 RX0 yX0_placeOf cX0_placeOf 5 (some .int) 2 := ⟨zG1.at 557 rfl rfl, zG1.at 423 rfl rfl, zG1.at 424 rfl rfl, zG1.at 74 rfl rfl, zG1.at 425 rfl rfl, by decide +kernel, by decide⟩
set_option maxRecDepth 100000 in
theorem kvX5_145 : zKV RX5 145 RX0 yX0_letterCell cX0_letterCell 4 (some .int) 2 := ⟨zG1.at 558 rfl rfl, zG1.at 427 rfl rfl, zG1.at 428 rfl rfl, zG1.at 74 rfl rfl, zG1.at 429 rfl rfl, by decide +kernel, by decide⟩
set_option maxRecDepth 100000 in
theorem kvL_61 : zKV RL 61 RX5 yX5_sent cX5_sent 2 (some .int) 1 := ⟨zG1.at 559 rfl rfl, zG1.at 560 rfl rfl, zG1.at 561 rfl rfl, zG1.at 71 rfl rfl, zG1.at 562 rfl rfl, by decide +kernel, by decide⟩
set_option maxRecDepth 100000 in
theorem kvL_65 : zKV RL 65 RX5 yX5_would cX5_would 5 (some .int) 3 := ⟨zG1.at 563 rfl rfl, zG1.at 564 rfl rfl, zG1.at 565 rfl rfl, zG1.at 71 rfl rfl, zG1.at 566 rfl rfl, by decide +kernel, by decide⟩
set_option maxRecDepth 100000 in
theorem kvX5_148 : zKV RX5 148 RX0 yX0_copyFrom cX0_copyFrom 2 none 1 := ⟨zG1.at 567 rfl rfl, zG1.at 368 rfl rfl, zG1.at 369 rfl rfl, zG1.at 74 rfl rfl, zG1.at 370 rfl rfl, by decide +kernel, by decide⟩
set_option maxRecDepth 100000 in
theorem kvX5_150 : zKV RX5 150 RX0 yX0_head cX0_head 2 (some .int) 0 := ⟨zG1.at 568 rfl rfl, zG1.at 569 rfl rfl, zG1.at 570 rfl rfl, zG1.at 74 rfl rfl, zG1.at 571 rfl rfl, by decide +kernel, by decide⟩
set_option maxRecDepth 100000 in
theorem kvX5_154 : zKV RX5 154 RX0 yX0_inState cX0_inState 5 (some .int) 1 := ⟨zG1.at 572 rfl rfl, zG1.at 573 rfl rfl, zG1.at 574 rfl rfl, zG1.at 74 rfl rfl, zG1.at 575 rfl rfl, by decide +kernel, by decide⟩
set_option maxRecDepth 100000 in
theorem kvX0_60 : zKV RX0 60 RX0 yX0_isBegun cX0_isBegun 1 (some .boolean) 0 := ⟨zG1.at 576 rfl rfl, zG1.at 352 rfl rfl, zG1.at 353 rfl rfl, zG1.at 74 rfl rfl, zG1.at 354 rfl rfl, by decide +kernel, by decide⟩
set_option maxRecDepth 100000 in
theorem kvL_69 : zKV RL 69 RX5 yX5_foresee cX5_foresee 3 (some .int) 2 := ⟨zG1.at 577 rfl rfl, zG1.at 578 rfl rfl, zG1.at 579 rfl rfl, zG1.at 71 rfl rfl, zG1.at 580 rfl rfl, by decide +kernel, by decide⟩
set_option maxRecDepth 100000 in
theorem kvX5_157 : zKV RX5 157 RX0 yX0_busyLinks cX0_busyLinks 3 (some .int) 0 := ⟨zG1.at 581 rfl rfl, zG1.at 528 rfl rfl, zG1.at 529 rfl rfl, zG1.at 74 rfl rfl, zG1.at 530 rfl rfl, by decide +kernel, by decide⟩
set_option maxRecDepth 100000 in
theorem kvX5_160 : zKV RX5 160 RX1 yX1_reset cX1_reset 2 none 1 := ⟨zG1.at 582 rfl rfl, zG1.at 583 rfl rfl, zG1.at 584 rfl rfl, zG1.at 76 rfl rfl, zG1.at 585 rfl rfl, by decide +kernel, by decide⟩
set_option maxRecDepth 100000 in
theorem kvX1_36 : zKV RX1 36 RX0 yX0_sentOf cX0_sentOf 2 (some .int) 1 := ⟨zG1.at 586 rfl rfl, zG1.at 373 rfl rfl, zG1.at 374 rfl rfl, zG1.at 74 rfl rfl, zG1.at 375 rfl rfl, by decide +kernel, by decide⟩
set_option maxRecDepth 100000 in
theorem ksX5_163 : zKS RX5 163 yX1_explore cX1_explore 5 none 3 := ⟨Or.inr ⟨"HeadsOfRings", zW.at 587 rfl rfl⟩, zG1.at 588 rfl rfl, zG1.at 76 rfl rfl, zG1.at 589 rfl rfl, by decide +kernel, by decide⟩
set_option maxRecDepth 100000 in
theorem kvX1_43 : zKV RX1 43 RX1 yX1_note cX1_note 3 none 1 := ⟨zG1.at 590 rfl rfl, zG1.at 592 rfl rfl, zG1.at 31 rfl rfl, zG1.at 76 rfl rfl, zG1.at 593 rfl rfl, by decide +kernel, by decide⟩
set_option maxRecDepth 100000 in
theorem mmX1_61 : zW (.methodLink RX1 61 Lib.Math.min.name) := zW.at 594 rfl rfl
set_option maxRecDepth 100000 in
theorem mmX1_67 : zW (.methodLink RX1 67 Lib.Math.max.name) := zW.at 597 rfl rfl
set_option maxRecDepth 100000 in
theorem kvX1_70 : zKV RX1 70 RX0 yX0_head cX0_head 2 (some .int) 0 := ⟨zG1.at 600 rfl rfl, zG1.at 569 rfl rfl, zG1.at 570 rfl rfl, zG1.at 74 rfl rfl, zG1.at 571 rfl rfl, by decide +kernel, by decide⟩
set_option maxRecDepth 100000 in
theorem kvX1_47 : zKV RX1 47 RX0 yX0_isBusy cX0_isBusy 2 (some .boolean) 1 := ⟨zG1.at 601 rfl rfl, zG1.at 419 rfl rfl, zG1.at 420 rfl rfl, zG1.at 74 rfl rfl, zG1.at 421 rfl rfl, by decide +kernel, by decide⟩
set_option maxRecDepth 100000 in
theorem kvX1_51 : zKV RX1 51 RX0 yX0_copyFrom cX0_copyFrom 2 none 1 := ⟨zG1.at 602 rfl rfl, zG1.at 368 rfl rfl, zG1.at 369 rfl rfl, zG1.at 74 rfl rfl, zG1.at 370 rfl rfl, by decide +kernel, by decide⟩
set_option maxRecDepth 100000 in
theorem kvX1_54 : zKV RX1 54 RX0 yX0_deliverFrom cX0_deliverFrom 5 (some .int) 1 := ⟨zG1.at 603 rfl rfl, zG1.at 431 rfl rfl, zG1.at 432 rfl rfl, zG1.at 74 rfl rfl, zG1.at 433 rfl rfl, by decide +kernel, by decide⟩
set_option maxRecDepth 100000 in
theorem ksX1_57 : zKS RX1 57 yX1_explore cX1_explore 5 none 3 := ⟨Or.inl (zG1.at 604 rfl rfl), zG1.at 588 rfl rfl, zG1.at 76 rfl rfl, zG1.at 589 rfl rfl, by decide +kernel, by decide⟩
set_option maxRecDepth 100000 in
theorem kvL_73 : zKV RL 73 RX5 yX5_sit cX5_sit 3 (some .int) 1 := ⟨zG1.at 605 rfl rfl, zG1.at 606 rfl rfl, zG1.at 607 rfl rfl, zG1.at 71 rfl rfl, zG1.at 608 rfl rfl, by decide +kernel, by decide⟩
set_option maxRecDepth 100000 in
theorem ksX5_179 : zKS RX5 179 yX5_sixtiethsOfMean cX5_sixtiethsOfMean 4 (some .long) 1 := ⟨Or.inl (zG1.at 609 rfl rfl), zG1.at 610 rfl rfl, zG1.at 71 rfl rfl, zG1.at 611 rfl rfl, by decide +kernel, by decide⟩
set_option maxRecDepth 100000 in
theorem knX5_183 : zW (.constantLong RX5 183 (60)) := zW.at 612 rfl rfl
set_option maxRecDepth 100000 in
theorem ksX5_185 : zKS RX5 185 yX5_lowest cX5_lowest 9 (some .long) 3 := ⟨Or.inl (zG1.at 613 rfl rfl), zG1.at 614 rfl rfl, zG1.at 71 rfl rfl, zG1.at 615 rfl rfl, by decide +kernel, by decide⟩
set_option maxRecDepth 100000 in
theorem ksX5_213 : zKS RX5 213 yX5_commonDivisor cX5_commonDivisor 11 (some .long) 2 := ⟨Or.inl (zG1.at 616 rfl rfl), zG1.at 617 rfl rfl, zG1.at 71 rfl rfl, zG1.at 618 rfl rfl, by decide +kernel, by decide⟩
set_option maxRecDepth 100000 in
theorem kvL_77 : zKV RL 77 RX5 yX5_chance cX5_chance 5 (some .long) 4 := ⟨zG1.at 619 rfl rfl, zG1.at 620 rfl rfl, zG1.at 621 rfl rfl, zG1.at 71 rfl rfl, zG1.at 622 rfl rfl, by decide +kernel, by decide⟩
set_option maxRecDepth 100000 in
theorem knX5_189 : zW (.constantLong RX5 189 (-1000002)) := zW.at 623 rfl rfl
set_option maxRecDepth 100000 in
theorem ksX5_191 : zKS RX5 191 yX5_waysToOne cX5_waysToOne 10 (some .long) 3 := ⟨Or.inl (zG1.at 624 rfl rfl), zG1.at 625 rfl rfl, zG1.at 71 rfl rfl, zG1.at 626 rfl rfl, by decide +kernel, by decide⟩
set_option maxRecDepth 100000 in
theorem ksX5_206 : zKS RX5 206 yX5_waysToLeave cX5_waysToLeave 6 (some .long) 3 := ⟨Or.inl (zG1.at 627 rfl rfl), zG1.at 628 rfl rfl, zG1.at 71 rfl rfl, zG1.at 629 rfl rfl, by decide +kernel, by decide⟩
set_option maxRecDepth 100000 in
theorem ksX5_195 : zKS RX5 195 yX5_power cX5_power 6 (some .long) 2 := ⟨Or.inl (zG1.at 630 rfl rfl), zG1.at 631 rfl rfl, zG1.at 71 rfl rfl, zG1.at 632 rfl rfl, by decide +kernel, by decide⟩
set_option maxRecDepth 100000 in
theorem ksX5_209 : zKS RX5 209 yX5_choices cX5_choices 5 (some .long) 2 := ⟨Or.inl (zG1.at 633 rfl rfl), zG1.at 634 rfl rfl, zG1.at 71 rfl rfl, zG1.at 635 rfl rfl, by decide +kernel, by decide⟩
set_option maxRecDepth 100000 in
theorem kvL_82 : zKV RL 82 RX5 yX5_count cX5_count 2 (some .int) 1 := ⟨zG1.at 637 rfl rfl, zG1.at 638 rfl rfl, zG1.at 639 rfl rfl, zG1.at 71 rfl rfl, zG1.at 640 rfl rfl, by decide +kernel, by decide⟩
set_option maxRecDepth 100000 in
theorem clL_10 : zW (.classLink RL 10 "HeadsOfRingsModel") := zW.at 641 rfl rfl
set_option maxRecDepth 100000 in
theorem kiL_12 : zKI RL 12 yX6_init cX6_init 1 0 := ⟨Or.inl (zG1.at 643 rfl rfl), zG1.at 644 rfl rfl, zG1.at 77 rfl rfl, zG1.at 645 rfl rfl, rfl, by decide +kernel, by decide⟩
set_option maxRecDepth 100000 in
theorem oiX6_1 : zW (.methodLink RX6 1 objectInit) := zW.at 646 rfl rfl
set_option maxRecDepth 100000 in
theorem fdX6_41 : zFd RX6 41 6 0 := ⟨RX6, TX6, 31, zc6, by decide, rfl, Or.inl (zW.at 647 rfl rfl)⟩
set_option maxRecDepth 100000 in
theorem fpX6_41 : zFp RX6 41 6 0 (.int) false := ⟨RX6, TX6, 31, zc6, by decide, rfl, Or.inr ⟨rfl, Or.inl (zW.at 647 rfl rfl)⟩, rfl, by decide +kernel⟩
set_option maxRecDepth 100000 in
theorem fdX6_7 : zFd RX6 7 6 1 := ⟨RX6, TX6, 31, zc6, by decide, rfl, Or.inl (zW.at 648 rfl rfl)⟩
set_option maxRecDepth 100000 in
theorem fpX6_7 : zFp RX6 7 6 1 (.array .int) true := ⟨RX6, TX6, 31, zc6, by decide, rfl, Or.inl ⟨rfl, rfl, zW.at 648 rfl rfl⟩, rfl, by decide +kernel⟩
set_option maxRecDepth 100000 in
theorem fdX6_13 : zFd RX6 13 6 2 := ⟨RX6, TX6, 31, zc6, by decide, rfl, Or.inl (zW.at 649 rfl rfl)⟩
set_option maxRecDepth 100000 in
theorem fpX6_13 : zFp RX6 13 6 2 (.array .int) true := ⟨RX6, TX6, 31, zc6, by decide, rfl, Or.inl ⟨rfl, rfl, zW.at 649 rfl rfl⟩, rfl, by decide +kernel⟩
set_option maxRecDepth 100000 in
theorem fdX6_16 : zFd RX6 16 6 3 := ⟨RX6, TX6, 31, zc6, by decide, rfl, Or.inl (zW.at 650 rfl rfl)⟩
set_option maxRecDepth 100000 in
theorem fpX6_16 : zFp RX6 16 6 3 (.array .int) true := ⟨RX6, TX6, 31, zc6, by decide, rfl, Or.inl ⟨rfl, rfl, zW.at 650 rfl rfl⟩, rfl, by decide +kernel⟩
set_option maxRecDepth 100000 in
theorem fdX6_153 : zFd RX6 153 6 4 := ⟨RX6, TX6, 31, zc6, by decide, rfl, Or.inl (zW.at 651 rfl rfl)⟩
set_option maxRecDepth 100000 in
theorem fpX6_153 : zFp RX6 153 6 4 (.int) false := ⟨RX6, TX6, 31, zc6, by decide, rfl, Or.inr ⟨rfl, Or.inl (zW.at 651 rfl rfl)⟩, rfl, by decide +kernel⟩
set_option maxRecDepth 100000 in
theorem fdX6_85 : zFd RX6 85 6 5 := ⟨RX6, TX6, 31, zc6, by decide, rfl, Or.inl (zW.at 652 rfl rfl)⟩
set_option maxRecDepth 100000 in
theorem fpX6_85 : zFp RX6 85 6 5 (.int) false := ⟨RX6, TX6, 31, zc6, by decide, rfl, Or.inr ⟨rfl, Or.inl (zW.at 652 rfl rfl)⟩, rfl, by decide +kernel⟩
set_option maxRecDepth 100000 in
theorem fdX6_88 : zFd RX6 88 6 6 := ⟨RX6, TX6, 31, zc6, by decide, rfl, Or.inl (zW.at 653 rfl rfl)⟩
set_option maxRecDepth 100000 in
theorem fpX6_88 : zFp RX6 88 6 6 (.int) false := ⟨RX6, TX6, 31, zc6, by decide, rfl, Or.inr ⟨rfl, Or.inl (zW.at 653 rfl rfl)⟩, rfl, by decide +kernel⟩
set_option maxRecDepth 100000 in
theorem fdX6_91 : zFd RX6 91 6 7 := ⟨RX6, TX6, 31, zc6, by decide, rfl, Or.inl (zW.at 654 rfl rfl)⟩
set_option maxRecDepth 100000 in
theorem fpX6_91 : zFp RX6 91 6 7 (.int) false := ⟨RX6, TX6, 31, zc6, by decide, rfl, Or.inr ⟨rfl, Or.inl (zW.at 654 rfl rfl)⟩, rfl, by decide +kernel⟩
set_option maxRecDepth 100000 in
theorem fdX6_94 : zFd RX6 94 6 8 := ⟨RX6, TX6, 31, zc6, by decide, rfl, Or.inl (zW.at 655 rfl rfl)⟩
set_option maxRecDepth 100000 in
theorem fpX6_94 : zFp RX6 94 6 8 (.int) false := ⟨RX6, TX6, 31, zc6, by decide, rfl, Or.inr ⟨rfl, Or.inl (zW.at 655 rfl rfl)⟩, rfl, by decide +kernel⟩
set_option maxRecDepth 100000 in
theorem fdX6_97 : zFd RX6 97 6 9 := ⟨RX6, TX6, 31, zc6, by decide, rfl, Or.inl (zW.at 656 rfl rfl)⟩
set_option maxRecDepth 100000 in
theorem fpX6_97 : zFp RX6 97 6 9 (.int) false := ⟨RX6, TX6, 31, zc6, by decide, rfl, Or.inr ⟨rfl, Or.inl (zW.at 656 rfl rfl)⟩, rfl, by decide +kernel⟩
set_option maxRecDepth 100000 in
theorem fdX6_82 : zFd RX6 82 6 10 := ⟨RX6, TX6, 31, zc6, by decide, rfl, Or.inl (zW.at 657 rfl rfl)⟩
set_option maxRecDepth 100000 in
theorem fpX6_82 : zFp RX6 82 6 10 (.int) false := ⟨RX6, TX6, 31, zc6, by decide, rfl, Or.inr ⟨rfl, Or.inl (zW.at 657 rfl rfl)⟩, rfl, by decide +kernel⟩
set_option maxRecDepth 100000 in
theorem fdX6_108 : zFd RX6 108 6 11 := ⟨RX6, TX6, 31, zc6, by decide, rfl, Or.inl (zW.at 658 rfl rfl)⟩
set_option maxRecDepth 100000 in
theorem fpX6_108 : zFp RX6 108 6 11 (.int) false := ⟨RX6, TX6, 31, zc6, by decide, rfl, Or.inr ⟨rfl, Or.inl (zW.at 658 rfl rfl)⟩, rfl, by decide +kernel⟩
set_option maxRecDepth 100000 in
theorem fdX6_143 : zFd RX6 143 6 12 := ⟨RX6, TX6, 31, zc6, by decide, rfl, Or.inl (zW.at 659 rfl rfl)⟩
set_option maxRecDepth 100000 in
theorem fpX6_143 : zFp RX6 143 6 12 (.long) false := ⟨RX6, TX6, 31, zc6, by decide, rfl, Or.inr ⟨rfl, Or.inl (zW.at 659 rfl rfl)⟩, rfl, by decide +kernel⟩
set_option maxRecDepth 100000 in
theorem fdX6_19 : zFd RX6 19 6 13 := ⟨RX6, TX6, 31, zc6, by decide, rfl, Or.inl (zW.at 660 rfl rfl)⟩
set_option maxRecDepth 100000 in
theorem fpX6_19 : zFp RX6 19 6 13 (.array .int) true := ⟨RX6, TX6, 31, zc6, by decide, rfl, Or.inl ⟨rfl, rfl, zW.at 660 rfl rfl⟩, rfl, by decide +kernel⟩
set_option maxRecDepth 100000 in
theorem fdX6_162 : zFd RX6 162 6 14 := ⟨RX6, TX6, 31, zc6, by decide, rfl, Or.inl (zW.at 661 rfl rfl)⟩
set_option maxRecDepth 100000 in
theorem fpX6_162 : zFp RX6 162 6 14 (.int) false := ⟨RX6, TX6, 31, zc6, by decide, rfl, Or.inr ⟨rfl, Or.inl (zW.at 661 rfl rfl)⟩, rfl, by decide +kernel⟩
set_option maxRecDepth 100000 in
theorem fdX6_199 : zFd RX6 199 6 15 := ⟨RX6, TX6, 31, zc6, by decide, rfl, Or.inl (zW.at 662 rfl rfl)⟩
set_option maxRecDepth 100000 in
theorem fpX6_199 : zFp RX6 199 6 15 (.int) false := ⟨RX6, TX6, 31, zc6, by decide, rfl, Or.inr ⟨rfl, Or.inl (zW.at 662 rfl rfl)⟩, rfl, by decide +kernel⟩
set_option maxRecDepth 100000 in
theorem fdX6_170 : zFd RX6 170 6 16 := ⟨RX6, TX6, 31, zc6, by decide, rfl, Or.inl (zW.at 663 rfl rfl)⟩
set_option maxRecDepth 100000 in
theorem fpX6_170 : zFp RX6 170 6 16 (.int) false := ⟨RX6, TX6, 31, zc6, by decide, rfl, Or.inr ⟨rfl, Or.inl (zW.at 663 rfl rfl)⟩, rfl, by decide +kernel⟩
set_option maxRecDepth 100000 in
theorem fdX6_173 : zFd RX6 173 6 17 := ⟨RX6, TX6, 31, zc6, by decide, rfl, Or.inl (zW.at 664 rfl rfl)⟩
set_option maxRecDepth 100000 in
theorem fpX6_173 : zFp RX6 173 6 17 (.int) false := ⟨RX6, TX6, 31, zc6, by decide, rfl, Or.inr ⟨rfl, Or.inl (zW.at 664 rfl rfl)⟩, rfl, by decide +kernel⟩
set_option maxRecDepth 100000 in
theorem fdX6_179 : zFd RX6 179 6 18 := ⟨RX6, TX6, 31, zc6, by decide, rfl, Or.inl (zW.at 665 rfl rfl)⟩
set_option maxRecDepth 100000 in
theorem fpX6_179 : zFp RX6 179 6 18 (.int) false := ⟨RX6, TX6, 31, zc6, by decide, rfl, Or.inr ⟨rfl, Or.inl (zW.at 665 rfl rfl)⟩, rfl, by decide +kernel⟩
set_option maxRecDepth 100000 in
theorem fdX6_182 : zFd RX6 182 6 19 := ⟨RX6, TX6, 31, zc6, by decide, rfl, Or.inl (zW.at 666 rfl rfl)⟩
set_option maxRecDepth 100000 in
theorem fpX6_182 : zFp RX6 182 6 19 (.int) false := ⟨RX6, TX6, 31, zc6, by decide, rfl, Or.inr ⟨rfl, Or.inl (zW.at 666 rfl rfl)⟩, rfl, by decide +kernel⟩
set_option maxRecDepth 100000 in
theorem fdX6_176 : zFd RX6 176 6 20 := ⟨RX6, TX6, 31, zc6, by decide, rfl, Or.inl (zW.at 667 rfl rfl)⟩
set_option maxRecDepth 100000 in
theorem fpX6_176 : zFp RX6 176 6 20 (.int) false := ⟨RX6, TX6, 31, zc6, by decide, rfl, Or.inr ⟨rfl, Or.inl (zW.at 667 rfl rfl)⟩, rfl, by decide +kernel⟩
set_option maxRecDepth 100000 in
theorem fdX6_22 : zFd RX6 22 6 21 := ⟨RX6, TX6, 31, zc6, by decide, rfl, Or.inl (zW.at 668 rfl rfl)⟩
set_option maxRecDepth 100000 in
theorem fpX6_22 : zFp RX6 22 6 21 (.array .int) true := ⟨RX6, TX6, 31, zc6, by decide, rfl, Or.inl ⟨rfl, rfl, zW.at 668 rfl rfl⟩, rfl, by decide +kernel⟩
set_option maxRecDepth 100000 in
theorem fdX6_25 : zFd RX6 25 6 22 := ⟨RX6, TX6, 31, zc6, by decide, rfl, Or.inl (zW.at 669 rfl rfl)⟩
set_option maxRecDepth 100000 in
theorem fpX6_25 : zFp RX6 25 6 22 (.array .int) true := ⟨RX6, TX6, 31, zc6, by decide, rfl, Or.inl ⟨rfl, rfl, zW.at 669 rfl rfl⟩, rfl, by decide +kernel⟩
set_option maxRecDepth 100000 in
theorem fdX6_251 : zFd RX6 251 6 23 := ⟨RX6, TX6, 31, zc6, by decide, rfl, Or.inl (zW.at 670 rfl rfl)⟩
set_option maxRecDepth 100000 in
theorem fpX6_251 : zFp RX6 251 6 23 (.int) false := ⟨RX6, TX6, 31, zc6, by decide, rfl, Or.inr ⟨rfl, Or.inl (zW.at 670 rfl rfl)⟩, rfl, by decide +kernel⟩
set_option maxRecDepth 100000 in
theorem fdX6_254 : zFd RX6 254 6 24 := ⟨RX6, TX6, 31, zc6, by decide, rfl, Or.inl (zW.at 671 rfl rfl)⟩
set_option maxRecDepth 100000 in
theorem fpX6_254 : zFp RX6 254 6 24 (.int) false := ⟨RX6, TX6, 31, zc6, by decide, rfl, Or.inr ⟨rfl, Or.inl (zW.at 671 rfl rfl)⟩, rfl, by decide +kernel⟩
set_option maxRecDepth 100000 in
theorem fdX6_257 : zFd RX6 257 6 25 := ⟨RX6, TX6, 31, zc6, by decide, rfl, Or.inl (zW.at 672 rfl rfl)⟩
set_option maxRecDepth 100000 in
theorem fpX6_257 : zFp RX6 257 6 25 (.int) false := ⟨RX6, TX6, 31, zc6, by decide, rfl, Or.inr ⟨rfl, Or.inl (zW.at 672 rfl rfl)⟩, rfl, by decide +kernel⟩
set_option maxRecDepth 100000 in
theorem fdX6_248 : zFd RX6 248 6 26 := ⟨RX6, TX6, 31, zc6, by decide, rfl, Or.inl (zW.at 673 rfl rfl)⟩
set_option maxRecDepth 100000 in
theorem fpX6_248 : zFp RX6 248 6 26 (.int) false := ⟨RX6, TX6, 31, zc6, by decide, rfl, Or.inr ⟨rfl, Or.inl (zW.at 673 rfl rfl)⟩, rfl, by decide +kernel⟩
set_option maxRecDepth 100000 in
theorem fdX6_28 : zFd RX6 28 6 27 := ⟨RX6, TX6, 31, zc6, by decide, rfl, Or.inl (zW.at 674 rfl rfl)⟩
set_option maxRecDepth 100000 in
theorem fpX6_28 : zFp RX6 28 6 27 (.array .int) true := ⟨RX6, TX6, 31, zc6, by decide, rfl, Or.inl ⟨rfl, rfl, zW.at 674 rfl rfl⟩, rfl, by decide +kernel⟩
set_option maxRecDepth 100000 in
theorem fdX6_31 : zFd RX6 31 6 28 := ⟨RX6, TX6, 31, zc6, by decide, rfl, Or.inl (zW.at 675 rfl rfl)⟩
set_option maxRecDepth 100000 in
theorem fpX6_31 : zFp RX6 31 6 28 (.array .int) true := ⟨RX6, TX6, 31, zc6, by decide, rfl, Or.inl ⟨rfl, rfl, zW.at 675 rfl rfl⟩, rfl, by decide +kernel⟩
set_option maxRecDepth 100000 in
theorem fdX6_34 : zFd RX6 34 6 29 := ⟨RX6, TX6, 31, zc6, by decide, rfl, Or.inl (zW.at 676 rfl rfl)⟩
set_option maxRecDepth 100000 in
theorem fpX6_34 : zFp RX6 34 6 29 (.array .long) true := ⟨RX6, TX6, 31, zc6, by decide, rfl, Or.inl ⟨rfl, rfl, zW.at 676 rfl rfl⟩, rfl, by decide +kernel⟩
set_option maxRecDepth 100000 in
theorem fdX6_38 : zFd RX6 38 6 30 := ⟨RX6, TX6, 31, zc6, by decide, rfl, Or.inl (zW.at 677 rfl rfl)⟩
set_option maxRecDepth 100000 in
theorem fpX6_38 : zFp RX6 38 6 30 (.array .long) true := ⟨RX6, TX6, 31, zc6, by decide, rfl, Or.inl ⟨rfl, rfl, zW.at 677 rfl rfl⟩, rfl, by decide +kernel⟩
set_option maxRecDepth 100000 in
theorem kvL_17 : zKV RL 17 RX6 yX6_write cX6_write 2 (some .int) 1 := ⟨zG1.at 741 rfl rfl, zG1.at 742 rfl rfl, zG1.at 743 rfl rfl, zG1.at 77 rfl rfl, zG1.at 744 rfl rfl, by decide +kernel, by decide⟩
set_option maxRecDepth 100000 in
theorem knX6_159 : zW (.constantLong RX6 159 (255)) := zW.at 745 rfl rfl
set_option maxRecDepth 100000 in
theorem ksX6_45 : zKS RX6 45 yX6_in cX6_in 6 (some .boolean) 3 := ⟨Or.inl (zG1.at 746 rfl rfl), zG1.at 747 rfl rfl, zG1.at 77 rfl rfl, zG1.at 748 rfl rfl, by decide +kernel, by decide⟩
set_option maxRecDepth 100000 in
theorem knX6_161 : zW (.constant RX6 161 (-1000002)) := zW.at 749 rfl rfl
set_option maxRecDepth 100000 in
theorem knX6_165 : zW (.constant RX6 165 (-1000004)) := zW.at 750 rfl rfl
set_option maxRecDepth 100000 in
theorem kvL_22 : zKV RL 22 RX6 yX6_ring cX6_ring 5 (some .int) 0 := ⟨zG1.at 751 rfl rfl, zG1.at 752 rfl rfl, zG1.at 753 rfl rfl, zG1.at 77 rfl rfl, zG1.at 754 rfl rfl, by decide +kernel, by decide⟩
set_option maxRecDepth 100000 in
theorem kvX6_193 : zKV RX6 193 RX6 yX6_reads cX6_reads 1 none 0 := ⟨zG1.at 755 rfl rfl, zG1.at 757 rfl rfl, zG1.at 32 rfl rfl, zG1.at 77 rfl rfl, zG1.at 758 rfl rfl, by decide +kernel, by decide⟩
set_option maxRecDepth 100000 in
theorem kvX6_185 : zKV RX6 185 RX6 yX6_isDigit cX6_isDigit 2 (some .boolean) 1 := ⟨zG1.at 759 rfl rfl, zG1.at 761 rfl rfl, zG1.at 33 rfl rfl, zG1.at 77 rfl rfl, zG1.at 762 rfl rfl, by decide +kernel, by decide⟩
set_option maxRecDepth 100000 in
theorem knX6_166 : zW (.constantLong RX6 166 (48)) := zW.at 763 rfl rfl
set_option maxRecDepth 100000 in
theorem knX6_168 : zW (.constantLong RX6 168 (57)) := zW.at 764 rfl rfl
set_option maxRecDepth 100000 in
theorem kvX6_196 : zKV RX6 196 RX6 yX6_readsContender cX6_readsContender 2 (some .int) 1 := ⟨zG1.at 765 rfl rfl, zG1.at 767 rfl rfl, zG1.at 34 rfl rfl, zG1.at 77 rfl rfl, zG1.at 768 rfl rfl, by decide +kernel, by decide⟩
set_option maxRecDepth 100000 in
theorem kvX6_189 : zKV RX6 189 RX6 yX6_isTold cX6_isTold 5 (some .boolean) 2 := ⟨zG1.at 769 rfl rfl, zG1.at 771 rfl rfl, zG1.at 35 rfl rfl, zG1.at 77 rfl rfl, zG1.at 772 rfl rfl, by decide +kernel, by decide⟩
set_option maxRecDepth 100000 in
theorem kvX6_202 : zKV RX6 202 RX6 yX6_clears cX6_clears 2 none 0 := ⟨zG1.at 773 rfl rfl, zG1.at 775 rfl rfl, zG1.at 36 rfl rfl, zG1.at 77 rfl rfl, zG1.at 776 rfl rfl, by decide +kernel, by decide⟩
set_option maxRecDepth 100000 in
theorem kvX6_59 : zKV RX6 59 RX6 yX6_set cX6_set 5 none 4 := ⟨zG1.at 777 rfl rfl, zG1.at 779 rfl rfl, zG1.at 37 rfl rfl, zG1.at 77 rfl rfl, zG1.at 780 rfl rfl, by decide +kernel, by decide⟩
set_option maxRecDepth 100000 in
theorem ksX6_49 : zKS RX6 49 yX6_ofContender cX6_ofContender 3 (some .int) 3 := ⟨Or.inl (zG1.at 781 rfl rfl), zG1.at 782 rfl rfl, zG1.at 77 rfl rfl, zG1.at 783 rfl rfl, by decide +kernel, by decide⟩
set_option maxRecDepth 100000 in
theorem kvL_26 : zKV RL 26 RX6 yX6_fault cX6_fault 1 (some .int) 0 := ⟨zG1.at 784 rfl rfl, zG1.at 785 rfl rfl, zG1.at 786 rfl rfl, zG1.at 77 rfl rfl, zG1.at 787 rfl rfl, by decide +kernel, by decide⟩
set_option maxRecDepth 100000 in
theorem kvL_31 : zKV RL 31 RX6 yX6_begin cX6_begin 6 (some .int) 3 := ⟨zG1.at 788 rfl rfl, zG1.at 789 rfl rfl, zG1.at 790 rfl rfl, zG1.at 77 rfl rfl, zG1.at 791 rfl rfl, by decide +kernel, by decide⟩
set_option maxRecDepth 100000 in
theorem knX6_205 : zW (.constantLong RX6 205 (4)) := zW.at 792 rfl rfl
set_option maxRecDepth 100000 in
theorem knX6_207 : zW (.constantLong RX6 207 (9)) := zW.at 793 rfl rfl
set_option maxRecDepth 100000 in
theorem knX6_209 : zW (.constantLong RX6 209 (999999)) := zW.at 794 rfl rfl
set_option maxRecDepth 100000 in
theorem knX6_211 : zW (.constant RX6 211 (-1000003)) := zW.at 795 rfl rfl
set_option maxRecDepth 100000 in
theorem knX6_69 : zW (.constantLong RX6 69 (2147483647)) := zW.at 796 rfl rfl
set_option maxRecDepth 100000 in
theorem kvL_35 : zKV RL 35 RX6 yX6_wake cX6_wake 3 (some .int) 1 := ⟨zG1.at 797 rfl rfl, zG1.at 798 rfl rfl, zG1.at 799 rfl rfl, zG1.at 77 rfl rfl, zG1.at 800 rfl rfl, by decide +kernel, by decide⟩
set_option maxRecDepth 100000 in
theorem kvX6_212 : zKV RX6 212 RX6 yX6_isContender cX6_isContender 2 (some .boolean) 1 := ⟨zG1.at 801 rfl rfl, zG1.at 803 rfl rfl, zG1.at 38 rfl rfl, zG1.at 77 rfl rfl, zG1.at 804 rfl rfl, by decide +kernel, by decide⟩
set_option maxRecDepth 100000 in
theorem knX6_215 : zW (.constant RX6 215 (-1000001)) := zW.at 805 rfl rfl
set_option maxRecDepth 100000 in
theorem kvX6_216 : zKV RX6 216 RX6 yX6_isBegun cX6_isBegun 1 (some .boolean) 0 := ⟨zG1.at 806 rfl rfl, zG1.at 808 rfl rfl, zG1.at 39 rfl rfl, zG1.at 77 rfl rfl, zG1.at 809 rfl rfl, by decide +kernel, by decide⟩
set_option maxRecDepth 100000 in
theorem kvX6_56 : zKV RX6 56 RX6 yX6_has cX6_has 4 (some .int) 3 := ⟨zG1.at 810 rfl rfl, zG1.at 812 rfl rfl, zG1.at 40 rfl rfl, zG1.at 77 rfl rfl, zG1.at 813 rfl rfl, by decide +kernel, by decide⟩
set_option maxRecDepth 100000 in
theorem kvX6_220 : zKV RX6 220 RX6 yX6_notes cX6_notes 2 none 0 := ⟨zG1.at 814 rfl rfl, zG1.at 816 rfl rfl, zG1.at 41 rfl rfl, zG1.at 77 rfl rfl, zG1.at 817 rfl rfl, by decide +kernel, by decide⟩
set_option maxRecDepth 100000 in
theorem kvX6_156 : zKV RX6 156 RX6 yX6_copies cX6_copies 4 none 2 := ⟨zG1.at 818 rfl rfl, zG1.at 820 rfl rfl, zG1.at 42 rfl rfl, zG1.at 77 rfl rfl, zG1.at 821 rfl rfl, by decide +kernel, by decide⟩
set_option maxRecDepth 100000 in
theorem kvX6_223 : zKV RX6 223 RX6 yX6_begins cX6_begins 4 none 2 := ⟨zG1.at 822 rfl rfl, zG1.at 824 rfl rfl, zG1.at 43 rfl rfl, zG1.at 77 rfl rfl, zG1.at 825 rfl rfl, by decide +kernel, by decide⟩
set_option maxRecDepth 100000 in
theorem kvX6_71 : zKV RX6 71 RX6 yX6_rightOf cX6_rightOf 3 (some .int) 2 := ⟨zG1.at 826 rfl rfl, zG1.at 828 rfl rfl, zG1.at 44 rfl rfl, zG1.at 77 rfl rfl, zG1.at 829 rfl rfl, by decide +kernel, by decide⟩
set_option maxRecDepth 100000 in
theorem kvX6_63 : zKV RX6 63 RX6 yX6_sends cX6_sends 9 none 7 := ⟨zG1.at 830 rfl rfl, zG1.at 832 rfl rfl, zG1.at 45 rfl rfl, zG1.at 77 rfl rfl, zG1.at 833 rfl rfl, by decide +kernel, by decide⟩
set_option maxRecDepth 100000 in
theorem ksX6_53 : zKS RX6 53 yX6_ofLetter cX6_ofLetter 3 (some .int) 3 := ⟨Or.inl (zG1.at 834 rfl rfl), zG1.at 835 rfl rfl, zG1.at 77 rfl rfl, zG1.at 836 rfl rfl, by decide +kernel, by decide⟩
set_option maxRecDepth 100000 in
theorem kvX6_75 : zKV RX6 75 RX6 yX6_probes cX6_probes 4 none 2 := ⟨zG1.at 837 rfl rfl, zG1.at 839 rfl rfl, zG1.at 46 rfl rfl, zG1.at 77 rfl rfl, zG1.at 840 rfl rfl, by decide +kernel, by decide⟩
set_option maxRecDepth 100000 in
theorem kvX6_79 : zKV RX6 79 RX6 yX6_draws cX6_draws 5 none 2 := ⟨zG1.at 841 rfl rfl, zG1.at 843 rfl rfl, zG1.at 47 rfl rfl, zG1.at 77 rfl rfl, zG1.at 844 rfl rfl, by decide +kernel, by decide⟩
set_option maxRecDepth 100000 in
theorem knX6_67 : zW (.constantLong RX6 67 (16807)) := zW.at 845 rfl rfl
set_option maxRecDepth 100000 in
theorem kvL_39 : zKV RL 39 RX6 yX6_deliver cX6_deliver 2 (some .int) 1 := ⟨zG1.at 846 rfl rfl, zG1.at 847 rfl rfl, zG1.at 848 rfl rfl, zG1.at 77 rfl rfl, zG1.at 849 rfl rfl, by decide +kernel, by decide⟩
set_option maxRecDepth 100000 in
theorem kvX6_226 : zKV RX6 226 RX6 yX6_isLink cX6_isLink 2 (some .boolean) 1 := ⟨zG1.at 850 rfl rfl, zG1.at 852 rfl rfl, zG1.at 48 rfl rfl, zG1.at 77 rfl rfl, zG1.at 853 rfl rfl, by decide +kernel, by decide⟩
set_option maxRecDepth 100000 in
theorem kvX6_133 : zKV RX6 133 RX6 yX6_manyOn cX6_manyOn 5 (some .int) 2 := ⟨zG1.at 854 rfl rfl, zG1.at 856 rfl rfl, zG1.at 49 rfl rfl, zG1.at 77 rfl rfl, zG1.at 857 rfl rfl, by decide +kernel, by decide⟩
set_option maxRecDepth 100000 in
theorem kvX6_150 : zKV RX6 150 RX6 yX6_delivers cX6_delivers 7 (some .int) 2 := ⟨zG1.at 858 rfl rfl, zG1.at 860 rfl rfl, zG1.at 50 rfl rfl, zG1.at 77 rfl rfl, zG1.at 861 rfl rfl, by decide +kernel, by decide⟩
set_option maxRecDepth 100000 in
theorem kvX6_127 : zKV RX6 127 RX6 yX6_letterOn cX6_letterOn 8 (some .int) 3 := ⟨zG1.at 862 rfl rfl, zG1.at 864 rfl rfl, zG1.at 51 rfl rfl, zG1.at 77 rfl rfl, zG1.at 865 rfl rfl, by decide +kernel, by decide⟩
set_option maxRecDepth 100000 in
theorem kvX6_130 : zKV RX6 130 RX6 yX6_comes cX6_comes 6 none 3 := ⟨zG1.at 866 rfl rfl, zG1.at 868 rfl rfl, zG1.at 52 rfl rfl, zG1.at 77 rfl rfl, zG1.at 869 rfl rfl, by decide +kernel, by decide⟩
set_option maxRecDepth 100000 in
theorem kvX6_100 : zKV RX6 100 RX6 yX6_goesOn cX6_goesOn 2 none 1 := ⟨zG1.at 870 rfl rfl, zG1.at 872 rfl rfl, zG1.at 53 rfl rfl, zG1.at 77 rfl rfl, zG1.at 873 rfl rfl, by decide +kernel, by decide⟩
set_option maxRecDepth 100000 in
theorem kvX6_111 : zKV RX6 111 RX6 yX6_comesByGreatest cX6_comesByGreatest 4 none 3 := ⟨zG1.at 874 rfl rfl, zG1.at 876 rfl rfl, zG1.at 54 rfl rfl, zG1.at 77 rfl rfl, zG1.at 877 rfl rfl, by decide +kernel, by decide⟩
set_option maxRecDepth 100000 in
theorem kvX6_104 : zKV RX6 104 RX6 yX6_heads cX6_heads 4 none 3 := ⟨zG1.at 878 rfl rfl, zG1.at 880 rfl rfl, zG1.at 55 rfl rfl, zG1.at 77 rfl rfl, zG1.at 881 rfl rfl, by decide +kernel, by decide⟩
set_option maxRecDepth 100000 in
theorem kvX6_115 : zKV RX6 115 RX6 yX6_comesProbe cX6_comesProbe 4 none 3 := ⟨zG1.at 882 rfl rfl, zG1.at 884 rfl rfl, zG1.at 56 rfl rfl, zG1.at 77 rfl rfl, zG1.at 885 rfl rfl, by decide +kernel, by decide⟩
set_option maxRecDepth 100000 in
theorem kvX6_118 : zKV RX6 118 RX6 yX6_comesReply cX6_comesReply 4 none 3 := ⟨zG1.at 886 rfl rfl, zG1.at 888 rfl rfl, zG1.at 57 rfl rfl, zG1.at 77 rfl rfl, zG1.at 889 rfl rfl, by decide +kernel, by decide⟩
set_option maxRecDepth 100000 in
theorem kvX6_121 : zKV RX6 121 RX6 yX6_comesByDraws cX6_comesByDraws 8 none 3 := ⟨zG1.at 890 rfl rfl, zG1.at 892 rfl rfl, zG1.at 58 rfl rfl, zG1.at 77 rfl rfl, zG1.at 893 rfl rfl, by decide +kernel, by decide⟩
set_option maxRecDepth 100000 in
theorem kvX6_124 : zKV RX6 124 RX6 yX6_comesByPhases cX6_comesByPhases 6 none 3 := ⟨zG1.at 894 rfl rfl, zG1.at 896 rfl rfl, zG1.at 59 rfl rfl, zG1.at 77 rfl rfl, zG1.at 897 rfl rfl, by decide +kernel, by decide⟩
set_option maxRecDepth 100000 in
theorem kvL_43 : zKV RL 43 RX6 yX6_run cX6_run 5 (some .int) 3 := ⟨zG1.at 898 rfl rfl, zG1.at 899 rfl rfl, zG1.at 900 rfl rfl, zG1.at 77 rfl rfl, zG1.at 901 rfl rfl, by decide +kernel, by decide⟩
set_option maxRecDepth 100000 in
theorem ksX6_231 : zKS RX6 231 yX6_isOrder cX6_isOrder 2 (some .boolean) 2 := ⟨Or.inl (zG1.at 902 rfl rfl), zG1.at 903 rfl rfl, zG1.at 77 rfl rfl, zG1.at 904 rfl rfl, by decide +kernel, by decide⟩
set_option maxRecDepth 100000 in
theorem knX6_229 : zW (.constantLong RX6 229 (3)) := zW.at 905 rfl rfl
set_option maxRecDepth 100000 in
theorem knX6_234 : zW (.constantLong RX6 234 (200)) := zW.at 906 rfl rfl
set_option maxRecDepth 100000 in
theorem kvX6_236 : zKV RX6 236 RX6 yX6_runs cX6_runs 8 (some .int) 4 := ⟨zG1.at 907 rfl rfl, zG1.at 909 rfl rfl, zG1.at 60 rfl rfl, zG1.at 77 rfl rfl, zG1.at 910 rfl rfl, by decide +kernel, by decide⟩
set_option maxRecDepth 100000 in
theorem kvX6_147 : zKV RX6 147 RX6 yX6_nextLink cX6_nextLink 6 (some .int) 3 := ⟨zG1.at 911 rfl rfl, zG1.at 913 rfl rfl, zG1.at 61 rfl rfl, zG1.at 77 rfl rfl, zG1.at 914 rfl rfl, by decide +kernel, by decide⟩
set_option maxRecDepth 100000 in
theorem kvX6_136 : zKV RX6 136 RX6 yX6_manyLinks cX6_manyLinks 4 (some .int) 1 := ⟨zG1.at 915 rfl rfl, zG1.at 917 rfl rfl, zG1.at 62 rfl rfl, zG1.at 77 rfl rfl, zG1.at 918 rfl rfl, by decide +kernel, by decide⟩
set_option maxRecDepth 100000 in
theorem kvX6_140 : zKV RX6 140 RX6 yX6_linkBy cX6_linkBy 7 (some .int) 2 := ⟨zG1.at 919 rfl rfl, zG1.at 921 rfl rfl, zG1.at 63 rfl rfl, zG1.at 77 rfl rfl, zG1.at 922 rfl rfl, by decide +kernel, by decide⟩
set_option maxRecDepth 100000 in
theorem kvL_47 : zKV RL 47 RX6 yX6_undo cX6_undo 1 (some .int) 0 := ⟨zG1.at 923 rfl rfl, zG1.at 924 rfl rfl, zG1.at 925 rfl rfl, zG1.at 77 rfl rfl, zG1.at 926 rfl rfl, by decide +kernel, by decide⟩
set_option maxRecDepth 100000 in
theorem kvL_52 : zKV RL 52 RX6 yX6_contender cX6_contender 4 (some .int) 2 := ⟨zG1.at 927 rfl rfl, zG1.at 928 rfl rfl, zG1.at 929 rfl rfl, zG1.at 77 rfl rfl, zG1.at 930 rfl rfl, by decide +kernel, by decide⟩
set_option maxRecDepth 100000 in
theorem kvL_56 : zKV RL 56 RX6 yX6_link cX6_link 2 (some .int) 1 := ⟨zG1.at 931 rfl rfl, zG1.at 932 rfl rfl, zG1.at 933 rfl rfl, zG1.at 77 rfl rfl, zG1.at 934 rfl rfl, by decide +kernel, by decide⟩
set_option maxRecDepth 100000 in
theorem kvL_60 : zKV RL 60 RX6 yX6_letter cX6_letter 4 (some .int) 3 := ⟨zG1.at 935 rfl rfl, zG1.at 936 rfl rfl, zG1.at 937 rfl rfl, zG1.at 77 rfl rfl, zG1.at 938 rfl rfl, by decide +kernel, by decide⟩
set_option maxRecDepth 100000 in
theorem kvL_64 : zKV RL 64 RX6 yX6_sent cX6_sent 2 (some .int) 1 := ⟨zG1.at 939 rfl rfl, zG1.at 940 rfl rfl, zG1.at 941 rfl rfl, zG1.at 77 rfl rfl, zG1.at 942 rfl rfl, by decide +kernel, by decide⟩
set_option maxRecDepth 100000 in
theorem knX6_240 : zW (.constantLong RX6 240 (7)) := zW.at 943 rfl rfl
set_option maxRecDepth 100000 in
theorem kvL_68 : zKV RL 68 RX6 yX6_would cX6_would 5 (some .int) 3 := ⟨zG1.at 944 rfl rfl, zG1.at 945 rfl rfl, zG1.at 946 rfl rfl, zG1.at 77 rfl rfl, zG1.at 947 rfl rfl, by decide +kernel, by decide⟩
set_option maxRecDepth 100000 in
theorem kvX6_242 : zKV RX6 242 RX6 yX6_headOf cX6_headOf 4 (some .int) 1 := ⟨zG1.at 948 rfl rfl, zG1.at 950 rfl rfl, zG1.at 64 rfl rfl, zG1.at 77 rfl rfl, zG1.at 951 rfl rfl, by decide +kernel, by decide⟩
set_option maxRecDepth 100000 in
theorem kvX6_245 : zKV RX6 245 RX6 yX6_manyAre cX6_manyAre 5 (some .int) 2 := ⟨zG1.at 952 rfl rfl, zG1.at 954 rfl rfl, zG1.at 65 rfl rfl, zG1.at 77 rfl rfl, zG1.at 955 rfl rfl, by decide +kernel, by decide⟩
set_option maxRecDepth 100000 in
theorem kvL_72 : zKV RL 72 RX6 yX6_foresee cX6_foresee 3 (some .int) 2 := ⟨zG1.at 956 rfl rfl, zG1.at 957 rfl rfl, zG1.at 958 rfl rfl, zG1.at 77 rfl rfl, zG1.at 959 rfl rfl, by decide +kernel, by decide⟩
set_option maxRecDepth 100000 in
theorem kvX6_263 : zKV RX6 263 RX6 yX6_tries cX6_tries 7 none 1 := ⟨zG1.at 960 rfl rfl, zG1.at 962 rfl rfl, zG1.at 66 rfl rfl, zG1.at 77 rfl rfl, zG1.at 963 rfl rfl, by decide +kernel, by decide⟩
set_option maxRecDepth 100000 in
theorem kvX6_260 : zKV RX6 260 RX6 yX6_tallies cX6_tallies 3 none 1 := ⟨zG1.at 964 rfl rfl, zG1.at 966 rfl rfl, zG1.at 67 rfl rfl, zG1.at 77 rfl rfl, zG1.at 967 rfl rfl, by decide +kernel, by decide⟩
set_option maxRecDepth 100000 in
theorem kvL_76 : zKV RL 76 RX6 yX6_sit cX6_sit 8 (some .int) 1 := ⟨zG1.at 968 rfl rfl, zG1.at 969 rfl rfl, zG1.at 970 rfl rfl, zG1.at 77 rfl rfl, zG1.at 971 rfl rfl, by decide +kernel, by decide⟩
set_option maxRecDepth 100000 in
theorem kvX6_266 : zKV RX6 266 RX6 yX6_letters cX6_letters 4 (some .int) 0 := ⟨zG1.at 972 rfl rfl, zG1.at 974 rfl rfl, zG1.at 68 rfl rfl, zG1.at 77 rfl rfl, zG1.at 975 rfl rfl, by decide +kernel, by decide⟩
set_option maxRecDepth 100000 in
theorem kvX6_270 : zKV RX6 270 RX6 yX6_nextSeats cX6_nextSeats 5 (some .boolean) 0 := ⟨zG1.at 976 rfl rfl, zG1.at 978 rfl rfl, zG1.at 69 rfl rfl, zG1.at 77 rfl rfl, zG1.at 979 rfl rfl, by decide +kernel, by decide⟩
set_option maxRecDepth 100000 in
theorem ksX6_273 : zKS RX6 273 yX6_commonOf cX6_commonOf 10 (some .long) 2 := ⟨Or.inl (zG1.at 980 rfl rfl), zG1.at 981 rfl rfl, zG1.at 77 rfl rfl, zG1.at 982 rfl rfl, by decide +kernel, by decide⟩
set_option maxRecDepth 100000 in
theorem kvL_81 : zKV RL 81 RX6 yX6_chance cX6_chance 10 (some .long) 4 := ⟨zG1.at 983 rfl rfl, zG1.at 984 rfl rfl, zG1.at 985 rfl rfl, zG1.at 77 rfl rfl, zG1.at 986 rfl rfl, by decide +kernel, by decide⟩
set_option maxRecDepth 100000 in
theorem knX6_281 : zW (.constantLong RX6 281 (5)) := zW.at 987 rfl rfl
set_option maxRecDepth 100000 in
theorem knX6_283 : zW (.constantLong RX6 283 (-1000002)) := zW.at 988 rfl rfl
set_option maxRecDepth 100000 in
theorem ksX6_277 : zKS RX6 277 yX6_power cX6_power 6 (some .long) 2 := ⟨Or.inl (zG1.at 989 rfl rfl), zG1.at 990 rfl rfl, zG1.at 77 rfl rfl, zG1.at 991 rfl rfl, by decide +kernel, by decide⟩
set_option maxRecDepth 100000 in
theorem ksX6_285 : zKS RX6 285 yX6_leave cX6_leave 8 (some .long) 3 := ⟨Or.inl (zG1.at 992 rfl rfl), zG1.at 993 rfl rfl, zG1.at 77 rfl rfl, zG1.at 994 rfl rfl, by decide +kernel, by decide⟩
set_option maxRecDepth 100000 in
theorem kvL_85 : zKV RL 85 RX6 yX6_count cX6_count 3 (some .int) 1 := ⟨zG1.at 995 rfl rfl, zG1.at 996 rfl rfl, zG1.at 997 rfl rfl, zG1.at 77 rfl rfl, zG1.at 998 rfl rfl, by decide +kernel, by decide⟩
set_option maxRecDepth 100000 in
theorem oi_i : zW (.instanceMethod objectInit) := zW.at 86 rfl rfl
set_option maxRecDepth 100000 in
theorem oi_c : zW (.code objectInit ⟨#[0xb1]⟩ 1 none) := zW.at 87 rfl rfl
set_option maxRecDepth 100000 in
theorem arr_int : zW (.arrayClass .int) := zW.at 112 rfl rfl
set_option maxRecDepth 100000 in
theorem ac_s : zW (.static arraycopyName) := zW.at 308 rfl rfl
set_option maxRecDepth 100000 in
theorem ac_n : zW (.native arraycopyName) := zW.at 309 rfl rfl
set_option maxRecDepth 100000 in
theorem mm_s_min : zW (.static Lib.Math.min.name) := zW.at 595 rfl rfl
set_option maxRecDepth 100000 in
theorem mm_c_min : zW (.code Lib.Math.min.name Lib.Math.min.code 2 (some .int)) := zW.at 596 rfl rfl
set_option maxRecDepth 100000 in
theorem mm_s_max : zW (.static Lib.Math.max.name) := zW.at 598 rfl rfl
set_option maxRecDepth 100000 in
theorem mm_c_max : zW (.code Lib.Math.max.name Lib.Math.max.code 2 (some .int)) := zW.at 599 rfl rfl
set_option maxRecDepth 100000 in
theorem arr_long : zW (.arrayClass .long) := zW.at 636 rfl rfl
set_option maxRecDepth 100000 in
theorem ac_i : zW (.initialized "java/lang/System") := zW.at 78 rfl rfl
set_option maxRecDepth 100000 in
theorem mm_i : zW (.initialized "java/lang/Math") := zW.at 79 rfl rfl
set_option maxRecDepth 100000 in
theorem in0 : zW (.initialized RX0) := zW.at 74 rfl rfl
set_option maxRecDepth 100000 in
theorem is0 : zW (.instantiable RX0 8) := zW.at 133 rfl rfl
set_option maxRecDepth 100000 in
theorem in1 : zW (.initialized RX1) := zW.at 76 rfl rfl
set_option maxRecDepth 100000 in
theorem is1 : zW (.instantiable RX1 6) := zW.at 187 rfl rfl
set_option maxRecDepth 100000 in
theorem in2 : zW (.initialized RX2) := zW.at 75 rfl rfl
set_option maxRecDepth 100000 in
theorem is2 : zW (.instantiable RX2 3) := zW.at 167 rfl rfl
set_option maxRecDepth 100000 in
theorem in3 : zW (.initialized RX3) := zW.at 73 rfl rfl
set_option maxRecDepth 100000 in
theorem is3 : zW (.instantiable RX3 3) := zW.at 114 rfl rfl
set_option maxRecDepth 100000 in
theorem in4 : zW (.initialized RX4) := zW.at 72 rfl rfl
set_option maxRecDepth 100000 in
theorem is4 : zW (.instantiable RX4 5) := zW.at 89 rfl rfl
set_option maxRecDepth 100000 in
theorem in5 : zW (.initialized RX5) := zW.at 71 rfl rfl
set_option maxRecDepth 100000 in
theorem is5 : zW (.instantiable RX5 7) := zW.at 81 rfl rfl
set_option maxRecDepth 100000 in
theorem in6 : zW (.initialized RX6) := zW.at 77 rfl rfl
set_option maxRecDepth 100000 in
theorem is6 : zW (.instantiable RX6 31) := zW.at 642 rfl rfl
