/-! what the tables say of fields, calls, constants -/
theorem tb_1 {w : Cond} (j : Nat) (h : tables_1_1[j]? = some w) (g : goodWord w = true) : w ∈ x_tbl := List.mem_filter.mpr ⟨List.mem_append_right _ (show w ∈ tables_1 from (fun (h : w ∈ tables_1_1) => List.mem_append_left _ h) (List.mem_of_getElem? h)), g⟩
theorem tb_2 {w : Cond} (j : Nat) (h : tables_1_2[j]? = some w) (g : goodWord w = true) : w ∈ x_tbl := List.mem_filter.mpr ⟨List.mem_append_right _ (show w ∈ tables_1 from (fun (h : w ∈ tables_1_2) => List.mem_append_right _ (List.mem_append_left _ h)) (List.mem_of_getElem? h)), g⟩
theorem tb_3 {w : Cond} (j : Nat) (h : tables_1_3[j]? = some w) (g : goodWord w = true) : w ∈ x_tbl := List.mem_filter.mpr ⟨List.mem_append_right _ (show w ∈ tables_1 from (fun (h : w ∈ tables_1_3) => List.mem_append_right _ (List.mem_append_right _ (List.mem_append_left _ h))) (List.mem_of_getElem? h)), g⟩
theorem tb_4 {w : Cond} (j : Nat) (h : tables_1_4[j]? = some w) (g : goodWord w = true) : w ∈ x_tbl := List.mem_filter.mpr ⟨List.mem_append_right _ (show w ∈ tables_1 from (fun (h : w ∈ tables_1_4) => List.mem_append_right _ (List.mem_append_right _ (List.mem_append_right _ (List.mem_append_left _ h)))) (List.mem_of_getElem? h)), g⟩
theorem tb_5 {w : Cond} (j : Nat) (h : tables_1_5[j]? = some w) (g : goodWord w = true) : w ∈ x_tbl := List.mem_filter.mpr ⟨List.mem_append_right _ (show w ∈ tables_1 from (fun (h : w ∈ tables_1_5) => List.mem_append_right _ (List.mem_append_right _ (List.mem_append_right _ (List.mem_append_right _ (List.mem_append_left _ h))))) (List.mem_of_getElem? h)), g⟩
theorem tb_6 {w : Cond} (j : Nat) (h : tables_1_6[j]? = some w) (g : goodWord w = true) : w ∈ x_tbl := List.mem_filter.mpr ⟨List.mem_append_right _ (show w ∈ tables_1 from (fun (h : w ∈ tables_1_6) => List.mem_append_right _ (List.mem_append_right _ (List.mem_append_right _ (List.mem_append_right _ (List.mem_append_right _ (List.mem_append_left _ h)))))) (List.mem_of_getElem? h)), g⟩
theorem tb_7 {w : Cond} (j : Nat) (h : tables_1_7[j]? = some w) (g : goodWord w = true) : w ∈ x_tbl := List.mem_filter.mpr ⟨List.mem_append_right _ (show w ∈ tables_1 from (fun (h : w ∈ tables_1_7) => List.mem_append_right _ (List.mem_append_right _ (List.mem_append_right _ (List.mem_append_right _ (List.mem_append_right _ (List.mem_append_right _ (List.mem_append_left _ h))))))) (List.mem_of_getElem? h)), g⟩
theorem tb_8 {w : Cond} (j : Nat) (h : tables_1_8[j]? = some w) (g : goodWord w = true) : w ∈ x_tbl := List.mem_filter.mpr ⟨List.mem_append_right _ (show w ∈ tables_1 from (fun (h : w ∈ tables_1_8) => List.mem_append_right _ (List.mem_append_right _ (List.mem_append_right _ (List.mem_append_right _ (List.mem_append_right _ (List.mem_append_right _ (List.mem_append_right _ (List.mem_append_left _ h)))))))) (List.mem_of_getElem? h)), g⟩
theorem tb_9 {w : Cond} (j : Nat) (h : tables_1_9[j]? = some w) (g : goodWord w = true) : w ∈ x_tbl := List.mem_filter.mpr ⟨List.mem_append_right _ (show w ∈ tables_1 from (fun (h : w ∈ tables_1_9) => List.mem_append_right _ (List.mem_append_right _ (List.mem_append_right _ (List.mem_append_right _ (List.mem_append_right _ (List.mem_append_right _ (List.mem_append_right _ (List.mem_append_right _ (h))))))))) (List.mem_of_getElem? h)), g⟩
theorem tb_p {w : Cond} (j : Nat) (h : (k2_sels lw_privs)[j]? = some w) (g : goodWord w = true) : w ∈ x_tbl := List.mem_filter.mpr ⟨List.mem_append_left _ (List.mem_of_getElem? h), g⟩
theorem in_Ac : ∀ w ∈ u_ws RX0 TX0 7, w ∈ x_tbl := fun w h => List.mem_filter.mpr ⟨List.mem_append_right _ ((by decide +kernel : ∀ w ∈ u_ws RX0 TX0 7, w ∈ tables_1) w h), (by decide +kernel : ∀ w ∈ u_ws RX0 TX0 7, goodWord w = true) w h⟩
theorem in_Cr : ∀ w ∈ u_ws RX1 TX1 4, w ∈ x_tbl := fun w h => List.mem_filter.mpr ⟨List.mem_append_right _ ((by decide +kernel : ∀ w ∈ u_ws RX1 TX1 4, w ∈ tables_1) w h), (by decide +kernel : ∀ w ∈ u_ws RX1 TX1 4, goodWord w = true) w h⟩
theorem in_Es : ∀ w ∈ u_ws RX2 TX2 3, w ∈ x_tbl := fun w h => List.mem_filter.mpr ⟨List.mem_append_right _ ((by decide +kernel : ∀ w ∈ u_ws RX2 TX2 3, w ∈ tables_1) w h), (by decide +kernel : ∀ w ∈ u_ws RX2 TX2 3, goodWord w = true) w h⟩
theorem in_Ho : ∀ w ∈ u_ws RX3 TX3 11, w ∈ x_tbl := fun w h => List.mem_filter.mpr ⟨List.mem_append_right _ ((by decide +kernel : ∀ w ∈ u_ws RX3 TX3 11, w ∈ tables_1) w h), (by decide +kernel : ∀ w ∈ u_ws RX3 TX3 11, goodWord w = true) w h⟩
theorem in_Ne : ∀ w ∈ u_ws RX4 TX4 8, w ∈ x_tbl := fun w h => List.mem_filter.mpr ⟨List.mem_append_right _ ((by decide +kernel : ∀ w ∈ u_ws RX4 TX4 8, w ∈ tables_1) w h), (by decide +kernel : ∀ w ∈ u_ws RX4 TX4 8, goodWord w = true) w h⟩
theorem in_Pe : ∀ w ∈ u_ws RX5 TX5 5, w ∈ x_tbl := fun w h => List.mem_filter.mpr ⟨List.mem_append_right _ ((by decide +kernel : ∀ w ∈ u_ws RX5 TX5 5, w ∈ tables_1) w h), (by decide +kernel : ∀ w ∈ u_ws RX5 TX5 5, goodWord w = true) w h⟩
theorem in_Ro : ∀ w ∈ u_ws RX6 TX6 4, w ∈ x_tbl := fun w h => List.mem_filter.mpr ⟨List.mem_append_right _ ((by decide +kernel : ∀ w ∈ u_ws RX6 TX6 4, w ∈ tables_1) w h), (by decide +kernel : ∀ w ∈ u_ws RX6 TX6 4, goodWord w = true) w h⟩
theorem in_Sm : ∀ w ∈ u_ws RX7 TX7 18, w ∈ x_tbl := fun w h => List.mem_filter.mpr ⟨List.mem_append_right _ ((by decide +kernel : ∀ w ∈ u_ws RX7 TX7 18, w ∈ tables_1) w h), (by decide +kernel : ∀ w ∈ u_ws RX7 TX7 18, goodWord w = true) w h⟩
theorem in_Ta : ∀ w ∈ u_ws RX8 TX8 3, w ∈ x_tbl := fun w h => List.mem_filter.mpr ⟨List.mem_append_right _ ((by decide +kernel : ∀ w ∈ u_ws RX8 TX8 3, w ∈ tables_1) w h), (by decide +kernel : ∀ w ∈ u_ws RX8 TX8 3, goodWord w = true) w h⟩
theorem in_Tu : ∀ w ∈ u_ws RX9 TX9 8, w ∈ x_tbl := fun w h => List.mem_filter.mpr ⟨List.mem_append_right _ ((by decide +kernel : ∀ w ∈ u_ws RX9 TX9 8, w ∈ tables_1) w h), (by decide +kernel : ∀ w ∈ u_ws RX9 TX9 8, goodWord w = true) w h⟩
theorem in_Wa : ∀ w ∈ u_ws RX10 TX10 3, w ∈ x_tbl := fun w h => List.mem_filter.mpr ⟨List.mem_append_right _ ((by decide +kernel : ∀ w ∈ u_ws RX10 TX10 3, w ∈ tables_1) w h), (by decide +kernel : ∀ w ∈ u_ws RX10 TX10 3, goodWord w = true) w h⟩
theorem in_F : ∀ w ∈ u_ws RX11 TX11 9, w ∈ x_tbl := fun w h => List.mem_filter.mpr ⟨List.mem_append_right _ ((by decide +kernel : ∀ w ∈ u_ws RX11 TX11 9, w ∈ tables_1) w h), (by decide +kernel : ∀ w ∈ u_ws RX11 TX11 9, goodWord w = true) w h⟩
theorem in_M : ∀ w ∈ u_ws RX12 TX12 83, w ∈ x_tbl := fun w h => List.mem_filter.mpr ⟨List.mem_append_right _ ((by decide +kernel : ∀ w ∈ u_ws RX12 TX12 83, w ∈ tables_1) w h), (by decide +kernel : ∀ w ∈ u_ws RX12 TX12 83, goodWord w = true) w h⟩
theorem f_Ac_11 : Cond.fieldLink "SmokeTubes$Acts" 11 "SmokeTubes$Acts" "tables" "[LSmokeTubes$Table;" ∈ x_tbl := tb_1 40 rfl rfl
theorem f_Ac_17 : Cond.fieldLink "SmokeTubes$Acts" 17 "SmokeTubes$Acts" "changed" "[I" ∈ x_tbl := tb_1 41 rfl rfl
theorem f_Ac_21 : Cond.fieldLink "SmokeTubes$Acts" 21 "SmokeTubes$Acts" "kept" "[I" ∈ x_tbl := tb_1 42 rfl rfl
theorem f_Ac_24 : Cond.fieldLink "SmokeTubes$Acts" 24 "SmokeTubes$Acts" "done" "I" ∈ x_tbl := tb_1 44 rfl rfl
theorem f_Ac_28 : Cond.fieldLink "SmokeTubes$Acts" 28 "SmokeTubes$Acts" "undone" "I" ∈ x_tbl := tb_1 45 rfl rfl
theorem f_Ac_31 : Cond.fieldLink "SmokeTubes$Acts" 31 "SmokeTubes$Acts" "version" "I" ∈ x_tbl := tb_1 46 rfl rfl
theorem l_Ac_34 : Cond.methodLink y_Ac_adding.1.cls 34 y_Ac_newest.1 ∈ x_tbl := tb_4 5 rfl rfl
theorem b_Ac_newest : Cond.initialized y_Ac_newest.1.cls ∈ x_tbl ∧ Cond.code y_Ac_newest.1 y_Ac_newest.2.1 y_Ac_newest.2.2.1 y_Ac_newest.2.2.2.1 ∈ x_tbl ∧ (y_Ac_newest.1.cls ≠ "java/lang/invoke/MethodHandle" ∧ y_Ac_newest.1.cls ≠ "java/lang/invoke/VarHandle" ∧ (parseMethodDescriptor y_Ac_newest.1.desc).map (fun d => d.parameters.length) = some 2) := ⟨tb_1 2 rfl rfl, tb_4 8 rfl rfl, by decide +kernel⟩
theorem i_Ac_newest : Cond.instanceMethod y_Ac_newest.1 ∈ x_tbl ∧ Cond.selects y_Ac_newest.1.cls y_Ac_newest.1 y_Ac_newest.1 ∈ x_tbl := ⟨tb_4 7 rfl rfl, tb_p 23 rfl rfl⟩
theorem l_Ac_38 : Cond.methodLink y_Ac_adding.1.cls 38 y_Ta_grow.1 ∈ x_tbl := tb_3 116 rfl rfl
theorem b_Ta_grow : Cond.initialized y_Ta_grow.1.cls ∈ x_tbl ∧ Cond.code y_Ta_grow.1 y_Ta_grow.2.1 y_Ta_grow.2.2.1 y_Ta_grow.2.2.2.1 ∈ x_tbl ∧ (y_Ta_grow.1.cls ≠ "java/lang/invoke/MethodHandle" ∧ y_Ta_grow.1.cls ≠ "java/lang/invoke/VarHandle" ∧ (parseMethodDescriptor y_Ta_grow.1.desc).map (fun d => d.parameters.length) = some 0) := ⟨tb_1 4 rfl rfl, tb_1 99 rfl rfl, by decide +kernel⟩
theorem i_Ta_grow : Cond.instanceMethod y_Ta_grow.1 ∈ x_tbl ∧ Cond.selects y_Ta_grow.1.cls y_Ta_grow.1 y_Ta_grow.1 ∈ x_tbl := ⟨tb_1 97 rfl rfl, tb_1 98 rfl rfl⟩
theorem l_Ac_41 : Cond.methodLink y_Ac_changing.1.cls 41 y_Ta_at.1 ∈ x_tbl := tb_3 114 rfl rfl
theorem b_Ta_at : Cond.initialized y_Ta_at.1.cls ∈ x_tbl ∧ Cond.code y_Ta_at.1 y_Ta_at.2.1 y_Ta_at.2.2.1 y_Ta_at.2.2.2.1 ∈ x_tbl ∧ (y_Ta_at.1.cls ≠ "java/lang/invoke/MethodHandle" ∧ y_Ta_at.1.cls ≠ "java/lang/invoke/VarHandle" ∧ (parseMethodDescriptor y_Ta_at.1.desc).map (fun d => d.parameters.length) = some 2) := ⟨tb_1 4 rfl rfl, tb_2 199 rfl rfl, by decide +kernel⟩
theorem i_Ta_at : Cond.instanceMethod y_Ta_at.1 ∈ x_tbl ∧ Cond.selects y_Ta_at.1.cls y_Ta_at.1 y_Ta_at.1 ∈ x_tbl := ⟨tb_2 197 rfl rfl, tb_2 198 rfl rfl⟩
theorem l_Ac_45 : Cond.methodLink y_Ac_takeBack.1.cls 45 y_Ac_slotOf.1 ∈ x_tbl := tb_3 102 rfl rfl
theorem b_Ac_slotOf : Cond.initialized y_Ac_slotOf.1.cls ∈ x_tbl ∧ Cond.code y_Ac_slotOf.1 y_Ac_slotOf.2.1 y_Ac_slotOf.2.2.1 y_Ac_slotOf.2.2.2.1 ∈ x_tbl ∧ (y_Ac_slotOf.1.cls ≠ "java/lang/invoke/MethodHandle" ∧ y_Ac_slotOf.1.cls ≠ "java/lang/invoke/VarHandle" ∧ (parseMethodDescriptor y_Ac_slotOf.1.desc).map (fun d => d.parameters.length) = some 1) := ⟨tb_1 2 rfl rfl, tb_3 105 rfl rfl, by decide +kernel⟩
theorem i_Ac_slotOf : Cond.instanceMethod y_Ac_slotOf.1 ∈ x_tbl ∧ Cond.selects y_Ac_slotOf.1.cls y_Ac_slotOf.1 y_Ac_slotOf.1 ∈ x_tbl := ⟨tb_3 104 rfl rfl, tb_p 19 rfl rfl⟩
theorem l_Ac_49 : Cond.methodLink y_Ac_takeBack.1.cls 49 y_Ac_turnOver.1 ∈ x_tbl := tb_3 106 rfl rfl
theorem b_Ac_turnOver : Cond.initialized y_Ac_turnOver.1.cls ∈ x_tbl ∧ Cond.code y_Ac_turnOver.1 y_Ac_turnOver.2.1 y_Ac_turnOver.2.2.1 y_Ac_turnOver.2.2.2.1 ∈ x_tbl ∧ (y_Ac_turnOver.1.cls ≠ "java/lang/invoke/MethodHandle" ∧ y_Ac_turnOver.1.cls ≠ "java/lang/invoke/VarHandle" ∧ (parseMethodDescriptor y_Ac_turnOver.1.desc).map (fun d => d.parameters.length) = some 2) := ⟨tb_1 2 rfl rfl, tb_3 109 rfl rfl, by decide +kernel⟩
theorem i_Ac_turnOver : Cond.instanceMethod y_Ac_turnOver.1 ∈ x_tbl ∧ Cond.selects y_Ac_turnOver.1.cls y_Ac_turnOver.1 y_Ac_turnOver.1 ∈ x_tbl := ⟨tb_3 108 rfl rfl, tb_p 20 rfl rfl⟩
theorem f_Ac_53 : Cond.fieldLink "SmokeTubes$Acts" 53 "SmokeTubes$Acts" "oldest" "I" ∈ x_tbl := tb_1 43 rfl rfl
theorem l_Ac_56 : Cond.methodLink y_Ac_turnOver.1.cls 56 y_Ac_swap.1 ∈ x_tbl := tb_3 110 rfl rfl
theorem b_Ac_swap : Cond.initialized y_Ac_swap.1.cls ∈ x_tbl ∧ Cond.code y_Ac_swap.1 y_Ac_swap.2.1 y_Ac_swap.2.2.1 y_Ac_swap.2.2.2.1 ∈ x_tbl ∧ (y_Ac_swap.1.cls ≠ "java/lang/invoke/MethodHandle" ∧ y_Ac_swap.1.cls ≠ "java/lang/invoke/VarHandle" ∧ (parseMethodDescriptor y_Ac_swap.1.desc).map (fun d => d.parameters.length) = some 2) := ⟨tb_1 2 rfl rfl, tb_3 113 rfl rfl, by decide +kernel⟩
theorem i_Ac_swap : Cond.instanceMethod y_Ac_swap.1 ∈ x_tbl ∧ Cond.selects y_Ac_swap.1.cls y_Ac_swap.1 y_Ac_swap.1 ∈ x_tbl := ⟨tb_3 112 rfl rfl, tb_p 21 rfl rfl⟩
theorem l_Ac_60 : Cond.methodLink y_Ac_turnOver.1.cls 60 y_Ta_shrink.1 ∈ x_tbl := tb_3 117 rfl rfl
theorem b_Ta_shrink : Cond.initialized y_Ta_shrink.1.cls ∈ x_tbl ∧ Cond.code y_Ta_shrink.1 y_Ta_shrink.2.1 y_Ta_shrink.2.2.1 y_Ta_shrink.2.2.2.1 ∈ x_tbl ∧ (y_Ta_shrink.1.cls ≠ "java/lang/invoke/MethodHandle" ∧ y_Ta_shrink.1.cls ≠ "java/lang/invoke/VarHandle" ∧ (parseMethodDescriptor y_Ta_shrink.1.desc).map (fun d => d.parameters.length) = some 0) := ⟨tb_1 4 rfl rfl, tb_3 120 rfl rfl, by decide +kernel⟩
theorem i_Ta_shrink : Cond.instanceMethod y_Ta_shrink.1 ∈ x_tbl ∧ Cond.selects y_Ta_shrink.1.cls y_Ta_shrink.1 y_Ta_shrink.1 ∈ x_tbl := ⟨tb_3 118 rfl rfl, tb_3 119 rfl rfl⟩
theorem l_Ac_63 : Cond.methodLink y_Ac_swap.1.cls 63 y_Ta_put.1 ∈ x_tbl := tb_3 115 rfl rfl
theorem b_Ta_put : Cond.initialized y_Ta_put.1.cls ∈ x_tbl ∧ Cond.code y_Ta_put.1 y_Ta_put.2.1 y_Ta_put.2.2.1 y_Ta_put.2.2.2.1 ∈ x_tbl ∧ (y_Ta_put.1.cls ≠ "java/lang/invoke/MethodHandle" ∧ y_Ta_put.1.cls ≠ "java/lang/invoke/VarHandle" ∧ (parseMethodDescriptor y_Ta_put.1.desc).map (fun d => d.parameters.length) = some 3) := ⟨tb_1 4 rfl rfl, tb_1 95 rfl rfl, by decide +kernel⟩
theorem i_Ta_put : Cond.instanceMethod y_Ta_put.1 ∈ x_tbl ∧ Cond.selects y_Ta_put.1.cls y_Ta_put.1 y_Ta_put.1 ∈ x_tbl := ⟨tb_1 93 rfl rfl, tb_1 94 rfl rfl⟩
theorem f_Cr_9 : Cond.fieldLink "SmokeTubes$Crew" 9 "SmokeTubes$Crew" "there" "[I" ∈ x_tbl := tb_2 88 rfl rfl
theorem f_Cr_15 : Cond.fieldLink "SmokeTubes$Crew" 15 "SmokeTubes$Crew" "back" "[I" ∈ x_tbl := tb_2 89 rfl rfl
theorem f_Cr_18 : Cond.fieldLink "SmokeTubes$Crew" 18 "SmokeTubes$Crew" "house" "LSmokeTubes$House;" ∈ x_tbl := tb_2 86 rfl rfl
theorem f_Cr_22 : Cond.fieldLink "SmokeTubes$Crew" 22 "SmokeTubes$Crew" "smoke" "LSmokeTubes$Smoke;" ∈ x_tbl := tb_2 87 rfl rfl
theorem f_Cr_26 : Cond.fieldLink "SmokeTubes$Crew" 26 "SmokeTubes$House" "pieces" "LSmokeTubes$Table;" ∈ x_tbl := tb_1 101 rfl rfl
theorem l_Cr_32 : Cond.methodLink y_Cr_firstReach.1.cls 32 y_Ta_has.1 ∈ x_tbl := tb_5 207 rfl rfl
theorem b_Ta_has : Cond.initialized y_Ta_has.1.cls ∈ x_tbl ∧ Cond.code y_Ta_has.1 y_Ta_has.2.1 y_Ta_has.2.2.1 y_Ta_has.2.2.2.1 ∈ x_tbl ∧ (y_Ta_has.1.cls ≠ "java/lang/invoke/MethodHandle" ∧ y_Ta_has.1.cls ≠ "java/lang/invoke/VarHandle" ∧ (parseMethodDescriptor y_Ta_has.1.desc).map (fun d => d.parameters.length) = some 1) := ⟨tb_1 4 rfl rfl, tb_2 203 rfl rfl, by decide +kernel⟩
theorem i_Ta_has : Cond.instanceMethod y_Ta_has.1 ∈ x_tbl ∧ Cond.selects y_Ta_has.1.cls y_Ta_has.1 y_Ta_has.1 ∈ x_tbl := ⟨tb_2 201 rfl rfl, tb_2 202 rfl rfl⟩
theorem l_Cr_38 : Cond.methodLink y_Cr_firstReach.1.cls 38 y_Cr_goThere.1 ∈ x_tbl := tb_5 208 rfl rfl
theorem b_Cr_goThere : Cond.initialized y_Cr_goThere.1.cls ∈ x_tbl ∧ Cond.code y_Cr_goThere.1 y_Cr_goThere.2.1 y_Cr_goThere.2.2.1 y_Cr_goThere.2.2.2.1 ∈ x_tbl ∧ (y_Cr_goThere.1.cls ≠ "java/lang/invoke/MethodHandle" ∧ y_Cr_goThere.1.cls ≠ "java/lang/invoke/VarHandle" ∧ (parseMethodDescriptor y_Cr_goThere.1.desc).map (fun d => d.parameters.length) = some 0) := ⟨tb_1 11 rfl rfl, tb_5 211 rfl rfl, by decide +kernel⟩
theorem i_Cr_goThere : Cond.instanceMethod y_Cr_goThere.1 ∈ x_tbl ∧ Cond.selects y_Cr_goThere.1.cls y_Cr_goThere.1 y_Cr_goThere.1 ∈ x_tbl := ⟨tb_5 210 rfl rfl, tb_p 35 rfl rfl⟩
theorem l_Cr_41 : Cond.methodLink y_Cr_firstReach.1.cls 41 y_Cr_comeBack.1 ∈ x_tbl := tb_5 233 rfl rfl
theorem b_Cr_comeBack : Cond.initialized y_Cr_comeBack.1.cls ∈ x_tbl ∧ Cond.code y_Cr_comeBack.1 y_Cr_comeBack.2.1 y_Cr_comeBack.2.2.1 y_Cr_comeBack.2.2.2.1 ∈ x_tbl ∧ (y_Cr_comeBack.1.cls ≠ "java/lang/invoke/MethodHandle" ∧ y_Cr_comeBack.1.cls ≠ "java/lang/invoke/VarHandle" ∧ (parseMethodDescriptor y_Cr_comeBack.1.desc).map (fun d => d.parameters.length) = some 0) := ⟨tb_1 11 rfl rfl, tb_5 236 rfl rfl, by decide +kernel⟩
theorem i_Cr_comeBack : Cond.instanceMethod y_Cr_comeBack.1 ∈ x_tbl ∧ Cond.selects y_Cr_comeBack.1.cls y_Cr_comeBack.1 y_Cr_comeBack.1 ∈ x_tbl := ⟨tb_5 235 rfl rfl, tb_p 38 rfl rfl⟩
theorem k_Cr_48 : Jvm.Cond.constant "SmokeTubes$Crew" 48 (Int32.ofInt (1000000)) ∈ x_tbl := tb_5 212 rfl rfl
theorem l_Cr_49 : Cond.methodLink y_Cr_goThere.1.cls 49 y_JA_fill.1 ∈ x_tbl := tb_5 213 rfl rfl
theorem b_JA_fill : Cond.initialized y_JA_fill.1.cls ∈ x_tbl ∧ Cond.code y_JA_fill.1 y_JA_fill.2.1 y_JA_fill.2.2.1 y_JA_fill.2.2.2.1 ∈ x_tbl ∧ (y_JA_fill.1.cls ≠ "java/lang/invoke/MethodHandle" ∧ y_JA_fill.1.cls ≠ "java/lang/invoke/VarHandle" ∧ (parseMethodDescriptor y_JA_fill.1.desc).map (fun d => d.parameters.length) = some 2) := ⟨tb_1 20 rfl rfl, tb_2 187 rfl rfl, by decide +kernel⟩
theorem i_JA_fill : Cond.static y_JA_fill.1 ∈ x_tbl := tb_2 186 rfl rfl
theorem l_Cr_55 : Cond.methodLink y_Cr_goThere.1.cls 55 y_Ta_size.1 ∈ x_tbl := tb_5 214 rfl rfl
theorem b_Ta_size : Cond.initialized y_Ta_size.1.cls ∈ x_tbl ∧ Cond.code y_Ta_size.1 y_Ta_size.2.1 y_Ta_size.2.2.1 y_Ta_size.2.2.2.1 ∈ x_tbl ∧ (y_Ta_size.1.cls ≠ "java/lang/invoke/MethodHandle" ∧ y_Ta_size.1.cls ≠ "java/lang/invoke/VarHandle" ∧ (parseMethodDescriptor y_Ta_size.1.desc).map (fun d => d.parameters.length) = some 0) := ⟨tb_1 4 rfl rfl, tb_2 195 rfl rfl, by decide +kernel⟩
theorem i_Ta_size : Cond.instanceMethod y_Ta_size.1 ∈ x_tbl ∧ Cond.selects y_Ta_size.1.cls y_Ta_size.1 y_Ta_size.1 ∈ x_tbl := ⟨tb_2 193 rfl rfl, tb_2 194 rfl rfl⟩
theorem l_Cr_59 : Cond.methodLink y_Cr_goThere.1.cls 59 y_Ta_at.1 ∈ x_tbl := tb_5 215 rfl rfl
theorem l_Cr_62 : Cond.methodLink y_Cr_goThere.1.cls 62 y_Cr_leastThere.1 ∈ x_tbl := tb_5 219 rfl rfl
theorem b_Cr_leastThere : Cond.initialized y_Cr_leastThere.1.cls ∈ x_tbl ∧ Cond.code y_Cr_leastThere.1 y_Cr_leastThere.2.1 y_Cr_leastThere.2.2.1 y_Cr_leastThere.2.2.2.1 ∈ x_tbl ∧ (y_Cr_leastThere.1.cls ≠ "java/lang/invoke/MethodHandle" ∧ y_Cr_leastThere.1.cls ≠ "java/lang/invoke/VarHandle" ∧ (parseMethodDescriptor y_Cr_leastThere.1.desc).map (fun d => d.parameters.length) = some 2) := ⟨tb_1 11 rfl rfl, tb_5 222 rfl rfl, by decide +kernel⟩
theorem i_Cr_leastThere : Cond.instanceMethod y_Cr_leastThere.1 ∈ x_tbl ∧ Cond.selects y_Cr_leastThere.1.cls y_Cr_leastThere.1 y_Cr_leastThere.1 ∈ x_tbl := ⟨tb_5 221 rfl rfl, tb_p 36 rfl rfl⟩
theorem l_Cr_65 : Cond.methodLink y_Cr_goThere.1.cls 65 y_JM_min.1 ∈ x_tbl := tb_5 227 rfl rfl
theorem b_JM_min : Cond.initialized y_JM_min.1.cls ∈ x_tbl ∧ Cond.code y_JM_min.1 y_JM_min.2.1 y_JM_min.2.2.1 y_JM_min.2.2.2.1 ∈ x_tbl ∧ (y_JM_min.1.cls ≠ "java/lang/invoke/MethodHandle" ∧ y_JM_min.1.cls ≠ "java/lang/invoke/VarHandle" ∧ (parseMethodDescriptor y_JM_min.1.desc).map (fun d => d.parameters.length) = some 2) := ⟨tb_1 5 rfl rfl, tb_2 222 rfl rfl, by decide +kernel⟩
theorem i_JM_min : Cond.static y_JM_min.1 ∈ x_tbl := tb_2 221 rfl rfl
theorem f_Cr_70 : Cond.fieldLink "SmokeTubes$Crew" 70 "SmokeTubes$House" "ways" "LSmokeTubes$Table;" ∈ x_tbl := tb_1 109 rfl rfl
theorem l_Cr_73 : Cond.methodLink y_Cr_leastThere.1.cls 73 y_Ho_otherEnd.1 ∈ x_tbl := tb_5 223 rfl rfl
theorem b_Ho_otherEnd : Cond.initialized y_Ho_otherEnd.1.cls ∈ x_tbl ∧ Cond.code y_Ho_otherEnd.1 y_Ho_otherEnd.2.1 y_Ho_otherEnd.2.2.1 y_Ho_otherEnd.2.2.2.1 ∈ x_tbl ∧ (y_Ho_otherEnd.1.cls ≠ "java/lang/invoke/MethodHandle" ∧ y_Ho_otherEnd.1.cls ≠ "java/lang/invoke/VarHandle" ∧ (parseMethodDescriptor y_Ho_otherEnd.1.desc).map (fun d => d.parameters.length) = some 2) := ⟨tb_1 3 rfl rfl, tb_5 226 rfl rfl, by decide +kernel⟩
theorem i_Ho_otherEnd : Cond.instanceMethod y_Ho_otherEnd.1 ∈ x_tbl ∧ Cond.selects y_Ho_otherEnd.1.cls y_Ho_otherEnd.1 y_Ho_otherEnd.1 ∈ x_tbl := ⟨tb_5 224 rfl rfl, tb_5 225 rfl rfl⟩
theorem l_Cr_76 : Cond.methodLink y_Cr_leastThere.1.cls 76 y_Cr_comes.1 ∈ x_tbl := tb_5 228 rfl rfl
theorem b_Cr_comes : Cond.initialized y_Cr_comes.1.cls ∈ x_tbl ∧ Cond.code y_Cr_comes.1 y_Cr_comes.2.1 y_Cr_comes.2.2.1 y_Cr_comes.2.2.2.1 ∈ x_tbl ∧ (y_Cr_comes.1.cls ≠ "java/lang/invoke/MethodHandle" ∧ y_Cr_comes.1.cls ≠ "java/lang/invoke/VarHandle" ∧ (parseMethodDescriptor y_Cr_comes.1.desc).map (fun d => d.parameters.length) = some 2) := ⟨tb_1 11 rfl rfl, tb_5 231 rfl rfl, by decide +kernel⟩
theorem i_Cr_comes : Cond.instanceMethod y_Cr_comes.1 ∈ x_tbl ∧ Cond.selects y_Cr_comes.1.cls y_Cr_comes.1 y_Cr_comes.1 ∈ x_tbl := ⟨tb_5 230 rfl rfl, tb_p 37 rfl rfl⟩
theorem l_Cr_79 : Cond.methodLink y_Cr_comeBack.1.cls 79 y_Cr_leastBack.1 ∈ x_tbl := tb_5 237 rfl rfl
theorem b_Cr_leastBack : Cond.initialized y_Cr_leastBack.1.cls ∈ x_tbl ∧ Cond.code y_Cr_leastBack.1 y_Cr_leastBack.2.1 y_Cr_leastBack.2.2.1 y_Cr_leastBack.2.2.2.1 ∈ x_tbl ∧ (y_Cr_leastBack.1.cls ≠ "java/lang/invoke/MethodHandle" ∧ y_Cr_leastBack.1.cls ≠ "java/lang/invoke/VarHandle" ∧ (parseMethodDescriptor y_Cr_leastBack.1.desc).map (fun d => d.parameters.length) = some 2) := ⟨tb_1 11 rfl rfl, tb_6 0 rfl rfl, by decide +kernel⟩
theorem i_Cr_leastBack : Cond.instanceMethod y_Cr_leastBack.1 ∈ x_tbl ∧ Cond.selects y_Cr_leastBack.1.cls y_Cr_leastBack.1 y_Cr_leastBack.1 ∈ x_tbl := ⟨tb_5 239 rfl rfl, tb_p 39 rfl rfl⟩
theorem l_Cr_82 : Cond.methodLink y_Cr_comes.1.cls 82 y_Sm_isShut.1 ∈ x_tbl := tb_5 232 rfl rfl
theorem b_Sm_isShut : Cond.initialized y_Sm_isShut.1.cls ∈ x_tbl ∧ Cond.code y_Sm_isShut.1 y_Sm_isShut.2.1 y_Sm_isShut.2.2.1 y_Sm_isShut.2.2.2.1 ∈ x_tbl ∧ (y_Sm_isShut.1.cls ≠ "java/lang/invoke/MethodHandle" ∧ y_Sm_isShut.1.cls ≠ "java/lang/invoke/VarHandle" ∧ (parseMethodDescriptor y_Sm_isShut.1.desc).map (fun d => d.parameters.length) = some 2) := ⟨tb_1 6 rfl rfl, tb_3 47 rfl rfl, by decide +kernel⟩
theorem i_Sm_isShut : Cond.instanceMethod y_Sm_isShut.1 ∈ x_tbl ∧ Cond.selects y_Sm_isShut.1.cls y_Sm_isShut.1 y_Sm_isShut.1 ∈ x_tbl := ⟨tb_3 45 rfl rfl, tb_3 46 rfl rfl⟩
theorem f_Es_12 : Cond.fieldLink "SmokeTubes$Escape" 12 "SmokeTubes$Escape" "net" "LSmokeTubes$Net;" ∈ x_tbl := tb_2 25 rfl rfl
theorem f_Es_18 : Cond.fieldLink "SmokeTubes$Escape" 18 "SmokeTubes$Escape" "house" "LSmokeTubes$House;" ∈ x_tbl := tb_2 23 rfl rfl
theorem f_Es_22 : Cond.fieldLink "SmokeTubes$Escape" 22 "SmokeTubes$Escape" "smoke" "LSmokeTubes$Smoke;" ∈ x_tbl := tb_2 24 rfl rfl
theorem l_Es_26 : Cond.methodLink y_Es_most.1.cls 26 y_Ne_clear.1 ∈ x_tbl := tb_3 30 rfl rfl
theorem b_Ne_clear : Cond.initialized y_Ne_clear.1.cls ∈ x_tbl ∧ Cond.code y_Ne_clear.1 y_Ne_clear.2.1 y_Ne_clear.2.2.1 y_Ne_clear.2.2.2.1 ∈ x_tbl ∧ (y_Ne_clear.1.cls ≠ "java/lang/invoke/MethodHandle" ∧ y_Ne_clear.1.cls ≠ "java/lang/invoke/VarHandle" ∧ (parseMethodDescriptor y_Ne_clear.1.desc).map (fun d => d.parameters.length) = some 0) := ⟨tb_1 8 rfl rfl, tb_3 33 rfl rfl, by decide +kernel⟩
theorem i_Ne_clear : Cond.instanceMethod y_Ne_clear.1 ∈ x_tbl ∧ Cond.selects y_Ne_clear.1.cls y_Ne_clear.1 y_Ne_clear.1 ∈ x_tbl := ⟨tb_3 31 rfl rfl, tb_3 32 rfl rfl⟩
theorem l_Es_29 : Cond.methodLink y_Es_most.1.cls 29 y_Es_joinRooms.1 ∈ x_tbl := tb_3 34 rfl rfl
theorem b_Es_joinRooms : Cond.initialized y_Es_joinRooms.1.cls ∈ x_tbl ∧ Cond.code y_Es_joinRooms.1 y_Es_joinRooms.2.1 y_Es_joinRooms.2.2.1 y_Es_joinRooms.2.2.2.1 ∈ x_tbl ∧ (y_Es_joinRooms.1.cls ≠ "java/lang/invoke/MethodHandle" ∧ y_Es_joinRooms.1.cls ≠ "java/lang/invoke/VarHandle" ∧ (parseMethodDescriptor y_Es_joinRooms.1.desc).map (fun d => d.parameters.length) = some 1) := ⟨tb_1 7 rfl rfl, tb_3 37 rfl rfl, by decide +kernel⟩
theorem i_Es_joinRooms : Cond.instanceMethod y_Es_joinRooms.1 ∈ x_tbl ∧ Cond.selects y_Es_joinRooms.1.cls y_Es_joinRooms.1 y_Es_joinRooms.1 ∈ x_tbl := ⟨tb_3 36 rfl rfl, tb_p 10 rfl rfl⟩
theorem l_Es_33 : Cond.methodLink y_Es_most.1.cls 33 y_Es_joinWays.1 ∈ x_tbl := tb_3 57 rfl rfl
theorem b_Es_joinWays : Cond.initialized y_Es_joinWays.1.cls ∈ x_tbl ∧ Cond.code y_Es_joinWays.1 y_Es_joinWays.2.1 y_Es_joinWays.2.2.1 y_Es_joinWays.2.2.2.1 ∈ x_tbl ∧ (y_Es_joinWays.1.cls ≠ "java/lang/invoke/MethodHandle" ∧ y_Es_joinWays.1.cls ≠ "java/lang/invoke/VarHandle" ∧ (parseMethodDescriptor y_Es_joinWays.1.desc).map (fun d => d.parameters.length) = some 2) := ⟨tb_1 7 rfl rfl, tb_3 60 rfl rfl, by decide +kernel⟩
theorem i_Es_joinWays : Cond.instanceMethod y_Es_joinWays.1 ∈ x_tbl ∧ Cond.selects y_Es_joinWays.1.cls y_Es_joinWays.1 y_Es_joinWays.1 ∈ x_tbl := ⟨tb_3 59 rfl rfl, tb_p 12 rfl rfl⟩
theorem l_Es_37 : Cond.methodLink y_Es_most.1.cls 37 y_Es_joinExits.1 ∈ x_tbl := tb_3 61 rfl rfl
theorem b_Es_joinExits : Cond.initialized y_Es_joinExits.1.cls ∈ x_tbl ∧ Cond.code y_Es_joinExits.1 y_Es_joinExits.2.1 y_Es_joinExits.2.2.1 y_Es_joinExits.2.2.2.1 ∈ x_tbl ∧ (y_Es_joinExits.1.cls ≠ "java/lang/invoke/MethodHandle" ∧ y_Es_joinExits.1.cls ≠ "java/lang/invoke/VarHandle" ∧ (parseMethodDescriptor y_Es_joinExits.1.desc).map (fun d => d.parameters.length) = some 2) := ⟨tb_1 7 rfl rfl, tb_3 64 rfl rfl, by decide +kernel⟩
theorem i_Es_joinExits : Cond.instanceMethod y_Es_joinExits.1 ∈ x_tbl ∧ Cond.selects y_Es_joinExits.1.cls y_Es_joinExits.1 y_Es_joinExits.1 ∈ x_tbl := ⟨tb_3 63 rfl rfl, tb_p 13 rfl rfl⟩
theorem l_Es_40 : Cond.methodLink y_Es_most.1.cls 40 y_Es_joinGroups.1 ∈ x_tbl := tb_3 69 rfl rfl
theorem b_Es_joinGroups : Cond.initialized y_Es_joinGroups.1.cls ∈ x_tbl ∧ Cond.code y_Es_joinGroups.1 y_Es_joinGroups.2.1 y_Es_joinGroups.2.2.1 y_Es_joinGroups.2.2.2.1 ∈ x_tbl ∧ (y_Es_joinGroups.1.cls ≠ "java/lang/invoke/MethodHandle" ∧ y_Es_joinGroups.1.cls ≠ "java/lang/invoke/VarHandle" ∧ (parseMethodDescriptor y_Es_joinGroups.1.desc).map (fun d => d.parameters.length) = some 1) := ⟨tb_1 7 rfl rfl, tb_3 72 rfl rfl, by decide +kernel⟩
theorem i_Es_joinGroups : Cond.instanceMethod y_Es_joinGroups.1 ∈ x_tbl ∧ Cond.selects y_Es_joinGroups.1.cls y_Es_joinGroups.1 y_Es_joinGroups.1 ∈ x_tbl := ⟨tb_3 71 rfl rfl, tb_p 14 rfl rfl⟩
theorem l_Es_43 : Cond.methodLink y_Es_most.1.cls 43 y_Ne_most.1 ∈ x_tbl := tb_3 73 rfl rfl
theorem b_Ne_most : Cond.initialized y_Ne_most.1.cls ∈ x_tbl ∧ Cond.code y_Ne_most.1 y_Ne_most.2.1 y_Ne_most.2.2.1 y_Ne_most.2.2.2.1 ∈ x_tbl ∧ (y_Ne_most.1.cls ≠ "java/lang/invoke/MethodHandle" ∧ y_Ne_most.1.cls ≠ "java/lang/invoke/VarHandle" ∧ (parseMethodDescriptor y_Ne_most.1.desc).map (fun d => d.parameters.length) = some 0) := ⟨tb_1 8 rfl rfl, tb_3 76 rfl rfl, by decide +kernel⟩
theorem i_Ne_most : Cond.instanceMethod y_Ne_most.1 ∈ x_tbl ∧ Cond.selects y_Ne_most.1.cls y_Ne_most.1 y_Ne_most.1 ∈ x_tbl := ⟨tb_3 74 rfl rfl, tb_3 75 rfl rfl⟩
theorem l_Es_47 : Cond.methodLink y_Es_firstForAll.1.cls 47 y_Ho_allPeople.1 ∈ x_tbl := tb_4 220 rfl rfl
theorem b_Ho_allPeople : Cond.initialized y_Ho_allPeople.1.cls ∈ x_tbl ∧ Cond.code y_Ho_allPeople.1 y_Ho_allPeople.2.1 y_Ho_allPeople.2.2.1 y_Ho_allPeople.2.2.2.1 ∈ x_tbl ∧ (y_Ho_allPeople.1.cls ≠ "java/lang/invoke/MethodHandle" ∧ y_Ho_allPeople.1.cls ≠ "java/lang/invoke/VarHandle" ∧ (parseMethodDescriptor y_Ho_allPeople.1.desc).map (fun d => d.parameters.length) = some 0) := ⟨tb_1 3 rfl rfl, tb_3 137 rfl rfl, by decide +kernel⟩
theorem i_Ho_allPeople : Cond.instanceMethod y_Ho_allPeople.1 ∈ x_tbl ∧ Cond.selects y_Ho_allPeople.1.cls y_Ho_allPeople.1 y_Ho_allPeople.1 ∈ x_tbl := ⟨tb_3 135 rfl rfl, tb_3 136 rfl rfl⟩
theorem l_Es_52 : Cond.methodLink y_Es_firstForAll.1.cls 52 y_Ho_walkTimes.1 ∈ x_tbl := tb_4 221 rfl rfl
theorem b_Ho_walkTimes : Cond.initialized y_Ho_walkTimes.1.cls ∈ x_tbl ∧ Cond.code y_Ho_walkTimes.1 y_Ho_walkTimes.2.1 y_Ho_walkTimes.2.2.1 y_Ho_walkTimes.2.2.2.1 ∈ x_tbl ∧ (y_Ho_walkTimes.1.cls ≠ "java/lang/invoke/MethodHandle" ∧ y_Ho_walkTimes.1.cls ≠ "java/lang/invoke/VarHandle" ∧ (parseMethodDescriptor y_Ho_walkTimes.1.desc).map (fun d => d.parameters.length) = some 0) := ⟨tb_1 3 rfl rfl, tb_4 206 rfl rfl, by decide +kernel⟩
theorem i_Ho_walkTimes : Cond.instanceMethod y_Ho_walkTimes.1 ∈ x_tbl ∧ Cond.selects y_Ho_walkTimes.1.cls y_Ho_walkTimes.1 y_Ho_walkTimes.1 ∈ x_tbl := ⟨tb_4 204 rfl rfl, tb_4 205 rfl rfl⟩
theorem l_Es_55 : Cond.methodLink y_Es_firstForAll.1.cls 55 y_Ho_madeDoors.1 ∈ x_tbl := tb_3 21 rfl rfl
theorem b_Ho_madeDoors : Cond.initialized y_Ho_madeDoors.1.cls ∈ x_tbl ∧ Cond.code y_Ho_madeDoors.1 y_Ho_madeDoors.2.1 y_Ho_madeDoors.2.2.1 y_Ho_madeDoors.2.2.2.1 ∈ x_tbl ∧ (y_Ho_madeDoors.1.cls ≠ "java/lang/invoke/MethodHandle" ∧ y_Ho_madeDoors.1.cls ≠ "java/lang/invoke/VarHandle" ∧ (parseMethodDescriptor y_Ho_madeDoors.1.desc).map (fun d => d.parameters.length) = some 0) := ⟨tb_1 3 rfl rfl, tb_3 24 rfl rfl, by decide +kernel⟩
theorem i_Ho_madeDoors : Cond.instanceMethod y_Ho_madeDoors.1 ∈ x_tbl ∧ Cond.selects y_Ho_madeDoors.1.cls y_Ho_madeDoors.1 y_Ho_madeDoors.1 ∈ x_tbl := ⟨tb_3 22 rfl rfl, tb_3 23 rfl rfl⟩
theorem l_Es_58 : Cond.methodLink y_Es_firstForAll.1.cls 58 y_Es_most.1 ∈ x_tbl := tb_3 26 rfl rfl
theorem b_Es_most : Cond.initialized y_Es_most.1.cls ∈ x_tbl ∧ Cond.code y_Es_most.1 y_Es_most.2.1 y_Es_most.2.2.1 y_Es_most.2.2.2.1 ∈ x_tbl ∧ (y_Es_most.1.cls ≠ "java/lang/invoke/MethodHandle" ∧ y_Es_most.1.cls ≠ "java/lang/invoke/VarHandle" ∧ (parseMethodDescriptor y_Es_most.1.desc).map (fun d => d.parameters.length) = some 3) := ⟨tb_1 7 rfl rfl, tb_3 29 rfl rfl, by decide +kernel⟩
theorem i_Es_most : Cond.instanceMethod y_Es_most.1 ∈ x_tbl ∧ Cond.selects y_Es_most.1.cls y_Es_most.1 y_Es_most.1 ∈ x_tbl := ⟨tb_3 27 rfl rfl, tb_3 28 rfl rfl⟩
theorem f_Es_61 : Cond.fieldLink "SmokeTubes$Escape" 61 "SmokeTubes$House" "drills" "LSmokeTubes$Table;" ∈ x_tbl := tb_1 131 rfl rfl
theorem l_Es_65 : Cond.methodLink y_Es_fitsDrills.1.cls 65 y_Ta_size.1 ∈ x_tbl := tb_3 19 rfl rfl
theorem l_Es_70 : Cond.methodLink y_Es_fitsDrills.1.cls 70 y_Ta_at.1 ∈ x_tbl := tb_3 20 rfl rfl
theorem f_Es_74 : Cond.fieldLink "SmokeTubes$Escape" 74 "SmokeTubes$House" "pieces" "LSmokeTubes$Table;" ∈ x_tbl := tb_1 104 rfl rfl
theorem l_Es_77 : Cond.methodLink y_Es_sideAt.1.cls 77 y_Es_begin.1 ∈ x_tbl := tb_3 38 rfl rfl
theorem b_Es_begin : Cond.initialized y_Es_begin.1.cls ∈ x_tbl ∧ Cond.code y_Es_begin.1 y_Es_begin.2.1 y_Es_begin.2.2.1 y_Es_begin.2.2.2.1 ∈ x_tbl ∧ (y_Es_begin.1.cls ≠ "java/lang/invoke/MethodHandle" ∧ y_Es_begin.1.cls ≠ "java/lang/invoke/VarHandle" ∧ (parseMethodDescriptor y_Es_begin.1.desc).map (fun d => d.parameters.length) = some 2) := ⟨tb_1 7 rfl rfl, tb_3 40 rfl rfl, by decide +kernel⟩
theorem i_Es_begin : Cond.static y_Es_begin.1 ∈ x_tbl := tb_3 39 rfl rfl
theorem l_Es_80 : Cond.methodLink y_Es_sideAt.1.cls 80 y_Ne_isReached.1 ∈ x_tbl := tb_4 235 rfl rfl
theorem b_Ne_isReached : Cond.initialized y_Ne_isReached.1.cls ∈ x_tbl ∧ Cond.code y_Ne_isReached.1 y_Ne_isReached.2.1 y_Ne_isReached.2.2.1 y_Ne_isReached.2.2.2.1 ∈ x_tbl ∧ (y_Ne_isReached.1.cls ≠ "java/lang/invoke/MethodHandle" ∧ y_Ne_isReached.1.cls ≠ "java/lang/invoke/VarHandle" ∧ (parseMethodDescriptor y_Ne_isReached.1.desc).map (fun d => d.parameters.length) = some 1) := ⟨tb_1 8 rfl rfl, tb_4 238 rfl rfl, by decide +kernel⟩
theorem i_Ne_isReached : Cond.instanceMethod y_Ne_isReached.1 ∈ x_tbl ∧ Cond.selects y_Ne_isReached.1.cls y_Ne_isReached.1 y_Ne_isReached.1 ∈ x_tbl := ⟨tb_4 236 rfl rfl, tb_4 237 rfl rfl⟩
theorem l_Es_84 : Cond.methodLink y_Es_sideAt.1.cls 84 y_Es_being.1 ∈ x_tbl := tb_3 41 rfl rfl
theorem b_Es_being : Cond.initialized y_Es_being.1.cls ∈ x_tbl ∧ Cond.code y_Es_being.1 y_Es_being.2.1 y_Es_being.2.2.1 y_Es_being.2.2.2.1 ∈ x_tbl ∧ (y_Es_being.1.cls ≠ "java/lang/invoke/MethodHandle" ∧ y_Es_being.1.cls ≠ "java/lang/invoke/VarHandle" ∧ (parseMethodDescriptor y_Es_being.1.desc).map (fun d => d.parameters.length) = some 2) := ⟨tb_1 7 rfl rfl, tb_3 43 rfl rfl, by decide +kernel⟩
theorem i_Es_being : Cond.static y_Es_being.1 ∈ x_tbl := tb_3 42 rfl rfl
theorem l_Es_87 : Cond.methodLink y_Es_worthOf.1.cls 87 y_Es_isIn.1 ∈ x_tbl := tb_5 60 rfl rfl
theorem b_Es_isIn : Cond.initialized y_Es_isIn.1.cls ∈ x_tbl ∧ Cond.code y_Es_isIn.1 y_Es_isIn.2.1 y_Es_isIn.2.2.1 y_Es_isIn.2.2.2.1 ∈ x_tbl ∧ (y_Es_isIn.1.cls ≠ "java/lang/invoke/MethodHandle" ∧ y_Es_isIn.1.cls ≠ "java/lang/invoke/VarHandle" ∧ (parseMethodDescriptor y_Es_isIn.1.desc).map (fun d => d.parameters.length) = some 4) := ⟨tb_1 7 rfl rfl, tb_5 62 rfl rfl, by decide +kernel⟩
theorem i_Es_isIn : Cond.static y_Es_isIn.1 ∈ x_tbl := tb_5 61 rfl rfl
theorem l_Es_91 : Cond.methodLink y_Es_worthOf.1.cls 91 y_Sm_isShut.1 ∈ x_tbl := tb_3 44 rfl rfl
theorem l_Es_97 : Cond.methodLink y_Es_worthOf.1.cls 97 y_Ho_exitWidth.1 ∈ x_tbl := tb_3 65 rfl rfl
theorem b_Ho_exitWidth : Cond.initialized y_Ho_exitWidth.1.cls ∈ x_tbl ∧ Cond.code y_Ho_exitWidth.1 y_Ho_exitWidth.2.1 y_Ho_exitWidth.2.2.1 y_Ho_exitWidth.2.2.2.1 ∈ x_tbl ∧ (y_Ho_exitWidth.1.cls ≠ "java/lang/invoke/MethodHandle" ∧ y_Ho_exitWidth.1.cls ≠ "java/lang/invoke/VarHandle" ∧ (parseMethodDescriptor y_Ho_exitWidth.1.desc).map (fun d => d.parameters.length) = some 2) := ⟨tb_1 3 rfl rfl, tb_3 68 rfl rfl, by decide +kernel⟩
theorem i_Ho_exitWidth : Cond.instanceMethod y_Ho_exitWidth.1 ∈ x_tbl ∧ Cond.selects y_Ho_exitWidth.1.cls y_Ho_exitWidth.1 y_Ho_exitWidth.1 ∈ x_tbl := ⟨tb_3 66 rfl rfl, tb_3 67 rfl rfl⟩
theorem l_Es_100 : Cond.methodLink y_Es_worthOf.1.cls 100 y_Es_worthOfGroups.1 ∈ x_tbl := tb_5 68 rfl rfl
theorem b_Es_worthOfGroups : Cond.initialized y_Es_worthOfGroups.1.cls ∈ x_tbl ∧ Cond.code y_Es_worthOfGroups.1 y_Es_worthOfGroups.2.1 y_Es_worthOfGroups.2.2.1 y_Es_worthOfGroups.2.2.2.1 ∈ x_tbl ∧ (y_Es_worthOfGroups.1.cls ≠ "java/lang/invoke/MethodHandle" ∧ y_Es_worthOfGroups.1.cls ≠ "java/lang/invoke/VarHandle" ∧ (parseMethodDescriptor y_Es_worthOfGroups.1.desc).map (fun d => d.parameters.length) = some 3) := ⟨tb_1 7 rfl rfl, tb_5 71 rfl rfl, by decide +kernel⟩
theorem i_Es_worthOfGroups : Cond.instanceMethod y_Es_worthOfGroups.1 ∈ x_tbl ∧ Cond.selects y_Es_worthOfGroups.1.cls y_Es_worthOfGroups.1 y_Es_worthOfGroups.1 ∈ x_tbl := ⟨tb_5 70 rfl rfl, tb_p 27 rfl rfl⟩
theorem l_Es_104 : Cond.methodLink y_Es_worthOf.1.cls 104 y_Es_worthOfWays.1 ∈ x_tbl := tb_5 72 rfl rfl
theorem b_Es_worthOfWays : Cond.initialized y_Es_worthOfWays.1.cls ∈ x_tbl ∧ Cond.code y_Es_worthOfWays.1 y_Es_worthOfWays.2.1 y_Es_worthOfWays.2.2.1 y_Es_worthOfWays.2.2.2.1 ∈ x_tbl ∧ (y_Es_worthOfWays.1.cls ≠ "java/lang/invoke/MethodHandle" ∧ y_Es_worthOfWays.1.cls ≠ "java/lang/invoke/VarHandle" ∧ (parseMethodDescriptor y_Es_worthOfWays.1.desc).map (fun d => d.parameters.length) = some 3) := ⟨tb_1 7 rfl rfl, tb_5 75 rfl rfl, by decide +kernel⟩
theorem i_Es_worthOfWays : Cond.instanceMethod y_Es_worthOfWays.1 ∈ x_tbl ∧ Cond.selects y_Es_worthOfWays.1.cls y_Es_worthOfWays.1 y_Es_worthOfWays.1 ∈ x_tbl := ⟨tb_5 74 rfl rfl, tb_p 28 rfl rfl⟩
theorem f_Es_107 : Cond.fieldLink "SmokeTubes$Escape" 107 "SmokeTubes$House" "groups" "LSmokeTubes$Table;" ∈ x_tbl := tb_1 125 rfl rfl
theorem f_Es_110 : Cond.fieldLink "SmokeTubes$Escape" 110 "SmokeTubes$House" "ways" "LSmokeTubes$Table;" ∈ x_tbl := tb_1 111 rfl rfl
theorem l_Es_113 : Cond.methodLink y_Es_isIn.1.cls 113 y_Ro_at.1 ∈ x_tbl := tb_5 63 rfl rfl
theorem b_Ro_at : Cond.initialized y_Ro_at.1.cls ∈ x_tbl ∧ Cond.code y_Ro_at.1 y_Ro_at.2.1 y_Ro_at.2.2.1 y_Ro_at.2.2.2.1 ∈ x_tbl ∧ (y_Ro_at.1.cls ≠ "java/lang/invoke/MethodHandle" ∧ y_Ro_at.1.cls ≠ "java/lang/invoke/VarHandle" ∧ (parseMethodDescriptor y_Ro_at.1.desc).map (fun d => d.parameters.length) = some 2) := ⟨tb_1 13 rfl rfl, tb_5 66 rfl rfl, by decide +kernel⟩
theorem i_Ro_at : Cond.instanceMethod y_Ro_at.1 ∈ x_tbl ∧ Cond.selects y_Ro_at.1.cls y_Ro_at.1 y_Ro_at.1 ∈ x_tbl := ⟨tb_5 64 rfl rfl, tb_5 65 rfl rfl⟩
theorem l_Es_118 : Cond.methodLink y_Es_joinRooms.1.cls 118 y_Ne_join.1 ∈ x_tbl := tb_3 48 rfl rfl
theorem b_Ne_join : Cond.initialized y_Ne_join.1.cls ∈ x_tbl ∧ Cond.code y_Ne_join.1 y_Ne_join.2.1 y_Ne_join.2.2.1 y_Ne_join.2.2.2.1 ∈ x_tbl ∧ (y_Ne_join.1.cls ≠ "java/lang/invoke/MethodHandle" ∧ y_Ne_join.1.cls ≠ "java/lang/invoke/VarHandle" ∧ (parseMethodDescriptor y_Ne_join.1.desc).map (fun d => d.parameters.length) = some 3) := ⟨tb_1 8 rfl rfl, tb_3 51 rfl rfl, by decide +kernel⟩
theorem i_Ne_join : Cond.instanceMethod y_Ne_join.1 ∈ x_tbl ∧ Cond.selects y_Ne_join.1.cls y_Ne_join.1 y_Ne_join.1 ∈ x_tbl := ⟨tb_3 49 rfl rfl, tb_3 50 rfl rfl⟩
theorem k_Es_122 : Jvm.Cond.constant "SmokeTubes$Escape" 122 (Int32.ofInt (1000000)) ∈ x_tbl := tb_3 56 rfl rfl
theorem f_Ho_14 : Cond.fieldLink "SmokeTubes$House" 14 "SmokeTubes$House" "pieces" "LSmokeTubes$Table;" ∈ x_tbl := tb_1 100 rfl rfl
theorem f_Ho_20 : Cond.fieldLink "SmokeTubes$House" 20 "SmokeTubes$House" "ways" "LSmokeTubes$Table;" ∈ x_tbl := tb_1 107 rfl rfl
theorem f_Ho_23 : Cond.fieldLink "SmokeTubes$House" 23 "SmokeTubes$House" "fires" "LSmokeTubes$Table;" ∈ x_tbl := tb_1 113 rfl rfl
theorem f_Ho_26 : Cond.fieldLink "SmokeTubes$House" 26 "SmokeTubes$House" "fans" "LSmokeTubes$Table;" ∈ x_tbl := tb_1 118 rfl rfl
theorem f_Ho_29 : Cond.fieldLink "SmokeTubes$House" 29 "SmokeTubes$House" "sets" "LSmokeTubes$Table;" ∈ x_tbl := tb_1 121 rfl rfl
theorem f_Ho_32 : Cond.fieldLink "SmokeTubes$House" 32 "SmokeTubes$House" "groups" "LSmokeTubes$Table;" ∈ x_tbl := tb_1 124 rfl rfl
theorem f_Ho_35 : Cond.fieldLink "SmokeTubes$House" 35 "SmokeTubes$House" "doors" "LSmokeTubes$Table;" ∈ x_tbl := tb_1 127 rfl rfl
theorem f_Ho_38 : Cond.fieldLink "SmokeTubes$House" 38 "SmokeTubes$House" "drills" "LSmokeTubes$Table;" ∈ x_tbl := tb_1 130 rfl rfl
theorem f_Ho_41 : Cond.fieldLink "SmokeTubes$House" 41 "SmokeTubes$House" "readings" "LSmokeTubes$Table;" ∈ x_tbl := tb_1 133 rfl rfl
theorem f_Ho_44 : Cond.fieldLink "SmokeTubes$House" 44 "SmokeTubes$House" "dials" "LSmokeTubes$Table;" ∈ x_tbl := tb_1 136 rfl rfl
theorem f_Ho_47 : Cond.fieldLink "SmokeTubes$House" 47 "SmokeTubes$House" "acts" "LSmokeTubes$Acts;" ∈ x_tbl := tb_1 140 rfl rfl
theorem l_Ho_51 : Cond.methodLink y_Ho_init.1.cls 51 y_Ta_draft.1 ∈ x_tbl := tb_1 88 rfl rfl
theorem b_Ta_draft : Cond.initialized y_Ta_draft.1.cls ∈ x_tbl ∧ Cond.code y_Ta_draft.1 y_Ta_draft.2.1 y_Ta_draft.2.2.1 y_Ta_draft.2.2.2.1 ∈ x_tbl ∧ (y_Ta_draft.1.cls ≠ "java/lang/invoke/MethodHandle" ∧ y_Ta_draft.1.cls ≠ "java/lang/invoke/VarHandle" ∧ (parseMethodDescriptor y_Ta_draft.1.desc).map (fun d => d.parameters.length) = some 6) := ⟨tb_1 4 rfl rfl, tb_1 91 rfl rfl, by decide +kernel⟩
theorem i_Ta_draft : Cond.instanceMethod y_Ta_draft.1 ∈ x_tbl ∧ Cond.selects y_Ta_draft.1.cls y_Ta_draft.1 y_Ta_draft.1 ∈ x_tbl := ⟨tb_1 89 rfl rfl, tb_1 90 rfl rfl⟩
theorem l_Ho_55 : Cond.methodLink y_Ho_init.1.cls 55 y_Ta_grow.1 ∈ x_tbl := tb_1 96 rfl rfl
theorem l_Ho_58 : Cond.methodLink y_Ho_add.1.cls 58 y_Ta_isFull.1 ∈ x_tbl := tb_3 237 rfl rfl
theorem b_Ta_isFull : Cond.initialized y_Ta_isFull.1.cls ∈ x_tbl ∧ Cond.code y_Ta_isFull.1 y_Ta_isFull.2.1 y_Ta_isFull.2.2.1 y_Ta_isFull.2.2.2.1 ∈ x_tbl ∧ (y_Ta_isFull.1.cls ≠ "java/lang/invoke/MethodHandle" ∧ y_Ta_isFull.1.cls ≠ "java/lang/invoke/VarHandle" ∧ (parseMethodDescriptor y_Ta_isFull.1.desc).map (fun d => d.parameters.length) = some 0) := ⟨tb_1 4 rfl rfl, tb_4 0 rfl rfl, by decide +kernel⟩
theorem i_Ta_isFull : Cond.instanceMethod y_Ta_isFull.1 ∈ x_tbl ∧ Cond.selects y_Ta_isFull.1.cls y_Ta_isFull.1 y_Ta_isFull.1 ∈ x_tbl := ⟨tb_3 238 rfl rfl, tb_3 239 rfl rfl⟩
theorem l_Ho_62 : Cond.methodLink y_Ho_add.1.cls 62 y_Ac_adding.1 ∈ x_tbl := tb_4 1 rfl rfl
theorem b_Ac_adding : Cond.initialized y_Ac_adding.1.cls ∈ x_tbl ∧ Cond.code y_Ac_adding.1 y_Ac_adding.2.1 y_Ac_adding.2.2.1 y_Ac_adding.2.2.2.1 ∈ x_tbl ∧ (y_Ac_adding.1.cls ≠ "java/lang/invoke/MethodHandle" ∧ y_Ac_adding.1.cls ≠ "java/lang/invoke/VarHandle" ∧ (parseMethodDescriptor y_Ac_adding.1.desc).map (fun d => d.parameters.length) = some 1) := ⟨tb_1 2 rfl rfl, tb_4 4 rfl rfl, by decide +kernel⟩
theorem i_Ac_adding : Cond.instanceMethod y_Ac_adding.1 ∈ x_tbl ∧ Cond.selects y_Ac_adding.1.cls y_Ac_adding.1 y_Ac_adding.1 ∈ x_tbl := ⟨tb_4 2 rfl rfl, tb_4 3 rfl rfl⟩
theorem l_Ho_68 : Cond.methodLink y_Ho_add.1.cls 68 y_Ta_size.1 ∈ x_tbl := tb_3 25 rfl rfl
theorem l_Ho_72 : Cond.methodLink y_Ho_change.1.cls 72 y_Ta_at.1 ∈ x_tbl := tb_2 229 rfl rfl
theorem l_Ho_76 : Cond.methodLink y_Ho_change.1.cls 76 y_Ac_changing.1 ∈ x_tbl := tb_4 49 rfl rfl
theorem b_Ac_changing : Cond.initialized y_Ac_changing.1.cls ∈ x_tbl ∧ Cond.code y_Ac_changing.1 y_Ac_changing.2.1 y_Ac_changing.2.2.1 y_Ac_changing.2.2.2.1 ∈ x_tbl ∧ (y_Ac_changing.1.cls ≠ "java/lang/invoke/MethodHandle" ∧ y_Ac_changing.1.cls ≠ "java/lang/invoke/VarHandle" ∧ (parseMethodDescriptor y_Ac_changing.1.desc).map (fun d => d.parameters.length) = some 2) := ⟨tb_1 2 rfl rfl, tb_4 52 rfl rfl, by decide +kernel⟩
theorem i_Ac_changing : Cond.instanceMethod y_Ac_changing.1 ∈ x_tbl ∧ Cond.selects y_Ac_changing.1.cls y_Ac_changing.1 y_Ac_changing.1 ∈ x_tbl := ⟨tb_4 50 rfl rfl, tb_4 51 rfl rfl⟩
theorem l_Ho_80 : Cond.methodLink y_Ho_change.1.cls 80 y_Ta_put.1 ∈ x_tbl := tb_4 53 rfl rfl
theorem l_Ho_84 : Cond.methodLink y_Ho_gives.1.cls 84 y_Ta_has.1 ∈ x_tbl := tb_2 228 rfl rfl
theorem l_Ho_88 : Cond.methodLink y_Ho_gives.1.cls 88 y_JM_min.1 ∈ x_tbl := tb_2 230 rfl rfl
theorem f_Ne_11 : Cond.fieldLink "SmokeTubes$Net" 11 "SmokeTubes$Net" "heads" "[I" ∈ x_tbl := tb_1 237 rfl rfl
theorem f_Ne_15 : Cond.fieldLink "SmokeTubes$Net" 15 "SmokeTubes$Net" "pointers" "[I" ∈ x_tbl := tb_1 238 rfl rfl
theorem f_Ne_18 : Cond.fieldLink "SmokeTubes$Net" 18 "SmokeTubes$Net" "path" "[I" ∈ x_tbl := tb_1 239 rfl rfl
theorem f_Ne_21 : Cond.fieldLink "SmokeTubes$Net" 21 "SmokeTubes$Net" "seen" "[Z" ∈ x_tbl := tb_2 0 rfl rfl
theorem f_Ne_25 : Cond.fieldLink "SmokeTubes$Net" 25 "SmokeTubes$Net" "later" "[I" ∈ x_tbl := tb_2 1 rfl rfl
theorem f_Ne_28 : Cond.fieldLink "SmokeTubes$Net" 28 "SmokeTubes$Net" "ends" "[I" ∈ x_tbl := tb_2 2 rfl rfl
theorem f_Ne_31 : Cond.fieldLink "SmokeTubes$Net" 31 "SmokeTubes$Net" "free" "[I" ∈ x_tbl := tb_2 3 rfl rfl
theorem f_Ne_34 : Cond.fieldLink "SmokeTubes$Net" 34 "SmokeTubes$Net" "arcs" "I" ∈ x_tbl := tb_2 4 rfl rfl
theorem l_Ne_38 : Cond.methodLink y_Ne_join.1.cls 38 y_Ne_addArc.1 ∈ x_tbl := tb_3 52 rfl rfl
theorem b_Ne_addArc : Cond.initialized y_Ne_addArc.1.cls ∈ x_tbl ∧ Cond.code y_Ne_addArc.1 y_Ne_addArc.2.1 y_Ne_addArc.2.2.1 y_Ne_addArc.2.2.2.1 ∈ x_tbl ∧ (y_Ne_addArc.1.cls ≠ "java/lang/invoke/MethodHandle" ∧ y_Ne_addArc.1.cls ≠ "java/lang/invoke/VarHandle" ∧ (parseMethodDescriptor y_Ne_addArc.1.desc).map (fun d => d.parameters.length) = some 3) := ⟨tb_1 8 rfl rfl, tb_3 55 rfl rfl, by decide +kernel⟩
theorem i_Ne_addArc : Cond.instanceMethod y_Ne_addArc.1 ∈ x_tbl ∧ Cond.selects y_Ne_addArc.1.cls y_Ne_addArc.1 y_Ne_addArc.1 ∈ x_tbl := ⟨tb_3 54 rfl rfl, tb_p 11 rfl rfl⟩
theorem k_Ne_42 : Jvm.Cond.constant "SmokeTubes$Net" 42 (Int32.ofInt (1000000)) ∈ x_tbl := tb_3 77 rfl rfl
theorem l_Ne_43 : Cond.methodLink y_Ne_most.1.cls 43 y_Ne_searchRound.1 ∈ x_tbl := tb_3 78 rfl rfl
theorem b_Ne_searchRound : Cond.initialized y_Ne_searchRound.1.cls ∈ x_tbl ∧ Cond.code y_Ne_searchRound.1 y_Ne_searchRound.2.1 y_Ne_searchRound.2.2.1 y_Ne_searchRound.2.2.2.1 ∈ x_tbl ∧ (y_Ne_searchRound.1.cls ≠ "java/lang/invoke/MethodHandle" ∧ y_Ne_searchRound.1.cls ≠ "java/lang/invoke/VarHandle" ∧ (parseMethodDescriptor y_Ne_searchRound.1.desc).map (fun d => d.parameters.length) = some 0) := ⟨tb_1 8 rfl rfl, tb_3 81 rfl rfl, by decide +kernel⟩
theorem i_Ne_searchRound : Cond.instanceMethod y_Ne_searchRound.1 ∈ x_tbl ∧ Cond.selects y_Ne_searchRound.1.cls y_Ne_searchRound.1 y_Ne_searchRound.1 ∈ x_tbl := ⟨tb_3 80 rfl rfl, tb_p 15 rfl rfl⟩
theorem l_Ne_47 : Cond.methodLink y_Ne_searchRound.1.cls 47 y_Ne_nextArc.1 ∈ x_tbl := tb_3 82 rfl rfl
theorem b_Ne_nextArc : Cond.initialized y_Ne_nextArc.1.cls ∈ x_tbl ∧ Cond.code y_Ne_nextArc.1 y_Ne_nextArc.2.1 y_Ne_nextArc.2.2.1 y_Ne_nextArc.2.2.2.1 ∈ x_tbl ∧ (y_Ne_nextArc.1.cls ≠ "java/lang/invoke/MethodHandle" ∧ y_Ne_nextArc.1.cls ≠ "java/lang/invoke/VarHandle" ∧ (parseMethodDescriptor y_Ne_nextArc.1.desc).map (fun d => d.parameters.length) = some 1) := ⟨tb_1 8 rfl rfl, tb_3 85 rfl rfl, by decide +kernel⟩
theorem i_Ne_nextArc : Cond.instanceMethod y_Ne_nextArc.1 ∈ x_tbl ∧ Cond.selects y_Ne_nextArc.1.cls y_Ne_nextArc.1 y_Ne_nextArc.1 ∈ x_tbl := ⟨tb_3 84 rfl rfl, tb_p 16 rfl rfl⟩
theorem l_Ne_51 : Cond.methodLink y_Ne_searchRound.1.cls 51 y_Ne_leastFree.1 ∈ x_tbl := tb_3 86 rfl rfl
theorem b_Ne_leastFree : Cond.initialized y_Ne_leastFree.1.cls ∈ x_tbl ∧ Cond.code y_Ne_leastFree.1 y_Ne_leastFree.2.1 y_Ne_leastFree.2.2.1 y_Ne_leastFree.2.2.2.1 ∈ x_tbl ∧ (y_Ne_leastFree.1.cls ≠ "java/lang/invoke/MethodHandle" ∧ y_Ne_leastFree.1.cls ≠ "java/lang/invoke/VarHandle" ∧ (parseMethodDescriptor y_Ne_leastFree.1.desc).map (fun d => d.parameters.length) = some 1) := ⟨tb_1 8 rfl rfl, tb_3 89 rfl rfl, by decide +kernel⟩
theorem i_Ne_leastFree : Cond.instanceMethod y_Ne_leastFree.1 ∈ x_tbl ∧ Cond.selects y_Ne_leastFree.1.cls y_Ne_leastFree.1 y_Ne_leastFree.1 ∈ x_tbl := ⟨tb_3 88 rfl rfl, tb_p 17 rfl rfl⟩
theorem l_Ne_54 : Cond.methodLink y_Ne_searchRound.1.cls 54 y_Ne_send.1 ∈ x_tbl := tb_3 90 rfl rfl
theorem b_Ne_send : Cond.initialized y_Ne_send.1.cls ∈ x_tbl ∧ Cond.code y_Ne_send.1 y_Ne_send.2.1 y_Ne_send.2.2.1 y_Ne_send.2.2.2.1 ∈ x_tbl ∧ (y_Ne_send.1.cls ≠ "java/lang/invoke/MethodHandle" ∧ y_Ne_send.1.cls ≠ "java/lang/invoke/VarHandle" ∧ (parseMethodDescriptor y_Ne_send.1.desc).map (fun d => d.parameters.length) = some 2) := ⟨tb_1 8 rfl rfl, tb_3 93 rfl rfl, by decide +kernel⟩
theorem i_Ne_send : Cond.instanceMethod y_Ne_send.1 ∈ x_tbl ∧ Cond.selects y_Ne_send.1.cls y_Ne_send.1 y_Ne_send.1 ∈ x_tbl := ⟨tb_3 92 rfl rfl, tb_p 18 rfl rfl⟩
theorem f_Pe_9 : Cond.fieldLink "SmokeTubes$Person" 9 "SmokeTubes$Person" "doses" "[I" ∈ x_tbl := tb_2 107 rfl rfl
theorem f_Pe_15 : Cond.fieldLink "SmokeTubes$Person" 15 "SmokeTubes$Person" "outs" "[I" ∈ x_tbl := tb_2 108 rfl rfl
theorem f_Pe_18 : Cond.fieldLink "SmokeTubes$Person" 18 "SmokeTubes$Person" "deeds" "[I" ∈ x_tbl := tb_2 109 rfl rfl
theorem f_Pe_21 : Cond.fieldLink "SmokeTubes$Person" 21 "SmokeTubes$Person" "house" "LSmokeTubes$House;" ∈ x_tbl := tb_2 105 rfl rfl
theorem f_Pe_25 : Cond.fieldLink "SmokeTubes$Person" 25 "SmokeTubes$Person" "smoke" "LSmokeTubes$Smoke;" ∈ x_tbl := tb_2 106 rfl rfl
theorem l_Pe_29 : Cond.methodLink y_Pe_weigh.1.cls 29 y_Ho_madeDoors.1 ∈ x_tbl := tb_6 23 rfl rfl
theorem f_Pe_35 : Cond.fieldLink "SmokeTubes$Person" 35 "SmokeTubes$House" "pieces" "LSmokeTubes$Table;" ∈ x_tbl := tb_1 102 rfl rfl
theorem l_Pe_39 : Cond.methodLink y_Pe_weigh.1.cls 39 y_Ta_size.1 ∈ x_tbl := tb_6 24 rfl rfl
theorem l_Pe_44 : Cond.methodLink y_Pe_weigh.1.cls 44 y_Pe_choose.1 ∈ x_tbl := tb_6 25 rfl rfl
theorem b_Pe_choose : Cond.initialized y_Pe_choose.1.cls ∈ x_tbl ∧ Cond.code y_Pe_choose.1 y_Pe_choose.2.1 y_Pe_choose.2.2.1 y_Pe_choose.2.2.2.1 ∈ x_tbl ∧ (y_Pe_choose.1.cls ≠ "java/lang/invoke/MethodHandle" ∧ y_Pe_choose.1.cls ≠ "java/lang/invoke/VarHandle" ∧ (parseMethodDescriptor y_Pe_choose.1.desc).map (fun d => d.parameters.length) = some 3) := ⟨tb_1 12 rfl rfl, tb_6 28 rfl rfl, by decide +kernel⟩
theorem i_Pe_choose : Cond.instanceMethod y_Pe_choose.1 ∈ x_tbl ∧ Cond.selects y_Pe_choose.1.cls y_Pe_choose.1 y_Pe_choose.1 ∈ x_tbl := ⟨tb_6 27 rfl rfl, tb_p 41 rfl rfl⟩
theorem l_Pe_48 : Cond.methodLink y_Pe_doseFrom.1.cls 48 y_Pe_isPlace.1 ∈ x_tbl := tb_6 36 rfl rfl
theorem b_Pe_isPlace : Cond.initialized y_Pe_isPlace.1.cls ∈ x_tbl ∧ Cond.code y_Pe_isPlace.1 y_Pe_isPlace.2.1 y_Pe_isPlace.2.2.1 y_Pe_isPlace.2.2.2.1 ∈ x_tbl ∧ (y_Pe_isPlace.1.cls ≠ "java/lang/invoke/MethodHandle" ∧ y_Pe_isPlace.1.cls ≠ "java/lang/invoke/VarHandle" ∧ (parseMethodDescriptor y_Pe_isPlace.1.desc).map (fun d => d.parameters.length) = some 2) := ⟨tb_1 12 rfl rfl, tb_6 38 rfl rfl, by decide +kernel⟩
theorem i_Pe_isPlace : Cond.static y_Pe_isPlace.1 ∈ x_tbl := tb_6 37 rfl rfl
theorem l_Pe_56 : Cond.methodLink y_Pe_outFrom.1.cls 56 y_Pe_doseFrom.1 ∈ x_tbl := tb_6 62 rfl rfl
theorem b_Pe_doseFrom : Cond.initialized y_Pe_doseFrom.1.cls ∈ x_tbl ∧ Cond.code y_Pe_doseFrom.1 y_Pe_doseFrom.2.1 y_Pe_doseFrom.2.2.1 y_Pe_doseFrom.2.2.2.1 ∈ x_tbl ∧ (y_Pe_doseFrom.1.cls ≠ "java/lang/invoke/MethodHandle" ∧ y_Pe_doseFrom.1.cls ≠ "java/lang/invoke/VarHandle" ∧ (parseMethodDescriptor y_Pe_doseFrom.1.desc).map (fun d => d.parameters.length) = some 2) := ⟨tb_1 12 rfl rfl, tb_6 50 rfl rfl, by decide +kernel⟩
theorem i_Pe_doseFrom : Cond.instanceMethod y_Pe_doseFrom.1 ∈ x_tbl ∧ Cond.selects y_Pe_doseFrom.1.cls y_Pe_doseFrom.1 y_Pe_doseFrom.1 ∈ x_tbl := ⟨tb_6 48 rfl rfl, tb_6 49 rfl rfl⟩
theorem l_Pe_59 : Cond.methodLink y_Pe_whereFrom.1.cls 59 y_Pe_takes.1 ∈ x_tbl := tb_6 40 rfl rfl
theorem b_Pe_takes : Cond.initialized y_Pe_takes.1.cls ∈ x_tbl ∧ Cond.code y_Pe_takes.1 y_Pe_takes.2.1 y_Pe_takes.2.2.1 y_Pe_takes.2.2.2.1 ∈ x_tbl ∧ (y_Pe_takes.1.cls ≠ "java/lang/invoke/MethodHandle" ∧ y_Pe_takes.1.cls ≠ "java/lang/invoke/VarHandle" ∧ (parseMethodDescriptor y_Pe_takes.1.desc).map (fun d => d.parameters.length) = some 1) := ⟨tb_1 12 rfl rfl, tb_6 43 rfl rfl, by decide +kernel⟩
theorem i_Pe_takes : Cond.instanceMethod y_Pe_takes.1 ∈ x_tbl ∧ Cond.selects y_Pe_takes.1.cls y_Pe_takes.1 y_Pe_takes.1 ∈ x_tbl := ⟨tb_6 42 rfl rfl, tb_p 43 rfl rfl⟩
theorem l_Pe_63 : Cond.methodLink y_Pe_whereFrom.1.cls 63 y_Ho_otherEnd.1 ∈ x_tbl := tb_6 39 rfl rfl
theorem l_Pe_66 : Cond.methodLink y_Pe_choose.1.cls 66 y_Sm_isShut.1 ∈ x_tbl := tb_6 30 rfl rfl
theorem l_Pe_71 : Cond.methodLink y_Pe_choose.1.cls 71 y_Ho_exitWidth.1 ∈ x_tbl := tb_6 31 rfl rfl
theorem l_Pe_74 : Cond.methodLink y_Pe_choose.1.cls 74 y_Pe_tryDeed.1 ∈ x_tbl := tb_6 32 rfl rfl
theorem b_Pe_tryDeed : Cond.initialized y_Pe_tryDeed.1.cls ∈ x_tbl ∧ Cond.code y_Pe_tryDeed.1 y_Pe_tryDeed.2.1 y_Pe_tryDeed.2.2.1 y_Pe_tryDeed.2.2.2.1 ∈ x_tbl ∧ (y_Pe_tryDeed.1.cls ≠ "java/lang/invoke/MethodHandle" ∧ y_Pe_tryDeed.1.cls ≠ "java/lang/invoke/VarHandle" ∧ (parseMethodDescriptor y_Pe_tryDeed.1.desc).map (fun d => d.parameters.length) = some 4) := ⟨tb_1 12 rfl rfl, tb_6 35 rfl rfl, by decide +kernel⟩
theorem i_Pe_tryDeed : Cond.instanceMethod y_Pe_tryDeed.1 ∈ x_tbl ∧ Cond.selects y_Pe_tryDeed.1.cls y_Pe_tryDeed.1 y_Pe_tryDeed.1 ∈ x_tbl := ⟨tb_6 34 rfl rfl, tb_p 42 rfl rfl⟩
theorem f_Pe_78 : Cond.fieldLink "SmokeTubes$Person" 78 "SmokeTubes$House" "ways" "LSmokeTubes$Table;" ∈ x_tbl := tb_1 110 rfl rfl
theorem l_Pe_81 : Cond.methodLink y_Pe_choose.1.cls 81 y_Sm_mixedIn.1 ∈ x_tbl := tb_6 46 rfl rfl
theorem b_Sm_mixedIn : Cond.initialized y_Sm_mixedIn.1.cls ∈ x_tbl ∧ Cond.code y_Sm_mixedIn.1 y_Sm_mixedIn.2.1 y_Sm_mixedIn.2.2.1 y_Sm_mixedIn.2.2.2.1 ∈ x_tbl ∧ (y_Sm_mixedIn.1.cls ≠ "java/lang/invoke/MethodHandle" ∧ y_Sm_mixedIn.1.cls ≠ "java/lang/invoke/VarHandle" ∧ (parseMethodDescriptor y_Sm_mixedIn.1.desc).map (fun d => d.parameters.length) = some 2) := ⟨tb_1 6 rfl rfl, tb_3 2 rfl rfl, by decide +kernel⟩
theorem i_Sm_mixedIn : Cond.instanceMethod y_Sm_mixedIn.1 ∈ x_tbl ∧ Cond.selects y_Sm_mixedIn.1.cls y_Sm_mixedIn.1 y_Sm_mixedIn.1 ∈ x_tbl := ⟨tb_3 0 rfl rfl, tb_3 1 rfl rfl⟩
theorem l_Pe_84 : Cond.methodLink y_Pe_takes.1.cls 84 y_Ta_at.1 ∈ x_tbl := tb_6 44 rfl rfl
theorem l_Pe_87 : Cond.methodLink y_Pe_takes.1.cls 87 y_Ho_walkTimes.1 ∈ x_tbl := tb_6 45 rfl rfl
theorem f_Ro_9 : Cond.fieldLink "SmokeTubes$Rows" 9 "SmokeTubes$Rows" "cells" "[J" ∈ x_tbl := tb_2 127 rfl rfl
theorem f_Ro_15 : Cond.fieldLink "SmokeTubes$Rows" 15 "SmokeTubes$Rows" "sorts" "[I" ∈ x_tbl := tb_2 128 rfl rfl
theorem f_Ro_19 : Cond.fieldLink "SmokeTubes$Rows" 19 "SmokeTubes$Rows" "lengths" "[I" ∈ x_tbl := tb_2 129 rfl rfl
theorem f_Ro_22 : Cond.fieldLink "SmokeTubes$Rows" 22 "SmokeTubes$Rows" "there" "I" ∈ x_tbl := tb_2 130 rfl rfl
theorem l_Ro_26 : Cond.methodLink y_Ro_start.1.cls 26 y_JM_min.1 ∈ x_tbl := tb_6 125 rfl rfl
theorem l_Ro_32 : Cond.methodLink y_Ro_start.1.cls 32 y_JM_max.1 ∈ x_tbl := tb_6 126 rfl rfl
theorem b_JM_max : Cond.initialized y_JM_max.1.cls ∈ x_tbl ∧ Cond.code y_JM_max.1 y_JM_max.2.1 y_JM_max.2.2.1 y_JM_max.2.2.2.1 ∈ x_tbl ∧ (y_JM_max.1.cls ≠ "java/lang/invoke/MethodHandle" ∧ y_JM_max.1.cls ≠ "java/lang/invoke/VarHandle" ∧ (parseMethodDescriptor y_JM_max.1.desc).map (fun d => d.parameters.length) = some 2) := ⟨tb_1 5 rfl rfl, tb_1 77 rfl rfl, by decide +kernel⟩
theorem i_JM_max : Cond.static y_JM_max.1 ∈ x_tbl := tb_1 76 rfl rfl
theorem l_Ro_35 : Cond.methodLink y_Ro_at.1.cls 35 y_Ro_lengthOf.1 ∈ x_tbl := tb_5 67 rfl rfl
theorem b_Ro_lengthOf : Cond.initialized y_Ro_lengthOf.1.cls ∈ x_tbl ∧ Cond.code y_Ro_lengthOf.1 y_Ro_lengthOf.2.1 y_Ro_lengthOf.2.2.1 y_Ro_lengthOf.2.2.2.1 ∈ x_tbl ∧ (y_Ro_lengthOf.1.cls ≠ "java/lang/invoke/MethodHandle" ∧ y_Ro_lengthOf.1.cls ≠ "java/lang/invoke/VarHandle" ∧ (parseMethodDescriptor y_Ro_lengthOf.1.desc).map (fun d => d.parameters.length) = some 1) := ⟨tb_1 13 rfl rfl, tb_5 39 rfl rfl, by decide +kernel⟩
theorem i_Ro_lengthOf : Cond.instanceMethod y_Ro_lengthOf.1 ∈ x_tbl ∧ Cond.selects y_Ro_lengthOf.1.cls y_Ro_lengthOf.1 y_Ro_lengthOf.1 ∈ x_tbl := ⟨tb_5 37 rfl rfl, tb_5 38 rfl rfl⟩
theorem l_Ro_39 : Cond.methodLink y_Ro_put.1.cls 39 y_Ro_cut.1 ∈ x_tbl := tb_6 139 rfl rfl
theorem b_Ro_cut : Cond.initialized y_Ro_cut.1.cls ∈ x_tbl ∧ Cond.code y_Ro_cut.1 y_Ro_cut.2.1 y_Ro_cut.2.2.1 y_Ro_cut.2.2.2.1 ∈ x_tbl ∧ (y_Ro_cut.1.cls ≠ "java/lang/invoke/MethodHandle" ∧ y_Ro_cut.1.cls ≠ "java/lang/invoke/VarHandle" ∧ (parseMethodDescriptor y_Ro_cut.1.desc).map (fun d => d.parameters.length) = some 2) := ⟨tb_1 13 rfl rfl, tb_6 141 rfl rfl, by decide +kernel⟩
theorem i_Ro_cut : Cond.static y_Ro_cut.1 ∈ x_tbl := tb_6 140 rfl rfl
theorem f_Sm_9 : Cond.fieldLink "SmokeTubes$Smoke" 9 "SmokeTubes$Smoke" "above" "[I" ∈ x_tbl := tb_1 172 rfl rfl
theorem f_Sm_15 : Cond.fieldLink "SmokeTubes$Smoke" 15 "SmokeTubes$Smoke" "mixed" "[I" ∈ x_tbl := tb_1 173 rfl rfl
theorem f_Sm_18 : Cond.fieldLink "SmokeTubes$Smoke" 18 "SmokeTubes$Smoke" "airs" "[I" ∈ x_tbl := tb_1 174 rfl rfl
theorem f_Sm_21 : Cond.fieldLink "SmokeTubes$Smoke" 21 "SmokeTubes$Smoke" "totals" "[I" ∈ x_tbl := tb_1 175 rfl rfl
theorem f_Sm_24 : Cond.fieldLink "SmokeTubes$Smoke" 24 "SmokeTubes$Smoke" "lost" "[I" ∈ x_tbl := tb_1 176 rfl rfl
theorem f_Sm_27 : Cond.fieldLink "SmokeTubes$Smoke" 27 "SmokeTubes$Smoke" "turned" "[I" ∈ x_tbl := tb_1 177 rfl rfl
theorem f_Sm_30 : Cond.fieldLink "SmokeTubes$Smoke" 30 "SmokeTubes$Smoke" "turnedFrom" "[I" ∈ x_tbl := tb_1 178 rfl rfl
theorem f_Sm_33 : Cond.fieldLink "SmokeTubes$Smoke" 33 "SmokeTubes$Smoke" "shares" "[I" ∈ x_tbl := tb_1 179 rfl rfl
theorem f_Sm_36 : Cond.fieldLink "SmokeTubes$Smoke" 36 "SmokeTubes$Smoke" "leftAbove" "[I" ∈ x_tbl := tb_1 180 rfl rfl
theorem f_Sm_39 : Cond.fieldLink "SmokeTubes$Smoke" 39 "SmokeTubes$Smoke" "leftMixed" "[I" ∈ x_tbl := tb_1 181 rfl rfl
theorem f_Sm_42 : Cond.fieldLink "SmokeTubes$Smoke" 42 "SmokeTubes$Smoke" "knownVersion" "I" ∈ x_tbl := tb_1 187 rfl rfl
theorem f_Sm_46 : Cond.fieldLink "SmokeTubes$Smoke" 46 "SmokeTubes$Smoke" "house" "LSmokeTubes$House;" ∈ x_tbl := tb_1 170 rfl rfl
theorem f_Sm_50 : Cond.fieldLink "SmokeTubes$Smoke" 50 "SmokeTubes$Smoke" "acts" "LSmokeTubes$Acts;" ∈ x_tbl := tb_1 171 rfl rfl
theorem l_Sm_54 : Cond.methodLink y_Sm_follow.1.cls 54 y_Ac_version.1 ∈ x_tbl := tb_2 177 rfl rfl
theorem b_Ac_version : Cond.initialized y_Ac_version.1.cls ∈ x_tbl ∧ Cond.code y_Ac_version.1 y_Ac_version.2.1 y_Ac_version.2.2.1 y_Ac_version.2.2.2.1 ∈ x_tbl ∧ (y_Ac_version.1.cls ≠ "java/lang/invoke/MethodHandle" ∧ y_Ac_version.1.cls ≠ "java/lang/invoke/VarHandle" ∧ (parseMethodDescriptor y_Ac_version.1.desc).map (fun d => d.parameters.length) = some 0) := ⟨tb_1 2 rfl rfl, tb_2 180 rfl rfl, by decide +kernel⟩
theorem i_Ac_version : Cond.instanceMethod y_Ac_version.1 ∈ x_tbl ∧ Cond.selects y_Ac_version.1.cls y_Ac_version.1 y_Ac_version.1 ∈ x_tbl := ⟨tb_2 178 rfl rfl, tb_2 179 rfl rfl⟩
theorem f_Sm_60 : Cond.fieldLink "SmokeTubes$Smoke" 60 "SmokeTubes$Smoke" "knownFirst" "I" ∈ x_tbl := tb_1 183 rfl rfl
theorem f_Sm_63 : Cond.fieldLink "SmokeTubes$Smoke" 63 "SmokeTubes$Smoke" "knownOther" "I" ∈ x_tbl := tb_1 184 rfl rfl
theorem f_Sm_66 : Cond.fieldLink "SmokeTubes$Smoke" 66 "SmokeTubes$Smoke" "knownK" "I" ∈ x_tbl := tb_1 185 rfl rfl
theorem f_Sm_69 : Cond.fieldLink "SmokeTubes$Smoke" 69 "SmokeTubes$Smoke" "knownFire" "I" ∈ x_tbl := tb_1 186 rfl rfl
theorem l_Sm_72 : Cond.methodLink y_Sm_follow.1.cls 72 y_Sm_clear.1 ∈ x_tbl := tb_2 181 rfl rfl
theorem b_Sm_clear : Cond.initialized y_Sm_clear.1.cls ∈ x_tbl ∧ Cond.code y_Sm_clear.1 y_Sm_clear.2.1 y_Sm_clear.2.2.1 y_Sm_clear.2.2.2.1 ∈ x_tbl ∧ (y_Sm_clear.1.cls ≠ "java/lang/invoke/MethodHandle" ∧ y_Sm_clear.1.cls ≠ "java/lang/invoke/VarHandle" ∧ (parseMethodDescriptor y_Sm_clear.1.desc).map (fun d => d.parameters.length) = some 0) := ⟨tb_1 6 rfl rfl, tb_2 184 rfl rfl, by decide +kernel⟩
theorem i_Sm_clear : Cond.instanceMethod y_Sm_clear.1 ∈ x_tbl ∧ Cond.selects y_Sm_clear.1.cls y_Sm_clear.1 y_Sm_clear.1 ∈ x_tbl := ⟨tb_2 183 rfl rfl, tb_p 0 rfl rfl⟩
theorem l_Sm_75 : Cond.methodLink y_Sm_follow.1.cls 75 y_Sm_turnFans.1 ∈ x_tbl := tb_2 188 rfl rfl
theorem b_Sm_turnFans : Cond.initialized y_Sm_turnFans.1.cls ∈ x_tbl ∧ Cond.code y_Sm_turnFans.1 y_Sm_turnFans.2.1 y_Sm_turnFans.2.2.1 y_Sm_turnFans.2.2.2.1 ∈ x_tbl ∧ (y_Sm_turnFans.1.cls ≠ "java/lang/invoke/MethodHandle" ∧ y_Sm_turnFans.1.cls ≠ "java/lang/invoke/VarHandle" ∧ (parseMethodDescriptor y_Sm_turnFans.1.desc).map (fun d => d.parameters.length) = some 3) := ⟨tb_1 6 rfl rfl, tb_2 191 rfl rfl, by decide +kernel⟩
theorem i_Sm_turnFans : Cond.instanceMethod y_Sm_turnFans.1 ∈ x_tbl ∧ Cond.selects y_Sm_turnFans.1.cls y_Sm_turnFans.1 y_Sm_turnFans.1 ∈ x_tbl := ⟨tb_2 190 rfl rfl, tb_p 1 rfl rfl⟩
theorem l_Sm_79 : Cond.methodLink y_Sm_follow.1.cls 79 y_Sm_loseFans.1 ∈ x_tbl := tb_2 204 rfl rfl
theorem b_Sm_loseFans : Cond.initialized y_Sm_loseFans.1.cls ∈ x_tbl ∧ Cond.code y_Sm_loseFans.1 y_Sm_loseFans.2.1 y_Sm_loseFans.2.2.1 y_Sm_loseFans.2.2.2.1 ∈ x_tbl ∧ (y_Sm_loseFans.1.cls ≠ "java/lang/invoke/MethodHandle" ∧ y_Sm_loseFans.1.cls ≠ "java/lang/invoke/VarHandle" ∧ (parseMethodDescriptor y_Sm_loseFans.1.desc).map (fun d => d.parameters.length) = some 1) := ⟨tb_1 6 rfl rfl, tb_2 207 rfl rfl, by decide +kernel⟩
theorem i_Sm_loseFans : Cond.instanceMethod y_Sm_loseFans.1 ∈ x_tbl ∧ Cond.selects y_Sm_loseFans.1.cls y_Sm_loseFans.1 y_Sm_loseFans.1 ∈ x_tbl := ⟨tb_2 206 rfl rfl, tb_p 2 rfl rfl⟩
theorem l_Sm_83 : Cond.methodLink y_Sm_follow.1.cls 83 y_Sm_driveAir.1 ∈ x_tbl := tb_2 216 rfl rfl
theorem b_Sm_driveAir : Cond.initialized y_Sm_driveAir.1.cls ∈ x_tbl ∧ Cond.code y_Sm_driveAir.1 y_Sm_driveAir.2.1 y_Sm_driveAir.2.2.1 y_Sm_driveAir.2.2.2.1 ∈ x_tbl ∧ (y_Sm_driveAir.1.cls ≠ "java/lang/invoke/MethodHandle" ∧ y_Sm_driveAir.1.cls ≠ "java/lang/invoke/VarHandle" ∧ (parseMethodDescriptor y_Sm_driveAir.1.desc).map (fun d => d.parameters.length) = some 1) := ⟨tb_1 6 rfl rfl, tb_2 219 rfl rfl, by decide +kernel⟩
theorem i_Sm_driveAir : Cond.instanceMethod y_Sm_driveAir.1 ∈ x_tbl ∧ Cond.selects y_Sm_driveAir.1.cls y_Sm_driveAir.1 y_Sm_driveAir.1 ∈ x_tbl := ⟨tb_2 218 rfl rfl, tb_p 4 rfl rfl⟩
theorem f_Sm_86 : Cond.fieldLink "SmokeTubes$Smoke" 86 "SmokeTubes$House" "fires" "LSmokeTubes$Table;" ∈ x_tbl := tb_1 115 rfl rfl
theorem l_Sm_92 : Cond.methodLink y_Sm_follow.1.cls 92 y_Ta_at.1 ∈ x_tbl := tb_2 196 rfl rfl
theorem l_Sm_98 : Cond.methodLink y_Sm_follow.1.cls 98 y_Ho_gives.1 ∈ x_tbl := tb_2 224 rfl rfl
theorem b_Ho_gives : Cond.initialized y_Ho_gives.1.cls ∈ x_tbl ∧ Cond.code y_Ho_gives.1 y_Ho_gives.2.1 y_Ho_gives.2.2.1 y_Ho_gives.2.2.2.1 ∈ x_tbl ∧ (y_Ho_gives.1.cls ≠ "java/lang/invoke/MethodHandle" ∧ y_Ho_gives.1.cls ≠ "java/lang/invoke/VarHandle" ∧ (parseMethodDescriptor y_Ho_gives.1.desc).map (fun d => d.parameters.length) = some 2) := ⟨tb_1 3 rfl rfl, tb_2 227 rfl rfl, by decide +kernel⟩
theorem i_Ho_gives : Cond.instanceMethod y_Ho_gives.1 ∈ x_tbl ∧ Cond.selects y_Ho_gives.1.cls y_Ho_gives.1 y_Ho_gives.1 ∈ x_tbl := ⟨tb_2 225 rfl rfl, tb_2 226 rfl rfl⟩
theorem l_Sm_101 : Cond.methodLink y_Sm_follow.1.cls 101 y_Sm_step.1 ∈ x_tbl := tb_2 231 rfl rfl
theorem b_Sm_step : Cond.initialized y_Sm_step.1.cls ∈ x_tbl ∧ Cond.code y_Sm_step.1 y_Sm_step.2.1 y_Sm_step.2.2.1 y_Sm_step.2.2.2.1 ∈ x_tbl ∧ (y_Sm_step.1.cls ≠ "java/lang/invoke/MethodHandle" ∧ y_Sm_step.1.cls ≠ "java/lang/invoke/VarHandle" ∧ (parseMethodDescriptor y_Sm_step.1.desc).map (fun d => d.parameters.length) = some 3) := ⟨tb_1 6 rfl rfl, tb_2 234 rfl rfl, by decide +kernel⟩
theorem i_Sm_step : Cond.instanceMethod y_Sm_step.1 ∈ x_tbl ∧ Cond.selects y_Sm_step.1.cls y_Sm_step.1 y_Sm_step.1 ∈ x_tbl := ⟨tb_2 233 rfl rfl, tb_p 5 rfl rfl⟩
theorem l_Sm_104 : Cond.methodLink y_Sm_isShut.1.cls 104 y_Sm_mixedIn.1 ∈ x_tbl := tb_2 239 rfl rfl
theorem f_Sm_107 : Cond.fieldLink "SmokeTubes$Smoke" 107 "SmokeTubes$House" "dials" "LSmokeTubes$Table;" ∈ x_tbl := tb_1 138 rfl rfl
theorem l_Sm_110 : Cond.methodLink y_Sm_isMarked.1.cls 110 y_Sm_aboveIn.1 ∈ x_tbl := tb_2 212 rfl rfl
theorem b_Sm_aboveIn : Cond.initialized y_Sm_aboveIn.1.cls ∈ x_tbl ∧ Cond.code y_Sm_aboveIn.1 y_Sm_aboveIn.2.1 y_Sm_aboveIn.2.2.1 y_Sm_aboveIn.2.2.2.1 ∈ x_tbl ∧ (y_Sm_aboveIn.1.cls ≠ "java/lang/invoke/MethodHandle" ∧ y_Sm_aboveIn.1.cls ≠ "java/lang/invoke/VarHandle" ∧ (parseMethodDescriptor y_Sm_aboveIn.1.desc).map (fun d => d.parameters.length) = some 2) := ⟨tb_1 6 rfl rfl, tb_2 215 rfl rfl, by decide +kernel⟩
theorem i_Sm_aboveIn : Cond.instanceMethod y_Sm_aboveIn.1 ∈ x_tbl ∧ Cond.selects y_Sm_aboveIn.1.cls y_Sm_aboveIn.1 y_Sm_aboveIn.1 ∈ x_tbl := ⟨tb_2 213 rfl rfl, tb_2 214 rfl rfl⟩
theorem f_Sm_113 : Cond.fieldLink "SmokeTubes$Smoke" 113 "SmokeTubes$House" "pieces" "LSmokeTubes$Table;" ∈ x_tbl := tb_1 106 rfl rfl
theorem l_Sm_116 : Cond.methodLink y_Sm_total.1.cls 116 y_Ta_size.1 ∈ x_tbl := tb_2 192 rfl rfl
theorem l_Sm_119 : Cond.methodLink y_Sm_clear.1.cls 119 y_JA_fill.1 ∈ x_tbl := tb_2 185 rfl rfl
theorem f_Sm_125 : Cond.fieldLink "SmokeTubes$Smoke" 125 "SmokeTubes$House" "sets" "LSmokeTubes$Table;" ∈ x_tbl := tb_1 123 rfl rfl
theorem f_Sm_128 : Cond.fieldLink "SmokeTubes$Smoke" 128 "SmokeTubes$House" "fans" "LSmokeTubes$Table;" ∈ x_tbl := tb_1 120 rfl rfl
theorem l_Sm_131 : Cond.methodLink y_Sm_turnFans.1.cls 131 y_Ta_has.1 ∈ x_tbl := tb_2 200 rfl rfl
theorem l_Sm_135 : Cond.methodLink y_Sm_loseFans.1.cls 135 y_Sm_isTooMuch.1 ∈ x_tbl := tb_2 208 rfl rfl
theorem b_Sm_isTooMuch : Cond.initialized y_Sm_isTooMuch.1.cls ∈ x_tbl ∧ Cond.code y_Sm_isTooMuch.1 y_Sm_isTooMuch.2.1 y_Sm_isTooMuch.2.2.1 y_Sm_isTooMuch.2.2.2.1 ∈ x_tbl ∧ (y_Sm_isTooMuch.1.cls ≠ "java/lang/invoke/MethodHandle" ∧ y_Sm_isTooMuch.1.cls ≠ "java/lang/invoke/VarHandle" ∧ (parseMethodDescriptor y_Sm_isTooMuch.1.desc).map (fun d => d.parameters.length) = some 2) := ⟨tb_1 6 rfl rfl, tb_2 211 rfl rfl, by decide +kernel⟩
theorem i_Sm_isTooMuch : Cond.instanceMethod y_Sm_isTooMuch.1 ∈ x_tbl ∧ Cond.selects y_Sm_isTooMuch.1.cls y_Sm_isTooMuch.1 y_Sm_isTooMuch.1 ∈ x_tbl := ⟨tb_2 210 rfl rfl, tb_p 3 rfl rfl⟩
theorem f_Sm_139 : Cond.fieldLink "SmokeTubes$Smoke" 139 "SmokeTubes$House" "ways" "LSmokeTubes$Table;" ∈ x_tbl := tb_1 112 rfl rfl
theorem l_Sm_142 : Cond.methodLink y_Sm_driveAir.1.cls 142 y_JM_min.1 ∈ x_tbl := tb_2 220 rfl rfl
theorem l_Sm_147 : Cond.methodLink y_Sm_driveAir.1.cls 147 y_JM_max.1 ∈ x_tbl := tb_2 223 rfl rfl
theorem l_Sm_150 : Cond.methodLink y_Sm_step.1.cls 150 y_Sm_begin.1 ∈ x_tbl := tb_2 235 rfl rfl
theorem b_Sm_begin : Cond.initialized y_Sm_begin.1.cls ∈ x_tbl ∧ Cond.code y_Sm_begin.1 y_Sm_begin.2.1 y_Sm_begin.2.2.1 y_Sm_begin.2.2.2.1 ∈ x_tbl ∧ (y_Sm_begin.1.cls ≠ "java/lang/invoke/MethodHandle" ∧ y_Sm_begin.1.cls ≠ "java/lang/invoke/VarHandle" ∧ (parseMethodDescriptor y_Sm_begin.1.desc).map (fun d => d.parameters.length) = some 3) := ⟨tb_1 6 rfl rfl, tb_2 238 rfl rfl, by decide +kernel⟩
theorem i_Sm_begin : Cond.instanceMethod y_Sm_begin.1 ∈ x_tbl ∧ Cond.selects y_Sm_begin.1.cls y_Sm_begin.1 y_Sm_begin.1 ∈ x_tbl := ⟨tb_2 237 rfl rfl, tb_p 6 rfl rfl⟩
theorem l_Sm_153 : Cond.methodLink y_Sm_step.1.cls 153 y_Sm_carry.1 ∈ x_tbl := tb_3 3 rfl rfl
theorem b_Sm_carry : Cond.initialized y_Sm_carry.1.cls ∈ x_tbl ∧ Cond.code y_Sm_carry.1 y_Sm_carry.2.1 y_Sm_carry.2.2.1 y_Sm_carry.2.2.2.1 ∈ x_tbl ∧ (y_Sm_carry.1.cls ≠ "java/lang/invoke/MethodHandle" ∧ y_Sm_carry.1.cls ≠ "java/lang/invoke/VarHandle" ∧ (parseMethodDescriptor y_Sm_carry.1.desc).map (fun d => d.parameters.length) = some 4) := ⟨tb_1 6 rfl rfl, tb_3 6 rfl rfl, by decide +kernel⟩
theorem i_Sm_carry : Cond.instanceMethod y_Sm_carry.1 ∈ x_tbl ∧ Cond.selects y_Sm_carry.1.cls y_Sm_carry.1 y_Sm_carry.1 ∈ x_tbl := ⟨tb_3 5 rfl rfl, tb_p 7 rfl rfl⟩
theorem l_Sm_157 : Cond.methodLink y_Sm_step.1.cls 157 y_Sm_settle.1 ∈ x_tbl := tb_3 7 rfl rfl
theorem b_Sm_settle : Cond.initialized y_Sm_settle.1.cls ∈ x_tbl ∧ Cond.code y_Sm_settle.1 y_Sm_settle.2.1 y_Sm_settle.2.2.1 y_Sm_settle.2.2.2.1 ∈ x_tbl ∧ (y_Sm_settle.1.cls ≠ "java/lang/invoke/MethodHandle" ∧ y_Sm_settle.1.cls ≠ "java/lang/invoke/VarHandle" ∧ (parseMethodDescriptor y_Sm_settle.1.desc).map (fun d => d.parameters.length) = some 2) := ⟨tb_1 6 rfl rfl, tb_3 10 rfl rfl, by decide +kernel⟩
theorem i_Sm_settle : Cond.instanceMethod y_Sm_settle.1 ∈ x_tbl ∧ Cond.selects y_Sm_settle.1.cls y_Sm_settle.1 y_Sm_settle.1 ∈ x_tbl := ⟨tb_3 9 rfl rfl, tb_p 8 rfl rfl⟩
theorem l_Sm_161 : Cond.methodLink y_Sm_step.1.cls 161 y_Sm_wash.1 ∈ x_tbl := tb_3 11 rfl rfl
theorem b_Sm_wash : Cond.initialized y_Sm_wash.1.cls ∈ x_tbl ∧ Cond.code y_Sm_wash.1 y_Sm_wash.2.1 y_Sm_wash.2.2.1 y_Sm_wash.2.2.2.1 ∈ x_tbl ∧ (y_Sm_wash.1.cls ≠ "java/lang/invoke/MethodHandle" ∧ y_Sm_wash.1.cls ≠ "java/lang/invoke/VarHandle" ∧ (parseMethodDescriptor y_Sm_wash.1.desc).map (fun d => d.parameters.length) = some 2) := ⟨tb_1 6 rfl rfl, tb_3 14 rfl rfl, by decide +kernel⟩
theorem i_Sm_wash : Cond.instanceMethod y_Sm_wash.1 ∈ x_tbl ∧ Cond.selects y_Sm_wash.1.cls y_Sm_wash.1 y_Sm_wash.1 ∈ x_tbl := ⟨tb_3 13 rfl rfl, tb_p 9 rfl rfl⟩
theorem f_Sm_164 : Cond.fieldLink "SmokeTubes$Smoke" 164 "SmokeTubes$Smoke" "stirred" "I" ∈ x_tbl := tb_1 182 rfl rfl
theorem l_Ta_7 : Cond.methodLink y_Ta_init.1.cls 7 y_JM_max.1 ∈ x_tbl := tb_1 75 rfl rfl
theorem f_Ta_13 : Cond.fieldLink "SmokeTubes$Table" 13 "SmokeTubes$Table" "limit" "I" ∈ x_tbl := tb_1 78 rfl rfl
theorem f_Ta_19 : Cond.fieldLink "SmokeTubes$Table" 19 "SmokeTubes$Table" "cells" "[I" ∈ x_tbl := tb_1 79 rfl rfl
theorem f_Ta_23 : Cond.fieldLink "SmokeTubes$Table" 23 "SmokeTubes$Table" "size" "I" ∈ x_tbl := tb_1 80 rfl rfl
theorem l_Ta_26 : Cond.methodLink y_Ta_draft.1.cls 26 y_Ta_put.1 ∈ x_tbl := tb_1 92 rfl rfl
theorem f_Tu_9 : Cond.fieldLink "SmokeTubes$Turns" 9 "SmokeTubes$Turns" "outs" "[I" ∈ x_tbl := tb_2 60 rfl rfl
theorem f_Tu_15 : Cond.fieldLink "SmokeTubes$Turns" 15 "SmokeTubes$Turns" "stamps" "[I" ∈ x_tbl := tb_2 61 rfl rfl
theorem f_Tu_18 : Cond.fieldLink "SmokeTubes$Turns" 18 "SmokeTubes$Turns" "regrets" "[I" ∈ x_tbl := tb_2 62 rfl rfl
theorem f_Tu_21 : Cond.fieldLink "SmokeTubes$Turns" 21 "SmokeTubes$Turns" "house" "LSmokeTubes$House;" ∈ x_tbl := tb_2 55 rfl rfl
theorem f_Tu_25 : Cond.fieldLink "SmokeTubes$Turns" 25 "SmokeTubes$Turns" "acts" "LSmokeTubes$Acts;" ∈ x_tbl := tb_2 56 rfl rfl
theorem f_Tu_29 : Cond.fieldLink "SmokeTubes$Turns" 29 "SmokeTubes$Turns" "smoke" "LSmokeTubes$Smoke;" ∈ x_tbl := tb_2 57 rfl rfl
theorem f_Tu_33 : Cond.fieldLink "SmokeTubes$Turns" 33 "SmokeTubes$Turns" "escape" "LSmokeTubes$Escape;" ∈ x_tbl := tb_2 58 rfl rfl
theorem f_Tu_37 : Cond.fieldLink "SmokeTubes$Turns" 37 "SmokeTubes$Turns" "watch" "LSmokeTubes$Watch;" ∈ x_tbl := tb_2 59 rfl rfl
theorem l_Tu_41 : Cond.methodLink y_Tu_outBy.1.cls 41 y_Ac_version.1 ∈ x_tbl := tb_4 201 rfl rfl
theorem l_Tu_47 : Cond.methodLink y_Tu_outBy.1.cls 47 y_Sm_follow.1 ∈ x_tbl := tb_4 202 rfl rfl
theorem b_Sm_follow : Cond.initialized y_Sm_follow.1.cls ∈ x_tbl ∧ Cond.code y_Sm_follow.1 y_Sm_follow.2.1 y_Sm_follow.2.2.1 y_Sm_follow.2.2.2.1 ∈ x_tbl ∧ (y_Sm_follow.1.cls ≠ "java/lang/invoke/MethodHandle" ∧ y_Sm_follow.1.cls ≠ "java/lang/invoke/VarHandle" ∧ (parseMethodDescriptor y_Sm_follow.1.desc).map (fun d => d.parameters.length) = some 4) := ⟨tb_1 6 rfl rfl, tb_2 176 rfl rfl, by decide +kernel⟩
theorem i_Sm_follow : Cond.instanceMethod y_Sm_follow.1 ∈ x_tbl ∧ Cond.selects y_Sm_follow.1.cls y_Sm_follow.1 y_Sm_follow.1 ∈ x_tbl := ⟨tb_2 174 rfl rfl, tb_2 175 rfl rfl⟩
theorem l_Tu_53 : Cond.methodLink y_Tu_outBy.1.cls 53 y_Ho_walkTimes.1 ∈ x_tbl := tb_4 203 rfl rfl
theorem l_Tu_58 : Cond.methodLink y_Tu_outBy.1.cls 58 y_Ho_madeDoors.1 ∈ x_tbl := tb_4 207 rfl rfl
theorem l_Tu_61 : Cond.methodLink y_Tu_outBy.1.cls 61 y_Es_most.1 ∈ x_tbl := tb_4 208 rfl rfl
theorem l_Tu_67 : Cond.methodLink y_Tu_regretOf.1.cls 67 y_Tu_outBy.1 ∈ x_tbl := tb_5 148 rfl rfl
theorem b_Tu_outBy : Cond.initialized y_Tu_outBy.1.cls ∈ x_tbl ∧ Cond.code y_Tu_outBy.1 y_Tu_outBy.2.1 y_Tu_outBy.2.2.1 y_Tu_outBy.2.2.2.1 ∈ x_tbl ∧ (y_Tu_outBy.1.cls ≠ "java/lang/invoke/MethodHandle" ∧ y_Tu_outBy.1.cls ≠ "java/lang/invoke/VarHandle" ∧ (parseMethodDescriptor y_Tu_outBy.1.desc).map (fun d => d.parameters.length) = some 5) := ⟨tb_1 10 rfl rfl, tb_4 200 rfl rfl, by decide +kernel⟩
theorem i_Tu_outBy : Cond.instanceMethod y_Tu_outBy.1 ∈ x_tbl ∧ Cond.selects y_Tu_outBy.1.cls y_Tu_outBy.1 y_Tu_outBy.1 ∈ x_tbl := ⟨tb_4 198 rfl rfl, tb_4 199 rfl rfl⟩
theorem l_Tu_71 : Cond.methodLink y_Tu_regretOf.1.cls 71 y_JM_max.1 ∈ x_tbl := tb_5 149 rfl rfl
theorem f_Tu_77 : Cond.fieldLink "SmokeTubes$Turns" 77 "SmokeTubes$House" "fires" "LSmokeTubes$Table;" ∈ x_tbl := tb_1 116 rfl rfl
theorem l_Tu_81 : Cond.methodLink y_Tu_weigh.1.cls 81 y_Ta_size.1 ∈ x_tbl := tb_5 88 rfl rfl
theorem l_Tu_86 : Cond.methodLink y_Tu_weigh.1.cls 86 y_Tu_regretOf.1 ∈ x_tbl := tb_5 166 rfl rfl
theorem b_Tu_regretOf : Cond.initialized y_Tu_regretOf.1.cls ∈ x_tbl ∧ Cond.code y_Tu_regretOf.1 y_Tu_regretOf.2.1 y_Tu_regretOf.2.2.1 y_Tu_regretOf.2.2.2.1 ∈ x_tbl ∧ (y_Tu_regretOf.1.cls ≠ "java/lang/invoke/MethodHandle" ∧ y_Tu_regretOf.1.cls ≠ "java/lang/invoke/VarHandle" ∧ (parseMethodDescriptor y_Tu_regretOf.1.desc).map (fun d => d.parameters.length) = some 5) := ⟨tb_1 10 rfl rfl, tb_5 147 rfl rfl, by decide +kernel⟩
theorem i_Tu_regretOf : Cond.instanceMethod y_Tu_regretOf.1 ∈ x_tbl ∧ Cond.selects y_Tu_regretOf.1.cls y_Tu_regretOf.1 y_Tu_regretOf.1 ∈ x_tbl := ⟨tb_5 145 rfl rfl, tb_5 146 rfl rfl⟩
theorem l_Tu_89 : Cond.methodLink y_Tu_planFor.1.cls 89 y_Tu_greatestRegret.1 ∈ x_tbl := tb_5 176 rfl rfl
theorem b_Tu_greatestRegret : Cond.initialized y_Tu_greatestRegret.1.cls ∈ x_tbl ∧ Cond.code y_Tu_greatestRegret.1 y_Tu_greatestRegret.2.1 y_Tu_greatestRegret.2.2.1 y_Tu_greatestRegret.2.2.2.1 ∈ x_tbl ∧ (y_Tu_greatestRegret.1.cls ≠ "java/lang/invoke/MethodHandle" ∧ y_Tu_greatestRegret.1.cls ≠ "java/lang/invoke/VarHandle" ∧ (parseMethodDescriptor y_Tu_greatestRegret.1.desc).map (fun d => d.parameters.length) = some 3) := ⟨tb_1 10 rfl rfl, tb_5 179 rfl rfl, by decide +kernel⟩
theorem i_Tu_greatestRegret : Cond.instanceMethod y_Tu_greatestRegret.1 ∈ x_tbl ∧ Cond.selects y_Tu_greatestRegret.1.cls y_Tu_greatestRegret.1 y_Tu_greatestRegret.1 ∈ x_tbl := ⟨tb_5 178 rfl rfl, tb_p 34 rfl rfl⟩
theorem k_Tu_92 : Jvm.Cond.constant "SmokeTubes$Turns" 92 (Int32.ofInt (-1000000)) ∈ x_tbl := tb_5 171 rfl rfl
theorem l_Tu_93 : Cond.methodLink y_Tu_regretOfTurn.1.cls 93 y_Tu_planFor.1 ∈ x_tbl := tb_5 172 rfl rfl
theorem b_Tu_planFor : Cond.initialized y_Tu_planFor.1.cls ∈ x_tbl ∧ Cond.code y_Tu_planFor.1 y_Tu_planFor.2.1 y_Tu_planFor.2.2.1 y_Tu_planFor.2.2.2.1 ∈ x_tbl ∧ (y_Tu_planFor.1.cls ≠ "java/lang/invoke/MethodHandle" ∧ y_Tu_planFor.1.cls ≠ "java/lang/invoke/VarHandle" ∧ (parseMethodDescriptor y_Tu_planFor.1.desc).map (fun d => d.parameters.length) = some 2) := ⟨tb_1 10 rfl rfl, tb_5 175 rfl rfl, by decide +kernel⟩
theorem i_Tu_planFor : Cond.instanceMethod y_Tu_planFor.1 ∈ x_tbl ∧ Cond.selects y_Tu_planFor.1.cls y_Tu_planFor.1 y_Tu_planFor.1 ∈ x_tbl := ⟨tb_5 173 rfl rfl, tb_5 174 rfl rfl⟩
theorem f_Tu_96 : Cond.fieldLink "SmokeTubes$Turns" 96 "SmokeTubes$House" "doors" "LSmokeTubes$Table;" ∈ x_tbl := tb_1 128 rfl rfl
theorem l_Tu_99 : Cond.methodLink y_Tu_fewestDoors.1.cls 99 y_Tu_isBetter.1 ∈ x_tbl := tb_5 89 rfl rfl
theorem b_Tu_isBetter : Cond.initialized y_Tu_isBetter.1.cls ∈ x_tbl ∧ Cond.code y_Tu_isBetter.1 y_Tu_isBetter.2.1 y_Tu_isBetter.2.2.1 y_Tu_isBetter.2.2.2.1 ∈ x_tbl ∧ (y_Tu_isBetter.1.cls ≠ "java/lang/invoke/MethodHandle" ∧ y_Tu_isBetter.1.cls ≠ "java/lang/invoke/VarHandle" ∧ (parseMethodDescriptor y_Tu_isBetter.1.desc).map (fun d => d.parameters.length) = some 2) := ⟨tb_1 10 rfl rfl, tb_5 92 rfl rfl, by decide +kernel⟩
theorem i_Tu_isBetter : Cond.instanceMethod y_Tu_isBetter.1 ∈ x_tbl ∧ Cond.selects y_Tu_isBetter.1.cls y_Tu_isBetter.1 y_Tu_isBetter.1 ∈ x_tbl := ⟨tb_5 91 rfl rfl, tb_p 29 rfl rfl⟩
theorem l_Tu_103 : Cond.methodLink y_Tu_fewestDoors.1.cls 103 y_Tu_areAllOut.1 ∈ x_tbl := tb_5 101 rfl rfl
theorem b_Tu_areAllOut : Cond.initialized y_Tu_areAllOut.1.cls ∈ x_tbl ∧ Cond.code y_Tu_areAllOut.1 y_Tu_areAllOut.2.1 y_Tu_areAllOut.2.2.1 y_Tu_areAllOut.2.2.2.1 ∈ x_tbl ∧ (y_Tu_areAllOut.1.cls ≠ "java/lang/invoke/MethodHandle" ∧ y_Tu_areAllOut.1.cls ≠ "java/lang/invoke/VarHandle" ∧ (parseMethodDescriptor y_Tu_areAllOut.1.desc).map (fun d => d.parameters.length) = some 4) := ⟨tb_1 10 rfl rfl, tb_5 104 rfl rfl, by decide +kernel⟩
theorem i_Tu_areAllOut : Cond.instanceMethod y_Tu_areAllOut.1 ∈ x_tbl ∧ Cond.selects y_Tu_areAllOut.1.cls y_Tu_areAllOut.1 y_Tu_areAllOut.1 ∈ x_tbl := ⟨tb_5 103 rfl rfl, tb_p 30 rfl rfl⟩
theorem l_Tu_107 : Cond.methodLink y_Tu_greatestRegret.1.cls 107 y_Wa_sameTold.1 ∈ x_tbl := tb_5 180 rfl rfl
theorem b_Wa_sameTold : Cond.initialized y_Wa_sameTold.1.cls ∈ x_tbl ∧ Cond.code y_Wa_sameTold.1 y_Wa_sameTold.2.1 y_Wa_sameTold.2.2.1 y_Wa_sameTold.2.2.2.1 ∈ x_tbl ∧ (y_Wa_sameTold.1.cls ≠ "java/lang/invoke/MethodHandle" ∧ y_Wa_sameTold.1.cls ≠ "java/lang/invoke/VarHandle" ∧ (parseMethodDescriptor y_Wa_sameTold.1.desc).map (fun d => d.parameters.length) = some 3) := ⟨tb_1 9 rfl rfl, tb_5 130 rfl rfl, by decide +kernel⟩
theorem i_Wa_sameTold : Cond.instanceMethod y_Wa_sameTold.1 ∈ x_tbl ∧ Cond.selects y_Wa_sameTold.1.cls y_Wa_sameTold.1 y_Wa_sameTold.1 ∈ x_tbl := ⟨tb_5 128 rfl rfl, tb_5 129 rfl rfl⟩
theorem l_Tu_113 : Cond.methodLink y_Tu_isBetter.1.cls 113 y_JI_bitCount.1 ∈ x_tbl := tb_5 93 rfl rfl
theorem b_JI_bitCount : Cond.initialized y_JI_bitCount.1.cls ∈ x_tbl ∧ Cond.code y_JI_bitCount.1 y_JI_bitCount.2.1 y_JI_bitCount.2.2.1 y_JI_bitCount.2.2.2.1 ∈ x_tbl ∧ (y_JI_bitCount.1.cls ≠ "java/lang/invoke/MethodHandle" ∧ y_JI_bitCount.1.cls ≠ "java/lang/invoke/VarHandle" ∧ (parseMethodDescriptor y_JI_bitCount.1.desc).map (fun d => d.parameters.length) = some 1) := ⟨tb_1 23 rfl rfl, tb_3 141 rfl rfl, by decide +kernel⟩
theorem i_JI_bitCount : Cond.static y_JI_bitCount.1 ∈ x_tbl := tb_3 140 rfl rfl
theorem l_Tu_119 : Cond.methodLink y_Tu_isBetter.1.cls 119 y_JI_compare.1 ∈ x_tbl := tb_5 94 rfl rfl
theorem b_JI_compare : Cond.initialized y_JI_compare.1.cls ∈ x_tbl ∧ Cond.code y_JI_compare.1 y_JI_compare.2.1 y_JI_compare.2.2.1 y_JI_compare.2.2.2.1 ∈ x_tbl ∧ (y_JI_compare.1.cls ≠ "java/lang/invoke/MethodHandle" ∧ y_JI_compare.1.cls ≠ "java/lang/invoke/VarHandle" ∧ (parseMethodDescriptor y_JI_compare.1.desc).map (fun d => d.parameters.length) = some 2) := ⟨tb_1 23 rfl rfl, tb_5 96 rfl rfl, by decide +kernel⟩
theorem i_JI_compare : Cond.static y_JI_compare.1 ∈ x_tbl := tb_5 95 rfl rfl
theorem l_Tu_122 : Cond.methodLink y_Tu_isBetter.1.cls 122 y_Ho_doorCost.1 ∈ x_tbl := tb_5 97 rfl rfl
theorem b_Ho_doorCost : Cond.initialized y_Ho_doorCost.1.cls ∈ x_tbl ∧ Cond.code y_Ho_doorCost.1 y_Ho_doorCost.2.1 y_Ho_doorCost.2.2.1 y_Ho_doorCost.2.2.2.1 ∈ x_tbl ∧ (y_Ho_doorCost.1.cls ≠ "java/lang/invoke/MethodHandle" ∧ y_Ho_doorCost.1.cls ≠ "java/lang/invoke/VarHandle" ∧ (parseMethodDescriptor y_Ho_doorCost.1.desc).map (fun d => d.parameters.length) = some 1) := ⟨tb_1 3 rfl rfl, tb_5 100 rfl rfl, by decide +kernel⟩
theorem i_Ho_doorCost : Cond.instanceMethod y_Ho_doorCost.1 ∈ x_tbl ∧ Cond.selects y_Ho_doorCost.1.cls y_Ho_doorCost.1 y_Ho_doorCost.1 ∈ x_tbl := ⟨tb_5 98 rfl rfl, tb_5 99 rfl rfl⟩
theorem l_Tu_125 : Cond.methodLink y_Tu_areAllOut.1.cls 125 y_Ho_allPeople.1 ∈ x_tbl := tb_5 105 rfl rfl
theorem f_Wa_9 : Cond.fieldLink "SmokeTubes$Watch" 9 "SmokeTubes$Watch" "marked" "[I" ∈ x_tbl := tb_2 41 rfl rfl
theorem f_Wa_15 : Cond.fieldLink "SmokeTubes$Watch" 15 "SmokeTubes$Watch" "house" "LSmokeTubes$House;" ∈ x_tbl := tb_2 39 rfl rfl
theorem f_Wa_19 : Cond.fieldLink "SmokeTubes$Watch" 19 "SmokeTubes$Watch" "smoke" "LSmokeTubes$Smoke;" ∈ x_tbl := tb_2 40 rfl rfl
theorem f_Wa_23 : Cond.fieldLink "SmokeTubes$Watch" 23 "SmokeTubes$House" "fires" "LSmokeTubes$Table;" ∈ x_tbl := tb_1 114 rfl rfl
theorem l_Wa_29 : Cond.methodLink y_Wa_look.1.cls 29 y_Ta_size.1 ∈ x_tbl := tb_5 117 rfl rfl
theorem l_Wa_35 : Cond.methodLink y_Wa_look.1.cls 35 y_Sm_follow.1 ∈ x_tbl := tb_5 118 rfl rfl
theorem l_Wa_41 : Cond.methodLink y_Wa_look.1.cls 41 y_Wa_keep.1 ∈ x_tbl := tb_5 119 rfl rfl
theorem b_Wa_keep : Cond.initialized y_Wa_keep.1.cls ∈ x_tbl ∧ Cond.code y_Wa_keep.1 y_Wa_keep.2.1 y_Wa_keep.2.2.1 y_Wa_keep.2.2.2.1 ∈ x_tbl ∧ (y_Wa_keep.1.cls ≠ "java/lang/invoke/MethodHandle" ∧ y_Wa_keep.1.cls ≠ "java/lang/invoke/VarHandle" ∧ (parseMethodDescriptor y_Wa_keep.1.desc).map (fun d => d.parameters.length) = some 1) := ⟨tb_1 9 rfl rfl, tb_5 122 rfl rfl, by decide +kernel⟩
theorem i_Wa_keep : Cond.instanceMethod y_Wa_keep.1 ∈ x_tbl ∧ Cond.selects y_Wa_keep.1.cls y_Wa_keep.1 y_Wa_keep.1 ∈ x_tbl := ⟨tb_5 121 rfl rfl, tb_p 31 rfl rfl⟩
theorem f_Wa_45 : Cond.fieldLink "SmokeTubes$Watch" 45 "SmokeTubes$House" "dials" "LSmokeTubes$Table;" ∈ x_tbl := tb_1 137 rfl rfl
theorem l_Wa_48 : Cond.methodLink y_Wa_sameTold.1.cls 48 y_Ta_at.1 ∈ x_tbl := tb_5 131 rfl rfl
theorem l_Wa_52 : Cond.methodLink y_Wa_sameTold.1.cls 52 y_JM_min.1 ∈ x_tbl := tb_5 132 rfl rfl
theorem l_Wa_57 : Cond.methodLink y_Wa_sameTold.1.cls 57 y_Wa_markedAt.1 ∈ x_tbl := tb_5 133 rfl rfl
theorem b_Wa_markedAt : Cond.initialized y_Wa_markedAt.1.cls ∈ x_tbl ∧ Cond.code y_Wa_markedAt.1 y_Wa_markedAt.2.1 y_Wa_markedAt.2.2.1 y_Wa_markedAt.2.2.2.1 ∈ x_tbl ∧ (y_Wa_markedAt.1.cls ≠ "java/lang/invoke/MethodHandle" ∧ y_Wa_markedAt.1.cls ≠ "java/lang/invoke/VarHandle" ∧ (parseMethodDescriptor y_Wa_markedAt.1.desc).map (fun d => d.parameters.length) = some 2) := ⟨tb_1 9 rfl rfl, tb_5 136 rfl rfl, by decide +kernel⟩
theorem i_Wa_markedAt : Cond.instanceMethod y_Wa_markedAt.1 ∈ x_tbl ∧ Cond.selects y_Wa_markedAt.1.cls y_Wa_markedAt.1 y_Wa_markedAt.1 ∈ x_tbl := ⟨tb_5 135 rfl rfl, tb_p 32 rfl rfl⟩
theorem l_Wa_60 : Cond.methodLink y_Wa_fitting.1.cls 60 y_Wa_fitsAll.1 ∈ x_tbl := tb_6 92 rfl rfl
theorem b_Wa_fitsAll : Cond.initialized y_Wa_fitsAll.1.cls ∈ x_tbl ∧ Cond.code y_Wa_fitsAll.1 y_Wa_fitsAll.2.1 y_Wa_fitsAll.2.2.1 y_Wa_fitsAll.2.2.2.1 ∈ x_tbl ∧ (y_Wa_fitsAll.1.cls ≠ "java/lang/invoke/MethodHandle" ∧ y_Wa_fitsAll.1.cls ≠ "java/lang/invoke/VarHandle" ∧ (parseMethodDescriptor y_Wa_fitsAll.1.desc).map (fun d => d.parameters.length) = some 1) := ⟨tb_1 9 rfl rfl, tb_6 95 rfl rfl, by decide +kernel⟩
theorem i_Wa_fitsAll : Cond.instanceMethod y_Wa_fitsAll.1 ∈ x_tbl ∧ Cond.selects y_Wa_fitsAll.1.cls y_Wa_fitsAll.1 y_Wa_fitsAll.1 ∈ x_tbl := ⟨tb_6 94 rfl rfl, tb_p 44 rfl rfl⟩
theorem l_Wa_64 : Cond.methodLink y_Wa_asked.1.cls 64 y_Wa_fitting.1 ∈ x_tbl := tb_6 107 rfl rfl
theorem b_Wa_fitting : Cond.initialized y_Wa_fitting.1.cls ∈ x_tbl ∧ Cond.code y_Wa_fitting.1 y_Wa_fitting.2.1 y_Wa_fitting.2.2.1 y_Wa_fitting.2.2.2.1 ∈ x_tbl ∧ (y_Wa_fitting.1.cls ≠ "java/lang/invoke/MethodHandle" ∧ y_Wa_fitting.1.cls ≠ "java/lang/invoke/VarHandle" ∧ (parseMethodDescriptor y_Wa_fitting.1.desc).map (fun d => d.parameters.length) = some 0) := ⟨tb_1 9 rfl rfl, tb_6 91 rfl rfl, by decide +kernel⟩
theorem i_Wa_fitting : Cond.instanceMethod y_Wa_fitting.1 ∈ x_tbl ∧ Cond.selects y_Wa_fitting.1.cls y_Wa_fitting.1 y_Wa_fitting.1 ∈ x_tbl := ⟨tb_6 89 rfl rfl, tb_6 90 rfl rfl⟩
theorem l_Wa_67 : Cond.methodLink y_Wa_asked.1.cls 67 y_JI_bitCount.1 ∈ x_tbl := tb_6 108 rfl rfl
theorem f_Wa_73 : Cond.fieldLink "SmokeTubes$Watch" 73 "SmokeTubes$House" "pieces" "LSmokeTubes$Table;" ∈ x_tbl := tb_1 105 rfl rfl
theorem l_Wa_76 : Cond.methodLink y_Wa_asked.1.cls 76 y_Wa_countMarked.1 ∈ x_tbl := tb_6 109 rfl rfl
theorem b_Wa_countMarked : Cond.initialized y_Wa_countMarked.1.cls ∈ x_tbl ∧ Cond.code y_Wa_countMarked.1 y_Wa_countMarked.2.1 y_Wa_countMarked.2.2.1 y_Wa_countMarked.2.2.2.1 ∈ x_tbl ∧ (y_Wa_countMarked.1.cls ≠ "java/lang/invoke/MethodHandle" ∧ y_Wa_countMarked.1.cls ≠ "java/lang/invoke/VarHandle" ∧ (parseMethodDescriptor y_Wa_countMarked.1.desc).map (fun d => d.parameters.length) = some 3) := ⟨tb_1 9 rfl rfl, tb_6 112 rfl rfl, by decide +kernel⟩
theorem i_Wa_countMarked : Cond.instanceMethod y_Wa_countMarked.1 ∈ x_tbl ∧ Cond.selects y_Wa_countMarked.1.cls y_Wa_countMarked.1 y_Wa_countMarked.1 ∈ x_tbl := ⟨tb_6 111 rfl rfl, tb_p 45 rfl rfl⟩
theorem l_Wa_80 : Cond.methodLink y_Wa_asked.1.cls 80 y_JM_max.1 ∈ x_tbl := tb_6 113 rfl rfl
theorem l_Wa_83 : Cond.methodLink y_Wa_keep.1.cls 83 y_Sm_isMarked.1 ∈ x_tbl := tb_5 123 rfl rfl
theorem b_Sm_isMarked : Cond.initialized y_Sm_isMarked.1.cls ∈ x_tbl ∧ Cond.code y_Sm_isMarked.1 y_Sm_isMarked.2.1 y_Sm_isMarked.2.2.1 y_Sm_isMarked.2.2.2.1 ∈ x_tbl ∧ (y_Sm_isMarked.1.cls ≠ "java/lang/invoke/MethodHandle" ∧ y_Sm_isMarked.1.cls ≠ "java/lang/invoke/VarHandle" ∧ (parseMethodDescriptor y_Sm_isMarked.1.desc).map (fun d => d.parameters.length) = some 2) := ⟨tb_1 6 rfl rfl, tb_5 126 rfl rfl, by decide +kernel⟩
theorem i_Sm_isMarked : Cond.instanceMethod y_Sm_isMarked.1 ∈ x_tbl ∧ Cond.selects y_Sm_isMarked.1.cls y_Sm_isMarked.1 y_Sm_isMarked.1 ∈ x_tbl := ⟨tb_5 124 rfl rfl, tb_5 125 rfl rfl⟩
theorem f_Wa_87 : Cond.fieldLink "SmokeTubes$Watch" 87 "SmokeTubes$House" "readings" "LSmokeTubes$Table;" ∈ x_tbl := tb_1 134 rfl rfl
theorem f_F_12 : Cond.fieldLink "SmokeTubes" 12 "SmokeTubes" "acts" "LSmokeTubes$Acts;" ∈ x_tbl := tb_2 141 rfl rfl
theorem f_F_21 : Cond.fieldLink "SmokeTubes" 21 "SmokeTubes" "house" "LSmokeTubes$House;" ∈ x_tbl := tb_2 142 rfl rfl
theorem f_F_30 : Cond.fieldLink "SmokeTubes" 30 "SmokeTubes" "smoke" "LSmokeTubes$Smoke;" ∈ x_tbl := tb_2 143 rfl rfl
theorem f_F_39 : Cond.fieldLink "SmokeTubes" 39 "SmokeTubes" "escape" "LSmokeTubes$Escape;" ∈ x_tbl := tb_2 144 rfl rfl
theorem f_F_46 : Cond.fieldLink "SmokeTubes" 46 "SmokeTubes" "watch" "LSmokeTubes$Watch;" ∈ x_tbl := tb_2 146 rfl rfl
theorem f_F_55 : Cond.fieldLink "SmokeTubes" 55 "SmokeTubes" "turns" "LSmokeTubes$Turns;" ∈ x_tbl := tb_2 145 rfl rfl
theorem f_F_62 : Cond.fieldLink "SmokeTubes" 62 "SmokeTubes" "crew" "LSmokeTubes$Crew;" ∈ x_tbl := tb_2 147 rfl rfl
theorem f_F_69 : Cond.fieldLink "SmokeTubes" 69 "SmokeTubes" "person" "LSmokeTubes$Person;" ∈ x_tbl := tb_2 148 rfl rfl
theorem f_F_76 : Cond.fieldLink "SmokeTubes" 76 "SmokeTubes" "rows" "LSmokeTubes$Rows;" ∈ x_tbl := tb_2 149 rfl rfl
theorem l_F_80 : Cond.methodLink y_F_piece.1.cls 80 y_F_needWithin.1 ∈ x_tbl := tb_3 161 rfl rfl
theorem b_F_needWithin : Cond.initialized y_F_needWithin.1.cls ∈ x_tbl ∧ Cond.code y_F_needWithin.1 y_F_needWithin.2.1 y_F_needWithin.2.2.1 y_F_needWithin.2.2.2.1 ∈ x_tbl ∧ (y_F_needWithin.1.cls ≠ "java/lang/invoke/MethodHandle" ∧ y_F_needWithin.1.cls ≠ "java/lang/invoke/VarHandle" ∧ (parseMethodDescriptor y_F_needWithin.1.desc).map (fun d => d.parameters.length) = some 3) := ⟨tb_1 1 rfl rfl, tb_3 163 rfl rfl, by decide +kernel⟩
theorem i_F_needWithin : Cond.static y_F_needWithin.1 ∈ x_tbl := tb_3 162 rfl rfl
theorem f_F_84 : Cond.fieldLink "SmokeTubes" 84 "SmokeTubes$House" "pieces" "LSmokeTubes$Table;" ∈ x_tbl := tb_1 103 rfl rfl
theorem l_F_88 : Cond.methodLink y_F_piece.1.cls 88 y_Ho_add.1 ∈ x_tbl := tb_3 233 rfl rfl
theorem b_Ho_add : Cond.initialized y_Ho_add.1.cls ∈ x_tbl ∧ Cond.code y_Ho_add.1 y_Ho_add.2.1 y_Ho_add.2.2.1 y_Ho_add.2.2.2.1 ∈ x_tbl ∧ (y_Ho_add.1.cls ≠ "java/lang/invoke/MethodHandle" ∧ y_Ho_add.1.cls ≠ "java/lang/invoke/VarHandle" ∧ (parseMethodDescriptor y_Ho_add.1.desc).map (fun d => d.parameters.length) = some 7) := ⟨tb_1 3 rfl rfl, tb_3 236 rfl rfl, by decide +kernel⟩
theorem i_Ho_add : Cond.instanceMethod y_Ho_add.1 ∈ x_tbl ∧ Cond.selects y_Ho_add.1.cls y_Ho_add.1 y_Ho_add.1 ∈ x_tbl := ⟨tb_3 234 rfl rfl, tb_3 235 rfl rfl⟩
theorem l_F_92 : Cond.methodLink y_F_way.1.cls 92 y_F_needRow.1 ∈ x_tbl := tb_4 17 rfl rfl
theorem b_F_needRow : Cond.initialized y_F_needRow.1.cls ∈ x_tbl ∧ Cond.code y_F_needRow.1 y_F_needRow.2.1 y_F_needRow.2.2.1 y_F_needRow.2.2.2.1 ∈ x_tbl ∧ (y_F_needRow.1.cls ≠ "java/lang/invoke/MethodHandle" ∧ y_F_needRow.1.cls ≠ "java/lang/invoke/VarHandle" ∧ (parseMethodDescriptor y_F_needRow.1.desc).map (fun d => d.parameters.length) = some 2) := ⟨tb_1 1 rfl rfl, tb_4 19 rfl rfl, by decide +kernel⟩
theorem i_F_needRow : Cond.static y_F_needRow.1 ∈ x_tbl := tb_4 18 rfl rfl
theorem f_F_103 : Cond.fieldLink "SmokeTubes" 103 "SmokeTubes$House" "ways" "LSmokeTubes$Table;" ∈ x_tbl := tb_1 108 rfl rfl
theorem l_F_106 : Cond.methodLink y_F_water.1.cls 106 y_Ho_change.1 ∈ x_tbl := tb_4 45 rfl rfl
theorem b_Ho_change : Cond.initialized y_Ho_change.1.cls ∈ x_tbl ∧ Cond.code y_Ho_change.1 y_Ho_change.2.1 y_Ho_change.2.2.1 y_Ho_change.2.2.2.1 ∈ x_tbl ∧ (y_Ho_change.1.cls ≠ "java/lang/invoke/MethodHandle" ∧ y_Ho_change.1.cls ≠ "java/lang/invoke/VarHandle" ∧ (parseMethodDescriptor y_Ho_change.1.desc).map (fun d => d.parameters.length) = some 4) := ⟨tb_1 3 rfl rfl, tb_4 48 rfl rfl, by decide +kernel⟩
theorem i_Ho_change : Cond.instanceMethod y_Ho_change.1 ∈ x_tbl ∧ Cond.selects y_Ho_change.1.cls y_Ho_change.1 y_Ho_change.1 ∈ x_tbl := ⟨tb_4 46 rfl rfl, tb_4 47 rfl rfl⟩
theorem l_F_110 : Cond.methodLink y_F_fire.1.cls 110 y_F_needMinute.1 ∈ x_tbl := tb_4 61 rfl rfl
theorem b_F_needMinute : Cond.initialized y_F_needMinute.1.cls ∈ x_tbl ∧ Cond.code y_F_needMinute.1 y_F_needMinute.2.1 y_F_needMinute.2.2.1 y_F_needMinute.2.2.2.1 ∈ x_tbl ∧ (y_F_needMinute.1.cls ≠ "java/lang/invoke/MethodHandle" ∧ y_F_needMinute.1.cls ≠ "java/lang/invoke/VarHandle" ∧ (parseMethodDescriptor y_F_needMinute.1.desc).map (fun d => d.parameters.length) = some 1) := ⟨tb_1 1 rfl rfl, tb_4 63 rfl rfl, by decide +kernel⟩
theorem i_F_needMinute : Cond.static y_F_needMinute.1 ∈ x_tbl := tb_4 62 rfl rfl
theorem k_F_114 : Jvm.Cond.constant "SmokeTubes" 114 (Int32.ofInt (100000)) ∈ x_tbl := tb_4 64 rfl rfl
theorem f_F_115 : Cond.fieldLink "SmokeTubes" 115 "SmokeTubes$House" "fires" "LSmokeTubes$Table;" ∈ x_tbl := tb_1 117 rfl rfl
theorem k_F_118 : Jvm.Cond.constant "SmokeTubes" 118 (Int32.ofInt (1000000)) ∈ x_tbl := tb_4 72 rfl rfl
theorem l_F_119 : Cond.methodLink y_F_fan.1.cls 119 y_F_needPieceSet.1 ∈ x_tbl := tb_4 73 rfl rfl
theorem b_F_needPieceSet : Cond.initialized y_F_needPieceSet.1.cls ∈ x_tbl ∧ Cond.code y_F_needPieceSet.1 y_F_needPieceSet.2.1 y_F_needPieceSet.2.2.1 y_F_needPieceSet.2.2.2.1 ∈ x_tbl ∧ (y_F_needPieceSet.1.cls ≠ "java/lang/invoke/MethodHandle" ∧ y_F_needPieceSet.1.cls ≠ "java/lang/invoke/VarHandle" ∧ (parseMethodDescriptor y_F_needPieceSet.1.desc).map (fun d => d.parameters.length) = some 1) := ⟨tb_1 1 rfl rfl, tb_4 76 rfl rfl, by decide +kernel⟩
theorem i_F_needPieceSet : Cond.instanceMethod y_F_needPieceSet.1 ∈ x_tbl ∧ Cond.selects y_F_needPieceSet.1.cls y_F_needPieceSet.1 y_F_needPieceSet.1 ∈ x_tbl := ⟨tb_4 75 rfl rfl, tb_p 24 rfl rfl⟩
theorem f_F_122 : Cond.fieldLink "SmokeTubes" 122 "SmokeTubes$House" "fans" "LSmokeTubes$Table;" ∈ x_tbl := tb_1 119 rfl rfl
theorem l_F_125 : Cond.methodLink y_F_set.1.cls 125 y_F_needPlan.1 ∈ x_tbl := tb_4 84 rfl rfl
theorem b_F_needPlan : Cond.initialized y_F_needPlan.1.cls ∈ x_tbl ∧ Cond.code y_F_needPlan.1 y_F_needPlan.2.1 y_F_needPlan.2.2.1 y_F_needPlan.2.2.2.1 ∈ x_tbl ∧ (y_F_needPlan.1.cls ≠ "java/lang/invoke/MethodHandle" ∧ y_F_needPlan.1.cls ≠ "java/lang/invoke/VarHandle" ∧ (parseMethodDescriptor y_F_needPlan.1.desc).map (fun d => d.parameters.length) = some 1) := ⟨tb_1 1 rfl rfl, tb_4 86 rfl rfl, by decide +kernel⟩
theorem i_F_needPlan : Cond.static y_F_needPlan.1 ∈ x_tbl := tb_4 85 rfl rfl
theorem f_F_128 : Cond.fieldLink "SmokeTubes" 128 "SmokeTubes$House" "sets" "LSmokeTubes$Table;" ∈ x_tbl := tb_1 122 rfl rfl
theorem f_F_131 : Cond.fieldLink "SmokeTubes" 131 "SmokeTubes$House" "dials" "LSmokeTubes$Table;" ∈ x_tbl := tb_1 139 rfl rfl
theorem f_F_134 : Cond.fieldLink "SmokeTubes" 134 "SmokeTubes$House" "groups" "LSmokeTubes$Table;" ∈ x_tbl := tb_1 126 rfl rfl
theorem f_F_137 : Cond.fieldLink "SmokeTubes" 137 "SmokeTubes$House" "doors" "LSmokeTubes$Table;" ∈ x_tbl := tb_1 129 rfl rfl
theorem l_F_140 : Cond.methodLink y_F_gauges.1.cls 140 y_Ho_changeGauges.1 ∈ x_tbl := tb_4 129 rfl rfl
theorem b_Ho_changeGauges : Cond.initialized y_Ho_changeGauges.1.cls ∈ x_tbl ∧ Cond.code y_Ho_changeGauges.1 y_Ho_changeGauges.2.1 y_Ho_changeGauges.2.2.1 y_Ho_changeGauges.2.2.2.1 ∈ x_tbl ∧ (y_Ho_changeGauges.1.cls ≠ "java/lang/invoke/MethodHandle" ∧ y_Ho_changeGauges.1.cls ≠ "java/lang/invoke/VarHandle" ∧ (parseMethodDescriptor y_Ho_changeGauges.1.desc).map (fun d => d.parameters.length) = some 3) := ⟨tb_1 3 rfl rfl, tb_4 132 rfl rfl, by decide +kernel⟩
theorem i_Ho_changeGauges : Cond.instanceMethod y_Ho_changeGauges.1 ∈ x_tbl ∧ Cond.selects y_Ho_changeGauges.1.cls y_Ho_changeGauges.1 y_Ho_changeGauges.1 ∈ x_tbl := ⟨tb_4 130 rfl rfl, tb_4 131 rfl rfl⟩
theorem l_F_143 : Cond.methodLink y_F_air.1.cls 143 y_F_needFireOrNone.1 ∈ x_tbl := tb_4 140 rfl rfl
theorem b_F_needFireOrNone : Cond.initialized y_F_needFireOrNone.1.cls ∈ x_tbl ∧ Cond.code y_F_needFireOrNone.1 y_F_needFireOrNone.2.1 y_F_needFireOrNone.2.2.1 y_F_needFireOrNone.2.2.2.1 ∈ x_tbl ∧ (y_F_needFireOrNone.1.cls ≠ "java/lang/invoke/MethodHandle" ∧ y_F_needFireOrNone.1.cls ≠ "java/lang/invoke/VarHandle" ∧ (parseMethodDescriptor y_F_needFireOrNone.1.desc).map (fun d => d.parameters.length) = some 1) := ⟨tb_1 1 rfl rfl, tb_4 143 rfl rfl, by decide +kernel⟩
theorem i_F_needFireOrNone : Cond.instanceMethod y_F_needFireOrNone.1 ∈ x_tbl ∧ Cond.selects y_F_needFireOrNone.1.cls y_F_needFireOrNone.1 y_F_needFireOrNone.1 ∈ x_tbl := ⟨tb_4 142 rfl rfl, tb_p 25 rfl rfl⟩
theorem l_F_146 : Cond.methodLink y_F_air.1.cls 146 y_F_needCourse.1 ∈ x_tbl := tb_4 144 rfl rfl
theorem b_F_needCourse : Cond.initialized y_F_needCourse.1.cls ∈ x_tbl ∧ Cond.code y_F_needCourse.1 y_F_needCourse.2.1 y_F_needCourse.2.2.1 y_F_needCourse.2.2.2.1 ∈ x_tbl ∧ (y_F_needCourse.1.cls ≠ "java/lang/invoke/MethodHandle" ∧ y_F_needCourse.1.cls ≠ "java/lang/invoke/VarHandle" ∧ (parseMethodDescriptor y_F_needCourse.1.desc).map (fun d => d.parameters.length) = some 3) := ⟨tb_1 1 rfl rfl, tb_4 146 rfl rfl, by decide +kernel⟩
theorem i_F_needCourse : Cond.static y_F_needCourse.1 ∈ x_tbl := tb_4 145 rfl rfl
theorem l_F_149 : Cond.methodLink y_F_air.1.cls 149 y_Sm_follow.1 ∈ x_tbl := tb_2 173 rfl rfl
theorem l_F_153 : Cond.methodLink y_F_air.1.cls 153 y_Sm_airOf.1 ∈ x_tbl := tb_4 147 rfl rfl
theorem b_Sm_airOf : Cond.initialized y_Sm_airOf.1.cls ∈ x_tbl ∧ Cond.code y_Sm_airOf.1 y_Sm_airOf.2.1 y_Sm_airOf.2.2.1 y_Sm_airOf.2.2.2.1 ∈ x_tbl ∧ (y_Sm_airOf.1.cls ≠ "java/lang/invoke/MethodHandle" ∧ y_Sm_airOf.1.cls ≠ "java/lang/invoke/VarHandle" ∧ (parseMethodDescriptor y_Sm_airOf.1.desc).map (fun d => d.parameters.length) = some 2) := ⟨tb_1 6 rfl rfl, tb_4 150 rfl rfl, by decide +kernel⟩
theorem i_Sm_airOf : Cond.instanceMethod y_Sm_airOf.1 ∈ x_tbl ∧ Cond.selects y_Sm_airOf.1.cls y_Sm_airOf.1 y_Sm_airOf.1 ∈ x_tbl := ⟨tb_4 148 rfl rfl, tb_4 149 rfl rfl⟩
theorem l_F_157 : Cond.methodLink y_F_smoke.1.cls 157 y_Sm_aboveIn.1 ∈ x_tbl := tb_4 158 rfl rfl
theorem l_F_160 : Cond.methodLink y_F_smoke.1.cls 160 y_Sm_mixedIn.1 ∈ x_tbl := tb_4 159 rfl rfl
theorem l_F_163 : Cond.methodLink y_F_given.1.cls 163 y_Sm_total.1 ∈ x_tbl := tb_4 167 rfl rfl
theorem b_Sm_total : Cond.initialized y_Sm_total.1.cls ∈ x_tbl ∧ Cond.code y_Sm_total.1 y_Sm_total.2.1 y_Sm_total.2.2.1 y_Sm_total.2.2.2.1 ∈ x_tbl ∧ (y_Sm_total.1.cls ≠ "java/lang/invoke/MethodHandle" ∧ y_Sm_total.1.cls ≠ "java/lang/invoke/VarHandle" ∧ (parseMethodDescriptor y_Sm_total.1.desc).map (fun d => d.parameters.length) = some 2) := ⟨tb_1 6 rfl rfl, tb_4 170 rfl rfl, by decide +kernel⟩
theorem i_Sm_total : Cond.instanceMethod y_Sm_total.1 ∈ x_tbl ∧ Cond.selects y_Sm_total.1.cls y_Sm_total.1 y_Sm_total.1 ∈ x_tbl := ⟨tb_4 168 rfl rfl, tb_4 169 rfl rfl⟩
theorem l_F_166 : Cond.methodLink y_F_lost.1.cls 166 y_Sm_lostFrom.1 ∈ x_tbl := tb_4 178 rfl rfl
theorem b_Sm_lostFrom : Cond.initialized y_Sm_lostFrom.1.cls ∈ x_tbl ∧ Cond.code y_Sm_lostFrom.1 y_Sm_lostFrom.2.1 y_Sm_lostFrom.2.2.1 y_Sm_lostFrom.2.2.2.1 ∈ x_tbl ∧ (y_Sm_lostFrom.1.cls ≠ "java/lang/invoke/MethodHandle" ∧ y_Sm_lostFrom.1.cls ≠ "java/lang/invoke/VarHandle" ∧ (parseMethodDescriptor y_Sm_lostFrom.1.desc).map (fun d => d.parameters.length) = some 1) := ⟨tb_1 6 rfl rfl, tb_4 181 rfl rfl, by decide +kernel⟩
theorem i_Sm_lostFrom : Cond.instanceMethod y_Sm_lostFrom.1 ∈ x_tbl ∧ Cond.selects y_Sm_lostFrom.1.cls y_Sm_lostFrom.1 y_Sm_lostFrom.1 ∈ x_tbl := ⟨tb_4 179 rfl rfl, tb_4 180 rfl rfl⟩
theorem l_F_170 : Cond.methodLink y_F_shut.1.cls 170 y_Sm_isShut.1 ∈ x_tbl := tb_4 189 rfl rfl
theorem l_F_174 : Cond.methodLink y_F_out.1.cls 174 y_Tu_outBy.1 ∈ x_tbl := tb_4 197 rfl rfl
theorem l_F_178 : Cond.methodLink y_F_all.1.cls 178 y_Es_firstForAll.1 ∈ x_tbl := tb_4 216 rfl rfl
theorem b_Es_firstForAll : Cond.initialized y_Es_firstForAll.1.cls ∈ x_tbl ∧ Cond.code y_Es_firstForAll.1 y_Es_firstForAll.2.1 y_Es_firstForAll.2.2.1 y_Es_firstForAll.2.2.2.1 ∈ x_tbl ∧ (y_Es_firstForAll.1.cls ≠ "java/lang/invoke/MethodHandle" ∧ y_Es_firstForAll.1.cls ≠ "java/lang/invoke/VarHandle" ∧ (parseMethodDescriptor y_Es_firstForAll.1.desc).map (fun d => d.parameters.length) = some 0) := ⟨tb_1 7 rfl rfl, tb_4 219 rfl rfl, by decide +kernel⟩
theorem i_Es_firstForAll : Cond.instanceMethod y_Es_firstForAll.1 ∈ x_tbl ∧ Cond.selects y_Es_firstForAll.1.cls y_Es_firstForAll.1 y_Es_firstForAll.1 ∈ x_tbl := ⟨tb_4 217 rfl rfl, tb_4 218 rfl rfl⟩
theorem l_F_182 : Cond.methodLink y_F_side.1.cls 182 y_Ho_walkTimes.1 ∈ x_tbl := tb_4 229 rfl rfl
theorem l_F_185 : Cond.methodLink y_F_side.1.cls 185 y_Ho_madeDoors.1 ∈ x_tbl := tb_3 138 rfl rfl
theorem l_F_188 : Cond.methodLink y_F_side.1.cls 188 y_Es_most.1 ∈ x_tbl := tb_4 230 rfl rfl
theorem l_F_192 : Cond.methodLink y_F_side.1.cls 192 y_Es_sideAt.1 ∈ x_tbl := tb_4 231 rfl rfl
theorem b_Es_sideAt : Cond.initialized y_Es_sideAt.1.cls ∈ x_tbl ∧ Cond.code y_Es_sideAt.1 y_Es_sideAt.2.1 y_Es_sideAt.2.2.1 y_Es_sideAt.2.2.2.1 ∈ x_tbl ∧ (y_Es_sideAt.1.cls ≠ "java/lang/invoke/MethodHandle" ∧ y_Es_sideAt.1.cls ≠ "java/lang/invoke/VarHandle" ∧ (parseMethodDescriptor y_Es_sideAt.1.desc).map (fun d => d.parameters.length) = some 1) := ⟨tb_1 7 rfl rfl, tb_4 234 rfl rfl, by decide +kernel⟩
theorem i_Es_sideAt : Cond.instanceMethod y_Es_sideAt.1 ∈ x_tbl ∧ Cond.selects y_Es_sideAt.1.cls y_Es_sideAt.1 y_Es_sideAt.1 ∈ x_tbl := ⟨tb_4 232 rfl rfl, tb_4 233 rfl rfl⟩
theorem l_F_195 : Cond.methodLink y_F_worth.1.cls 195 y_F_needRowNumber.1 ∈ x_tbl := tb_5 8 rfl rfl
theorem b_F_needRowNumber : Cond.initialized y_F_needRowNumber.1.cls ∈ x_tbl ∧ Cond.code y_F_needRowNumber.1 y_F_needRowNumber.2.1 y_F_needRowNumber.2.2.1 y_F_needRowNumber.2.2.2.1 ∈ x_tbl ∧ (y_F_needRowNumber.1.cls ≠ "java/lang/invoke/MethodHandle" ∧ y_F_needRowNumber.1.cls ≠ "java/lang/invoke/VarHandle" ∧ (parseMethodDescriptor y_F_needRowNumber.1.desc).map (fun d => d.parameters.length) = some 1) := ⟨tb_1 1 rfl rfl, tb_5 10 rfl rfl, by decide +kernel⟩
theorem i_F_needRowNumber : Cond.static y_F_needRowNumber.1 ∈ x_tbl := tb_5 9 rfl rfl
theorem l_F_198 : Cond.methodLink y_F_worth.1.cls 198 y_F_needPlaces.1 ∈ x_tbl := tb_5 12 rfl rfl
theorem b_F_needPlaces : Cond.initialized y_F_needPlaces.1.cls ∈ x_tbl ∧ Cond.code y_F_needPlaces.1 y_F_needPlaces.2.1 y_F_needPlaces.2.2.1 y_F_needPlaces.2.2.2.1 ∈ x_tbl ∧ (y_F_needPlaces.1.cls ≠ "java/lang/invoke/MethodHandle" ∧ y_F_needPlaces.1.cls ≠ "java/lang/invoke/VarHandle" ∧ (parseMethodDescriptor y_F_needPlaces.1.desc).map (fun d => d.parameters.length) = some 2) := ⟨tb_1 1 rfl rfl, tb_5 15 rfl rfl, by decide +kernel⟩
theorem i_F_needPlaces : Cond.instanceMethod y_F_needPlaces.1 ∈ x_tbl ∧ Cond.selects y_F_needPlaces.1.cls y_F_needPlaces.1 y_F_needPlaces.1 ∈ x_tbl := ⟨tb_5 14 rfl rfl, tb_p 26 rfl rfl⟩
theorem l_F_202 : Cond.methodLink y_F_worth.1.cls 202 y_Es_worthOf.1 ∈ x_tbl := tb_5 56 rfl rfl
theorem b_Es_worthOf : Cond.initialized y_Es_worthOf.1.cls ∈ x_tbl ∧ Cond.code y_Es_worthOf.1 y_Es_worthOf.2.1 y_Es_worthOf.2.2.1 y_Es_worthOf.2.2.2.1 ∈ x_tbl ∧ (y_Es_worthOf.1.cls ≠ "java/lang/invoke/MethodHandle" ∧ y_Es_worthOf.1.cls ≠ "java/lang/invoke/VarHandle" ∧ (parseMethodDescriptor y_Es_worthOf.1.desc).map (fun d => d.parameters.length) = some 3) := ⟨tb_1 7 rfl rfl, tb_5 59 rfl rfl, by decide +kernel⟩
theorem i_Es_worthOf : Cond.instanceMethod y_Es_worthOf.1 ∈ x_tbl ∧ Cond.selects y_Es_worthOf.1.cls y_Es_worthOf.1 y_Es_worthOf.1 ∈ x_tbl := ⟨tb_5 57 rfl rfl, tb_5 58 rfl rfl⟩
theorem l_F_206 : Cond.methodLink y_F_fewest.1.cls 206 y_Ta_size.1 ∈ x_tbl := tb_3 133 rfl rfl
theorem l_F_213 : Cond.methodLink y_F_fewest.1.cls 213 y_Tu_fewestDoors.1 ∈ x_tbl := tb_5 84 rfl rfl
theorem b_Tu_fewestDoors : Cond.initialized y_Tu_fewestDoors.1.cls ∈ x_tbl ∧ Cond.code y_Tu_fewestDoors.1 y_Tu_fewestDoors.2.1 y_Tu_fewestDoors.2.2.1 y_Tu_fewestDoors.2.2.2.1 ∈ x_tbl ∧ (y_Tu_fewestDoors.1.cls ≠ "java/lang/invoke/MethodHandle" ∧ y_Tu_fewestDoors.1.cls ≠ "java/lang/invoke/VarHandle" ∧ (parseMethodDescriptor y_Tu_fewestDoors.1.desc).map (fun d => d.parameters.length) = some 3) := ⟨tb_1 10 rfl rfl, tb_5 87 rfl rfl, by decide +kernel⟩
theorem i_Tu_fewestDoors : Cond.instanceMethod y_Tu_fewestDoors.1 ∈ x_tbl ∧ Cond.selects y_Tu_fewestDoors.1.cls y_Tu_fewestDoors.1 y_Tu_fewestDoors.1 ∈ x_tbl := ⟨tb_5 85 rfl rfl, tb_5 86 rfl rfl⟩
theorem l_F_216 : Cond.methodLink y_F_alike.1.cls 216 y_Wa_look.1 ∈ x_tbl := tb_5 113 rfl rfl
theorem b_Wa_look : Cond.initialized y_Wa_look.1.cls ∈ x_tbl ∧ Cond.code y_Wa_look.1 y_Wa_look.2.1 y_Wa_look.2.2.1 y_Wa_look.2.2.2.1 ∈ x_tbl ∧ (y_Wa_look.1.cls ≠ "java/lang/invoke/MethodHandle" ∧ y_Wa_look.1.cls ≠ "java/lang/invoke/VarHandle" ∧ (parseMethodDescriptor y_Wa_look.1.desc).map (fun d => d.parameters.length) = some 1) := ⟨tb_1 9 rfl rfl, tb_5 116 rfl rfl, by decide +kernel⟩
theorem i_Wa_look : Cond.instanceMethod y_Wa_look.1 ∈ x_tbl ∧ Cond.selects y_Wa_look.1.cls y_Wa_look.1 y_Wa_look.1 ∈ x_tbl := ⟨tb_5 114 rfl rfl, tb_5 115 rfl rfl⟩
theorem l_F_219 : Cond.methodLink y_F_alike.1.cls 219 y_Wa_sameTold.1 ∈ x_tbl := tb_5 127 rfl rfl
theorem l_F_223 : Cond.methodLink y_F_regret.1.cls 223 y_Tu_regretOf.1 ∈ x_tbl := tb_5 144 rfl rfl
theorem l_F_226 : Cond.methodLink y_F_turn.1.cls 226 y_F_needSomeFire.1 ∈ x_tbl := tb_5 157 rfl rfl
theorem b_F_needSomeFire : Cond.initialized y_F_needSomeFire.1.cls ∈ x_tbl ∧ Cond.code y_F_needSomeFire.1 y_F_needSomeFire.2.1 y_F_needSomeFire.2.2.1 y_F_needSomeFire.2.2.2.1 ∈ x_tbl ∧ (y_F_needSomeFire.1.cls ≠ "java/lang/invoke/MethodHandle" ∧ y_F_needSomeFire.1.cls ≠ "java/lang/invoke/VarHandle" ∧ (parseMethodDescriptor y_F_needSomeFire.1.desc).map (fun d => d.parameters.length) = some 0) := ⟨tb_1 1 rfl rfl, tb_5 160 rfl rfl, by decide +kernel⟩
theorem i_F_needSomeFire : Cond.instanceMethod y_F_needSomeFire.1 ∈ x_tbl ∧ Cond.selects y_F_needSomeFire.1.cls y_F_needSomeFire.1 y_F_needSomeFire.1 ∈ x_tbl := ⟨tb_5 159 rfl rfl, tb_p 33 rfl rfl⟩
theorem l_F_229 : Cond.methodLink y_F_turn.1.cls 229 y_Tu_weigh.1 ∈ x_tbl := tb_5 162 rfl rfl
theorem b_Tu_weigh : Cond.initialized y_Tu_weigh.1.cls ∈ x_tbl ∧ Cond.code y_Tu_weigh.1 y_Tu_weigh.2.1 y_Tu_weigh.2.2.1 y_Tu_weigh.2.2.2.1 ∈ x_tbl ∧ (y_Tu_weigh.1.cls ≠ "java/lang/invoke/MethodHandle" ∧ y_Tu_weigh.1.cls ≠ "java/lang/invoke/VarHandle" ∧ (parseMethodDescriptor y_Tu_weigh.1.desc).map (fun d => d.parameters.length) = some 3) := ⟨tb_1 10 rfl rfl, tb_5 165 rfl rfl, by decide +kernel⟩
theorem i_Tu_weigh : Cond.instanceMethod y_Tu_weigh.1 ∈ x_tbl ∧ Cond.selects y_Tu_weigh.1.cls y_Tu_weigh.1 y_Tu_weigh.1 ∈ x_tbl := ⟨tb_5 163 rfl rfl, tb_5 164 rfl rfl⟩
theorem l_F_232 : Cond.methodLink y_F_turn.1.cls 232 y_Tu_regretOfTurn.1 ∈ x_tbl := tb_5 167 rfl rfl
theorem b_Tu_regretOfTurn : Cond.initialized y_Tu_regretOfTurn.1.cls ∈ x_tbl ∧ Cond.code y_Tu_regretOfTurn.1 y_Tu_regretOfTurn.2.1 y_Tu_regretOfTurn.2.2.1 y_Tu_regretOfTurn.2.2.2.1 ∈ x_tbl ∧ (y_Tu_regretOfTurn.1.cls ≠ "java/lang/invoke/MethodHandle" ∧ y_Tu_regretOfTurn.1.cls ≠ "java/lang/invoke/VarHandle" ∧ (parseMethodDescriptor y_Tu_regretOfTurn.1.desc).map (fun d => d.parameters.length) = some 1) := ⟨tb_1 10 rfl rfl, tb_5 170 rfl rfl, by decide +kernel⟩
theorem i_Tu_regretOfTurn : Cond.instanceMethod y_Tu_regretOfTurn.1 ∈ x_tbl ∧ Cond.selects y_Tu_regretOfTurn.1.cls y_Tu_regretOfTurn.1 y_Tu_regretOfTurn.1 ∈ x_tbl := ⟨tb_5 168 rfl rfl, tb_5 169 rfl rfl⟩
theorem l_F_235 : Cond.methodLink y_F_turnTo.1.cls 235 y_Tu_planFor.1 ∈ x_tbl := tb_5 188 rfl rfl
theorem l_F_238 : Cond.methodLink y_F_reach.1.cls 238 y_Cr_firstReach.1 ∈ x_tbl := tb_5 203 rfl rfl
theorem b_Cr_firstReach : Cond.initialized y_Cr_firstReach.1.cls ∈ x_tbl ∧ Cond.code y_Cr_firstReach.1 y_Cr_firstReach.2.1 y_Cr_firstReach.2.2.1 y_Cr_firstReach.2.2.2.1 ∈ x_tbl ∧ (y_Cr_firstReach.1.cls ≠ "java/lang/invoke/MethodHandle" ∧ y_Cr_firstReach.1.cls ≠ "java/lang/invoke/VarHandle" ∧ (parseMethodDescriptor y_Cr_firstReach.1.desc).map (fun d => d.parameters.length) = some 2) := ⟨tb_1 11 rfl rfl, tb_5 206 rfl rfl, by decide +kernel⟩
theorem i_Cr_firstReach : Cond.instanceMethod y_Cr_firstReach.1 ∈ x_tbl ∧ Cond.selects y_Cr_firstReach.1.cls y_Cr_firstReach.1 y_Cr_firstReach.1 ∈ x_tbl := ⟨tb_5 204 rfl rfl, tb_5 205 rfl rfl⟩
theorem f_F_241 : Cond.fieldLink "SmokeTubes" 241 "SmokeTubes$House" "drills" "LSmokeTubes$Table;" ∈ x_tbl := tb_1 132 rfl rfl
theorem l_F_244 : Cond.methodLink y_F_fit.1.cls 244 y_Es_fitsDrills.1 ∈ x_tbl := tb_3 15 rfl rfl
theorem b_Es_fitsDrills : Cond.initialized y_Es_fitsDrills.1.cls ∈ x_tbl ∧ Cond.code y_Es_fitsDrills.1 y_Es_fitsDrills.2.1 y_Es_fitsDrills.2.2.1 y_Es_fitsDrills.2.2.2.1 ∈ x_tbl ∧ (y_Es_fitsDrills.1.cls ≠ "java/lang/invoke/MethodHandle" ∧ y_Es_fitsDrills.1.cls ≠ "java/lang/invoke/VarHandle" ∧ (parseMethodDescriptor y_Es_fitsDrills.1.desc).map (fun d => d.parameters.length) = some 1) := ⟨tb_1 7 rfl rfl, tb_3 18 rfl rfl, by decide +kernel⟩
theorem i_Es_fitsDrills : Cond.instanceMethod y_Es_fitsDrills.1 ∈ x_tbl ∧ Cond.selects y_Es_fitsDrills.1.cls y_Es_fitsDrills.1 y_Es_fitsDrills.1 ∈ x_tbl := ⟨tb_3 16 rfl rfl, tb_3 17 rfl rfl⟩
theorem l_F_248 : Cond.methodLink y_F_dose.1.cls 248 y_F_needPerson.1 ∈ x_tbl := tb_6 15 rfl rfl
theorem b_F_needPerson : Cond.initialized y_F_needPerson.1.cls ∈ x_tbl ∧ Cond.code y_F_needPerson.1 y_F_needPerson.2.1 y_F_needPerson.2.2.1 y_F_needPerson.2.2.2.1 ∈ x_tbl ∧ (y_F_needPerson.1.cls ≠ "java/lang/invoke/MethodHandle" ∧ y_F_needPerson.1.cls ≠ "java/lang/invoke/VarHandle" ∧ (parseMethodDescriptor y_F_needPerson.1.desc).map (fun d => d.parameters.length) = some 2) := ⟨tb_1 1 rfl rfl, tb_6 18 rfl rfl, by decide +kernel⟩
theorem i_F_needPerson : Cond.instanceMethod y_F_needPerson.1 ∈ x_tbl ∧ Cond.selects y_F_needPerson.1.cls y_F_needPerson.1 y_F_needPerson.1 ∈ x_tbl := ⟨tb_6 17 rfl rfl, tb_p 40 rfl rfl⟩
theorem l_F_251 : Cond.methodLink y_F_dose.1.cls 251 y_Pe_weigh.1 ∈ x_tbl := tb_6 19 rfl rfl
theorem b_Pe_weigh : Cond.initialized y_Pe_weigh.1.cls ∈ x_tbl ∧ Cond.code y_Pe_weigh.1 y_Pe_weigh.2.1 y_Pe_weigh.2.2.1 y_Pe_weigh.2.2.2.1 ∈ x_tbl ∧ (y_Pe_weigh.1.cls ≠ "java/lang/invoke/MethodHandle" ∧ y_Pe_weigh.1.cls ≠ "java/lang/invoke/VarHandle" ∧ (parseMethodDescriptor y_Pe_weigh.1.desc).map (fun d => d.parameters.length) = some 0) := ⟨tb_1 12 rfl rfl, tb_6 22 rfl rfl, by decide +kernel⟩
theorem i_Pe_weigh : Cond.instanceMethod y_Pe_weigh.1 ∈ x_tbl ∧ Cond.selects y_Pe_weigh.1.cls y_Pe_weigh.1 y_Pe_weigh.1 ∈ x_tbl := ⟨tb_6 20 rfl rfl, tb_6 21 rfl rfl⟩
theorem l_F_253 : Cond.methodLink y_F_dose.1.cls 253 y_Pe_doseFrom.1 ∈ x_tbl := tb_6 47 rfl rfl
theorem l_F_256 : Cond.methodLink y_F_outAt.1.cls 256 y_Pe_outFrom.1 ∈ x_tbl := tb_6 58 rfl rfl
theorem b_Pe_outFrom : Cond.initialized y_Pe_outFrom.1.cls ∈ x_tbl ∧ Cond.code y_Pe_outFrom.1 y_Pe_outFrom.2.1 y_Pe_outFrom.2.2.1 y_Pe_outFrom.2.2.2.1 ∈ x_tbl ∧ (y_Pe_outFrom.1.cls ≠ "java/lang/invoke/MethodHandle" ∧ y_Pe_outFrom.1.cls ≠ "java/lang/invoke/VarHandle" ∧ (parseMethodDescriptor y_Pe_outFrom.1.desc).map (fun d => d.parameters.length) = some 2) := ⟨tb_1 12 rfl rfl, tb_6 61 rfl rfl, by decide +kernel⟩
theorem i_Pe_outFrom : Cond.instanceMethod y_Pe_outFrom.1 ∈ x_tbl ∧ Cond.selects y_Pe_outFrom.1.cls y_Pe_outFrom.1 y_Pe_outFrom.1 ∈ x_tbl := ⟨tb_6 59 rfl rfl, tb_6 60 rfl rfl⟩
theorem l_F_259 : Cond.methodLink y_F_whereAt.1.cls 259 y_Pe_whereFrom.1 ∈ x_tbl := tb_6 70 rfl rfl
theorem b_Pe_whereFrom : Cond.initialized y_Pe_whereFrom.1.cls ∈ x_tbl ∧ Cond.code y_Pe_whereFrom.1 y_Pe_whereFrom.2.1 y_Pe_whereFrom.2.2.1 y_Pe_whereFrom.2.2.2.1 ∈ x_tbl ∧ (y_Pe_whereFrom.1.cls ≠ "java/lang/invoke/MethodHandle" ∧ y_Pe_whereFrom.1.cls ≠ "java/lang/invoke/VarHandle" ∧ (parseMethodDescriptor y_Pe_whereFrom.1.desc).map (fun d => d.parameters.length) = some 3) := ⟨tb_1 12 rfl rfl, tb_6 73 rfl rfl, by decide +kernel⟩
theorem i_Pe_whereFrom : Cond.instanceMethod y_Pe_whereFrom.1 ∈ x_tbl ∧ Cond.selects y_Pe_whereFrom.1.cls y_Pe_whereFrom.1 y_Pe_whereFrom.1 ∈ x_tbl := ⟨tb_6 71 rfl rfl, tb_6 72 rfl rfl⟩
theorem f_F_262 : Cond.fieldLink "SmokeTubes" 262 "SmokeTubes$House" "readings" "LSmokeTubes$Table;" ∈ x_tbl := tb_1 135 rfl rfl
theorem l_F_265 : Cond.methodLink y_F_fits.1.cls 265 y_Wa_fitting.1 ∈ x_tbl := tb_6 88 rfl rfl
theorem l_F_268 : Cond.methodLink y_F_next.1.cls 268 y_Wa_asked.1 ∈ x_tbl := tb_6 103 rfl rfl
theorem b_Wa_asked : Cond.initialized y_Wa_asked.1.cls ∈ x_tbl ∧ Cond.code y_Wa_asked.1 y_Wa_asked.2.1 y_Wa_asked.2.2.1 y_Wa_asked.2.2.2.1 ∈ x_tbl ∧ (y_Wa_asked.1.cls ≠ "java/lang/invoke/MethodHandle" ∧ y_Wa_asked.1.cls ≠ "java/lang/invoke/VarHandle" ∧ (parseMethodDescriptor y_Wa_asked.1.desc).map (fun d => d.parameters.length) = some 0) := ⟨tb_1 9 rfl rfl, tb_6 106 rfl rfl, by decide +kernel⟩
theorem i_Wa_asked : Cond.instanceMethod y_Wa_asked.1 ∈ x_tbl ∧ Cond.selects y_Wa_asked.1.cls y_Wa_asked.1 y_Wa_asked.1 ∈ x_tbl := ⟨tb_6 104 rfl rfl, tb_6 105 rfl rfl⟩
theorem l_F_271 : Cond.methodLink y_F_undo.1.cls 271 y_Ac_takeBack.1 ∈ x_tbl := tb_3 98 rfl rfl
theorem b_Ac_takeBack : Cond.initialized y_Ac_takeBack.1.cls ∈ x_tbl ∧ Cond.code y_Ac_takeBack.1 y_Ac_takeBack.2.1 y_Ac_takeBack.2.2.1 y_Ac_takeBack.2.2.2.1 ∈ x_tbl ∧ (y_Ac_takeBack.1.cls ≠ "java/lang/invoke/MethodHandle" ∧ y_Ac_takeBack.1.cls ≠ "java/lang/invoke/VarHandle" ∧ (parseMethodDescriptor y_Ac_takeBack.1.desc).map (fun d => d.parameters.length) = some 0) := ⟨tb_1 2 rfl rfl, tb_3 101 rfl rfl, by decide +kernel⟩
theorem i_Ac_takeBack : Cond.instanceMethod y_Ac_takeBack.1 ∈ x_tbl ∧ Cond.selects y_Ac_takeBack.1.cls y_Ac_takeBack.1 y_Ac_takeBack.1 ∈ x_tbl := ⟨tb_3 99 rfl rfl, tb_3 100 rfl rfl⟩
theorem l_F_275 : Cond.methodLink y_F_redo.1.cls 275 y_Ac_doAgain.1 ∈ x_tbl := tb_3 125 rfl rfl
theorem b_Ac_doAgain : Cond.initialized y_Ac_doAgain.1.cls ∈ x_tbl ∧ Cond.code y_Ac_doAgain.1 y_Ac_doAgain.2.1 y_Ac_doAgain.2.2.1 y_Ac_doAgain.2.2.2.1 ∈ x_tbl ∧ (y_Ac_doAgain.1.cls ≠ "java/lang/invoke/MethodHandle" ∧ y_Ac_doAgain.1.cls ≠ "java/lang/invoke/VarHandle" ∧ (parseMethodDescriptor y_Ac_doAgain.1.desc).map (fun d => d.parameters.length) = some 0) := ⟨tb_1 2 rfl rfl, tb_3 128 rfl rfl, by decide +kernel⟩
theorem i_Ac_doAgain : Cond.instanceMethod y_Ac_doAgain.1 ∈ x_tbl ∧ Cond.selects y_Ac_doAgain.1.cls y_Ac_doAgain.1 y_Ac_doAgain.1 ∈ x_tbl := ⟨tb_3 126 rfl rfl, tb_3 127 rfl rfl⟩
theorem l_F_278 : Cond.methodLink y_F_row.1.cls 278 y_Ro_start.1 ∈ x_tbl := tb_6 121 rfl rfl
theorem b_Ro_start : Cond.initialized y_Ro_start.1.cls ∈ x_tbl ∧ Cond.code y_Ro_start.1 y_Ro_start.2.1 y_Ro_start.2.2.1 y_Ro_start.2.2.2.1 ∈ x_tbl ∧ (y_Ro_start.1.cls ≠ "java/lang/invoke/MethodHandle" ∧ y_Ro_start.1.cls ≠ "java/lang/invoke/VarHandle" ∧ (parseMethodDescriptor y_Ro_start.1.desc).map (fun d => d.parameters.length) = some 3) := ⟨tb_1 13 rfl rfl, tb_6 124 rfl rfl, by decide +kernel⟩
theorem i_Ro_start : Cond.instanceMethod y_Ro_start.1 ∈ x_tbl ∧ Cond.selects y_Ro_start.1.cls y_Ro_start.1 y_Ro_start.1 ∈ x_tbl := ⟨tb_6 122 rfl rfl, tb_6 123 rfl rfl⟩
theorem l_F_281 : Cond.methodLink y_F_write.1.cls 281 y_Ro_lengthOf.1 ∈ x_tbl := tb_5 36 rfl rfl
theorem l_F_289 : Cond.methodLink y_F_write.1.cls 289 y_Ro_put.1 ∈ x_tbl := tb_6 135 rfl rfl
theorem b_Ro_put : Cond.initialized y_Ro_put.1.cls ∈ x_tbl ∧ Cond.code y_Ro_put.1 y_Ro_put.2.1 y_Ro_put.2.2.1 y_Ro_put.2.2.2.1 ∈ x_tbl ∧ (y_Ro_put.1.cls ≠ "java/lang/invoke/MethodHandle" ∧ y_Ro_put.1.cls ≠ "java/lang/invoke/VarHandle" ∧ (parseMethodDescriptor y_Ro_put.1.desc).map (fun d => d.parameters.length) = some 3) := ⟨tb_1 13 rfl rfl, tb_6 138 rfl rfl, by decide +kernel⟩
theorem i_Ro_put : Cond.instanceMethod y_Ro_put.1 ∈ x_tbl ∧ Cond.selects y_Ro_put.1.cls y_Ro_put.1 y_Ro_put.1 ∈ x_tbl := ⟨tb_6 136 rfl rfl, tb_6 137 rfl rfl⟩
theorem l_F_293 : Cond.methodLink y_F_count.1.cls 293 y_Ho_allPeople.1 ∈ x_tbl := tb_3 134 rfl rfl
theorem l_F_296 : Cond.methodLink y_F_count.1.cls 296 y_JI_bitCount.1 ∈ x_tbl := tb_3 139 rfl rfl
theorem l_F_301 : Cond.methodLink y_F_count.1.cls 301 y_Ac_done.1 ∈ x_tbl := tb_3 145 rfl rfl
theorem b_Ac_done : Cond.initialized y_Ac_done.1.cls ∈ x_tbl ∧ Cond.code y_Ac_done.1 y_Ac_done.2.1 y_Ac_done.2.2.1 y_Ac_done.2.2.2.1 ∈ x_tbl ∧ (y_Ac_done.1.cls ≠ "java/lang/invoke/MethodHandle" ∧ y_Ac_done.1.cls ≠ "java/lang/invoke/VarHandle" ∧ (parseMethodDescriptor y_Ac_done.1.desc).map (fun d => d.parameters.length) = some 0) := ⟨tb_1 2 rfl rfl, tb_3 148 rfl rfl, by decide +kernel⟩
theorem i_Ac_done : Cond.instanceMethod y_Ac_done.1 ∈ x_tbl ∧ Cond.selects y_Ac_done.1.cls y_Ac_done.1 y_Ac_done.1 ∈ x_tbl := ⟨tb_3 146 rfl rfl, tb_3 147 rfl rfl⟩
theorem l_F_304 : Cond.methodLink y_F_count.1.cls 304 y_Ac_undone.1 ∈ x_tbl := tb_3 149 rfl rfl
theorem b_Ac_undone : Cond.initialized y_Ac_undone.1.cls ∈ x_tbl ∧ Cond.code y_Ac_undone.1 y_Ac_undone.2.1 y_Ac_undone.2.2.1 y_Ac_undone.2.2.2.1 ∈ x_tbl ∧ (y_Ac_undone.1.cls ≠ "java/lang/invoke/MethodHandle" ∧ y_Ac_undone.1.cls ≠ "java/lang/invoke/VarHandle" ∧ (parseMethodDescriptor y_Ac_undone.1.desc).map (fun d => d.parameters.length) = some 0) := ⟨tb_1 2 rfl rfl, tb_3 152 rfl rfl, by decide +kernel⟩
theorem i_Ac_undone : Cond.instanceMethod y_Ac_undone.1 ∈ x_tbl ∧ Cond.selects y_Ac_undone.1.cls y_Ac_undone.1 y_Ac_undone.1 ∈ x_tbl := ⟨tb_3 150 rfl rfl, tb_3 151 rfl rfl⟩
theorem l_F_309 : Cond.methodLink y_F_needRow.1.cls 309 y_Ta_has.1 ∈ x_tbl := tb_4 20 rfl rfl
theorem l_F_324 : Cond.methodLink y_F_needPlaces.1.cls 324 y_Ro_isMissing.1 ∈ x_tbl := tb_5 16 rfl rfl
theorem b_Ro_isMissing : Cond.initialized y_Ro_isMissing.1.cls ∈ x_tbl ∧ Cond.code y_Ro_isMissing.1 y_Ro_isMissing.2.1 y_Ro_isMissing.2.2.1 y_Ro_isMissing.2.2.2.1 ∈ x_tbl ∧ (y_Ro_isMissing.1.cls ≠ "java/lang/invoke/MethodHandle" ∧ y_Ro_isMissing.1.cls ≠ "java/lang/invoke/VarHandle" ∧ (parseMethodDescriptor y_Ro_isMissing.1.desc).map (fun d => d.parameters.length) = some 1) := ⟨tb_1 13 rfl rfl, tb_5 19 rfl rfl, by decide +kernel⟩
theorem i_Ro_isMissing : Cond.instanceMethod y_Ro_isMissing.1 ∈ x_tbl ∧ Cond.selects y_Ro_isMissing.1.cls y_Ro_isMissing.1 y_Ro_isMissing.1 ∈ x_tbl := ⟨tb_5 17 rfl rfl, tb_5 18 rfl rfl⟩
theorem f_M_7 : Cond.fieldLink "SmokeTubesModel" 7 "SmokeTubesModel" "eyes" "I" ∈ x_tbl := tb_6 165 rfl rfl
theorem f_M_13 : Cond.fieldLink "SmokeTubesModel" 13 "SmokeTubesModel" "walk" "I" ∈ x_tbl := tb_6 166 rfl rfl
theorem f_M_16 : Cond.fieldLink "SmokeTubesModel" 16 "SmokeTubesModel" "mark" "I" ∈ x_tbl := tb_6 168 rfl rfl
theorem f_M_19 : Cond.fieldLink "SmokeTubesModel" 19 "SmokeTubesModel" "lag" "I" ∈ x_tbl := tb_6 169 rfl rfl
theorem f_M_22 : Cond.fieldLink "SmokeTubesModel" 22 "SmokeTubesModel" "room" "[I" ∈ x_tbl := tb_6 170 rfl rfl
theorem f_M_26 : Cond.fieldLink "SmokeTubesModel" 26 "SmokeTubesModel" "out" "[I" ∈ x_tbl := tb_6 171 rfl rfl
theorem f_M_29 : Cond.fieldLink "SmokeTubesModel" 29 "SmokeTubesModel" "water" "[I" ∈ x_tbl := tb_6 172 rfl rfl
theorem f_M_32 : Cond.fieldLink "SmokeTubesModel" 32 "SmokeTubesModel" "wA" "[I" ∈ x_tbl := tb_6 173 rfl rfl
theorem f_M_35 : Cond.fieldLink "SmokeTubesModel" 35 "SmokeTubesModel" "wB" "[I" ∈ x_tbl := tb_6 174 rfl rfl
theorem f_M_38 : Cond.fieldLink "SmokeTubesModel" 38 "SmokeTubesModel" "wLong" "[I" ∈ x_tbl := tb_6 175 rfl rfl
theorem f_M_41 : Cond.fieldLink "SmokeTubesModel" 41 "SmokeTubesModel" "wWide" "[I" ∈ x_tbl := tb_6 176 rfl rfl
theorem f_M_44 : Cond.fieldLink "SmokeTubesModel" 44 "SmokeTubesModel" "wDraught" "[I" ∈ x_tbl := tb_6 177 rfl rfl
theorem f_M_47 : Cond.fieldLink "SmokeTubesModel" 47 "SmokeTubesModel" "fPiece" "[I" ∈ x_tbl := tb_6 178 rfl rfl
theorem f_M_50 : Cond.fieldLink "SmokeTubesModel" 50 "SmokeTubesModel" "fFrom" "[I" ∈ x_tbl := tb_6 179 rfl rfl
theorem f_M_53 : Cond.fieldLink "SmokeTubesModel" 53 "SmokeTubesModel" "fTo" "[I" ∈ x_tbl := tb_6 180 rfl rfl
theorem f_M_56 : Cond.fieldLink "SmokeTubesModel" 56 "SmokeTubesModel" "fFirst" "[I" ∈ x_tbl := tb_6 181 rfl rfl
theorem f_M_59 : Cond.fieldLink "SmokeTubesModel" 59 "SmokeTubesModel" "fGrows" "[I" ∈ x_tbl := tb_6 182 rfl rfl
theorem f_M_62 : Cond.fieldLink "SmokeTubesModel" 62 "SmokeTubesModel" "fTop" "[I" ∈ x_tbl := tb_6 183 rfl rfl
theorem f_M_65 : Cond.fieldLink "SmokeTubesModel" 65 "SmokeTubesModel" "nWay" "[I" ∈ x_tbl := tb_6 184 rfl rfl
theorem f_M_68 : Cond.fieldLink "SmokeTubesModel" 68 "SmokeTubesModel" "nPush" "[I" ∈ x_tbl := tb_6 185 rfl rfl
theorem f_M_71 : Cond.fieldLink "SmokeTubesModel" 71 "SmokeTubesModel" "nBears" "[I" ∈ x_tbl := tb_6 186 rfl rfl
theorem f_M_74 : Cond.fieldLink "SmokeTubesModel" 74 "SmokeTubesModel" "nCable" "[I" ∈ x_tbl := tb_6 187 rfl rfl
theorem f_M_77 : Cond.fieldLink "SmokeTubesModel" 77 "SmokeTubesModel" "tPlan" "[I" ∈ x_tbl := tb_6 188 rfl rfl
theorem f_M_80 : Cond.fieldLink "SmokeTubesModel" 80 "SmokeTubesModel" "tFan" "[I" ∈ x_tbl := tb_6 189 rfl rfl
theorem f_M_83 : Cond.fieldLink "SmokeTubesModel" 83 "SmokeTubesModel" "tMinute" "[I" ∈ x_tbl := tb_6 190 rfl rfl
theorem f_M_86 : Cond.fieldLink "SmokeTubesModel" 86 "SmokeTubesModel" "tIs" "[I" ∈ x_tbl := tb_6 191 rfl rfl
theorem f_M_89 : Cond.fieldLink "SmokeTubesModel" 89 "SmokeTubesModel" "gPiece" "[I" ∈ x_tbl := tb_6 192 rfl rfl
theorem f_M_92 : Cond.fieldLink "SmokeTubesModel" 92 "SmokeTubesModel" "gPeople" "[I" ∈ x_tbl := tb_6 193 rfl rfl
theorem f_M_95 : Cond.fieldLink "SmokeTubesModel" 95 "SmokeTubesModel" "gStart" "[I" ∈ x_tbl := tb_6 194 rfl rfl
theorem f_M_98 : Cond.fieldLink "SmokeTubesModel" 98 "SmokeTubesModel" "dPiece" "[I" ∈ x_tbl := tb_6 195 rfl rfl
theorem f_M_101 : Cond.fieldLink "SmokeTubesModel" 101 "SmokeTubesModel" "dWide" "[I" ∈ x_tbl := tb_6 196 rfl rfl
theorem f_M_104 : Cond.fieldLink "SmokeTubesModel" 104 "SmokeTubesModel" "dCost" "[I" ∈ x_tbl := tb_6 197 rfl rfl
theorem f_M_107 : Cond.fieldLink "SmokeTubesModel" 107 "SmokeTubesModel" "isMade" "[Z" ∈ x_tbl := tb_6 198 rfl rfl
theorem f_M_111 : Cond.fieldLink "SmokeTubesModel" 111 "SmokeTubesModel" "rBy" "[I" ∈ x_tbl := tb_6 199 rfl rfl
theorem f_M_114 : Cond.fieldLink "SmokeTubesModel" 114 "SmokeTubesModel" "rPeople" "[I" ∈ x_tbl := tb_6 200 rfl rfl
theorem f_M_117 : Cond.fieldLink "SmokeTubesModel" 117 "SmokeTubesModel" "aPiece" "[I" ∈ x_tbl := tb_6 201 rfl rfl
theorem f_M_120 : Cond.fieldLink "SmokeTubesModel" 120 "SmokeTubesModel" "aMinute" "[I" ∈ x_tbl := tb_6 202 rfl rfl
theorem f_M_123 : Cond.fieldLink "SmokeTubesModel" 123 "SmokeTubesModel" "aIs" "[I" ∈ x_tbl := tb_6 203 rfl rfl
theorem f_M_126 : Cond.fieldLink "SmokeTubesModel" 126 "SmokeTubesModel" "acts" "[I" ∈ x_tbl := tb_6 204 rfl rfl
theorem f_M_129 : Cond.fieldLink "SmokeTubesModel" 129 "SmokeTubesModel" "above" "[I" ∈ x_tbl := tb_6 208 rfl rfl
theorem f_M_132 : Cond.fieldLink "SmokeTubesModel" 132 "SmokeTubesModel" "mixed" "[I" ∈ x_tbl := tb_6 209 rfl rfl
theorem f_M_135 : Cond.fieldLink "SmokeTubesModel" 135 "SmokeTubesModel" "air" "[I" ∈ x_tbl := tb_6 210 rfl rfl
theorem f_M_138 : Cond.fieldLink "SmokeTubesModel" 138 "SmokeTubesModel" "lostAt" "[I" ∈ x_tbl := tb_6 211 rfl rfl
theorem f_M_141 : Cond.fieldLink "SmokeTubesModel" 141 "SmokeTubesModel" "gave" "[I" ∈ x_tbl := tb_6 212 rfl rfl
theorem f_M_144 : Cond.fieldLink "SmokeTubesModel" 144 "SmokeTubesModel" "gone" "[I" ∈ x_tbl := tb_6 213 rfl rfl
theorem f_M_147 : Cond.fieldLink "SmokeTubesModel" 147 "SmokeTubesModel" "washed" "[I" ∈ x_tbl := tb_6 214 rfl rfl
theorem f_M_150 : Cond.fieldLink "SmokeTubesModel" 150 "SmokeTubesModel" "head" "[I" ∈ x_tbl := tb_6 215 rfl rfl
theorem f_M_153 : Cond.fieldLink "SmokeTubesModel" 153 "SmokeTubesModel" "now" "[I" ∈ x_tbl := tb_6 216 rfl rfl
theorem f_M_156 : Cond.fieldLink "SmokeTubesModel" 156 "SmokeTubesModel" "far" "[I" ∈ x_tbl := tb_6 217 rfl rfl
theorem f_M_159 : Cond.fieldLink "SmokeTubesModel" 159 "SmokeTubesModel" "queue" "[I" ∈ x_tbl := tb_6 218 rfl rfl
theorem f_M_162 : Cond.fieldLink "SmokeTubesModel" 162 "SmokeTubesModel" "path" "[I" ∈ x_tbl := tb_6 219 rfl rfl
theorem f_M_165 : Cond.fieldLink "SmokeTubesModel" 165 "SmokeTubesModel" "behind" "[I" ∈ x_tbl := tb_6 220 rfl rfl
theorem f_M_168 : Cond.fieldLink "SmokeTubesModel" 168 "SmokeTubesModel" "to" "[I" ∈ x_tbl := tb_6 221 rfl rfl
theorem f_M_171 : Cond.fieldLink "SmokeTubesModel" 171 "SmokeTubesModel" "left" "[I" ∈ x_tbl := tb_6 222 rfl rfl
theorem f_M_174 : Cond.fieldLink "SmokeTubesModel" 174 "SmokeTubesModel" "sides" "[I" ∈ x_tbl := tb_6 224 rfl rfl
theorem f_M_177 : Cond.fieldLink "SmokeTubesModel" 177 "SmokeTubesModel" "tells" "[I" ∈ x_tbl := tb_6 225 rfl rfl
theorem f_M_180 : Cond.fieldLink "SmokeTubesModel" 180 "SmokeTubesModel" "regrets" "[I" ∈ x_tbl := tb_6 226 rfl rfl
theorem f_M_183 : Cond.fieldLink "SmokeTubesModel" 183 "SmokeTubesModel" "goes" "[I" ∈ x_tbl := tb_6 227 rfl rfl
theorem f_M_186 : Cond.fieldLink "SmokeTubesModel" 186 "SmokeTubesModel" "there" "[I" ∈ x_tbl := tb_6 228 rfl rfl
theorem f_M_189 : Cond.fieldLink "SmokeTubesModel" 189 "SmokeTubesModel" "back" "[I" ∈ x_tbl := tb_6 229 rfl rfl
theorem f_M_192 : Cond.fieldLink "SmokeTubesModel" 192 "SmokeTubesModel" "dose" "[J" ∈ x_tbl := tb_6 230 rfl rfl
theorem f_M_196 : Cond.fieldLink "SmokeTubesModel" 196 "SmokeTubesModel" "outMinute" "[I" ∈ x_tbl := tb_6 231 rfl rfl
theorem f_M_199 : Cond.fieldLink "SmokeTubesModel" 199 "SmokeTubesModel" "deed" "[I" ∈ x_tbl := tb_6 232 rfl rfl
theorem f_M_202 : Cond.fieldLink "SmokeTubesModel" 202 "SmokeTubesModel" "wherever" "[I" ∈ x_tbl := tb_6 233 rfl rfl
theorem f_M_205 : Cond.fieldLink "SmokeTubesModel" 205 "SmokeTubesModel" "hasMark" "[Z" ∈ x_tbl := tb_6 234 rfl rfl
theorem f_M_208 : Cond.fieldLink "SmokeTubesModel" 208 "SmokeTubesModel" "rSort" "[I" ∈ x_tbl := tb_6 235 rfl rfl
theorem f_M_211 : Cond.fieldLink "SmokeTubesModel" 211 "SmokeTubesModel" "rMany" "[I" ∈ x_tbl := tb_6 236 rfl rfl
theorem f_M_214 : Cond.fieldLink "SmokeTubesModel" 214 "SmokeTubesModel" "numbers" "[J" ∈ x_tbl := tb_6 237 rfl rfl
theorem f_M_217 : Cond.fieldLink "SmokeTubesModel" 217 "SmokeTubesModel" "thrown" "I" ∈ x_tbl := tb_6 155 rfl rfl
theorem k_M_220 : Jvm.Cond.constantLong "SmokeTubesModel" 220 (Int64.ofInt (20)) ∈ x_tbl := tb_7 226 rfl rfl
theorem l_M_222 : Cond.methodLink y_M_isMinute.1.cls 222 y_M_within.1 ∈ x_tbl := tb_7 190 rfl rfl
theorem b_M_within : Cond.initialized y_M_within.1.cls ∈ x_tbl ∧ Cond.code y_M_within.1 y_M_within.2.1 y_M_within.2.2.1 y_M_within.2.2.2.1 ∈ x_tbl ∧ (y_M_within.1.cls ≠ "java/lang/invoke/MethodHandle" ∧ y_M_within.1.cls ≠ "java/lang/invoke/VarHandle" ∧ (parseMethodDescriptor y_M_within.1.desc).map (fun d => d.parameters.length) = some 3) := ⟨tb_1 14 rfl rfl, tb_7 192 rfl rfl, by decide +kernel⟩
theorem i_M_within : Cond.static y_M_within.1 ∈ x_tbl := tb_7 191 rfl rfl
theorem k_M_226 : Jvm.Cond.constantLong "SmokeTubesModel" 226 (Int64.ofInt (3)) ∈ x_tbl := tb_8 1 rfl rfl
theorem f_M_228 : Cond.fieldLink "SmokeTubesModel" 228 "SmokeTubesModel" "pieces" "I" ∈ x_tbl := tb_6 156 rfl rfl
theorem f_M_231 : Cond.fieldLink "SmokeTubesModel" 231 "SmokeTubesModel" "done" "I" ∈ x_tbl := tb_6 205 rfl rfl
theorem l_M_234 : Cond.methodLink y_M_act.1.cls 234 y_M_does.1 ∈ x_tbl := tb_7 173 rfl rfl
theorem b_M_does : Cond.initialized y_M_does.1.cls ∈ x_tbl ∧ Cond.code y_M_does.1 y_M_does.2.1 y_M_does.2.2.1 y_M_does.2.2.2.1 ∈ x_tbl ∧ (y_M_does.1.cls ≠ "java/lang/invoke/MethodHandle" ∧ y_M_does.1.cls ≠ "java/lang/invoke/VarHandle" ∧ (parseMethodDescriptor y_M_does.1.desc).map (fun d => d.parameters.length) = some 1) := ⟨tb_1 14 rfl rfl, tb_7 176 rfl rfl, by decide +kernel⟩
theorem i_M_does : Cond.instanceMethod y_M_does.1 ∈ x_tbl ∧ Cond.selects y_M_does.1.cls y_M_does.1 y_M_does.1 ∈ x_tbl := ⟨tb_7 175 rfl rfl, tb_p 46 rfl rfl⟩
theorem f_M_238 : Cond.fieldLink "SmokeTubesModel" 238 "SmokeTubesModel" "logged" "I" ∈ x_tbl := tb_6 206 rfl rfl
theorem f_M_241 : Cond.fieldLink "SmokeTubesModel" 241 "SmokeTubesModel" "base" "I" ∈ x_tbl := tb_6 207 rfl rfl
theorem l_M_244 : Cond.methodLink y_M_act.1.cls 244 y_JM_max.1 ∈ x_tbl := tb_7 202 rfl rfl
theorem f_M_250 : Cond.fieldLink "SmokeTubesModel" 250 "SmokeTubesModel" "ways" "I" ∈ x_tbl := tb_6 157 rfl rfl
theorem f_M_253 : Cond.fieldLink "SmokeTubesModel" 253 "SmokeTubesModel" "fires" "I" ∈ x_tbl := tb_6 158 rfl rfl
theorem f_M_256 : Cond.fieldLink "SmokeTubesModel" 256 "SmokeTubesModel" "fans" "I" ∈ x_tbl := tb_6 159 rfl rfl
theorem f_M_259 : Cond.fieldLink "SmokeTubesModel" 259 "SmokeTubesModel" "tolds" "I" ∈ x_tbl := tb_6 160 rfl rfl
theorem f_M_262 : Cond.fieldLink "SmokeTubesModel" 262 "SmokeTubesModel" "groups" "I" ∈ x_tbl := tb_6 161 rfl rfl
theorem l_M_265 : Cond.methodLink y_M_does.1.cls 265 y_M_doesMore.1 ∈ x_tbl := tb_7 177 rfl rfl
theorem b_M_doesMore : Cond.initialized y_M_doesMore.1.cls ∈ x_tbl ∧ Cond.code y_M_doesMore.1 y_M_doesMore.2.1 y_M_doesMore.2.2.1 y_M_doesMore.2.2.2.1 ∈ x_tbl ∧ (y_M_doesMore.1.cls ≠ "java/lang/invoke/MethodHandle" ∧ y_M_doesMore.1.cls ≠ "java/lang/invoke/VarHandle" ∧ (parseMethodDescriptor y_M_doesMore.1.desc).map (fun d => d.parameters.length) = some 4) := ⟨tb_1 14 rfl rfl, tb_7 180 rfl rfl, by decide +kernel⟩
theorem i_M_doesMore : Cond.instanceMethod y_M_doesMore.1 ∈ x_tbl ∧ Cond.selects y_M_doesMore.1.cls y_M_doesMore.1 y_M_doesMore.1 ∈ x_tbl := ⟨tb_7 179 rfl rfl, tb_p 47 rfl rfl⟩
theorem f_M_269 : Cond.fieldLink "SmokeTubesModel" 269 "SmokeTubesModel" "doors" "I" ∈ x_tbl := tb_6 162 rfl rfl
theorem f_M_272 : Cond.fieldLink "SmokeTubesModel" 272 "SmokeTubesModel" "gauges" "I" ∈ x_tbl := tb_6 167 rfl rfl
theorem f_M_275 : Cond.fieldLink "SmokeTubesModel" 275 "SmokeTubesModel" "drills" "I" ∈ x_tbl := tb_6 163 rfl rfl
theorem f_M_278 : Cond.fieldLink "SmokeTubesModel" 278 "SmokeTubesModel" "readings" "I" ∈ x_tbl := tb_6 164 rfl rfl
theorem k_M_281 : Jvm.Cond.constantLong "SmokeTubesModel" 281 (Int64.ofInt (200)) ∈ x_tbl := tb_7 189 rfl rfl
theorem k_M_283 : Jvm.Cond.constantLong "SmokeTubesModel" 283 (Int64.ofInt (40)) ∈ x_tbl := tb_7 193 rfl rfl
theorem l_M_285 : Cond.methodLink y_M_piece.1.cls 285 y_M_fails.1 ∈ x_tbl := tb_7 194 rfl rfl
theorem b_M_fails : Cond.initialized y_M_fails.1.cls ∈ x_tbl ∧ Cond.code y_M_fails.1 y_M_fails.2.1 y_M_fails.2.2.1 y_M_fails.2.2.2.1 ∈ x_tbl ∧ (y_M_fails.1.cls ≠ "java/lang/invoke/MethodHandle" ∧ y_M_fails.1.cls ≠ "java/lang/invoke/VarHandle" ∧ (parseMethodDescriptor y_M_fails.1.desc).map (fun d => d.parameters.length) = some 1) := ⟨tb_1 14 rfl rfl, tb_7 197 rfl rfl, by decide +kernel⟩
theorem i_M_fails : Cond.instanceMethod y_M_fails.1 ∈ x_tbl ∧ Cond.selects y_M_fails.1.cls y_M_fails.1 y_M_fails.1 ∈ x_tbl := ⟨tb_7 196 rfl rfl, tb_p 48 rfl rfl⟩
theorem l_M_289 : Cond.methodLink y_M_piece.1.cls 289 y_M_act.1 ∈ x_tbl := tb_7 198 rfl rfl
theorem b_M_act : Cond.initialized y_M_act.1.cls ∈ x_tbl ∧ Cond.code y_M_act.1 y_M_act.2.1 y_M_act.2.2.1 y_M_act.2.2.2.1 ∈ x_tbl ∧ (y_M_act.1.cls ≠ "java/lang/invoke/MethodHandle" ∧ y_M_act.1.cls ≠ "java/lang/invoke/VarHandle" ∧ (parseMethodDescriptor y_M_act.1.desc).map (fun d => d.parameters.length) = some 7) := ⟨tb_1 14 rfl rfl, tb_7 201 rfl rfl, by decide +kernel⟩
theorem i_M_act : Cond.instanceMethod y_M_act.1 ∈ x_tbl ∧ Cond.selects y_M_act.1.cls y_M_act.1 y_M_act.1 ∈ x_tbl := ⟨tb_7 200 rfl rfl, tb_p 49 rfl rfl⟩
theorem l_M_293 : Cond.methodLink y_M_way.1.cls 293 y_M_isPiece.1 ∈ x_tbl := tb_7 207 rfl rfl
theorem b_M_isPiece : Cond.initialized y_M_isPiece.1.cls ∈ x_tbl ∧ Cond.code y_M_isPiece.1 y_M_isPiece.2.1 y_M_isPiece.2.2.1 y_M_isPiece.2.2.2.1 ∈ x_tbl ∧ (y_M_isPiece.1.cls ≠ "java/lang/invoke/MethodHandle" ∧ y_M_isPiece.1.cls ≠ "java/lang/invoke/VarHandle" ∧ (parseMethodDescriptor y_M_isPiece.1.desc).map (fun d => d.parameters.length) = some 1) := ⟨tb_1 14 rfl rfl, tb_7 210 rfl rfl, by decide +kernel⟩
theorem i_M_isPiece : Cond.instanceMethod y_M_isPiece.1 ∈ x_tbl ∧ Cond.selects y_M_isPiece.1.cls y_M_isPiece.1 y_M_isPiece.1 ∈ x_tbl := ⟨tb_7 209 rfl rfl, tb_p 50 rfl rfl⟩
theorem k_M_297 : Jvm.Cond.constantLong "SmokeTubesModel" 297 (Int64.ofInt (4)) ∈ x_tbl := tb_7 211 rfl rfl
theorem k_M_299 : Jvm.Cond.constantLong "SmokeTubesModel" 299 (Int64.ofInt (-8)) ∈ x_tbl := tb_7 212 rfl rfl
theorem k_M_301 : Jvm.Cond.constantLong "SmokeTubesModel" 301 (Int64.ofInt (8)) ∈ x_tbl := tb_7 213 rfl rfl
theorem k_M_303 : Jvm.Cond.constantLong "SmokeTubesModel" 303 (Int64.ofInt (21)) ∈ x_tbl := tb_7 218 rfl rfl
theorem l_M_305 : Cond.methodLink y_M_fire.1.cls 305 y_M_isMinute.1 ∈ x_tbl := tb_7 223 rfl rfl
theorem b_M_isMinute : Cond.initialized y_M_isMinute.1.cls ∈ x_tbl ∧ Cond.code y_M_isMinute.1 y_M_isMinute.2.1 y_M_isMinute.2.2.1 y_M_isMinute.2.2.2.1 ∈ x_tbl ∧ (y_M_isMinute.1.cls ≠ "java/lang/invoke/MethodHandle" ∧ y_M_isMinute.1.cls ≠ "java/lang/invoke/VarHandle" ∧ (parseMethodDescriptor y_M_isMinute.1.desc).map (fun d => d.parameters.length) = some 1) := ⟨tb_1 14 rfl rfl, tb_7 225 rfl rfl, by decide +kernel⟩
theorem i_M_isMinute : Cond.static y_M_isMinute.1 ∈ x_tbl := tb_7 224 rfl rfl
theorem k_M_308 : Jvm.Cond.constantLong "SmokeTubesModel" 308 (Int64.ofInt (100000)) ∈ x_tbl := tb_7 227 rfl rfl
theorem k_M_310 : Jvm.Cond.constantLong "SmokeTubesModel" 310 (Int64.ofInt (6)) ∈ x_tbl := tb_7 232 rfl rfl
theorem k_M_312 : Jvm.Cond.constantLong "SmokeTubesModel" 312 (Int64.ofInt (1000000)) ∈ x_tbl := tb_7 233 rfl rfl
theorem l_M_314 : Cond.methodLink y_M_set.1.cls 314 y_M_isPlan.1 ∈ x_tbl := tb_7 238 rfl rfl
theorem b_M_isPlan : Cond.initialized y_M_isPlan.1.cls ∈ x_tbl ∧ Cond.code y_M_isPlan.1 y_M_isPlan.2.1 y_M_isPlan.2.2.1 y_M_isPlan.2.2.2.1 ∈ x_tbl ∧ (y_M_isPlan.1.cls ≠ "java/lang/invoke/MethodHandle" ∧ y_M_isPlan.1.cls ≠ "java/lang/invoke/VarHandle" ∧ (parseMethodDescriptor y_M_isPlan.1.desc).map (fun d => d.parameters.length) = some 1) := ⟨tb_1 14 rfl rfl, tb_8 0 rfl rfl, by decide +kernel⟩
theorem i_M_isPlan : Cond.static y_M_isPlan.1 ∈ x_tbl := tb_7 239 rfl rfl
theorem k_M_317 : Jvm.Cond.constantLong "SmokeTubesModel" 317 (Int64.ofInt (-1)) ∈ x_tbl := tb_8 2 rfl rfl
theorem k_M_319 : Jvm.Cond.constantLong "SmokeTubesModel" 319 (Int64.ofInt (60)) ∈ x_tbl := tb_8 11 rfl rfl
theorem k_M_321 : Jvm.Cond.constantLong "SmokeTubesModel" 321 (Int64.ofInt (1000)) ∈ x_tbl := tb_8 20 rfl rfl
theorem k_M_323 : Jvm.Cond.constantLong "SmokeTubesModel" 323 (Int64.ofInt (5)) ∈ x_tbl := tb_8 29 rfl rfl
theorem l_M_325 : Cond.methodLink y_M_gives.1.cls 325 y_JM_min.1 ∈ x_tbl := tb_8 57 rfl rfl
theorem l_M_328 : Cond.methodLink y_M_blows.1.cls 328 y_M_isBy.1 ∈ x_tbl := tb_8 53 rfl rfl
theorem b_M_isBy : Cond.initialized y_M_isBy.1.cls ∈ x_tbl ∧ Cond.code y_M_isBy.1 y_M_isBy.2.1 y_M_isBy.2.2.1 y_M_isBy.2.2.2.1 ∈ x_tbl ∧ (y_M_isBy.1.cls ≠ "java/lang/invoke/MethodHandle" ∧ y_M_isBy.1.cls ≠ "java/lang/invoke/VarHandle" ∧ (parseMethodDescriptor y_M_isBy.1.desc).map (fun d => d.parameters.length) = some 3) := ⟨tb_1 14 rfl rfl, tb_8 56 rfl rfl, by decide +kernel⟩
theorem i_M_isBy : Cond.instanceMethod y_M_isBy.1 ∈ x_tbl ∧ Cond.selects y_M_isBy.1.cls y_M_isBy.1 y_M_isBy.1 ∈ x_tbl := ⟨tb_8 55 rfl rfl, tb_p 55 rfl rfl⟩
theorem l_M_332 : Cond.methodLink y_M_rises.1.cls 332 y_M_isAt.1 ∈ x_tbl := tb_8 66 rfl rfl
theorem b_M_isAt : Cond.initialized y_M_isAt.1.cls ∈ x_tbl ∧ Cond.code y_M_isAt.1 y_M_isAt.2.1 y_M_isAt.2.2.1 y_M_isAt.2.2.2.1 ∈ x_tbl ∧ (y_M_isAt.1.cls ≠ "java/lang/invoke/MethodHandle" ∧ y_M_isAt.1.cls ≠ "java/lang/invoke/VarHandle" ∧ (parseMethodDescriptor y_M_isAt.1.desc).map (fun d => d.parameters.length) = some 2) := ⟨tb_1 14 rfl rfl, tb_8 69 rfl rfl, by decide +kernel⟩
theorem i_M_isAt : Cond.instanceMethod y_M_isAt.1 ∈ x_tbl ∧ Cond.selects y_M_isAt.1.cls y_M_isAt.1 y_M_isAt.1 ∈ x_tbl := ⟨tb_8 68 rfl rfl, tb_p 58 rfl rfl⟩
theorem l_M_336 : Cond.methodLink y_M_rises.1.cls 336 y_JM_abs.1 ∈ x_tbl := tb_8 70 rfl rfl
theorem b_JM_abs : Cond.initialized y_JM_abs.1.cls ∈ x_tbl ∧ Cond.code y_JM_abs.1 y_JM_abs.2.1 y_JM_abs.2.2.1 y_JM_abs.2.2.2.1 ∈ x_tbl ∧ (y_JM_abs.1.cls ≠ "java/lang/invoke/MethodHandle" ∧ y_JM_abs.1.cls ≠ "java/lang/invoke/VarHandle" ∧ (parseMethodDescriptor y_JM_abs.1.desc).map (fun d => d.parameters.length) = some 1) := ⟨tb_1 5 rfl rfl, tb_8 72 rfl rfl, by decide +kernel⟩
theorem i_JM_abs : Cond.static y_JM_abs.1 ∈ x_tbl := tb_8 71 rfl rfl
theorem l_M_339 : Cond.methodLink y_M_rises.1.cls 339 y_M_towards.1 ∈ x_tbl := tb_8 73 rfl rfl
theorem b_M_towards : Cond.initialized y_M_towards.1.cls ∈ x_tbl ∧ Cond.code y_M_towards.1 y_M_towards.2.1 y_M_towards.2.2.1 y_M_towards.2.2.2.1 ∈ x_tbl ∧ (y_M_towards.1.cls ≠ "java/lang/invoke/MethodHandle" ∧ y_M_towards.1.cls ≠ "java/lang/invoke/VarHandle" ∧ (parseMethodDescriptor y_M_towards.1.desc).map (fun d => d.parameters.length) = some 3) := ⟨tb_1 14 rfl rfl, tb_8 76 rfl rfl, by decide +kernel⟩
theorem i_M_towards : Cond.instanceMethod y_M_towards.1 ∈ x_tbl ∧ Cond.selects y_M_towards.1.cls y_M_towards.1 y_M_towards.1 ∈ x_tbl := ⟨tb_8 75 rfl rfl, tb_p 59 rfl rfl⟩
theorem l_M_342 : Cond.methodLink y_M_rises.1.cls 342 y_M_otherEnd.1 ∈ x_tbl := tb_8 77 rfl rfl
theorem b_M_otherEnd : Cond.initialized y_M_otherEnd.1.cls ∈ x_tbl ∧ Cond.code y_M_otherEnd.1 y_M_otherEnd.2.1 y_M_otherEnd.2.2.1 y_M_otherEnd.2.2.2.1 ∈ x_tbl ∧ (y_M_otherEnd.1.cls ≠ "java/lang/invoke/MethodHandle" ∧ y_M_otherEnd.1.cls ≠ "java/lang/invoke/VarHandle" ∧ (parseMethodDescriptor y_M_otherEnd.1.desc).map (fun d => d.parameters.length) = some 2) := ⟨tb_1 14 rfl rfl, tb_8 80 rfl rfl, by decide +kernel⟩
theorem i_M_otherEnd : Cond.instanceMethod y_M_otherEnd.1 ∈ x_tbl ∧ Cond.selects y_M_otherEnd.1.cls y_M_otherEnd.1 y_M_otherEnd.1 ∈ x_tbl := ⟨tb_8 79 rfl rfl, tb_p 60 rfl rfl⟩
theorem l_M_345 : Cond.methodLink y_M_burns.1.cls 345 y_M_loses.1 ∈ x_tbl := tb_8 45 rfl rfl
theorem b_M_loses : Cond.initialized y_M_loses.1.cls ∈ x_tbl ∧ Cond.code y_M_loses.1 y_M_loses.2.1 y_M_loses.2.2.1 y_M_loses.2.2.2.1 ∈ x_tbl ∧ (y_M_loses.1.cls ≠ "java/lang/invoke/MethodHandle" ∧ y_M_loses.1.cls ≠ "java/lang/invoke/VarHandle" ∧ (parseMethodDescriptor y_M_loses.1.desc).map (fun d => d.parameters.length) = some 2) := ⟨tb_1 14 rfl rfl, tb_8 48 rfl rfl, by decide +kernel⟩
theorem i_M_loses : Cond.instanceMethod y_M_loses.1 ∈ x_tbl ∧ Cond.selects y_M_loses.1.cls y_M_loses.1 y_M_loses.1 ∈ x_tbl := ⟨tb_8 47 rfl rfl, tb_p 53 rfl rfl⟩
theorem l_M_349 : Cond.methodLink y_M_burns.1.cls 349 y_M_blows.1 ∈ x_tbl := tb_8 49 rfl rfl
theorem b_M_blows : Cond.initialized y_M_blows.1.cls ∈ x_tbl ∧ Cond.code y_M_blows.1 y_M_blows.2.1 y_M_blows.2.2.1 y_M_blows.2.2.2.1 ∈ x_tbl ∧ (y_M_blows.1.cls ≠ "java/lang/invoke/MethodHandle" ∧ y_M_blows.1.cls ≠ "java/lang/invoke/VarHandle" ∧ (parseMethodDescriptor y_M_blows.1.desc).map (fun d => d.parameters.length) = some 2) := ⟨tb_1 14 rfl rfl, tb_8 52 rfl rfl, by decide +kernel⟩
theorem i_M_blows : Cond.instanceMethod y_M_blows.1 ∈ x_tbl ∧ Cond.selects y_M_blows.1.cls y_M_blows.1 y_M_blows.1 ∈ x_tbl := ⟨tb_8 51 rfl rfl, tb_p 54 rfl rfl⟩
theorem l_M_352 : Cond.methodLink y_M_burns.1.cls 352 y_M_gives.1 ∈ x_tbl := tb_8 58 rfl rfl
theorem b_M_gives : Cond.initialized y_M_gives.1.cls ∈ x_tbl ∧ Cond.code y_M_gives.1 y_M_gives.2.1 y_M_gives.2.2.1 y_M_gives.2.2.2.1 ∈ x_tbl ∧ (y_M_gives.1.cls ≠ "java/lang/invoke/MethodHandle" ∧ y_M_gives.1.cls ≠ "java/lang/invoke/VarHandle" ∧ (parseMethodDescriptor y_M_gives.1.desc).map (fun d => d.parameters.length) = some 2) := ⟨tb_1 14 rfl rfl, tb_8 61 rfl rfl, by decide +kernel⟩
theorem i_M_gives : Cond.instanceMethod y_M_gives.1 ∈ x_tbl ∧ Cond.selects y_M_gives.1.cls y_M_gives.1 y_M_gives.1 ∈ x_tbl := ⟨tb_8 60 rfl rfl, tb_p 56 rfl rfl⟩
theorem l_M_355 : Cond.methodLink y_M_burns.1.cls 355 y_M_rises.1 ∈ x_tbl := tb_8 62 rfl rfl
theorem b_M_rises : Cond.initialized y_M_rises.1.cls ∈ x_tbl ∧ Cond.code y_M_rises.1 y_M_rises.2.1 y_M_rises.2.2.1 y_M_rises.2.2.2.1 ∈ x_tbl ∧ (y_M_rises.1.cls ≠ "java/lang/invoke/MethodHandle" ∧ y_M_rises.1.cls ≠ "java/lang/invoke/VarHandle" ∧ (parseMethodDescriptor y_M_rises.1.desc).map (fun d => d.parameters.length) = some 3) := ⟨tb_1 14 rfl rfl, tb_8 65 rfl rfl, by decide +kernel⟩
theorem i_M_rises : Cond.instanceMethod y_M_rises.1 ∈ x_tbl ∧ Cond.selects y_M_rises.1.cls y_M_rises.1 y_M_rises.1 ∈ x_tbl := ⟨tb_8 64 rfl rfl, tb_p 57 rfl rfl⟩
theorem l_M_359 : Cond.methodLink y_M_burns.1.cls 359 y_M_drifts.1 ∈ x_tbl := tb_8 81 rfl rfl
theorem b_M_drifts : Cond.initialized y_M_drifts.1.cls ∈ x_tbl ∧ Cond.code y_M_drifts.1 y_M_drifts.2.1 y_M_drifts.2.2.1 y_M_drifts.2.2.2.1 ∈ x_tbl ∧ (y_M_drifts.1.cls ≠ "java/lang/invoke/MethodHandle" ∧ y_M_drifts.1.cls ≠ "java/lang/invoke/VarHandle" ∧ (parseMethodDescriptor y_M_drifts.1.desc).map (fun d => d.parameters.length) = some 2) := ⟨tb_1 14 rfl rfl, tb_8 84 rfl rfl, by decide +kernel⟩
theorem i_M_drifts : Cond.instanceMethod y_M_drifts.1 ∈ x_tbl ∧ Cond.selects y_M_drifts.1.cls y_M_drifts.1 y_M_drifts.1 ∈ x_tbl := ⟨tb_8 83 rfl rfl, tb_p 61 rfl rfl⟩
theorem l_M_362 : Cond.methodLink y_M_air.1.cls 362 y_M_isFire.1 ∈ x_tbl := tb_8 34 rfl rfl
theorem b_M_isFire : Cond.initialized y_M_isFire.1.cls ∈ x_tbl ∧ Cond.code y_M_isFire.1 y_M_isFire.2.1 y_M_isFire.2.2.1 y_M_isFire.2.2.2.1 ∈ x_tbl ∧ (y_M_isFire.1.cls ≠ "java/lang/invoke/MethodHandle" ∧ y_M_isFire.1.cls ≠ "java/lang/invoke/VarHandle" ∧ (parseMethodDescriptor y_M_isFire.1.desc).map (fun d => d.parameters.length) = some 1) := ⟨tb_1 14 rfl rfl, tb_8 37 rfl rfl, by decide +kernel⟩
theorem i_M_isFire : Cond.instanceMethod y_M_isFire.1 ∈ x_tbl ∧ Cond.selects y_M_isFire.1.cls y_M_isFire.1 y_M_isFire.1 ∈ x_tbl := ⟨tb_8 36 rfl rfl, tb_p 51 rfl rfl⟩
theorem l_M_365 : Cond.methodLink y_M_air.1.cls 365 y_M_isCourse.1 ∈ x_tbl := tb_8 38 rfl rfl
theorem b_M_isCourse : Cond.initialized y_M_isCourse.1.cls ∈ x_tbl ∧ Cond.code y_M_isCourse.1 y_M_isCourse.2.1 y_M_isCourse.2.2.1 y_M_isCourse.2.2.2.1 ∈ x_tbl ∧ (y_M_isCourse.1.cls ≠ "java/lang/invoke/MethodHandle" ∧ y_M_isCourse.1.cls ≠ "java/lang/invoke/VarHandle" ∧ (parseMethodDescriptor y_M_isCourse.1.desc).map (fun d => d.parameters.length) = some 3) := ⟨tb_1 14 rfl rfl, tb_8 40 rfl rfl, by decide +kernel⟩
theorem i_M_isCourse : Cond.static y_M_isCourse.1 ∈ x_tbl := tb_8 39 rfl rfl
theorem l_M_369 : Cond.methodLink y_M_air.1.cls 369 y_M_burns.1 ∈ x_tbl := tb_8 41 rfl rfl
theorem b_M_burns : Cond.initialized y_M_burns.1.cls ∈ x_tbl ∧ Cond.code y_M_burns.1 y_M_burns.2.1 y_M_burns.2.2.1 y_M_burns.2.2.2.1 ∈ x_tbl ∧ (y_M_burns.1.cls ≠ "java/lang/invoke/MethodHandle" ∧ y_M_burns.1.cls ≠ "java/lang/invoke/VarHandle" ∧ (parseMethodDescriptor y_M_burns.1.desc).map (fun d => d.parameters.length) = some 4) := ⟨tb_1 14 rfl rfl, tb_8 44 rfl rfl, by decide +kernel⟩
theorem i_M_burns : Cond.instanceMethod y_M_burns.1 ∈ x_tbl ∧ Cond.selects y_M_burns.1.cls y_M_burns.1 y_M_burns.1 ∈ x_tbl := ⟨tb_8 43 rfl rfl, tb_p 52 rfl rfl⟩
theorem l_M_372 : Cond.methodLink y_M_shut.1.cls 372 y_M_isShut.1 ∈ x_tbl := tb_8 101 rfl rfl
theorem b_M_isShut : Cond.initialized y_M_isShut.1.cls ∈ x_tbl ∧ Cond.code y_M_isShut.1 y_M_isShut.2.1 y_M_isShut.2.2.1 y_M_isShut.2.2.2.1 ∈ x_tbl ∧ (y_M_isShut.1.cls ≠ "java/lang/invoke/MethodHandle" ∧ y_M_isShut.1.cls ≠ "java/lang/invoke/VarHandle" ∧ (parseMethodDescriptor y_M_isShut.1.desc).map (fun d => d.parameters.length) = some 2) := ⟨tb_1 14 rfl rfl, tb_8 104 rfl rfl, by decide +kernel⟩
theorem i_M_isShut : Cond.instanceMethod y_M_isShut.1 ∈ x_tbl ∧ Cond.selects y_M_isShut.1.cls y_M_isShut.1 y_M_isShut.1 ∈ x_tbl := ⟨tb_8 103 rfl rfl, tb_p 62 rfl rfl⟩
theorem f_M_375 : Cond.fieldLink "SmokeTubesModel" 375 "SmokeTubesModel" "arcs" "I" ∈ x_tbl := tb_6 223 rfl rfl
theorem l_M_378 : Cond.methodLink y_M_lays.1.cls 378 y_M_begin.1 ∈ x_tbl := tb_8 125 rfl rfl
theorem b_M_begin : Cond.initialized y_M_begin.1.cls ∈ x_tbl ∧ Cond.code y_M_begin.1 y_M_begin.2.1 y_M_begin.2.2.1 y_M_begin.2.2.2.1 ∈ x_tbl ∧ (y_M_begin.1.cls ≠ "java/lang/invoke/MethodHandle" ∧ y_M_begin.1.cls ≠ "java/lang/invoke/VarHandle" ∧ (parseMethodDescriptor y_M_begin.1.desc).map (fun d => d.parameters.length) = some 2) := ⟨tb_1 14 rfl rfl, tb_8 127 rfl rfl, by decide +kernel⟩
theorem i_M_begin : Cond.static y_M_begin.1 ∈ x_tbl := tb_8 126 rfl rfl
theorem l_M_381 : Cond.methodLink y_M_lays.1.cls 381 y_M_arc.1 ∈ x_tbl := tb_8 128 rfl rfl
theorem b_M_arc : Cond.initialized y_M_arc.1.cls ∈ x_tbl ∧ Cond.code y_M_arc.1 y_M_arc.2.1 y_M_arc.2.2.1 y_M_arc.2.2.2.1 ∈ x_tbl ∧ (y_M_arc.1.cls ≠ "java/lang/invoke/MethodHandle" ∧ y_M_arc.1.cls ≠ "java/lang/invoke/VarHandle" ∧ (parseMethodDescriptor y_M_arc.1.desc).map (fun d => d.parameters.length) = some 3) := ⟨tb_1 14 rfl rfl, tb_8 131 rfl rfl, by decide +kernel⟩
theorem i_M_arc : Cond.instanceMethod y_M_arc.1 ∈ x_tbl ∧ Cond.selects y_M_arc.1.cls y_M_arc.1 y_M_arc.1 ∈ x_tbl := ⟨tb_8 130 rfl rfl, tb_p 67 rfl rfl⟩
theorem l_M_384 : Cond.methodLink y_M_lays.1.cls 384 y_M_being.1 ∈ x_tbl := tb_8 132 rfl rfl
theorem b_M_being : Cond.initialized y_M_being.1.cls ∈ x_tbl ∧ Cond.code y_M_being.1 y_M_being.2.1 y_M_being.2.2.1 y_M_being.2.2.2.1 ∈ x_tbl ∧ (y_M_being.1.cls ≠ "java/lang/invoke/MethodHandle" ∧ y_M_being.1.cls ≠ "java/lang/invoke/VarHandle" ∧ (parseMethodDescriptor y_M_being.1.desc).map (fun d => d.parameters.length) = some 2) := ⟨tb_1 14 rfl rfl, tb_8 134 rfl rfl, by decide +kernel⟩
theorem i_M_being : Cond.static y_M_being.1 ∈ x_tbl := tb_8 133 rfl rfl
theorem k_M_387 : Jvm.Cond.constant "SmokeTubesModel" 387 (Int32.ofInt (1000000)) ∈ x_tbl := tb_8 135 rfl rfl
theorem l_M_388 : Cond.methodLink y_M_lays.1.cls 388 y_M_wideOut.1 ∈ x_tbl := tb_8 136 rfl rfl
theorem b_M_wideOut : Cond.initialized y_M_wideOut.1.cls ∈ x_tbl ∧ Cond.code y_M_wideOut.1 y_M_wideOut.2.1 y_M_wideOut.2.2.1 y_M_wideOut.2.2.2.1 ∈ x_tbl ∧ (y_M_wideOut.1.cls ≠ "java/lang/invoke/MethodHandle" ∧ y_M_wideOut.1.cls ≠ "java/lang/invoke/VarHandle" ∧ (parseMethodDescriptor y_M_wideOut.1.desc).map (fun d => d.parameters.length) = some 2) := ⟨tb_1 14 rfl rfl, tb_8 139 rfl rfl, by decide +kernel⟩
theorem i_M_wideOut : Cond.instanceMethod y_M_wideOut.1 ∈ x_tbl ∧ Cond.selects y_M_wideOut.1.cls y_M_wideOut.1 y_M_wideOut.1 ∈ x_tbl := ⟨tb_8 138 rfl rfl, tb_p 68 rfl rfl⟩
theorem l_M_391 : Cond.methodLink y_M_pushes.1.cls 391 y_M_passes.1 ∈ x_tbl := tb_8 148 rfl rfl
theorem b_M_passes : Cond.initialized y_M_passes.1.cls ∈ x_tbl ∧ Cond.code y_M_passes.1 y_M_passes.2.1 y_M_passes.2.2.1 y_M_passes.2.2.2.1 ∈ x_tbl ∧ (y_M_passes.1.cls ≠ "java/lang/invoke/MethodHandle" ∧ y_M_passes.1.cls ≠ "java/lang/invoke/VarHandle" ∧ (parseMethodDescriptor y_M_passes.1.desc).map (fun d => d.parameters.length) = some 1) := ⟨tb_1 14 rfl rfl, tb_8 151 rfl rfl, by decide +kernel⟩
theorem i_M_passes : Cond.instanceMethod y_M_passes.1 ∈ x_tbl ∧ Cond.selects y_M_passes.1.cls y_M_passes.1 y_M_passes.1 ∈ x_tbl := ⟨tb_8 150 rfl rfl, tb_p 71 rfl rfl⟩
theorem l_M_394 : Cond.methodLink y_M_most.1.cls 394 y_M_lays.1 ∈ x_tbl := tb_8 121 rfl rfl
theorem b_M_lays : Cond.initialized y_M_lays.1.cls ∈ x_tbl ∧ Cond.code y_M_lays.1 y_M_lays.2.1 y_M_lays.2.2.1 y_M_lays.2.2.2.1 ∈ x_tbl ∧ (y_M_lays.1.cls ≠ "java/lang/invoke/MethodHandle" ∧ y_M_lays.1.cls ≠ "java/lang/invoke/VarHandle" ∧ (parseMethodDescriptor y_M_lays.1.desc).map (fun d => d.parameters.length) = some 3) := ⟨tb_1 14 rfl rfl, tb_8 124 rfl rfl, by decide +kernel⟩
theorem i_M_lays : Cond.instanceMethod y_M_lays.1 ∈ x_tbl ∧ Cond.selects y_M_lays.1.cls y_M_lays.1 y_M_lays.1 ∈ x_tbl := ⟨tb_8 123 rfl rfl, tb_p 66 rfl rfl⟩
theorem l_M_397 : Cond.methodLink y_M_most.1.cls 397 y_M_layers.1 ∈ x_tbl := tb_8 140 rfl rfl
theorem b_M_layers : Cond.initialized y_M_layers.1.cls ∈ x_tbl ∧ Cond.code y_M_layers.1 y_M_layers.2.1 y_M_layers.2.2.1 y_M_layers.2.2.2.1 ∈ x_tbl ∧ (y_M_layers.1.cls ≠ "java/lang/invoke/MethodHandle" ∧ y_M_layers.1.cls ≠ "java/lang/invoke/VarHandle" ∧ (parseMethodDescriptor y_M_layers.1.desc).map (fun d => d.parameters.length) = some 0) := ⟨tb_1 14 rfl rfl, tb_8 143 rfl rfl, by decide +kernel⟩
theorem i_M_layers : Cond.instanceMethod y_M_layers.1 ∈ x_tbl ∧ Cond.selects y_M_layers.1.cls y_M_layers.1 y_M_layers.1 ∈ x_tbl := ⟨tb_8 142 rfl rfl, tb_p 69 rfl rfl⟩
theorem l_M_401 : Cond.methodLink y_M_most.1.cls 401 y_M_pushes.1 ∈ x_tbl := tb_8 144 rfl rfl
theorem b_M_pushes : Cond.initialized y_M_pushes.1.cls ∈ x_tbl ∧ Cond.code y_M_pushes.1 y_M_pushes.2.1 y_M_pushes.2.2.1 y_M_pushes.2.2.2.1 ∈ x_tbl ∧ (y_M_pushes.1.cls ≠ "java/lang/invoke/MethodHandle" ∧ y_M_pushes.1.cls ≠ "java/lang/invoke/VarHandle" ∧ (parseMethodDescriptor y_M_pushes.1.desc).map (fun d => d.parameters.length) = some 0) := ⟨tb_1 14 rfl rfl, tb_8 147 rfl rfl, by decide +kernel⟩
theorem i_M_pushes : Cond.instanceMethod y_M_pushes.1 ∈ x_tbl ∧ Cond.selects y_M_pushes.1.cls y_M_pushes.1 y_M_pushes.1 ∈ x_tbl := ⟨tb_8 146 rfl rfl, tb_p 70 rfl rfl⟩
theorem l_M_405 : Cond.methodLink y_M_outBy.1.cls 405 y_M_made.1 ∈ x_tbl := tb_8 113 rfl rfl
theorem b_M_made : Cond.initialized y_M_made.1.cls ∈ x_tbl ∧ Cond.code y_M_made.1 y_M_made.2.1 y_M_made.2.2.1 y_M_made.2.2.2.1 ∈ x_tbl ∧ (y_M_made.1.cls ≠ "java/lang/invoke/MethodHandle" ∧ y_M_made.1.cls ≠ "java/lang/invoke/VarHandle" ∧ (parseMethodDescriptor y_M_made.1.desc).map (fun d => d.parameters.length) = some 0) := ⟨tb_1 14 rfl rfl, tb_8 116 rfl rfl, by decide +kernel⟩
theorem i_M_made : Cond.instanceMethod y_M_made.1 ∈ x_tbl ∧ Cond.selects y_M_made.1.cls y_M_made.1 y_M_made.1 ∈ x_tbl := ⟨tb_8 115 rfl rfl, tb_p 64 rfl rfl⟩
theorem l_M_408 : Cond.methodLink y_M_outBy.1.cls 408 y_M_most.1 ∈ x_tbl := tb_8 117 rfl rfl
theorem b_M_most : Cond.initialized y_M_most.1.cls ∈ x_tbl ∧ Cond.code y_M_most.1 y_M_most.2.1 y_M_most.2.2.1 y_M_most.2.2.2.1 ∈ x_tbl ∧ (y_M_most.1.cls ≠ "java/lang/invoke/MethodHandle" ∧ y_M_most.1.cls ≠ "java/lang/invoke/VarHandle" ∧ (parseMethodDescriptor y_M_most.1.desc).map (fun d => d.parameters.length) = some 3) := ⟨tb_1 14 rfl rfl, tb_8 120 rfl rfl, by decide +kernel⟩
theorem i_M_most : Cond.instanceMethod y_M_most.1 ∈ x_tbl ∧ Cond.selects y_M_most.1.cls y_M_most.1 y_M_most.1 ∈ x_tbl := ⟨tb_8 119 rfl rfl, tb_p 65 rfl rfl⟩
theorem l_M_411 : Cond.methodLink y_M_out.1.cls 411 y_M_outBy.1 ∈ x_tbl := tb_8 109 rfl rfl
theorem b_M_outBy : Cond.initialized y_M_outBy.1.cls ∈ x_tbl ∧ Cond.code y_M_outBy.1 y_M_outBy.2.1 y_M_outBy.2.2.1 y_M_outBy.2.2.2.1 ∈ x_tbl ∧ (y_M_outBy.1.cls ≠ "java/lang/invoke/MethodHandle" ∧ y_M_outBy.1.cls ≠ "java/lang/invoke/VarHandle" ∧ (parseMethodDescriptor y_M_outBy.1.desc).map (fun d => d.parameters.length) = some 5) := ⟨tb_1 14 rfl rfl, tb_8 112 rfl rfl, by decide +kernel⟩
theorem i_M_outBy : Cond.instanceMethod y_M_outBy.1 ∈ x_tbl ∧ Cond.selects y_M_outBy.1.cls y_M_outBy.1 y_M_outBy.1 ∈ x_tbl := ⟨tb_8 111 rfl rfl, tb_p 63 rfl rfl⟩
theorem l_M_415 : Cond.methodLink y_M_all.1.cls 415 y_M_people.1 ∈ x_tbl := tb_8 156 rfl rfl
theorem b_M_people : Cond.initialized y_M_people.1.cls ∈ x_tbl ∧ Cond.code y_M_people.1 y_M_people.2.1 y_M_people.2.2.1 y_M_people.2.2.2.1 ∈ x_tbl ∧ (y_M_people.1.cls ≠ "java/lang/invoke/MethodHandle" ∧ y_M_people.1.cls ≠ "java/lang/invoke/VarHandle" ∧ (parseMethodDescriptor y_M_people.1.desc).map (fun d => d.parameters.length) = some 0) := ⟨tb_1 14 rfl rfl, tb_8 159 rfl rfl, by decide +kernel⟩
theorem i_M_people : Cond.instanceMethod y_M_people.1 ∈ x_tbl ∧ Cond.selects y_M_people.1.cls y_M_people.1 y_M_people.1 ∈ x_tbl := ⟨tb_8 158 rfl rfl, tb_p 72 rfl rfl⟩
theorem l_M_418 : Cond.methodLink y_M_side.1.cls 418 y_M_sideOf.1 ∈ x_tbl := tb_8 164 rfl rfl
theorem b_M_sideOf : Cond.initialized y_M_sideOf.1.cls ∈ x_tbl ∧ Cond.code y_M_sideOf.1 y_M_sideOf.2.1 y_M_sideOf.2.2.1 y_M_sideOf.2.2.2.1 ∈ x_tbl ∧ (y_M_sideOf.1.cls ≠ "java/lang/invoke/MethodHandle" ∧ y_M_sideOf.1.cls ≠ "java/lang/invoke/VarHandle" ∧ (parseMethodDescriptor y_M_sideOf.1.desc).map (fun d => d.parameters.length) = some 1) := ⟨tb_1 14 rfl rfl, tb_8 167 rfl rfl, by decide +kernel⟩
theorem i_M_sideOf : Cond.instanceMethod y_M_sideOf.1 ∈ x_tbl ∧ Cond.selects y_M_sideOf.1.cls y_M_sideOf.1 y_M_sideOf.1 ∈ x_tbl := ⟨tb_8 166 rfl rfl, tb_p 73 rfl rfl⟩
theorem l_M_421 : Cond.methodLink y_M_leaves.1.cls 421 y_M_isIn.1 ∈ x_tbl := tb_8 180 rfl rfl
theorem b_M_isIn : Cond.initialized y_M_isIn.1.cls ∈ x_tbl ∧ Cond.code y_M_isIn.1 y_M_isIn.2.1 y_M_isIn.2.2.1 y_M_isIn.2.2.2.1 ∈ x_tbl ∧ (y_M_isIn.1.cls ≠ "java/lang/invoke/MethodHandle" ∧ y_M_isIn.1.cls ≠ "java/lang/invoke/VarHandle" ∧ (parseMethodDescriptor y_M_isIn.1.desc).map (fun d => d.parameters.length) = some 1) := ⟨tb_1 14 rfl rfl, tb_8 183 rfl rfl, by decide +kernel⟩
theorem i_M_isIn : Cond.instanceMethod y_M_isIn.1 ∈ x_tbl ∧ Cond.selects y_M_isIn.1.cls y_M_isIn.1 y_M_isIn.1 ∈ x_tbl := ⟨tb_8 182 rfl rfl, tb_p 75 rfl rfl⟩
theorem l_M_424 : Cond.methodLink y_M_worthOf.1.cls 424 y_M_leaves.1 ∈ x_tbl := tb_8 184 rfl rfl
theorem b_M_leaves : Cond.initialized y_M_leaves.1.cls ∈ x_tbl ∧ Cond.code y_M_leaves.1 y_M_leaves.2.1 y_M_leaves.2.2.1 y_M_leaves.2.2.2.1 ∈ x_tbl ∧ (y_M_leaves.1.cls ≠ "java/lang/invoke/MethodHandle" ∧ y_M_leaves.1.cls ≠ "java/lang/invoke/VarHandle" ∧ (parseMethodDescriptor y_M_leaves.1.desc).map (fun d => d.parameters.length) = some 3) := ⟨tb_1 14 rfl rfl, tb_8 187 rfl rfl, by decide +kernel⟩
theorem i_M_leaves : Cond.instanceMethod y_M_leaves.1 ∈ x_tbl ∧ Cond.selects y_M_leaves.1.cls y_M_leaves.1 y_M_leaves.1 ∈ x_tbl := ⟨tb_8 186 rfl rfl, tb_p 76 rfl rfl⟩
theorem l_M_427 : Cond.methodLink y_M_worth.1.cls 427 y_M_isRow.1 ∈ x_tbl := tb_8 172 rfl rfl
theorem b_M_isRow : Cond.initialized y_M_isRow.1.cls ∈ x_tbl ∧ Cond.code y_M_isRow.1 y_M_isRow.2.1 y_M_isRow.2.2.1 y_M_isRow.2.2.2.1 ∈ x_tbl ∧ (y_M_isRow.1.cls ≠ "java/lang/invoke/MethodHandle" ∧ y_M_isRow.1.cls ≠ "java/lang/invoke/VarHandle" ∧ (parseMethodDescriptor y_M_isRow.1.desc).map (fun d => d.parameters.length) = some 1) := ⟨tb_1 14 rfl rfl, tb_8 174 rfl rfl, by decide +kernel⟩
theorem i_M_isRow : Cond.static y_M_isRow.1 ∈ x_tbl := tb_8 173 rfl rfl
theorem k_M_430 : Jvm.Cond.constantLong "SmokeTubesModel" 430 (Int64.ofInt (65535)) ∈ x_tbl := tb_8 175 rfl rfl
theorem l_M_432 : Cond.methodLink y_M_worth.1.cls 432 y_M_worthOf.1 ∈ x_tbl := tb_8 176 rfl rfl
theorem b_M_worthOf : Cond.initialized y_M_worthOf.1.cls ∈ x_tbl ∧ Cond.code y_M_worthOf.1 y_M_worthOf.2.1 y_M_worthOf.2.2.1 y_M_worthOf.2.2.2.1 ∈ x_tbl ∧ (y_M_worthOf.1.cls ≠ "java/lang/invoke/MethodHandle" ∧ y_M_worthOf.1.cls ≠ "java/lang/invoke/VarHandle" ∧ (parseMethodDescriptor y_M_worthOf.1.desc).map (fun d => d.parameters.length) = some 1) := ⟨tb_1 14 rfl rfl, tb_8 179 rfl rfl, by decide +kernel⟩
theorem i_M_worthOf : Cond.instanceMethod y_M_worthOf.1 ∈ x_tbl ∧ Cond.selects y_M_worthOf.1.cls y_M_worthOf.1 y_M_worthOf.1 ∈ x_tbl := ⟨tb_8 178 rfl rfl, tb_p 74 rfl rfl⟩
theorem l_M_435 : Cond.methodLink y_M_fewest.1.cls 435 y_M_ones.1 ∈ x_tbl := tb_8 192 rfl rfl
theorem b_M_ones : Cond.initialized y_M_ones.1.cls ∈ x_tbl ∧ Cond.code y_M_ones.1 y_M_ones.2.1 y_M_ones.2.2.1 y_M_ones.2.2.2.1 ∈ x_tbl ∧ (y_M_ones.1.cls ≠ "java/lang/invoke/MethodHandle" ∧ y_M_ones.1.cls ≠ "java/lang/invoke/VarHandle" ∧ (parseMethodDescriptor y_M_ones.1.desc).map (fun d => d.parameters.length) = some 1) := ⟨tb_1 14 rfl rfl, tb_8 194 rfl rfl, by decide +kernel⟩
theorem i_M_ones : Cond.static y_M_ones.1 ∈ x_tbl := tb_8 193 rfl rfl
theorem l_M_438 : Cond.methodLink y_M_fewest.1.cls 438 y_M_suffices.1 ∈ x_tbl := tb_8 195 rfl rfl
theorem b_M_suffices : Cond.initialized y_M_suffices.1.cls ∈ x_tbl ∧ Cond.code y_M_suffices.1 y_M_suffices.2.1 y_M_suffices.2.2.1 y_M_suffices.2.2.2.1 ∈ x_tbl ∧ (y_M_suffices.1.cls ≠ "java/lang/invoke/MethodHandle" ∧ y_M_suffices.1.cls ≠ "java/lang/invoke/VarHandle" ∧ (parseMethodDescriptor y_M_suffices.1.desc).map (fun d => d.parameters.length) = some 4) := ⟨tb_1 14 rfl rfl, tb_8 198 rfl rfl, by decide +kernel⟩
theorem i_M_suffices : Cond.instanceMethod y_M_suffices.1 ∈ x_tbl ∧ Cond.selects y_M_suffices.1.cls y_M_suffices.1 y_M_suffices.1 ∈ x_tbl := ⟨tb_8 197 rfl rfl, tb_p 77 rfl rfl⟩
theorem l_M_442 : Cond.methodLink y_M_alike.1.cls 442 y_M_listens.1 ∈ x_tbl := tb_8 203 rfl rfl
theorem b_M_listens : Cond.initialized y_M_listens.1.cls ∈ x_tbl ∧ Cond.code y_M_listens.1 y_M_listens.2.1 y_M_listens.2.2.1 y_M_listens.2.2.2.1 ∈ x_tbl ∧ (y_M_listens.1.cls ≠ "java/lang/invoke/MethodHandle" ∧ y_M_listens.1.cls ≠ "java/lang/invoke/VarHandle" ∧ (parseMethodDescriptor y_M_listens.1.desc).map (fun d => d.parameters.length) = some 2) := ⟨tb_1 14 rfl rfl, tb_8 206 rfl rfl, by decide +kernel⟩
theorem i_M_listens : Cond.instanceMethod y_M_listens.1 ∈ x_tbl ∧ Cond.selects y_M_listens.1.cls y_M_listens.1 y_M_listens.1 ∈ x_tbl := ⟨tb_8 205 rfl rfl, tb_p 78 rfl rfl⟩
theorem l_M_445 : Cond.methodLink y_M_alike.1.cls 445 y_M_areAlike.1 ∈ x_tbl := tb_8 207 rfl rfl
theorem b_M_areAlike : Cond.initialized y_M_areAlike.1.cls ∈ x_tbl ∧ Cond.code y_M_areAlike.1 y_M_areAlike.2.1 y_M_areAlike.2.2.1 y_M_areAlike.2.2.2.1 ∈ x_tbl ∧ (y_M_areAlike.1.cls ≠ "java/lang/invoke/MethodHandle" ∧ y_M_areAlike.1.cls ≠ "java/lang/invoke/VarHandle" ∧ (parseMethodDescriptor y_M_areAlike.1.desc).map (fun d => d.parameters.length) = some 3) := ⟨tb_1 14 rfl rfl, tb_8 210 rfl rfl, by decide +kernel⟩
theorem i_M_areAlike : Cond.instanceMethod y_M_areAlike.1 ∈ x_tbl ∧ Cond.selects y_M_areAlike.1.cls y_M_areAlike.1 y_M_areAlike.1 ∈ x_tbl := ⟨tb_8 209 rfl rfl, tb_p 79 rfl rfl⟩
theorem l_M_448 : Cond.methodLink y_M_regret.1.cls 448 y_M_bestOut.1 ∈ x_tbl := tb_8 215 rfl rfl
theorem b_M_bestOut : Cond.initialized y_M_bestOut.1.cls ∈ x_tbl ∧ Cond.code y_M_bestOut.1 y_M_bestOut.2.1 y_M_bestOut.2.2.1 y_M_bestOut.2.2.2.1 ∈ x_tbl ∧ (y_M_bestOut.1.cls ≠ "java/lang/invoke/MethodHandle" ∧ y_M_bestOut.1.cls ≠ "java/lang/invoke/VarHandle" ∧ (parseMethodDescriptor y_M_bestOut.1.desc).map (fun d => d.parameters.length) = some 2) := ⟨tb_1 14 rfl rfl, tb_8 218 rfl rfl, by decide +kernel⟩
theorem i_M_bestOut : Cond.instanceMethod y_M_bestOut.1 ∈ x_tbl ∧ Cond.selects y_M_bestOut.1.cls y_M_bestOut.1 y_M_bestOut.1 ∈ x_tbl := ⟨tb_8 217 rfl rfl, tb_p 80 rfl rfl⟩
theorem k_M_453 : Jvm.Cond.constant "SmokeTubesModel" 453 (Int32.ofInt (-2147483648)) ∈ x_tbl := tb_8 227 rfl rfl
theorem k_M_454 : Jvm.Cond.constant "SmokeTubesModel" 454 (Int32.ofInt (2147483647)) ∈ x_tbl := tb_8 228 rfl rfl
theorem l_M_455 : Cond.methodLink y_M_turn.1.cls 455 y_M_turns.1 ∈ x_tbl := tb_8 223 rfl rfl
theorem b_M_turns : Cond.initialized y_M_turns.1.cls ∈ x_tbl ∧ Cond.code y_M_turns.1 y_M_turns.2.1 y_M_turns.2.2.1 y_M_turns.2.2.2.1 ∈ x_tbl ∧ (y_M_turns.1.cls ≠ "java/lang/invoke/MethodHandle" ∧ y_M_turns.1.cls ≠ "java/lang/invoke/VarHandle" ∧ (parseMethodDescriptor y_M_turns.1.desc).map (fun d => d.parameters.length) = some 3) := ⟨tb_1 14 rfl rfl, tb_8 226 rfl rfl, by decide +kernel⟩
theorem i_M_turns : Cond.instanceMethod y_M_turns.1 ∈ x_tbl ∧ Cond.selects y_M_turns.1.cls y_M_turns.1 y_M_turns.1 ∈ x_tbl := ⟨tb_8 225 rfl rfl, tb_p 81 rfl rfl⟩
theorem l_M_458 : Cond.methodLink y_M_walksOn.1.cls 458 y_M_costs.1 ∈ x_tbl := tb_9 5 rfl rfl
theorem b_M_costs : Cond.initialized y_M_costs.1.cls ∈ x_tbl ∧ Cond.code y_M_costs.1 y_M_costs.2.1 y_M_costs.2.2.1 y_M_costs.2.2.2.1 ∈ x_tbl ∧ (y_M_costs.1.cls ≠ "java/lang/invoke/MethodHandle" ∧ y_M_costs.1.cls ≠ "java/lang/invoke/VarHandle" ∧ (parseMethodDescriptor y_M_costs.1.desc).map (fun d => d.parameters.length) = some 3) := ⟨tb_1 14 rfl rfl, tb_9 8 rfl rfl, by decide +kernel⟩
theorem i_M_costs : Cond.instanceMethod y_M_costs.1 ∈ x_tbl ∧ Cond.selects y_M_costs.1.cls y_M_costs.1 y_M_costs.1 ∈ x_tbl := ⟨tb_9 7 rfl rfl, tb_p 83 rfl rfl⟩
theorem l_M_461 : Cond.methodLink y_M_reach.1.cls 461 y_M_walksOn.1 ∈ x_tbl := tb_9 1 rfl rfl
theorem b_M_walksOn : Cond.initialized y_M_walksOn.1.cls ∈ x_tbl ∧ Cond.code y_M_walksOn.1 y_M_walksOn.2.1 y_M_walksOn.2.2.1 y_M_walksOn.2.2.2.1 ∈ x_tbl ∧ (y_M_walksOn.1.cls ≠ "java/lang/invoke/MethodHandle" ∧ y_M_walksOn.1.cls ≠ "java/lang/invoke/VarHandle" ∧ (parseMethodDescriptor y_M_walksOn.1.desc).map (fun d => d.parameters.length) = some 0) := ⟨tb_1 14 rfl rfl, tb_9 4 rfl rfl, by decide +kernel⟩
theorem i_M_walksOn : Cond.instanceMethod y_M_walksOn.1 ∈ x_tbl ∧ Cond.selects y_M_walksOn.1.cls y_M_walksOn.1 y_M_walksOn.1 ∈ x_tbl := ⟨tb_9 3 rfl rfl, tb_p 82 rfl rfl⟩
theorem k_M_464 : Jvm.Cond.constantLong "SmokeTubesModel" 464 (Int64.ofInt (600)) ∈ x_tbl := tb_9 13 rfl rfl
theorem k_M_466 : Jvm.Cond.constantLong "SmokeTubesModel" 466 (Int64.ofInt (1000000000000)) ∈ x_tbl := tb_9 34 rfl rfl
theorem l_M_468 : Cond.methodLink y_M_goesAlone.1.cls 468 y_M_tries.1 ∈ x_tbl := tb_9 35 rfl rfl
theorem b_M_tries : Cond.initialized y_M_tries.1.cls ∈ x_tbl ∧ Cond.code y_M_tries.1 y_M_tries.2.1 y_M_tries.2.2.1 y_M_tries.2.2.2.1 ∈ x_tbl ∧ (y_M_tries.1.cls ≠ "java/lang/invoke/MethodHandle" ∧ y_M_tries.1.cls ≠ "java/lang/invoke/VarHandle" ∧ (parseMethodDescriptor y_M_tries.1.desc).map (fun d => d.parameters.length) = some 4) := ⟨tb_1 14 rfl rfl, tb_9 38 rfl rfl, by decide +kernel⟩
theorem i_M_tries : Cond.instanceMethod y_M_tries.1 ∈ x_tbl ∧ Cond.selects y_M_tries.1.cls y_M_tries.1 y_M_tries.1 ∈ x_tbl := ⟨tb_9 37 rfl rfl, tb_p 87 rfl rfl⟩
theorem l_M_472 : Cond.methodLink y_M_alone.1.cls 472 y_M_goesAlone.1 ∈ x_tbl := tb_9 30 rfl rfl
theorem b_M_goesAlone : Cond.initialized y_M_goesAlone.1.cls ∈ x_tbl ∧ Cond.code y_M_goesAlone.1 y_M_goesAlone.2.1 y_M_goesAlone.2.2.1 y_M_goesAlone.2.2.2.1 ∈ x_tbl ∧ (y_M_goesAlone.1.cls ≠ "java/lang/invoke/MethodHandle" ∧ y_M_goesAlone.1.cls ≠ "java/lang/invoke/VarHandle" ∧ (parseMethodDescriptor y_M_goesAlone.1.desc).map (fun d => d.parameters.length) = some 2) := ⟨tb_1 14 rfl rfl, tb_9 33 rfl rfl, by decide +kernel⟩
theorem i_M_goesAlone : Cond.instanceMethod y_M_goesAlone.1 ∈ x_tbl ∧ Cond.selects y_M_goesAlone.1.cls y_M_goesAlone.1 y_M_goesAlone.1 ∈ x_tbl := ⟨tb_9 32 rfl rfl, tb_p 86 rfl rfl⟩
theorem l_M_475 : Cond.methodLink y_M_dose.1.cls 475 y_M_refuses.1 ∈ x_tbl := tb_9 22 rfl rfl
theorem b_M_refuses : Cond.initialized y_M_refuses.1.cls ∈ x_tbl ∧ Cond.code y_M_refuses.1 y_M_refuses.2.1 y_M_refuses.2.2.1 y_M_refuses.2.2.2.1 ∈ x_tbl ∧ (y_M_refuses.1.cls ≠ "java/lang/invoke/MethodHandle" ∧ y_M_refuses.1.cls ≠ "java/lang/invoke/VarHandle" ∧ (parseMethodDescriptor y_M_refuses.1.desc).map (fun d => d.parameters.length) = some 6) := ⟨tb_1 14 rfl rfl, tb_9 25 rfl rfl, by decide +kernel⟩
theorem i_M_refuses : Cond.instanceMethod y_M_refuses.1 ∈ x_tbl ∧ Cond.selects y_M_refuses.1.cls y_M_refuses.1 y_M_refuses.1 ∈ x_tbl := ⟨tb_9 24 rfl rfl, tb_p 84 rfl rfl⟩
theorem l_M_479 : Cond.methodLink y_M_dose.1.cls 479 y_M_alone.1 ∈ x_tbl := tb_9 26 rfl rfl
theorem b_M_alone : Cond.initialized y_M_alone.1.cls ∈ x_tbl ∧ Cond.code y_M_alone.1 y_M_alone.2.1 y_M_alone.2.2.1 y_M_alone.2.2.2.1 ∈ x_tbl ∧ (y_M_alone.1.cls ≠ "java/lang/invoke/MethodHandle" ∧ y_M_alone.1.cls ≠ "java/lang/invoke/VarHandle" ∧ (parseMethodDescriptor y_M_alone.1.desc).map (fun d => d.parameters.length) = some 4) := ⟨tb_1 14 rfl rfl, tb_9 29 rfl rfl, by decide +kernel⟩
theorem i_M_alone : Cond.instanceMethod y_M_alone.1 ∈ x_tbl ∧ Cond.selects y_M_alone.1.cls y_M_alone.1 y_M_alone.1 ∈ x_tbl := ⟨tb_9 28 rfl rfl, tb_p 85 rfl rfl⟩
theorem l_M_482 : Cond.methodLink y_M_fits.1.cls 482 y_M_fitting.1 ∈ x_tbl := tb_9 55 rfl rfl
theorem b_M_fitting : Cond.initialized y_M_fitting.1.cls ∈ x_tbl ∧ Cond.code y_M_fitting.1 y_M_fitting.2.1 y_M_fitting.2.2.1 y_M_fitting.2.2.2.1 ∈ x_tbl ∧ (y_M_fitting.1.cls ≠ "java/lang/invoke/MethodHandle" ∧ y_M_fitting.1.cls ≠ "java/lang/invoke/VarHandle" ∧ (parseMethodDescriptor y_M_fitting.1.desc).map (fun d => d.parameters.length) = some 1) := ⟨tb_1 14 rfl rfl, tb_9 58 rfl rfl, by decide +kernel⟩
theorem i_M_fitting : Cond.instanceMethod y_M_fitting.1 ∈ x_tbl ∧ Cond.selects y_M_fitting.1.cls y_M_fitting.1 y_M_fitting.1 ∈ x_tbl := ⟨tb_9 57 rfl rfl, tb_p 88 rfl rfl⟩
theorem k_M_485 : Jvm.Cond.constantLong "SmokeTubesModel" 485 (Int64.ofInt (30)) ∈ x_tbl := tb_9 67 rfl rfl
theorem l_M_487 : Cond.methodLink y_M_write.1.cls 487 y_M_puts.1 ∈ x_tbl := tb_9 72 rfl rfl
theorem b_M_puts : Cond.initialized y_M_puts.1.cls ∈ x_tbl ∧ Cond.code y_M_puts.1 y_M_puts.2.1 y_M_puts.2.2.1 y_M_puts.2.2.2.1 ∈ x_tbl ∧ (y_M_puts.1.cls ≠ "java/lang/invoke/MethodHandle" ∧ y_M_puts.1.cls ≠ "java/lang/invoke/VarHandle" ∧ (parseMethodDescriptor y_M_puts.1.desc).map (fun d => d.parameters.length) = some 3) := ⟨tb_1 14 rfl rfl, tb_9 75 rfl rfl, by decide +kernel⟩
theorem i_M_puts : Cond.instanceMethod y_M_puts.1 ∈ x_tbl ∧ Cond.selects y_M_puts.1.cls y_M_puts.1 y_M_puts.1 ∈ x_tbl := ⟨tb_9 74 rfl rfl, tb_p 89 rfl rfl⟩
theorem k_JI_265 : Jvm.Cond.constant "java/lang/Integer" 265 (Int32.ofInt (1431655765)) ∈ x_tbl := tb_3 142 rfl rfl
theorem k_JI_266 : Jvm.Cond.constant "java/lang/Integer" 266 (Int32.ofInt (858993459)) ∈ x_tbl := tb_3 143 rfl rfl
theorem k_JI_267 : Jvm.Cond.constant "java/lang/Integer" 267 (Int32.ofInt (252645135)) ∈ x_tbl := tb_3 144 rfl rfl
theorem l_L_7 : Cond.methodLink y_L_piece.1.cls 7 y_F_piece.1 ∈ x_tbl := tb_3 157 rfl rfl
theorem b_F_piece : Cond.initialized y_F_piece.1.cls ∈ x_tbl ∧ Cond.code y_F_piece.1 y_F_piece.2.1 y_F_piece.2.2.1 y_F_piece.2.2.2.1 ∈ x_tbl ∧ (y_F_piece.1.cls ≠ "java/lang/invoke/MethodHandle" ∧ y_F_piece.1.cls ≠ "java/lang/invoke/VarHandle" ∧ (parseMethodDescriptor y_F_piece.1.desc).map (fun d => d.parameters.length) = some 2) := ⟨tb_1 1 rfl rfl, tb_3 160 rfl rfl, by decide +kernel⟩
theorem i_F_piece : Cond.instanceMethod y_F_piece.1 ∈ x_tbl ∧ Cond.selects y_F_piece.1.cls y_F_piece.1 y_F_piece.1 ∈ x_tbl := ⟨tb_3 158 rfl rfl, tb_3 159 rfl rfl⟩
theorem l_L_15 : Cond.methodLink y_L_way.1.cls 15 y_F_way.1 ∈ x_tbl := tb_4 13 rfl rfl
theorem b_F_way : Cond.initialized y_F_way.1.cls ∈ x_tbl ∧ Cond.code y_F_way.1 y_F_way.2.1 y_F_way.2.2.1 y_F_way.2.2.2.1 ∈ x_tbl ∧ (y_F_way.1.cls ≠ "java/lang/invoke/MethodHandle" ∧ y_F_way.1.cls ≠ "java/lang/invoke/VarHandle" ∧ (parseMethodDescriptor y_F_way.1.desc).map (fun d => d.parameters.length) = some 5) := ⟨tb_1 1 rfl rfl, tb_4 16 rfl rfl, by decide +kernel⟩
theorem i_F_way : Cond.instanceMethod y_F_way.1 ∈ x_tbl ∧ Cond.selects y_F_way.1.cls y_F_way.1 y_F_way.1 ∈ x_tbl := ⟨tb_4 14 rfl rfl, tb_4 15 rfl rfl⟩
theorem l_L_21 : Cond.methodLink y_L_water.1.cls 21 y_F_water.1 ∈ x_tbl := tb_4 41 rfl rfl
theorem b_F_water : Cond.initialized y_F_water.1.cls ∈ x_tbl ∧ Cond.code y_F_water.1 y_F_water.2.1 y_F_water.2.2.1 y_F_water.2.2.2.1 ∈ x_tbl ∧ (y_F_water.1.cls ≠ "java/lang/invoke/MethodHandle" ∧ y_F_water.1.cls ≠ "java/lang/invoke/VarHandle" ∧ (parseMethodDescriptor y_F_water.1.desc).map (fun d => d.parameters.length) = some 2) := ⟨tb_1 1 rfl rfl, tb_4 44 rfl rfl, by decide +kernel⟩
theorem i_F_water : Cond.instanceMethod y_F_water.1 ∈ x_tbl ∧ Cond.selects y_F_water.1.cls y_F_water.1 y_F_water.1 ∈ x_tbl := ⟨tb_4 42 rfl rfl, tb_4 43 rfl rfl⟩
theorem l_L_24 : Cond.methodLink y_L_fire.1.cls 24 y_F_fire.1 ∈ x_tbl := tb_4 57 rfl rfl
theorem b_F_fire : Cond.initialized y_F_fire.1.cls ∈ x_tbl ∧ Cond.code y_F_fire.1 y_F_fire.2.1 y_F_fire.2.2.1 y_F_fire.2.2.2.1 ∈ x_tbl ∧ (y_F_fire.1.cls ≠ "java/lang/invoke/MethodHandle" ∧ y_F_fire.1.cls ≠ "java/lang/invoke/VarHandle" ∧ (parseMethodDescriptor y_F_fire.1.desc).map (fun d => d.parameters.length) = some 6) := ⟨tb_1 1 rfl rfl, tb_4 60 rfl rfl, by decide +kernel⟩
theorem i_F_fire : Cond.instanceMethod y_F_fire.1 ∈ x_tbl ∧ Cond.selects y_F_fire.1.cls y_F_fire.1 y_F_fire.1 ∈ x_tbl := ⟨tb_4 58 rfl rfl, tb_4 59 rfl rfl⟩
theorem l_L_28 : Cond.methodLink y_L_fan.1.cls 28 y_F_fan.1 ∈ x_tbl := tb_4 68 rfl rfl
theorem b_F_fan : Cond.initialized y_F_fan.1.cls ∈ x_tbl ∧ Cond.code y_F_fan.1 y_F_fan.2.1 y_F_fan.2.2.1 y_F_fan.2.2.2.1 ∈ x_tbl ∧ (y_F_fan.1.cls ≠ "java/lang/invoke/MethodHandle" ∧ y_F_fan.1.cls ≠ "java/lang/invoke/VarHandle" ∧ (parseMethodDescriptor y_F_fan.1.desc).map (fun d => d.parameters.length) = some 4) := ⟨tb_1 1 rfl rfl, tb_4 71 rfl rfl, by decide +kernel⟩
theorem i_F_fan : Cond.instanceMethod y_F_fan.1 ∈ x_tbl ∧ Cond.selects y_F_fan.1.cls y_F_fan.1 y_F_fan.1 ∈ x_tbl := ⟨tb_4 69 rfl rfl, tb_4 70 rfl rfl⟩
theorem l_L_32 : Cond.methodLink y_L_set.1.cls 32 y_F_set.1 ∈ x_tbl := tb_4 80 rfl rfl
theorem b_F_set : Cond.initialized y_F_set.1.cls ∈ x_tbl ∧ Cond.code y_F_set.1 y_F_set.2.1 y_F_set.2.2.1 y_F_set.2.2.2.1 ∈ x_tbl ∧ (y_F_set.1.cls ≠ "java/lang/invoke/MethodHandle" ∧ y_F_set.1.cls ≠ "java/lang/invoke/VarHandle" ∧ (parseMethodDescriptor y_F_set.1.desc).map (fun d => d.parameters.length) = some 4) := ⟨tb_1 1 rfl rfl, tb_4 83 rfl rfl, by decide +kernel⟩
theorem i_F_set : Cond.instanceMethod y_F_set.1 ∈ x_tbl ∧ Cond.selects y_F_set.1.cls y_F_set.1 y_F_set.1 ∈ x_tbl := ⟨tb_4 81 rfl rfl, tb_4 82 rfl rfl⟩
theorem l_L_35 : Cond.methodLink y_L_eyes.1.cls 35 y_F_eyes.1 ∈ x_tbl := tb_4 90 rfl rfl
theorem b_F_eyes : Cond.initialized y_F_eyes.1.cls ∈ x_tbl ∧ Cond.code y_F_eyes.1 y_F_eyes.2.1 y_F_eyes.2.2.1 y_F_eyes.2.2.2.1 ∈ x_tbl ∧ (y_F_eyes.1.cls ≠ "java/lang/invoke/MethodHandle" ∧ y_F_eyes.1.cls ≠ "java/lang/invoke/VarHandle" ∧ (parseMethodDescriptor y_F_eyes.1.desc).map (fun d => d.parameters.length) = some 1) := ⟨tb_1 1 rfl rfl, tb_4 93 rfl rfl, by decide +kernel⟩
theorem i_F_eyes : Cond.instanceMethod y_F_eyes.1 ∈ x_tbl ∧ Cond.selects y_F_eyes.1.cls y_F_eyes.1 y_F_eyes.1 ∈ x_tbl := ⟨tb_4 91 rfl rfl, tb_4 92 rfl rfl⟩
theorem l_L_39 : Cond.methodLink y_L_group.1.cls 39 y_F_group.1 ∈ x_tbl := tb_4 97 rfl rfl
theorem b_F_group : Cond.initialized y_F_group.1.cls ∈ x_tbl ∧ Cond.code y_F_group.1 y_F_group.2.1 y_F_group.2.2.1 y_F_group.2.2.2.1 ∈ x_tbl ∧ (y_F_group.1.cls ≠ "java/lang/invoke/MethodHandle" ∧ y_F_group.1.cls ≠ "java/lang/invoke/VarHandle" ∧ (parseMethodDescriptor y_F_group.1.desc).map (fun d => d.parameters.length) = some 3) := ⟨tb_1 1 rfl rfl, tb_4 100 rfl rfl, by decide +kernel⟩
theorem i_F_group : Cond.instanceMethod y_F_group.1 ∈ x_tbl ∧ Cond.selects y_F_group.1.cls y_F_group.1 y_F_group.1 ∈ x_tbl := ⟨tb_4 98 rfl rfl, tb_4 99 rfl rfl⟩
theorem l_L_43 : Cond.methodLink y_L_walk.1.cls 43 y_F_walk.1 ∈ x_tbl := tb_4 104 rfl rfl
theorem b_F_walk : Cond.initialized y_F_walk.1.cls ∈ x_tbl ∧ Cond.code y_F_walk.1 y_F_walk.2.1 y_F_walk.2.2.1 y_F_walk.2.2.2.1 ∈ x_tbl ∧ (y_F_walk.1.cls ≠ "java/lang/invoke/MethodHandle" ∧ y_F_walk.1.cls ≠ "java/lang/invoke/VarHandle" ∧ (parseMethodDescriptor y_F_walk.1.desc).map (fun d => d.parameters.length) = some 1) := ⟨tb_1 1 rfl rfl, tb_4 107 rfl rfl, by decide +kernel⟩
theorem i_F_walk : Cond.instanceMethod y_F_walk.1 ∈ x_tbl ∧ Cond.selects y_F_walk.1.cls y_F_walk.1 y_F_walk.1 ∈ x_tbl := ⟨tb_4 105 rfl rfl, tb_4 106 rfl rfl⟩
theorem l_L_46 : Cond.methodLink y_L_door.1.cls 46 y_F_door.1 ∈ x_tbl := tb_4 111 rfl rfl
theorem b_F_door : Cond.initialized y_F_door.1.cls ∈ x_tbl ∧ Cond.code y_F_door.1 y_F_door.2.1 y_F_door.2.2.1 y_F_door.2.2.2.1 ∈ x_tbl ∧ (y_F_door.1.cls ≠ "java/lang/invoke/MethodHandle" ∧ y_F_door.1.cls ≠ "java/lang/invoke/VarHandle" ∧ (parseMethodDescriptor y_F_door.1.desc).map (fun d => d.parameters.length) = some 3) := ⟨tb_1 1 rfl rfl, tb_4 114 rfl rfl, by decide +kernel⟩
theorem i_F_door : Cond.instanceMethod y_F_door.1 ∈ x_tbl ∧ Cond.selects y_F_door.1.cls y_F_door.1 y_F_door.1 ∈ x_tbl := ⟨tb_4 112 rfl rfl, tb_4 113 rfl rfl⟩
theorem l_L_49 : Cond.methodLink y_L_make.1.cls 49 y_F_make.1 ∈ x_tbl := tb_4 118 rfl rfl
theorem b_F_make : Cond.initialized y_F_make.1.cls ∈ x_tbl ∧ Cond.code y_F_make.1 y_F_make.2.1 y_F_make.2.2.1 y_F_make.2.2.2.1 ∈ x_tbl ∧ (y_F_make.1.cls ≠ "java/lang/invoke/MethodHandle" ∧ y_F_make.1.cls ≠ "java/lang/invoke/VarHandle" ∧ (parseMethodDescriptor y_F_make.1.desc).map (fun d => d.parameters.length) = some 2) := ⟨tb_1 1 rfl rfl, tb_4 121 rfl rfl, by decide +kernel⟩
theorem i_F_make : Cond.instanceMethod y_F_make.1 ∈ x_tbl ∧ Cond.selects y_F_make.1.cls y_F_make.1 y_F_make.1 ∈ x_tbl := ⟨tb_4 119 rfl rfl, tb_4 120 rfl rfl⟩
theorem l_L_53 : Cond.methodLink y_L_gauges.1.cls 53 y_F_gauges.1 ∈ x_tbl := tb_4 125 rfl rfl
theorem b_F_gauges : Cond.initialized y_F_gauges.1.cls ∈ x_tbl ∧ Cond.code y_F_gauges.1 y_F_gauges.2.1 y_F_gauges.2.2.1 y_F_gauges.2.2.2.1 ∈ x_tbl ∧ (y_F_gauges.1.cls ≠ "java/lang/invoke/MethodHandle" ∧ y_F_gauges.1.cls ≠ "java/lang/invoke/VarHandle" ∧ (parseMethodDescriptor y_F_gauges.1.desc).map (fun d => d.parameters.length) = some 3) := ⟨tb_1 1 rfl rfl, tb_4 128 rfl rfl, by decide +kernel⟩
theorem i_F_gauges : Cond.instanceMethod y_F_gauges.1 ∈ x_tbl ∧ Cond.selects y_F_gauges.1.cls y_F_gauges.1 y_F_gauges.1 ∈ x_tbl := ⟨tb_4 126 rfl rfl, tb_4 127 rfl rfl⟩
theorem l_L_57 : Cond.methodLink y_L_air.1.cls 57 y_F_air.1 ∈ x_tbl := tb_4 136 rfl rfl
theorem b_F_air : Cond.initialized y_F_air.1.cls ∈ x_tbl ∧ Cond.code y_F_air.1 y_F_air.2.1 y_F_air.2.2.1 y_F_air.2.2.2.1 ∈ x_tbl ∧ (y_F_air.1.cls ≠ "java/lang/invoke/MethodHandle" ∧ y_F_air.1.cls ≠ "java/lang/invoke/VarHandle" ∧ (parseMethodDescriptor y_F_air.1.desc).map (fun d => d.parameters.length) = some 6) := ⟨tb_1 1 rfl rfl, tb_4 139 rfl rfl, by decide +kernel⟩
theorem i_F_air : Cond.instanceMethod y_F_air.1 ∈ x_tbl ∧ Cond.selects y_F_air.1.cls y_F_air.1 y_F_air.1 ∈ x_tbl := ⟨tb_4 137 rfl rfl, tb_4 138 rfl rfl⟩
theorem l_L_60 : Cond.methodLink y_L_smoke.1.cls 60 y_F_smoke.1 ∈ x_tbl := tb_4 154 rfl rfl
theorem b_F_smoke : Cond.initialized y_F_smoke.1.cls ∈ x_tbl ∧ Cond.code y_F_smoke.1 y_F_smoke.2.1 y_F_smoke.2.2.1 y_F_smoke.2.2.2.1 ∈ x_tbl ∧ (y_F_smoke.1.cls ≠ "java/lang/invoke/MethodHandle" ∧ y_F_smoke.1.cls ≠ "java/lang/invoke/VarHandle" ∧ (parseMethodDescriptor y_F_smoke.1.desc).map (fun d => d.parameters.length) = some 7) := ⟨tb_1 1 rfl rfl, tb_4 157 rfl rfl, by decide +kernel⟩
theorem i_F_smoke : Cond.instanceMethod y_F_smoke.1 ∈ x_tbl ∧ Cond.selects y_F_smoke.1.cls y_F_smoke.1 y_F_smoke.1 ∈ x_tbl := ⟨tb_4 155 rfl rfl, tb_4 156 rfl rfl⟩
theorem l_L_64 : Cond.methodLink y_L_given.1.cls 64 y_F_given.1 ∈ x_tbl := tb_4 163 rfl rfl
theorem b_F_given : Cond.initialized y_F_given.1.cls ∈ x_tbl ∧ Cond.code y_F_given.1 y_F_given.2.1 y_F_given.2.2.1 y_F_given.2.2.2.1 ∈ x_tbl ∧ (y_F_given.1.cls ≠ "java/lang/invoke/MethodHandle" ∧ y_F_given.1.cls ≠ "java/lang/invoke/VarHandle" ∧ (parseMethodDescriptor y_F_given.1.desc).map (fun d => d.parameters.length) = some 6) := ⟨tb_1 1 rfl rfl, tb_4 166 rfl rfl, by decide +kernel⟩
theorem i_F_given : Cond.instanceMethod y_F_given.1 ∈ x_tbl ∧ Cond.selects y_F_given.1.cls y_F_given.1 y_F_given.1 ∈ x_tbl := ⟨tb_4 164 rfl rfl, tb_4 165 rfl rfl⟩
theorem l_L_68 : Cond.methodLink y_L_lost.1.cls 68 y_F_lost.1 ∈ x_tbl := tb_4 174 rfl rfl
theorem b_F_lost : Cond.initialized y_F_lost.1.cls ∈ x_tbl ∧ Cond.code y_F_lost.1 y_F_lost.2.1 y_F_lost.2.2.1 y_F_lost.2.2.2.1 ∈ x_tbl ∧ (y_F_lost.1.cls ≠ "java/lang/invoke/MethodHandle" ∧ y_F_lost.1.cls ≠ "java/lang/invoke/VarHandle" ∧ (parseMethodDescriptor y_F_lost.1.desc).map (fun d => d.parameters.length) = some 5) := ⟨tb_1 1 rfl rfl, tb_4 177 rfl rfl, by decide +kernel⟩
theorem i_F_lost : Cond.instanceMethod y_F_lost.1 ∈ x_tbl ∧ Cond.selects y_F_lost.1.cls y_F_lost.1 y_F_lost.1 ∈ x_tbl := ⟨tb_4 175 rfl rfl, tb_4 176 rfl rfl⟩
theorem l_L_71 : Cond.methodLink y_L_shut.1.cls 71 y_F_shut.1 ∈ x_tbl := tb_4 185 rfl rfl
theorem b_F_shut : Cond.initialized y_F_shut.1.cls ∈ x_tbl ∧ Cond.code y_F_shut.1 y_F_shut.2.1 y_F_shut.2.2.1 y_F_shut.2.2.2.1 ∈ x_tbl ∧ (y_F_shut.1.cls ≠ "java/lang/invoke/MethodHandle" ∧ y_F_shut.1.cls ≠ "java/lang/invoke/VarHandle" ∧ (parseMethodDescriptor y_F_shut.1.desc).map (fun d => d.parameters.length) = some 6) := ⟨tb_1 1 rfl rfl, tb_4 188 rfl rfl, by decide +kernel⟩
theorem i_F_shut : Cond.instanceMethod y_F_shut.1 ∈ x_tbl ∧ Cond.selects y_F_shut.1.cls y_F_shut.1 y_F_shut.1 ∈ x_tbl := ⟨tb_4 186 rfl rfl, tb_4 187 rfl rfl⟩
theorem l_L_75 : Cond.methodLink y_L_out.1.cls 75 y_F_out.1 ∈ x_tbl := tb_4 193 rfl rfl
theorem b_F_out : Cond.initialized y_F_out.1.cls ∈ x_tbl ∧ Cond.code y_F_out.1 y_F_out.2.1 y_F_out.2.2.1 y_F_out.2.2.2.1 ∈ x_tbl ∧ (y_F_out.1.cls ≠ "java/lang/invoke/MethodHandle" ∧ y_F_out.1.cls ≠ "java/lang/invoke/VarHandle" ∧ (parseMethodDescriptor y_F_out.1.desc).map (fun d => d.parameters.length) = some 5) := ⟨tb_1 1 rfl rfl, tb_4 196 rfl rfl, by decide +kernel⟩
theorem i_F_out : Cond.instanceMethod y_F_out.1 ∈ x_tbl ∧ Cond.selects y_F_out.1.cls y_F_out.1 y_F_out.1 ∈ x_tbl := ⟨tb_4 194 rfl rfl, tb_4 195 rfl rfl⟩
theorem l_L_78 : Cond.methodLink y_L_all.1.cls 78 y_F_all.1 ∈ x_tbl := tb_4 212 rfl rfl
theorem b_F_all : Cond.initialized y_F_all.1.cls ∈ x_tbl ∧ Cond.code y_F_all.1 y_F_all.2.1 y_F_all.2.2.1 y_F_all.2.2.2.1 ∈ x_tbl ∧ (y_F_all.1.cls ≠ "java/lang/invoke/MethodHandle" ∧ y_F_all.1.cls ≠ "java/lang/invoke/VarHandle" ∧ (parseMethodDescriptor y_F_all.1.desc).map (fun d => d.parameters.length) = some 4) := ⟨tb_1 1 rfl rfl, tb_4 215 rfl rfl, by decide +kernel⟩
theorem i_F_all : Cond.instanceMethod y_F_all.1 ∈ x_tbl ∧ Cond.selects y_F_all.1.cls y_F_all.1 y_F_all.1 ∈ x_tbl := ⟨tb_4 213 rfl rfl, tb_4 214 rfl rfl⟩
theorem l_L_81 : Cond.methodLink y_L_side.1.cls 81 y_F_side.1 ∈ x_tbl := tb_4 225 rfl rfl
theorem b_F_side : Cond.initialized y_F_side.1.cls ∈ x_tbl ∧ Cond.code y_F_side.1 y_F_side.2.1 y_F_side.2.2.1 y_F_side.2.2.2.1 ∈ x_tbl ∧ (y_F_side.1.cls ≠ "java/lang/invoke/MethodHandle" ∧ y_F_side.1.cls ≠ "java/lang/invoke/VarHandle" ∧ (parseMethodDescriptor y_F_side.1.desc).map (fun d => d.parameters.length) = some 6) := ⟨tb_1 1 rfl rfl, tb_4 228 rfl rfl, by decide +kernel⟩
theorem i_F_side : Cond.instanceMethod y_F_side.1 ∈ x_tbl ∧ Cond.selects y_F_side.1.cls y_F_side.1 y_F_side.1 ∈ x_tbl := ⟨tb_4 226 rfl rfl, tb_4 227 rfl rfl⟩
theorem l_L_84 : Cond.methodLink y_L_worth.1.cls 84 y_F_worth.1 ∈ x_tbl := tb_5 4 rfl rfl
theorem b_F_worth : Cond.initialized y_F_worth.1.cls ∈ x_tbl ∧ Cond.code y_F_worth.1 y_F_worth.2.1 y_F_worth.2.2.1 y_F_worth.2.2.2.1 ∈ x_tbl ∧ (y_F_worth.1.cls ≠ "java/lang/invoke/MethodHandle" ∧ y_F_worth.1.cls ≠ "java/lang/invoke/VarHandle" ∧ (parseMethodDescriptor y_F_worth.1.desc).map (fun d => d.parameters.length) = some 6) := ⟨tb_1 1 rfl rfl, tb_5 7 rfl rfl, by decide +kernel⟩
theorem i_F_worth : Cond.instanceMethod y_F_worth.1 ∈ x_tbl ∧ Cond.selects y_F_worth.1.cls y_F_worth.1 y_F_worth.1 ∈ x_tbl := ⟨tb_5 5 rfl rfl, tb_5 6 rfl rfl⟩
theorem l_L_91 : Cond.methodLink y_L_fewest.1.cls 91 y_F_fewest.1 ∈ x_tbl := tb_5 79 rfl rfl
theorem b_F_fewest : Cond.initialized y_F_fewest.1.cls ∈ x_tbl ∧ Cond.code y_F_fewest.1 y_F_fewest.2.1 y_F_fewest.2.2.1 y_F_fewest.2.2.2.1 ∈ x_tbl ∧ (y_F_fewest.1.cls ≠ "java/lang/invoke/MethodHandle" ∧ y_F_fewest.1.cls ≠ "java/lang/invoke/VarHandle" ∧ (parseMethodDescriptor y_F_fewest.1.desc).map (fun d => d.parameters.length) = some 3) := ⟨tb_1 1 rfl rfl, tb_5 82 rfl rfl, by decide +kernel⟩
theorem i_F_fewest : Cond.instanceMethod y_F_fewest.1 ∈ x_tbl ∧ Cond.selects y_F_fewest.1.cls y_F_fewest.1 y_F_fewest.1 ∈ x_tbl := ⟨tb_5 80 rfl rfl, tb_5 81 rfl rfl⟩
theorem l_L_94 : Cond.methodLink y_L_alike.1.cls 94 y_F_alike.1 ∈ x_tbl := tb_5 109 rfl rfl
theorem b_F_alike : Cond.initialized y_F_alike.1.cls ∈ x_tbl ∧ Cond.code y_F_alike.1 y_F_alike.2.1 y_F_alike.2.2.1 y_F_alike.2.2.2.1 ∈ x_tbl ∧ (y_F_alike.1.cls ≠ "java/lang/invoke/MethodHandle" ∧ y_F_alike.1.cls ≠ "java/lang/invoke/VarHandle" ∧ (parseMethodDescriptor y_F_alike.1.desc).map (fun d => d.parameters.length) = some 4) := ⟨tb_1 1 rfl rfl, tb_5 112 rfl rfl, by decide +kernel⟩
theorem i_F_alike : Cond.instanceMethod y_F_alike.1 ∈ x_tbl ∧ Cond.selects y_F_alike.1.cls y_F_alike.1 y_F_alike.1 ∈ x_tbl := ⟨tb_5 110 rfl rfl, tb_5 111 rfl rfl⟩
theorem l_L_98 : Cond.methodLink y_L_regret.1.cls 98 y_F_regret.1 ∈ x_tbl := tb_5 140 rfl rfl
theorem b_F_regret : Cond.initialized y_F_regret.1.cls ∈ x_tbl ∧ Cond.code y_F_regret.1 y_F_regret.2.1 y_F_regret.2.2.1 y_F_regret.2.2.2.1 ∈ x_tbl ∧ (y_F_regret.1.cls ≠ "java/lang/invoke/MethodHandle" ∧ y_F_regret.1.cls ≠ "java/lang/invoke/VarHandle" ∧ (parseMethodDescriptor y_F_regret.1.desc).map (fun d => d.parameters.length) = some 5) := ⟨tb_1 1 rfl rfl, tb_5 143 rfl rfl, by decide +kernel⟩
theorem i_F_regret : Cond.instanceMethod y_F_regret.1 ∈ x_tbl ∧ Cond.selects y_F_regret.1.cls y_F_regret.1 y_F_regret.1 ∈ x_tbl := ⟨tb_5 141 rfl rfl, tb_5 142 rfl rfl⟩
theorem l_L_101 : Cond.methodLink y_L_turn.1.cls 101 y_F_turn.1 ∈ x_tbl := tb_5 153 rfl rfl
theorem b_F_turn : Cond.initialized y_F_turn.1.cls ∈ x_tbl ∧ Cond.code y_F_turn.1 y_F_turn.2.1 y_F_turn.2.2.1 y_F_turn.2.2.2.1 ∈ x_tbl ∧ (y_F_turn.1.cls ≠ "java/lang/invoke/MethodHandle" ∧ y_F_turn.1.cls ≠ "java/lang/invoke/VarHandle" ∧ (parseMethodDescriptor y_F_turn.1.desc).map (fun d => d.parameters.length) = some 3) := ⟨tb_1 1 rfl rfl, tb_5 156 rfl rfl, by decide +kernel⟩
theorem i_F_turn : Cond.instanceMethod y_F_turn.1 ∈ x_tbl ∧ Cond.selects y_F_turn.1.cls y_F_turn.1 y_F_turn.1 ∈ x_tbl := ⟨tb_5 154 rfl rfl, tb_5 155 rfl rfl⟩
theorem l_L_104 : Cond.methodLink y_L_turnTo.1.cls 104 y_F_turnTo.1 ∈ x_tbl := tb_5 184 rfl rfl
theorem b_F_turnTo : Cond.initialized y_F_turnTo.1.cls ∈ x_tbl ∧ Cond.code y_F_turnTo.1 y_F_turnTo.2.1 y_F_turnTo.2.2.1 y_F_turnTo.2.2.2.1 ∈ x_tbl ∧ (y_F_turnTo.1.cls ≠ "java/lang/invoke/MethodHandle" ∧ y_F_turnTo.1.cls ≠ "java/lang/invoke/VarHandle" ∧ (parseMethodDescriptor y_F_turnTo.1.desc).map (fun d => d.parameters.length) = some 4) := ⟨tb_1 1 rfl rfl, tb_5 187 rfl rfl, by decide +kernel⟩
theorem i_F_turnTo : Cond.instanceMethod y_F_turnTo.1 ∈ x_tbl ∧ Cond.selects y_F_turnTo.1.cls y_F_turnTo.1 y_F_turnTo.1 ∈ x_tbl := ⟨tb_5 185 rfl rfl, tb_5 186 rfl rfl⟩
theorem l_L_107 : Cond.methodLink y_L_best.1.cls 107 y_F_best.1 ∈ x_tbl := tb_5 192 rfl rfl
theorem b_F_best : Cond.initialized y_F_best.1.cls ∈ x_tbl ∧ Cond.code y_F_best.1 y_F_best.2.1 y_F_best.2.2.1 y_F_best.2.2.2.1 ∈ x_tbl ∧ (y_F_best.1.cls ≠ "java/lang/invoke/MethodHandle" ∧ y_F_best.1.cls ≠ "java/lang/invoke/VarHandle" ∧ (parseMethodDescriptor y_F_best.1.desc).map (fun d => d.parameters.length) = some 2) := ⟨tb_1 1 rfl rfl, tb_5 195 rfl rfl, by decide +kernel⟩
theorem i_F_best : Cond.instanceMethod y_F_best.1 ∈ x_tbl ∧ Cond.selects y_F_best.1.cls y_F_best.1 y_F_best.1 ∈ x_tbl := ⟨tb_5 193 rfl rfl, tb_5 194 rfl rfl⟩
theorem l_L_110 : Cond.methodLink y_L_reach.1.cls 110 y_F_reach.1 ∈ x_tbl := tb_5 199 rfl rfl
theorem b_F_reach : Cond.initialized y_F_reach.1.cls ∈ x_tbl ∧ Cond.code y_F_reach.1 y_F_reach.2.1 y_F_reach.2.2.1 y_F_reach.2.2.2.1 ∈ x_tbl ∧ (y_F_reach.1.cls ≠ "java/lang/invoke/MethodHandle" ∧ y_F_reach.1.cls ≠ "java/lang/invoke/VarHandle" ∧ (parseMethodDescriptor y_F_reach.1.desc).map (fun d => d.parameters.length) = some 6) := ⟨tb_1 1 rfl rfl, tb_5 202 rfl rfl, by decide +kernel⟩
theorem i_F_reach : Cond.instanceMethod y_F_reach.1 ∈ x_tbl ∧ Cond.selects y_F_reach.1.cls y_F_reach.1 y_F_reach.1 ∈ x_tbl := ⟨tb_5 200 rfl rfl, tb_5 201 rfl rfl⟩
theorem l_L_113 : Cond.methodLink y_L_drill.1.cls 113 y_F_drill.1 ∈ x_tbl := tb_6 4 rfl rfl
theorem b_F_drill : Cond.initialized y_F_drill.1.cls ∈ x_tbl ∧ Cond.code y_F_drill.1 y_F_drill.2.1 y_F_drill.2.2.1 y_F_drill.2.2.2.1 ∈ x_tbl ∧ (y_F_drill.1.cls ≠ "java/lang/invoke/MethodHandle" ∧ y_F_drill.1.cls ≠ "java/lang/invoke/VarHandle" ∧ (parseMethodDescriptor y_F_drill.1.desc).map (fun d => d.parameters.length) = some 2) := ⟨tb_1 1 rfl rfl, tb_6 7 rfl rfl, by decide +kernel⟩
theorem i_F_drill : Cond.instanceMethod y_F_drill.1 ∈ x_tbl ∧ Cond.selects y_F_drill.1.cls y_F_drill.1 y_F_drill.1 ∈ x_tbl := ⟨tb_6 5 rfl rfl, tb_6 6 rfl rfl⟩
theorem l_L_116 : Cond.methodLink y_L_dose.1.cls 116 y_F_dose.1 ∈ x_tbl := tb_6 11 rfl rfl
theorem b_F_dose : Cond.initialized y_F_dose.1.cls ∈ x_tbl ∧ Cond.code y_F_dose.1 y_F_dose.2.1 y_F_dose.2.2.1 y_F_dose.2.2.2.1 ∈ x_tbl ∧ (y_F_dose.1.cls ≠ "java/lang/invoke/MethodHandle" ∧ y_F_dose.1.cls ≠ "java/lang/invoke/VarHandle" ∧ (parseMethodDescriptor y_F_dose.1.desc).map (fun d => d.parameters.length) = some 6) := ⟨tb_1 1 rfl rfl, tb_6 14 rfl rfl, by decide +kernel⟩
theorem i_F_dose : Cond.instanceMethod y_F_dose.1 ∈ x_tbl ∧ Cond.selects y_F_dose.1.cls y_F_dose.1 y_F_dose.1 ∈ x_tbl := ⟨tb_6 12 rfl rfl, tb_6 13 rfl rfl⟩
theorem l_L_119 : Cond.methodLink y_L_outAt.1.cls 119 y_F_outAt.1 ∈ x_tbl := tb_6 54 rfl rfl
theorem b_F_outAt : Cond.initialized y_F_outAt.1.cls ∈ x_tbl ∧ Cond.code y_F_outAt.1 y_F_outAt.2.1 y_F_outAt.2.2.1 y_F_outAt.2.2.2.1 ∈ x_tbl ∧ (y_F_outAt.1.cls ≠ "java/lang/invoke/MethodHandle" ∧ y_F_outAt.1.cls ≠ "java/lang/invoke/VarHandle" ∧ (parseMethodDescriptor y_F_outAt.1.desc).map (fun d => d.parameters.length) = some 6) := ⟨tb_1 1 rfl rfl, tb_6 57 rfl rfl, by decide +kernel⟩
theorem i_F_outAt : Cond.instanceMethod y_F_outAt.1 ∈ x_tbl ∧ Cond.selects y_F_outAt.1.cls y_F_outAt.1 y_F_outAt.1 ∈ x_tbl := ⟨tb_6 55 rfl rfl, tb_6 56 rfl rfl⟩
theorem l_L_122 : Cond.methodLink y_L_whereAt.1.cls 122 y_F_whereAt.1 ∈ x_tbl := tb_6 66 rfl rfl
theorem b_F_whereAt : Cond.initialized y_F_whereAt.1.cls ∈ x_tbl ∧ Cond.code y_F_whereAt.1 y_F_whereAt.2.1 y_F_whereAt.2.2.1 y_F_whereAt.2.2.2.1 ∈ x_tbl ∧ (y_F_whereAt.1.cls ≠ "java/lang/invoke/MethodHandle" ∧ y_F_whereAt.1.cls ≠ "java/lang/invoke/VarHandle" ∧ (parseMethodDescriptor y_F_whereAt.1.desc).map (fun d => d.parameters.length) = some 7) := ⟨tb_1 1 rfl rfl, tb_6 69 rfl rfl, by decide +kernel⟩
theorem i_F_whereAt : Cond.instanceMethod y_F_whereAt.1 ∈ x_tbl ∧ Cond.selects y_F_whereAt.1.cls y_F_whereAt.1 y_F_whereAt.1 ∈ x_tbl := ⟨tb_6 67 rfl rfl, tb_6 68 rfl rfl⟩
theorem l_L_126 : Cond.methodLink y_L_reading.1.cls 126 y_F_reading.1 ∈ x_tbl := tb_6 77 rfl rfl
theorem b_F_reading : Cond.initialized y_F_reading.1.cls ∈ x_tbl ∧ Cond.code y_F_reading.1 y_F_reading.2.1 y_F_reading.2.2.1 y_F_reading.2.2.2.1 ∈ x_tbl ∧ (y_F_reading.1.cls ≠ "java/lang/invoke/MethodHandle" ∧ y_F_reading.1.cls ≠ "java/lang/invoke/VarHandle" ∧ (parseMethodDescriptor y_F_reading.1.desc).map (fun d => d.parameters.length) = some 3) := ⟨tb_1 1 rfl rfl, tb_6 80 rfl rfl, by decide +kernel⟩
theorem i_F_reading : Cond.instanceMethod y_F_reading.1 ∈ x_tbl ∧ Cond.selects y_F_reading.1.cls y_F_reading.1 y_F_reading.1 ∈ x_tbl := ⟨tb_6 78 rfl rfl, tb_6 79 rfl rfl⟩
theorem l_L_130 : Cond.methodLink y_L_fits.1.cls 130 y_F_fits.1 ∈ x_tbl := tb_6 84 rfl rfl
theorem b_F_fits : Cond.initialized y_F_fits.1.cls ∈ x_tbl ∧ Cond.code y_F_fits.1 y_F_fits.2.1 y_F_fits.2.2.1 y_F_fits.2.2.2.1 ∈ x_tbl ∧ (y_F_fits.1.cls ≠ "java/lang/invoke/MethodHandle" ∧ y_F_fits.1.cls ≠ "java/lang/invoke/VarHandle" ∧ (parseMethodDescriptor y_F_fits.1.desc).map (fun d => d.parameters.length) = some 1) := ⟨tb_1 1 rfl rfl, tb_6 87 rfl rfl, by decide +kernel⟩
theorem i_F_fits : Cond.instanceMethod y_F_fits.1 ∈ x_tbl ∧ Cond.selects y_F_fits.1.cls y_F_fits.1 y_F_fits.1 ∈ x_tbl := ⟨tb_6 85 rfl rfl, tb_6 86 rfl rfl⟩
theorem l_L_133 : Cond.methodLink y_L_next.1.cls 133 y_F_next.1 ∈ x_tbl := tb_6 99 rfl rfl
theorem b_F_next : Cond.initialized y_F_next.1.cls ∈ x_tbl ∧ Cond.code y_F_next.1 y_F_next.2.1 y_F_next.2.2.1 y_F_next.2.2.2.1 ∈ x_tbl ∧ (y_F_next.1.cls ≠ "java/lang/invoke/MethodHandle" ∧ y_F_next.1.cls ≠ "java/lang/invoke/VarHandle" ∧ (parseMethodDescriptor y_F_next.1.desc).map (fun d => d.parameters.length) = some 1) := ⟨tb_1 1 rfl rfl, tb_6 102 rfl rfl, by decide +kernel⟩
theorem i_F_next : Cond.instanceMethod y_F_next.1 ∈ x_tbl ∧ Cond.selects y_F_next.1.cls y_F_next.1 y_F_next.1 ∈ x_tbl := ⟨tb_6 100 rfl rfl, tb_6 101 rfl rfl⟩
theorem l_L_136 : Cond.methodLink y_L_row.1.cls 136 y_F_row.1 ∈ x_tbl := tb_6 117 rfl rfl
theorem b_F_row : Cond.initialized y_F_row.1.cls ∈ x_tbl ∧ Cond.code y_F_row.1 y_F_row.2.1 y_F_row.2.2.1 y_F_row.2.2.2.1 ∈ x_tbl ∧ (y_F_row.1.cls ≠ "java/lang/invoke/MethodHandle" ∧ y_F_row.1.cls ≠ "java/lang/invoke/VarHandle" ∧ (parseMethodDescriptor y_F_row.1.desc).map (fun d => d.parameters.length) = some 3) := ⟨tb_1 1 rfl rfl, tb_6 120 rfl rfl, by decide +kernel⟩
theorem i_F_row : Cond.instanceMethod y_F_row.1 ∈ x_tbl ∧ Cond.selects y_F_row.1.cls y_F_row.1 y_F_row.1 ∈ x_tbl := ⟨tb_6 118 rfl rfl, tb_6 119 rfl rfl⟩
theorem l_L_139 : Cond.methodLink y_L_write.1.cls 139 y_F_write.1 ∈ x_tbl := tb_6 130 rfl rfl
theorem b_F_write : Cond.initialized y_F_write.1.cls ∈ x_tbl ∧ Cond.code y_F_write.1 y_F_write.2.1 y_F_write.2.2.1 y_F_write.2.2.2.1 ∈ x_tbl ∧ (y_F_write.1.cls ≠ "java/lang/invoke/MethodHandle" ∧ y_F_write.1.cls ≠ "java/lang/invoke/VarHandle" ∧ (parseMethodDescriptor y_F_write.1.desc).map (fun d => d.parameters.length) = some 3) := ⟨tb_1 1 rfl rfl, tb_6 133 rfl rfl, by decide +kernel⟩
theorem i_F_write : Cond.instanceMethod y_F_write.1 ∈ x_tbl ∧ Cond.selects y_F_write.1.cls y_F_write.1 y_F_write.1 ∈ x_tbl := ⟨tb_6 131 rfl rfl, tb_6 132 rfl rfl⟩
theorem l_L_143 : Cond.methodLink y_L_lay.1.cls 143 y_F_lay.1 ∈ x_tbl := tb_6 145 rfl rfl
theorem b_F_lay : Cond.initialized y_F_lay.1.cls ∈ x_tbl ∧ Cond.code y_F_lay.1 y_F_lay.2.1 y_F_lay.2.2.1 y_F_lay.2.2.2.1 ∈ x_tbl ∧ (y_F_lay.1.cls ≠ "java/lang/invoke/MethodHandle" ∧ y_F_lay.1.cls ≠ "java/lang/invoke/VarHandle" ∧ (parseMethodDescriptor y_F_lay.1.desc).map (fun d => d.parameters.length) = some 6) := ⟨tb_1 1 rfl rfl, tb_6 148 rfl rfl, by decide +kernel⟩
theorem i_F_lay : Cond.instanceMethod y_F_lay.1 ∈ x_tbl ∧ Cond.selects y_F_lay.1.cls y_F_lay.1 y_F_lay.1 ∈ x_tbl := ⟨tb_6 146 rfl rfl, tb_6 147 rfl rfl⟩
theorem e_Ac_adding_Ac_newest : x_edgeV y_Ac_adding y_Ac_newest 34 2 := ⟨⟨l_Ac_34, i_Ac_newest.1, b_Ac_newest.1, b_Ac_newest.2.1, b_Ac_newest.2.2, ⟨by decide, by decide⟩, rfl⟩, i_Ac_newest.2⟩
theorem e_Ac_adding_Ta_grow : x_edgeV y_Ac_adding y_Ta_grow 38 0 := ⟨⟨l_Ac_38, i_Ta_grow.1, b_Ta_grow.1, b_Ta_grow.2.1, b_Ta_grow.2.2, ⟨by decide, by decide⟩, rfl⟩, i_Ta_grow.2⟩
theorem e_Ac_changing_Ac_newest : x_edgeV y_Ac_changing y_Ac_newest 34 2 := ⟨⟨l_Ac_34, i_Ac_newest.1, b_Ac_newest.1, b_Ac_newest.2.1, b_Ac_newest.2.2, ⟨by decide, by decide⟩, rfl⟩, i_Ac_newest.2⟩
theorem e_Ac_changing_Ta_at : x_edgeV y_Ac_changing y_Ta_at 41 2 := ⟨⟨l_Ac_41, i_Ta_at.1, b_Ta_at.1, b_Ta_at.2.1, b_Ta_at.2.2, ⟨by decide, by decide⟩, rfl⟩, i_Ta_at.2⟩
theorem e_Ac_takeBack_Ac_slotOf : x_edgeV y_Ac_takeBack y_Ac_slotOf 45 1 := ⟨⟨l_Ac_45, i_Ac_slotOf.1, b_Ac_slotOf.1, b_Ac_slotOf.2.1, b_Ac_slotOf.2.2, ⟨by decide, by decide⟩, rfl⟩, i_Ac_slotOf.2⟩
theorem e_Ac_takeBack_Ac_turnOver : x_edgeV y_Ac_takeBack y_Ac_turnOver 49 2 := ⟨⟨l_Ac_49, i_Ac_turnOver.1, b_Ac_turnOver.1, b_Ac_turnOver.2.1, b_Ac_turnOver.2.2, ⟨by decide, by decide⟩, rfl⟩, i_Ac_turnOver.2⟩
theorem e_Ac_doAgain_Ac_slotOf : x_edgeV y_Ac_doAgain y_Ac_slotOf 45 1 := ⟨⟨l_Ac_45, i_Ac_slotOf.1, b_Ac_slotOf.1, b_Ac_slotOf.2.1, b_Ac_slotOf.2.2, ⟨by decide, by decide⟩, rfl⟩, i_Ac_slotOf.2⟩
theorem e_Ac_doAgain_Ac_turnOver : x_edgeV y_Ac_doAgain y_Ac_turnOver 49 2 := ⟨⟨l_Ac_49, i_Ac_turnOver.1, b_Ac_turnOver.1, b_Ac_turnOver.2.1, b_Ac_turnOver.2.2, ⟨by decide, by decide⟩, rfl⟩, i_Ac_turnOver.2⟩
theorem e_Ac_newest_Ac_slotOf : x_edgeV y_Ac_newest y_Ac_slotOf 45 1 := ⟨⟨l_Ac_45, i_Ac_slotOf.1, b_Ac_slotOf.1, b_Ac_slotOf.2.1, b_Ac_slotOf.2.2, ⟨by decide, by decide⟩, rfl⟩, i_Ac_slotOf.2⟩
theorem e_Ac_turnOver_Ac_swap : x_edgeV y_Ac_turnOver y_Ac_swap 56 2 := ⟨⟨l_Ac_56, i_Ac_swap.1, b_Ac_swap.1, b_Ac_swap.2.1, b_Ac_swap.2.2, ⟨by decide, by decide⟩, rfl⟩, i_Ac_swap.2⟩
theorem e_Ac_turnOver_Ta_grow : x_edgeV y_Ac_turnOver y_Ta_grow 38 0 := ⟨⟨l_Ac_38, i_Ta_grow.1, b_Ta_grow.1, b_Ta_grow.2.1, b_Ta_grow.2.2, ⟨by decide, by decide⟩, rfl⟩, i_Ta_grow.2⟩
theorem e_Ac_turnOver_Ta_shrink : x_edgeV y_Ac_turnOver y_Ta_shrink 60 0 := ⟨⟨l_Ac_60, i_Ta_shrink.1, b_Ta_shrink.1, b_Ta_shrink.2.1, b_Ta_shrink.2.2, ⟨by decide, by decide⟩, rfl⟩, i_Ta_shrink.2⟩
theorem e_Ac_swap_Ta_at : x_edgeV y_Ac_swap y_Ta_at 41 2 := ⟨⟨l_Ac_41, i_Ta_at.1, b_Ta_at.1, b_Ta_at.2.1, b_Ta_at.2.2, ⟨by decide, by decide⟩, rfl⟩, i_Ta_at.2⟩
theorem e_Ac_swap_Ta_put : x_edgeV y_Ac_swap y_Ta_put 63 3 := ⟨⟨l_Ac_63, i_Ta_put.1, b_Ta_put.1, b_Ta_put.2.1, b_Ta_put.2.2, ⟨by decide, by decide⟩, rfl⟩, i_Ta_put.2⟩
theorem e_Cr_firstReach_Ta_has : x_edgeV y_Cr_firstReach y_Ta_has 32 1 := ⟨⟨l_Cr_32, i_Ta_has.1, b_Ta_has.1, b_Ta_has.2.1, b_Ta_has.2.2, ⟨by decide, by decide⟩, rfl⟩, i_Ta_has.2⟩
theorem e_Cr_firstReach_Cr_goThere : x_edgeV y_Cr_firstReach y_Cr_goThere 38 0 := ⟨⟨l_Cr_38, i_Cr_goThere.1, b_Cr_goThere.1, b_Cr_goThere.2.1, b_Cr_goThere.2.2, ⟨by decide, by decide⟩, rfl⟩, i_Cr_goThere.2⟩
theorem e_Cr_firstReach_Cr_comeBack : x_edgeV y_Cr_firstReach y_Cr_comeBack 41 0 := ⟨⟨l_Cr_41, i_Cr_comeBack.1, b_Cr_comeBack.1, b_Cr_comeBack.2.1, b_Cr_comeBack.2.2, ⟨by decide, by decide⟩, rfl⟩, i_Cr_comeBack.2⟩
theorem e_Cr_goThere_JA_fill : x_edgeS y_Cr_goThere y_JA_fill 49 2 := ⟨l_Cr_49, i_JA_fill, b_JA_fill.1, b_JA_fill.2.1, b_JA_fill.2.2, ⟨by decide, by decide⟩, rfl⟩
theorem e_Cr_goThere_Ta_size : x_edgeV y_Cr_goThere y_Ta_size 55 0 := ⟨⟨l_Cr_55, i_Ta_size.1, b_Ta_size.1, b_Ta_size.2.1, b_Ta_size.2.2, ⟨by decide, by decide⟩, rfl⟩, i_Ta_size.2⟩
theorem e_Cr_goThere_Ta_at : x_edgeV y_Cr_goThere y_Ta_at 59 2 := ⟨⟨l_Cr_59, i_Ta_at.1, b_Ta_at.1, b_Ta_at.2.1, b_Ta_at.2.2, ⟨by decide, by decide⟩, rfl⟩, i_Ta_at.2⟩
theorem e_Cr_goThere_Cr_leastThere : x_edgeV y_Cr_goThere y_Cr_leastThere 62 2 := ⟨⟨l_Cr_62, i_Cr_leastThere.1, b_Cr_leastThere.1, b_Cr_leastThere.2.1, b_Cr_leastThere.2.2, ⟨by decide, by decide⟩, rfl⟩, i_Cr_leastThere.2⟩
theorem e_Cr_goThere_JM_min : x_edgeS y_Cr_goThere y_JM_min 65 2 := ⟨l_Cr_65, i_JM_min, b_JM_min.1, b_JM_min.2.1, b_JM_min.2.2, ⟨by decide, by decide⟩, rfl⟩
theorem e_Cr_leastThere_Ta_size : x_edgeV y_Cr_leastThere y_Ta_size 55 0 := ⟨⟨l_Cr_55, i_Ta_size.1, b_Ta_size.1, b_Ta_size.2.1, b_Ta_size.2.2, ⟨by decide, by decide⟩, rfl⟩, i_Ta_size.2⟩
theorem e_Cr_leastThere_Ho_otherEnd : x_edgeV y_Cr_leastThere y_Ho_otherEnd 73 2 := ⟨⟨l_Cr_73, i_Ho_otherEnd.1, b_Ho_otherEnd.1, b_Ho_otherEnd.2.1, b_Ho_otherEnd.2.2, ⟨by decide, by decide⟩, rfl⟩, i_Ho_otherEnd.2⟩
theorem e_Cr_leastThere_Ta_at : x_edgeV y_Cr_leastThere y_Ta_at 59 2 := ⟨⟨l_Cr_59, i_Ta_at.1, b_Ta_at.1, b_Ta_at.2.1, b_Ta_at.2.2, ⟨by decide, by decide⟩, rfl⟩, i_Ta_at.2⟩
theorem e_Cr_leastThere_JM_min : x_edgeS y_Cr_leastThere y_JM_min 65 2 := ⟨l_Cr_65, i_JM_min, b_JM_min.1, b_JM_min.2.1, b_JM_min.2.2, ⟨by decide, by decide⟩, rfl⟩
theorem e_Cr_leastThere_Cr_comes : x_edgeV y_Cr_leastThere y_Cr_comes 76 2 := ⟨⟨l_Cr_76, i_Cr_comes.1, b_Cr_comes.1, b_Cr_comes.2.1, b_Cr_comes.2.2, ⟨by decide, by decide⟩, rfl⟩, i_Cr_comes.2⟩
theorem e_Cr_comeBack_Ta_size : x_edgeV y_Cr_comeBack y_Ta_size 55 0 := ⟨⟨l_Cr_55, i_Ta_size.1, b_Ta_size.1, b_Ta_size.2.1, b_Ta_size.2.2, ⟨by decide, by decide⟩, rfl⟩, i_Ta_size.2⟩
theorem e_Cr_comeBack_Ta_at : x_edgeV y_Cr_comeBack y_Ta_at 59 2 := ⟨⟨l_Cr_59, i_Ta_at.1, b_Ta_at.1, b_Ta_at.2.1, b_Ta_at.2.2, ⟨by decide, by decide⟩, rfl⟩, i_Ta_at.2⟩
theorem e_Cr_comeBack_Cr_leastBack : x_edgeV y_Cr_comeBack y_Cr_leastBack 79 2 := ⟨⟨l_Cr_79, i_Cr_leastBack.1, b_Cr_leastBack.1, b_Cr_leastBack.2.1, b_Cr_leastBack.2.2, ⟨by decide, by decide⟩, rfl⟩, i_Cr_leastBack.2⟩
theorem e_Cr_leastBack_Cr_comes : x_edgeV y_Cr_leastBack y_Cr_comes 76 2 := ⟨⟨l_Cr_76, i_Cr_comes.1, b_Cr_comes.1, b_Cr_comes.2.1, b_Cr_comes.2.2, ⟨by decide, by decide⟩, rfl⟩, i_Cr_comes.2⟩
theorem e_Cr_leastBack_Ta_size : x_edgeV y_Cr_leastBack y_Ta_size 55 0 := ⟨⟨l_Cr_55, i_Ta_size.1, b_Ta_size.1, b_Ta_size.2.1, b_Ta_size.2.2, ⟨by decide, by decide⟩, rfl⟩, i_Ta_size.2⟩
theorem e_Cr_leastBack_Ho_otherEnd : x_edgeV y_Cr_leastBack y_Ho_otherEnd 73 2 := ⟨⟨l_Cr_73, i_Ho_otherEnd.1, b_Ho_otherEnd.1, b_Ho_otherEnd.2.1, b_Ho_otherEnd.2.2, ⟨by decide, by decide⟩, rfl⟩, i_Ho_otherEnd.2⟩
theorem e_Cr_leastBack_Ta_at : x_edgeV y_Cr_leastBack y_Ta_at 59 2 := ⟨⟨l_Cr_59, i_Ta_at.1, b_Ta_at.1, b_Ta_at.2.1, b_Ta_at.2.2, ⟨by decide, by decide⟩, rfl⟩, i_Ta_at.2⟩
theorem e_Cr_leastBack_JM_min : x_edgeS y_Cr_leastBack y_JM_min 65 2 := ⟨l_Cr_65, i_JM_min, b_JM_min.1, b_JM_min.2.1, b_JM_min.2.2, ⟨by decide, by decide⟩, rfl⟩
theorem e_Cr_comes_Sm_isShut : x_edgeV y_Cr_comes y_Sm_isShut 82 2 := ⟨⟨l_Cr_82, i_Sm_isShut.1, b_Sm_isShut.1, b_Sm_isShut.2.1, b_Sm_isShut.2.2, ⟨by decide, by decide⟩, rfl⟩, i_Sm_isShut.2⟩
theorem e_Es_most_Ne_clear : x_edgeV y_Es_most y_Ne_clear 26 0 := ⟨⟨l_Es_26, i_Ne_clear.1, b_Ne_clear.1, b_Ne_clear.2.1, b_Ne_clear.2.2, ⟨by decide, by decide⟩, rfl⟩, i_Ne_clear.2⟩
theorem e_Es_most_Es_joinRooms : x_edgeV y_Es_most y_Es_joinRooms 29 1 := ⟨⟨l_Es_29, i_Es_joinRooms.1, b_Es_joinRooms.1, b_Es_joinRooms.2.1, b_Es_joinRooms.2.2, ⟨by decide, by decide⟩, rfl⟩, i_Es_joinRooms.2⟩
theorem e_Es_most_Es_joinWays : x_edgeV y_Es_most y_Es_joinWays 33 2 := ⟨⟨l_Es_33, i_Es_joinWays.1, b_Es_joinWays.1, b_Es_joinWays.2.1, b_Es_joinWays.2.2, ⟨by decide, by decide⟩, rfl⟩, i_Es_joinWays.2⟩
theorem e_Es_most_Es_joinExits : x_edgeV y_Es_most y_Es_joinExits 37 2 := ⟨⟨l_Es_37, i_Es_joinExits.1, b_Es_joinExits.1, b_Es_joinExits.2.1, b_Es_joinExits.2.2, ⟨by decide, by decide⟩, rfl⟩, i_Es_joinExits.2⟩
theorem e_Es_most_Es_joinGroups : x_edgeV y_Es_most y_Es_joinGroups 40 1 := ⟨⟨l_Es_40, i_Es_joinGroups.1, b_Es_joinGroups.1, b_Es_joinGroups.2.1, b_Es_joinGroups.2.2, ⟨by decide, by decide⟩, rfl⟩, i_Es_joinGroups.2⟩
theorem e_Es_most_Ne_most : x_edgeV y_Es_most y_Ne_most 43 0 := ⟨⟨l_Es_43, i_Ne_most.1, b_Ne_most.1, b_Ne_most.2.1, b_Ne_most.2.2, ⟨by decide, by decide⟩, rfl⟩, i_Ne_most.2⟩
theorem e_Es_firstForAll_Ho_allPeople : x_edgeV y_Es_firstForAll y_Ho_allPeople 47 0 := ⟨⟨l_Es_47, i_Ho_allPeople.1, b_Ho_allPeople.1, b_Ho_allPeople.2.1, b_Ho_allPeople.2.2, ⟨by decide, by decide⟩, rfl⟩, i_Ho_allPeople.2⟩
theorem e_Es_firstForAll_Ho_walkTimes : x_edgeV y_Es_firstForAll y_Ho_walkTimes 52 0 := ⟨⟨l_Es_52, i_Ho_walkTimes.1, b_Ho_walkTimes.1, b_Ho_walkTimes.2.1, b_Ho_walkTimes.2.2, ⟨by decide, by decide⟩, rfl⟩, i_Ho_walkTimes.2⟩
theorem e_Es_firstForAll_Ho_madeDoors : x_edgeV y_Es_firstForAll y_Ho_madeDoors 55 0 := ⟨⟨l_Es_55, i_Ho_madeDoors.1, b_Ho_madeDoors.1, b_Ho_madeDoors.2.1, b_Ho_madeDoors.2.2, ⟨by decide, by decide⟩, rfl⟩, i_Ho_madeDoors.2⟩
theorem e_Es_firstForAll_Es_most : x_edgeV y_Es_firstForAll y_Es_most 58 3 := ⟨⟨l_Es_58, i_Es_most.1, b_Es_most.1, b_Es_most.2.1, b_Es_most.2.2, ⟨by decide, by decide⟩, rfl⟩, i_Es_most.2⟩
theorem e_Es_fitsDrills_Ta_size : x_edgeV y_Es_fitsDrills y_Ta_size 65 0 := ⟨⟨l_Es_65, i_Ta_size.1, b_Ta_size.1, b_Ta_size.2.1, b_Ta_size.2.2, ⟨by decide, by decide⟩, rfl⟩, i_Ta_size.2⟩
theorem e_Es_fitsDrills_Ta_at : x_edgeV y_Es_fitsDrills y_Ta_at 70 2 := ⟨⟨l_Es_70, i_Ta_at.1, b_Ta_at.1, b_Ta_at.2.1, b_Ta_at.2.2, ⟨by decide, by decide⟩, rfl⟩, i_Ta_at.2⟩
theorem e_Es_fitsDrills_Ho_madeDoors : x_edgeV y_Es_fitsDrills y_Ho_madeDoors 55 0 := ⟨⟨l_Es_55, i_Ho_madeDoors.1, b_Ho_madeDoors.1, b_Ho_madeDoors.2.1, b_Ho_madeDoors.2.2, ⟨by decide, by decide⟩, rfl⟩, i_Ho_madeDoors.2⟩
theorem e_Es_fitsDrills_Es_most : x_edgeV y_Es_fitsDrills y_Es_most 58 3 := ⟨⟨l_Es_58, i_Es_most.1, b_Es_most.1, b_Es_most.2.1, b_Es_most.2.2, ⟨by decide, by decide⟩, rfl⟩, i_Es_most.2⟩
theorem e_Es_sideAt_Ta_size : x_edgeV y_Es_sideAt y_Ta_size 65 0 := ⟨⟨l_Es_65, i_Ta_size.1, b_Ta_size.1, b_Ta_size.2.1, b_Ta_size.2.2, ⟨by decide, by decide⟩, rfl⟩, i_Ta_size.2⟩
theorem e_Es_sideAt_Es_begin : x_edgeS y_Es_sideAt y_Es_begin 77 2 := ⟨l_Es_77, i_Es_begin, b_Es_begin.1, b_Es_begin.2.1, b_Es_begin.2.2, ⟨by decide, by decide⟩, rfl⟩
theorem e_Es_sideAt_Ne_isReached : x_edgeV y_Es_sideAt y_Ne_isReached 80 1 := ⟨⟨l_Es_80, i_Ne_isReached.1, b_Ne_isReached.1, b_Ne_isReached.2.1, b_Ne_isReached.2.2, ⟨by decide, by decide⟩, rfl⟩, i_Ne_isReached.2⟩
theorem e_Es_sideAt_Es_being : x_edgeS y_Es_sideAt y_Es_being 84 2 := ⟨l_Es_84, i_Es_being, b_Es_being.1, b_Es_being.2.1, b_Es_being.2.2, ⟨by decide, by decide⟩, rfl⟩
theorem e_Es_worthOf_Ta_size : x_edgeV y_Es_worthOf y_Ta_size 65 0 := ⟨⟨l_Es_65, i_Ta_size.1, b_Ta_size.1, b_Ta_size.2.1, b_Ta_size.2.2, ⟨by decide, by decide⟩, rfl⟩, i_Ta_size.2⟩
theorem e_Es_worthOf_Es_isIn : x_edgeS y_Es_worthOf y_Es_isIn 87 4 := ⟨l_Es_87, i_Es_isIn, b_Es_isIn.1, b_Es_isIn.2.1, b_Es_isIn.2.2, ⟨by decide, by decide⟩, rfl⟩
theorem e_Es_worthOf_Sm_isShut : x_edgeV y_Es_worthOf y_Sm_isShut 91 2 := ⟨⟨l_Es_91, i_Sm_isShut.1, b_Sm_isShut.1, b_Sm_isShut.2.1, b_Sm_isShut.2.2, ⟨by decide, by decide⟩, rfl⟩, i_Sm_isShut.2⟩
theorem e_Es_worthOf_Ta_at : x_edgeV y_Es_worthOf y_Ta_at 70 2 := ⟨⟨l_Es_70, i_Ta_at.1, b_Ta_at.1, b_Ta_at.2.1, b_Ta_at.2.2, ⟨by decide, by decide⟩, rfl⟩, i_Ta_at.2⟩
theorem e_Es_worthOf_Ho_madeDoors : x_edgeV y_Es_worthOf y_Ho_madeDoors 55 0 := ⟨⟨l_Es_55, i_Ho_madeDoors.1, b_Ho_madeDoors.1, b_Ho_madeDoors.2.1, b_Ho_madeDoors.2.2, ⟨by decide, by decide⟩, rfl⟩, i_Ho_madeDoors.2⟩
theorem e_Es_worthOf_Ho_exitWidth : x_edgeV y_Es_worthOf y_Ho_exitWidth 97 2 := ⟨⟨l_Es_97, i_Ho_exitWidth.1, b_Ho_exitWidth.1, b_Ho_exitWidth.2.1, b_Ho_exitWidth.2.2, ⟨by decide, by decide⟩, rfl⟩, i_Ho_exitWidth.2⟩
theorem e_Es_worthOf_Es_worthOfGroups : x_edgeV y_Es_worthOf y_Es_worthOfGroups 100 3 := ⟨⟨l_Es_100, i_Es_worthOfGroups.1, b_Es_worthOfGroups.1, b_Es_worthOfGroups.2.1, b_Es_worthOfGroups.2.2, ⟨by decide, by decide⟩, rfl⟩, i_Es_worthOfGroups.2⟩
theorem e_Es_worthOf_Es_worthOfWays : x_edgeV y_Es_worthOf y_Es_worthOfWays 104 3 := ⟨⟨l_Es_104, i_Es_worthOfWays.1, b_Es_worthOfWays.1, b_Es_worthOfWays.2.1, b_Es_worthOfWays.2.2, ⟨by decide, by decide⟩, rfl⟩, i_Es_worthOfWays.2⟩
theorem e_Es_worthOfGroups_Ta_size : x_edgeV y_Es_worthOfGroups y_Ta_size 65 0 := ⟨⟨l_Es_65, i_Ta_size.1, b_Ta_size.1, b_Ta_size.2.1, b_Ta_size.2.2, ⟨by decide, by decide⟩, rfl⟩, i_Ta_size.2⟩
theorem e_Es_worthOfGroups_Ta_at : x_edgeV y_Es_worthOfGroups y_Ta_at 70 2 := ⟨⟨l_Es_70, i_Ta_at.1, b_Ta_at.1, b_Ta_at.2.1, b_Ta_at.2.2, ⟨by decide, by decide⟩, rfl⟩, i_Ta_at.2⟩
theorem e_Es_worthOfGroups_Es_isIn : x_edgeS y_Es_worthOfGroups y_Es_isIn 87 4 := ⟨l_Es_87, i_Es_isIn, b_Es_isIn.1, b_Es_isIn.2.1, b_Es_isIn.2.2, ⟨by decide, by decide⟩, rfl⟩
theorem e_Es_worthOfWays_Ta_size : x_edgeV y_Es_worthOfWays y_Ta_size 65 0 := ⟨⟨l_Es_65, i_Ta_size.1, b_Ta_size.1, b_Ta_size.2.1, b_Ta_size.2.2, ⟨by decide, by decide⟩, rfl⟩, i_Ta_size.2⟩
theorem e_Es_worthOfWays_Ta_at : x_edgeV y_Es_worthOfWays y_Ta_at 70 2 := ⟨⟨l_Es_70, i_Ta_at.1, b_Ta_at.1, b_Ta_at.2.1, b_Ta_at.2.2, ⟨by decide, by decide⟩, rfl⟩, i_Ta_at.2⟩
theorem e_Es_worthOfWays_Ho_walkTimes : x_edgeV y_Es_worthOfWays y_Ho_walkTimes 52 0 := ⟨⟨l_Es_52, i_Ho_walkTimes.1, b_Ho_walkTimes.1, b_Ho_walkTimes.2.1, b_Ho_walkTimes.2.2, ⟨by decide, by decide⟩, rfl⟩, i_Ho_walkTimes.2⟩
theorem e_Es_worthOfWays_Es_isIn : x_edgeS y_Es_worthOfWays y_Es_isIn 87 4 := ⟨l_Es_87, i_Es_isIn, b_Es_isIn.1, b_Es_isIn.2.1, b_Es_isIn.2.2, ⟨by decide, by decide⟩, rfl⟩
theorem e_Es_isIn_Ro_at : x_edgeV y_Es_isIn y_Ro_at 113 2 := ⟨⟨l_Es_113, i_Ro_at.1, b_Ro_at.1, b_Ro_at.2.1, b_Ro_at.2.2, ⟨by decide, by decide⟩, rfl⟩, i_Ro_at.2⟩
theorem e_Es_joinRooms_Ta_size : x_edgeV y_Es_joinRooms y_Ta_size 65 0 := ⟨⟨l_Es_65, i_Ta_size.1, b_Ta_size.1, b_Ta_size.2.1, b_Ta_size.2.2, ⟨by decide, by decide⟩, rfl⟩, i_Ta_size.2⟩
theorem e_Es_joinRooms_Ta_at : x_edgeV y_Es_joinRooms y_Ta_at 70 2 := ⟨⟨l_Es_70, i_Ta_at.1, b_Ta_at.1, b_Ta_at.2.1, b_Ta_at.2.2, ⟨by decide, by decide⟩, rfl⟩, i_Ta_at.2⟩
theorem e_Es_joinRooms_Es_begin : x_edgeS y_Es_joinRooms y_Es_begin 77 2 := ⟨l_Es_77, i_Es_begin, b_Es_begin.1, b_Es_begin.2.1, b_Es_begin.2.2, ⟨by decide, by decide⟩, rfl⟩
theorem e_Es_joinRooms_Es_being : x_edgeS y_Es_joinRooms y_Es_being 84 2 := ⟨l_Es_84, i_Es_being, b_Es_being.1, b_Es_being.2.1, b_Es_being.2.2, ⟨by decide, by decide⟩, rfl⟩
theorem e_Es_joinRooms_Sm_isShut : x_edgeV y_Es_joinRooms y_Sm_isShut 91 2 := ⟨⟨l_Es_91, i_Sm_isShut.1, b_Sm_isShut.1, b_Sm_isShut.2.1, b_Sm_isShut.2.2, ⟨by decide, by decide⟩, rfl⟩, i_Sm_isShut.2⟩
theorem e_Es_joinRooms_Ne_join : x_edgeV y_Es_joinRooms y_Ne_join 118 3 := ⟨⟨l_Es_118, i_Ne_join.1, b_Ne_join.1, b_Ne_join.2.1, b_Ne_join.2.2, ⟨by decide, by decide⟩, rfl⟩, i_Ne_join.2⟩
theorem e_Es_joinWays_Ta_size : x_edgeV y_Es_joinWays y_Ta_size 65 0 := ⟨⟨l_Es_65, i_Ta_size.1, b_Ta_size.1, b_Ta_size.2.1, b_Ta_size.2.2, ⟨by decide, by decide⟩, rfl⟩, i_Ta_size.2⟩
theorem e_Es_joinWays_Ta_at : x_edgeV y_Es_joinWays y_Ta_at 70 2 := ⟨⟨l_Es_70, i_Ta_at.1, b_Ta_at.1, b_Ta_at.2.1, b_Ta_at.2.2, ⟨by decide, by decide⟩, rfl⟩, i_Ta_at.2⟩
theorem e_Es_joinWays_Es_being : x_edgeS y_Es_joinWays y_Es_being 84 2 := ⟨l_Es_84, i_Es_being, b_Es_being.1, b_Es_being.2.1, b_Es_being.2.2, ⟨by decide, by decide⟩, rfl⟩
theorem e_Es_joinWays_Es_begin : x_edgeS y_Es_joinWays y_Es_begin 77 2 := ⟨l_Es_77, i_Es_begin, b_Es_begin.1, b_Es_begin.2.1, b_Es_begin.2.2, ⟨by decide, by decide⟩, rfl⟩
theorem e_Es_joinWays_Ne_join : x_edgeV y_Es_joinWays y_Ne_join 118 3 := ⟨⟨l_Es_118, i_Ne_join.1, b_Ne_join.1, b_Ne_join.2.1, b_Ne_join.2.2, ⟨by decide, by decide⟩, rfl⟩, i_Ne_join.2⟩
theorem e_Es_joinExits_Ta_size : x_edgeV y_Es_joinExits y_Ta_size 65 0 := ⟨⟨l_Es_65, i_Ta_size.1, b_Ta_size.1, b_Ta_size.2.1, b_Ta_size.2.2, ⟨by decide, by decide⟩, rfl⟩, i_Ta_size.2⟩
theorem e_Es_joinExits_Ho_exitWidth : x_edgeV y_Es_joinExits y_Ho_exitWidth 97 2 := ⟨⟨l_Es_97, i_Ho_exitWidth.1, b_Ho_exitWidth.1, b_Ho_exitWidth.2.1, b_Ho_exitWidth.2.2, ⟨by decide, by decide⟩, rfl⟩, i_Ho_exitWidth.2⟩
theorem e_Es_joinExits_Es_being : x_edgeS y_Es_joinExits y_Es_being 84 2 := ⟨l_Es_84, i_Es_being, b_Es_being.1, b_Es_being.2.1, b_Es_being.2.2, ⟨by decide, by decide⟩, rfl⟩
theorem e_Es_joinExits_Ne_join : x_edgeV y_Es_joinExits y_Ne_join 118 3 := ⟨⟨l_Es_118, i_Ne_join.1, b_Ne_join.1, b_Ne_join.2.1, b_Ne_join.2.2, ⟨by decide, by decide⟩, rfl⟩, i_Ne_join.2⟩
theorem e_Es_joinGroups_Ta_size : x_edgeV y_Es_joinGroups y_Ta_size 65 0 := ⟨⟨l_Es_65, i_Ta_size.1, b_Ta_size.1, b_Ta_size.2.1, b_Ta_size.2.2, ⟨by decide, by decide⟩, rfl⟩, i_Ta_size.2⟩
theorem e_Es_joinGroups_Ta_at : x_edgeV y_Es_joinGroups y_Ta_at 70 2 := ⟨⟨l_Es_70, i_Ta_at.1, b_Ta_at.1, b_Ta_at.2.1, b_Ta_at.2.2, ⟨by decide, by decide⟩, rfl⟩, i_Ta_at.2⟩
theorem e_Es_joinGroups_Es_begin : x_edgeS y_Es_joinGroups y_Es_begin 77 2 := ⟨l_Es_77, i_Es_begin, b_Es_begin.1, b_Es_begin.2.1, b_Es_begin.2.2, ⟨by decide, by decide⟩, rfl⟩
theorem e_Es_joinGroups_Ne_join : x_edgeV y_Es_joinGroups y_Ne_join 118 3 := ⟨⟨l_Es_118, i_Ne_join.1, b_Ne_join.1, b_Ne_join.2.1, b_Ne_join.2.2, ⟨by decide, by decide⟩, rfl⟩, i_Ne_join.2⟩
theorem e_Ho_init_Ta_draft : x_edgeV y_Ho_init y_Ta_draft 51 6 := ⟨⟨l_Ho_51, i_Ta_draft.1, b_Ta_draft.1, b_Ta_draft.2.1, b_Ta_draft.2.2, ⟨by decide, by decide⟩, rfl⟩, i_Ta_draft.2⟩
theorem e_Ho_init_Ta_grow : x_edgeV y_Ho_init y_Ta_grow 55 0 := ⟨⟨l_Ho_55, i_Ta_grow.1, b_Ta_grow.1, b_Ta_grow.2.1, b_Ta_grow.2.2, ⟨by decide, by decide⟩, rfl⟩, i_Ta_grow.2⟩
theorem e_Ho_add_Ta_isFull : x_edgeV y_Ho_add y_Ta_isFull 58 0 := ⟨⟨l_Ho_58, i_Ta_isFull.1, b_Ta_isFull.1, b_Ta_isFull.2.1, b_Ta_isFull.2.2, ⟨by decide, by decide⟩, rfl⟩, i_Ta_isFull.2⟩
theorem e_Ho_add_Ta_draft : x_edgeV y_Ho_add y_Ta_draft 51 6 := ⟨⟨l_Ho_51, i_Ta_draft.1, b_Ta_draft.1, b_Ta_draft.2.1, b_Ta_draft.2.2, ⟨by decide, by decide⟩, rfl⟩, i_Ta_draft.2⟩
theorem e_Ho_add_Ac_adding : x_edgeV y_Ho_add y_Ac_adding 62 1 := ⟨⟨l_Ho_62, i_Ac_adding.1, b_Ac_adding.1, b_Ac_adding.2.1, b_Ac_adding.2.2, ⟨by decide, by decide⟩, rfl⟩, i_Ac_adding.2⟩
theorem e_Ho_add_Ta_size : x_edgeV y_Ho_add y_Ta_size 68 0 := ⟨⟨l_Ho_68, i_Ta_size.1, b_Ta_size.1, b_Ta_size.2.1, b_Ta_size.2.2, ⟨by decide, by decide⟩, rfl⟩, i_Ta_size.2⟩
theorem e_Ho_change_Ta_at : x_edgeV y_Ho_change y_Ta_at 72 2 := ⟨⟨l_Ho_72, i_Ta_at.1, b_Ta_at.1, b_Ta_at.2.1, b_Ta_at.2.2, ⟨by decide, by decide⟩, rfl⟩, i_Ta_at.2⟩
theorem e_Ho_change_Ac_changing : x_edgeV y_Ho_change y_Ac_changing 76 2 := ⟨⟨l_Ho_76, i_Ac_changing.1, b_Ac_changing.1, b_Ac_changing.2.1, b_Ac_changing.2.2, ⟨by decide, by decide⟩, rfl⟩, i_Ac_changing.2⟩
theorem e_Ho_change_Ta_put : x_edgeV y_Ho_change y_Ta_put 80 3 := ⟨⟨l_Ho_80, i_Ta_put.1, b_Ta_put.1, b_Ta_put.2.1, b_Ta_put.2.2, ⟨by decide, by decide⟩, rfl⟩, i_Ta_put.2⟩
theorem e_Ho_changeGauges_Ac_changing : x_edgeV y_Ho_changeGauges y_Ac_changing 76 2 := ⟨⟨l_Ho_76, i_Ac_changing.1, b_Ac_changing.1, b_Ac_changing.2.1, b_Ac_changing.2.2, ⟨by decide, by decide⟩, rfl⟩, i_Ac_changing.2⟩
theorem e_Ho_changeGauges_Ta_put : x_edgeV y_Ho_changeGauges y_Ta_put 80 3 := ⟨⟨l_Ho_80, i_Ta_put.1, b_Ta_put.1, b_Ta_put.2.1, b_Ta_put.2.2, ⟨by decide, by decide⟩, rfl⟩, i_Ta_put.2⟩
theorem e_Ho_walkTimes_Ta_at : x_edgeV y_Ho_walkTimes y_Ta_at 72 2 := ⟨⟨l_Ho_72, i_Ta_at.1, b_Ta_at.1, b_Ta_at.2.1, b_Ta_at.2.2, ⟨by decide, by decide⟩, rfl⟩, i_Ta_at.2⟩
theorem e_Ho_gives_Ta_has : x_edgeV y_Ho_gives y_Ta_has 84 1 := ⟨⟨l_Ho_84, i_Ta_has.1, b_Ta_has.1, b_Ta_has.2.1, b_Ta_has.2.2, ⟨by decide, by decide⟩, rfl⟩, i_Ta_has.2⟩
theorem e_Ho_gives_Ta_at : x_edgeV y_Ho_gives y_Ta_at 72 2 := ⟨⟨l_Ho_72, i_Ta_at.1, b_Ta_at.1, b_Ta_at.2.1, b_Ta_at.2.2, ⟨by decide, by decide⟩, rfl⟩, i_Ta_at.2⟩
theorem e_Ho_gives_JM_min : x_edgeS y_Ho_gives y_JM_min 88 2 := ⟨l_Ho_88, i_JM_min, b_JM_min.1, b_JM_min.2.1, b_JM_min.2.2, ⟨by decide, by decide⟩, rfl⟩
theorem e_Ho_otherEnd_Ta_at : x_edgeV y_Ho_otherEnd y_Ta_at 72 2 := ⟨⟨l_Ho_72, i_Ta_at.1, b_Ta_at.1, b_Ta_at.2.1, b_Ta_at.2.2, ⟨by decide, by decide⟩, rfl⟩, i_Ta_at.2⟩
theorem e_Ho_otherEnd_Ta_has : x_edgeV y_Ho_otherEnd y_Ta_has 84 1 := ⟨⟨l_Ho_84, i_Ta_has.1, b_Ta_has.1, b_Ta_has.2.1, b_Ta_has.2.2, ⟨by decide, by decide⟩, rfl⟩, i_Ta_has.2⟩
theorem e_Ho_allPeople_Ta_size : x_edgeV y_Ho_allPeople y_Ta_size 68 0 := ⟨⟨l_Ho_68, i_Ta_size.1, b_Ta_size.1, b_Ta_size.2.1, b_Ta_size.2.2, ⟨by decide, by decide⟩, rfl⟩, i_Ta_size.2⟩
theorem e_Ho_allPeople_Ta_at : x_edgeV y_Ho_allPeople y_Ta_at 72 2 := ⟨⟨l_Ho_72, i_Ta_at.1, b_Ta_at.1, b_Ta_at.2.1, b_Ta_at.2.2, ⟨by decide, by decide⟩, rfl⟩, i_Ta_at.2⟩
theorem e_Ho_madeDoors_Ta_size : x_edgeV y_Ho_madeDoors y_Ta_size 68 0 := ⟨⟨l_Ho_68, i_Ta_size.1, b_Ta_size.1, b_Ta_size.2.1, b_Ta_size.2.2, ⟨by decide, by decide⟩, rfl⟩, i_Ta_size.2⟩
theorem e_Ho_madeDoors_Ta_at : x_edgeV y_Ho_madeDoors y_Ta_at 72 2 := ⟨⟨l_Ho_72, i_Ta_at.1, b_Ta_at.1, b_Ta_at.2.1, b_Ta_at.2.2, ⟨by decide, by decide⟩, rfl⟩, i_Ta_at.2⟩
theorem e_Ho_exitWidth_Ta_at : x_edgeV y_Ho_exitWidth y_Ta_at 72 2 := ⟨⟨l_Ho_72, i_Ta_at.1, b_Ta_at.1, b_Ta_at.2.1, b_Ta_at.2.2, ⟨by decide, by decide⟩, rfl⟩, i_Ta_at.2⟩
theorem e_Ho_exitWidth_Ta_size : x_edgeV y_Ho_exitWidth y_Ta_size 68 0 := ⟨⟨l_Ho_68, i_Ta_size.1, b_Ta_size.1, b_Ta_size.2.1, b_Ta_size.2.2, ⟨by decide, by decide⟩, rfl⟩, i_Ta_size.2⟩
theorem e_Ho_doorCost_Ta_size : x_edgeV y_Ho_doorCost y_Ta_size 68 0 := ⟨⟨l_Ho_68, i_Ta_size.1, b_Ta_size.1, b_Ta_size.2.1, b_Ta_size.2.2, ⟨by decide, by decide⟩, rfl⟩, i_Ta_size.2⟩
theorem e_Ho_doorCost_Ta_at : x_edgeV y_Ho_doorCost y_Ta_at 72 2 := ⟨⟨l_Ho_72, i_Ta_at.1, b_Ta_at.1, b_Ta_at.2.1, b_Ta_at.2.2, ⟨by decide, by decide⟩, rfl⟩, i_Ta_at.2⟩
theorem e_Ne_join_Ne_addArc : x_edgeV y_Ne_join y_Ne_addArc 38 3 := ⟨⟨l_Ne_38, i_Ne_addArc.1, b_Ne_addArc.1, b_Ne_addArc.2.1, b_Ne_addArc.2.2, ⟨by decide, by decide⟩, rfl⟩, i_Ne_addArc.2⟩
theorem e_Ne_most_Ne_searchRound : x_edgeV y_Ne_most y_Ne_searchRound 43 0 := ⟨⟨l_Ne_43, i_Ne_searchRound.1, b_Ne_searchRound.1, b_Ne_searchRound.2.1, b_Ne_searchRound.2.2, ⟨by decide, by decide⟩, rfl⟩, i_Ne_searchRound.2⟩
theorem e_Ne_searchRound_Ne_nextArc : x_edgeV y_Ne_searchRound y_Ne_nextArc 47 1 := ⟨⟨l_Ne_47, i_Ne_nextArc.1, b_Ne_nextArc.1, b_Ne_nextArc.2.1, b_Ne_nextArc.2.2, ⟨by decide, by decide⟩, rfl⟩, i_Ne_nextArc.2⟩
theorem e_Ne_searchRound_Ne_leastFree : x_edgeV y_Ne_searchRound y_Ne_leastFree 51 1 := ⟨⟨l_Ne_51, i_Ne_leastFree.1, b_Ne_leastFree.1, b_Ne_leastFree.2.1, b_Ne_leastFree.2.2, ⟨by decide, by decide⟩, rfl⟩, i_Ne_leastFree.2⟩
theorem e_Ne_searchRound_Ne_send : x_edgeV y_Ne_searchRound y_Ne_send 54 2 := ⟨⟨l_Ne_54, i_Ne_send.1, b_Ne_send.1, b_Ne_send.2.1, b_Ne_send.2.2, ⟨by decide, by decide⟩, rfl⟩, i_Ne_send.2⟩
theorem e_Pe_weigh_Ho_madeDoors : x_edgeV y_Pe_weigh y_Ho_madeDoors 29 0 := ⟨⟨l_Pe_29, i_Ho_madeDoors.1, b_Ho_madeDoors.1, b_Ho_madeDoors.2.1, b_Ho_madeDoors.2.2, ⟨by decide, by decide⟩, rfl⟩, i_Ho_madeDoors.2⟩
theorem e_Pe_weigh_Ta_size : x_edgeV y_Pe_weigh y_Ta_size 39 0 := ⟨⟨l_Pe_39, i_Ta_size.1, b_Ta_size.1, b_Ta_size.2.1, b_Ta_size.2.2, ⟨by decide, by decide⟩, rfl⟩, i_Ta_size.2⟩
theorem e_Pe_weigh_Pe_choose : x_edgeV y_Pe_weigh y_Pe_choose 44 3 := ⟨⟨l_Pe_44, i_Pe_choose.1, b_Pe_choose.1, b_Pe_choose.2.1, b_Pe_choose.2.2, ⟨by decide, by decide⟩, rfl⟩, i_Pe_choose.2⟩
theorem e_Pe_doseFrom_Pe_isPlace : x_edgeS y_Pe_doseFrom y_Pe_isPlace 48 2 := ⟨l_Pe_48, i_Pe_isPlace, b_Pe_isPlace.1, b_Pe_isPlace.2.1, b_Pe_isPlace.2.2, ⟨by decide, by decide⟩, rfl⟩
theorem e_Pe_outFrom_Pe_doseFrom : x_edgeV y_Pe_outFrom y_Pe_doseFrom 56 2 := ⟨⟨l_Pe_56, i_Pe_doseFrom.1, b_Pe_doseFrom.1, b_Pe_doseFrom.2.1, b_Pe_doseFrom.2.2, ⟨by decide, by decide⟩, rfl⟩, i_Pe_doseFrom.2⟩
theorem e_Pe_whereFrom_Pe_doseFrom : x_edgeV y_Pe_whereFrom y_Pe_doseFrom 56 2 := ⟨⟨l_Pe_56, i_Pe_doseFrom.1, b_Pe_doseFrom.1, b_Pe_doseFrom.2.1, b_Pe_doseFrom.2.2, ⟨by decide, by decide⟩, rfl⟩, i_Pe_doseFrom.2⟩
theorem e_Pe_whereFrom_Pe_takes : x_edgeV y_Pe_whereFrom y_Pe_takes 59 1 := ⟨⟨l_Pe_59, i_Pe_takes.1, b_Pe_takes.1, b_Pe_takes.2.1, b_Pe_takes.2.2, ⟨by decide, by decide⟩, rfl⟩, i_Pe_takes.2⟩
theorem e_Pe_whereFrom_Ho_otherEnd : x_edgeV y_Pe_whereFrom y_Ho_otherEnd 63 2 := ⟨⟨l_Pe_63, i_Ho_otherEnd.1, b_Ho_otherEnd.1, b_Ho_otherEnd.2.1, b_Ho_otherEnd.2.2, ⟨by decide, by decide⟩, rfl⟩, i_Ho_otherEnd.2⟩
theorem e_Pe_whereFrom_Pe_isPlace : x_edgeS y_Pe_whereFrom y_Pe_isPlace 48 2 := ⟨l_Pe_48, i_Pe_isPlace, b_Pe_isPlace.1, b_Pe_isPlace.2.1, b_Pe_isPlace.2.2, ⟨by decide, by decide⟩, rfl⟩
theorem e_Pe_choose_Sm_isShut : x_edgeV y_Pe_choose y_Sm_isShut 66 2 := ⟨⟨l_Pe_66, i_Sm_isShut.1, b_Sm_isShut.1, b_Sm_isShut.2.1, b_Sm_isShut.2.2, ⟨by decide, by decide⟩, rfl⟩, i_Sm_isShut.2⟩
theorem e_Pe_choose_Ho_exitWidth : x_edgeV y_Pe_choose y_Ho_exitWidth 71 2 := ⟨⟨l_Pe_71, i_Ho_exitWidth.1, b_Ho_exitWidth.1, b_Ho_exitWidth.2.1, b_Ho_exitWidth.2.2, ⟨by decide, by decide⟩, rfl⟩, i_Ho_exitWidth.2⟩
theorem e_Pe_choose_Pe_tryDeed : x_edgeV y_Pe_choose y_Pe_tryDeed 74 4 := ⟨⟨l_Pe_74, i_Pe_tryDeed.1, b_Pe_tryDeed.1, b_Pe_tryDeed.2.1, b_Pe_tryDeed.2.2, ⟨by decide, by decide⟩, rfl⟩, i_Pe_tryDeed.2⟩
theorem e_Pe_choose_Ta_size : x_edgeV y_Pe_choose y_Ta_size 39 0 := ⟨⟨l_Pe_39, i_Ta_size.1, b_Ta_size.1, b_Ta_size.2.1, b_Ta_size.2.2, ⟨by decide, by decide⟩, rfl⟩, i_Ta_size.2⟩
theorem e_Pe_choose_Ho_otherEnd : x_edgeV y_Pe_choose y_Ho_otherEnd 63 2 := ⟨⟨l_Pe_63, i_Ho_otherEnd.1, b_Ho_otherEnd.1, b_Ho_otherEnd.2.1, b_Ho_otherEnd.2.2, ⟨by decide, by decide⟩, rfl⟩, i_Ho_otherEnd.2⟩
theorem e_Pe_choose_Pe_takes : x_edgeV y_Pe_choose y_Pe_takes 59 1 := ⟨⟨l_Pe_59, i_Pe_takes.1, b_Pe_takes.1, b_Pe_takes.2.1, b_Pe_takes.2.2, ⟨by decide, by decide⟩, rfl⟩, i_Pe_takes.2⟩
theorem e_Pe_choose_Sm_mixedIn : x_edgeV y_Pe_choose y_Sm_mixedIn 81 2 := ⟨⟨l_Pe_81, i_Sm_mixedIn.1, b_Sm_mixedIn.1, b_Sm_mixedIn.2.1, b_Sm_mixedIn.2.2, ⟨by decide, by decide⟩, rfl⟩, i_Sm_mixedIn.2⟩
theorem e_Pe_tryDeed_Pe_isPlace : x_edgeS y_Pe_tryDeed y_Pe_isPlace 48 2 := ⟨l_Pe_48, i_Pe_isPlace, b_Pe_isPlace.1, b_Pe_isPlace.2.1, b_Pe_isPlace.2.2, ⟨by decide, by decide⟩, rfl⟩
theorem e_Pe_takes_Ta_at : x_edgeV y_Pe_takes y_Ta_at 84 2 := ⟨⟨l_Pe_84, i_Ta_at.1, b_Ta_at.1, b_Ta_at.2.1, b_Ta_at.2.2, ⟨by decide, by decide⟩, rfl⟩, i_Ta_at.2⟩
theorem e_Pe_takes_Ho_walkTimes : x_edgeV y_Pe_takes y_Ho_walkTimes 87 0 := ⟨⟨l_Pe_87, i_Ho_walkTimes.1, b_Ho_walkTimes.1, b_Ho_walkTimes.2.1, b_Ho_walkTimes.2.2, ⟨by decide, by decide⟩, rfl⟩, i_Ho_walkTimes.2⟩
theorem e_Ro_start_JM_min : x_edgeS y_Ro_start y_JM_min 26 2 := ⟨l_Ro_26, i_JM_min, b_JM_min.1, b_JM_min.2.1, b_JM_min.2.2, ⟨by decide, by decide⟩, rfl⟩
theorem e_Ro_start_JM_max : x_edgeS y_Ro_start y_JM_max 32 2 := ⟨l_Ro_32, i_JM_max, b_JM_max.1, b_JM_max.2.1, b_JM_max.2.2, ⟨by decide, by decide⟩, rfl⟩
theorem e_Ro_at_Ro_lengthOf : x_edgeV y_Ro_at y_Ro_lengthOf 35 1 := ⟨⟨l_Ro_35, i_Ro_lengthOf.1, b_Ro_lengthOf.1, b_Ro_lengthOf.2.1, b_Ro_lengthOf.2.2, ⟨by decide, by decide⟩, rfl⟩, i_Ro_lengthOf.2⟩
theorem e_Ro_put_Ro_lengthOf : x_edgeV y_Ro_put y_Ro_lengthOf 35 1 := ⟨⟨l_Ro_35, i_Ro_lengthOf.1, b_Ro_lengthOf.1, b_Ro_lengthOf.2.1, b_Ro_lengthOf.2.2, ⟨by decide, by decide⟩, rfl⟩, i_Ro_lengthOf.2⟩
theorem e_Ro_put_Ro_cut : x_edgeS y_Ro_put y_Ro_cut 39 2 := ⟨l_Ro_39, i_Ro_cut, b_Ro_cut.1, b_Ro_cut.2.1, b_Ro_cut.2.2, ⟨by decide, by decide⟩, rfl⟩
theorem e_Sm_follow_Ac_version : x_edgeV y_Sm_follow y_Ac_version 54 0 := ⟨⟨l_Sm_54, i_Ac_version.1, b_Ac_version.1, b_Ac_version.2.1, b_Ac_version.2.2, ⟨by decide, by decide⟩, rfl⟩, i_Ac_version.2⟩
theorem e_Sm_follow_Sm_clear : x_edgeV y_Sm_follow y_Sm_clear 72 0 := ⟨⟨l_Sm_72, i_Sm_clear.1, b_Sm_clear.1, b_Sm_clear.2.1, b_Sm_clear.2.2, ⟨by decide, by decide⟩, rfl⟩, i_Sm_clear.2⟩
theorem e_Sm_follow_Sm_turnFans : x_edgeV y_Sm_follow y_Sm_turnFans 75 3 := ⟨⟨l_Sm_75, i_Sm_turnFans.1, b_Sm_turnFans.1, b_Sm_turnFans.2.1, b_Sm_turnFans.2.2, ⟨by decide, by decide⟩, rfl⟩, i_Sm_turnFans.2⟩
theorem e_Sm_follow_Sm_loseFans : x_edgeV y_Sm_follow y_Sm_loseFans 79 1 := ⟨⟨l_Sm_79, i_Sm_loseFans.1, b_Sm_loseFans.1, b_Sm_loseFans.2.1, b_Sm_loseFans.2.2, ⟨by decide, by decide⟩, rfl⟩, i_Sm_loseFans.2⟩
theorem e_Sm_follow_Sm_driveAir : x_edgeV y_Sm_follow y_Sm_driveAir 83 1 := ⟨⟨l_Sm_83, i_Sm_driveAir.1, b_Sm_driveAir.1, b_Sm_driveAir.2.1, b_Sm_driveAir.2.2, ⟨by decide, by decide⟩, rfl⟩, i_Sm_driveAir.2⟩
theorem e_Sm_follow_Ta_at : x_edgeV y_Sm_follow y_Ta_at 92 2 := ⟨⟨l_Sm_92, i_Ta_at.1, b_Ta_at.1, b_Ta_at.2.1, b_Ta_at.2.2, ⟨by decide, by decide⟩, rfl⟩, i_Ta_at.2⟩
theorem e_Sm_follow_Ho_gives : x_edgeV y_Sm_follow y_Ho_gives 98 2 := ⟨⟨l_Sm_98, i_Ho_gives.1, b_Ho_gives.1, b_Ho_gives.2.1, b_Ho_gives.2.2, ⟨by decide, by decide⟩, rfl⟩, i_Ho_gives.2⟩
theorem e_Sm_follow_Sm_step : x_edgeV y_Sm_follow y_Sm_step 101 3 := ⟨⟨l_Sm_101, i_Sm_step.1, b_Sm_step.1, b_Sm_step.2.1, b_Sm_step.2.2, ⟨by decide, by decide⟩, rfl⟩, i_Sm_step.2⟩
theorem e_Sm_isShut_Sm_mixedIn : x_edgeV y_Sm_isShut y_Sm_mixedIn 104 2 := ⟨⟨l_Sm_104, i_Sm_mixedIn.1, b_Sm_mixedIn.1, b_Sm_mixedIn.2.1, b_Sm_mixedIn.2.2, ⟨by decide, by decide⟩, rfl⟩, i_Sm_mixedIn.2⟩
theorem e_Sm_isShut_Ta_at : x_edgeV y_Sm_isShut y_Ta_at 92 2 := ⟨⟨l_Sm_92, i_Ta_at.1, b_Ta_at.1, b_Ta_at.2.1, b_Ta_at.2.2, ⟨by decide, by decide⟩, rfl⟩, i_Ta_at.2⟩
theorem e_Sm_isMarked_Sm_aboveIn : x_edgeV y_Sm_isMarked y_Sm_aboveIn 110 2 := ⟨⟨l_Sm_110, i_Sm_aboveIn.1, b_Sm_aboveIn.1, b_Sm_aboveIn.2.1, b_Sm_aboveIn.2.2, ⟨by decide, by decide⟩, rfl⟩, i_Sm_aboveIn.2⟩
theorem e_Sm_isMarked_Sm_mixedIn : x_edgeV y_Sm_isMarked y_Sm_mixedIn 104 2 := ⟨⟨l_Sm_104, i_Sm_mixedIn.1, b_Sm_mixedIn.1, b_Sm_mixedIn.2.1, b_Sm_mixedIn.2.2, ⟨by decide, by decide⟩, rfl⟩, i_Sm_mixedIn.2⟩
theorem e_Sm_isMarked_Ta_at : x_edgeV y_Sm_isMarked y_Ta_at 92 2 := ⟨⟨l_Sm_92, i_Ta_at.1, b_Ta_at.1, b_Ta_at.2.1, b_Ta_at.2.2, ⟨by decide, by decide⟩, rfl⟩, i_Ta_at.2⟩
theorem e_Sm_total_Ta_size : x_edgeV y_Sm_total y_Ta_size 116 0 := ⟨⟨l_Sm_116, i_Ta_size.1, b_Ta_size.1, b_Ta_size.2.1, b_Ta_size.2.2, ⟨by decide, by decide⟩, rfl⟩, i_Ta_size.2⟩
theorem e_Sm_total_Sm_aboveIn : x_edgeV y_Sm_total y_Sm_aboveIn 110 2 := ⟨⟨l_Sm_110, i_Sm_aboveIn.1, b_Sm_aboveIn.1, b_Sm_aboveIn.2.1, b_Sm_aboveIn.2.2, ⟨by decide, by decide⟩, rfl⟩, i_Sm_aboveIn.2⟩
theorem e_Sm_total_Sm_mixedIn : x_edgeV y_Sm_total y_Sm_mixedIn 104 2 := ⟨⟨l_Sm_104, i_Sm_mixedIn.1, b_Sm_mixedIn.1, b_Sm_mixedIn.2.1, b_Sm_mixedIn.2.2, ⟨by decide, by decide⟩, rfl⟩, i_Sm_mixedIn.2⟩
theorem e_Sm_clear_JA_fill : x_edgeS y_Sm_clear y_JA_fill 119 2 := ⟨l_Sm_119, i_JA_fill, b_JA_fill.1, b_JA_fill.2.1, b_JA_fill.2.2, ⟨by decide, by decide⟩, rfl⟩
theorem e_Sm_turnFans_JA_fill : x_edgeS y_Sm_turnFans y_JA_fill 119 2 := ⟨l_Sm_119, i_JA_fill, b_JA_fill.1, b_JA_fill.2.1, b_JA_fill.2.2, ⟨by decide, by decide⟩, rfl⟩
theorem e_Sm_turnFans_Ta_size : x_edgeV y_Sm_turnFans y_Ta_size 116 0 := ⟨⟨l_Sm_116, i_Ta_size.1, b_Ta_size.1, b_Ta_size.2.1, b_Ta_size.2.2, ⟨by decide, by decide⟩, rfl⟩, i_Ta_size.2⟩
theorem e_Sm_turnFans_Ta_at : x_edgeV y_Sm_turnFans y_Ta_at 92 2 := ⟨⟨l_Sm_92, i_Ta_at.1, b_Ta_at.1, b_Ta_at.2.1, b_Ta_at.2.2, ⟨by decide, by decide⟩, rfl⟩, i_Ta_at.2⟩
theorem e_Sm_turnFans_Ta_has : x_edgeV y_Sm_turnFans y_Ta_has 131 1 := ⟨⟨l_Sm_131, i_Ta_has.1, b_Ta_has.1, b_Ta_has.2.1, b_Ta_has.2.2, ⟨by decide, by decide⟩, rfl⟩, i_Ta_has.2⟩
theorem e_Sm_loseFans_Ta_size : x_edgeV y_Sm_loseFans y_Ta_size 116 0 := ⟨⟨l_Sm_116, i_Ta_size.1, b_Ta_size.1, b_Ta_size.2.1, b_Ta_size.2.2, ⟨by decide, by decide⟩, rfl⟩, i_Ta_size.2⟩
theorem e_Sm_loseFans_Sm_isTooMuch : x_edgeV y_Sm_loseFans y_Sm_isTooMuch 135 2 := ⟨⟨l_Sm_135, i_Sm_isTooMuch.1, b_Sm_isTooMuch.1, b_Sm_isTooMuch.2.1, b_Sm_isTooMuch.2.2, ⟨by decide, by decide⟩, rfl⟩, i_Sm_isTooMuch.2⟩
theorem e_Sm_isTooMuch_Ta_at : x_edgeV y_Sm_isTooMuch y_Ta_at 92 2 := ⟨⟨l_Sm_92, i_Ta_at.1, b_Ta_at.1, b_Ta_at.2.1, b_Ta_at.2.2, ⟨by decide, by decide⟩, rfl⟩, i_Ta_at.2⟩
theorem e_Sm_isTooMuch_Ta_size : x_edgeV y_Sm_isTooMuch y_Ta_size 116 0 := ⟨⟨l_Sm_116, i_Ta_size.1, b_Ta_size.1, b_Ta_size.2.1, b_Ta_size.2.2, ⟨by decide, by decide⟩, rfl⟩, i_Ta_size.2⟩
theorem e_Sm_isTooMuch_Sm_aboveIn : x_edgeV y_Sm_isTooMuch y_Sm_aboveIn 110 2 := ⟨⟨l_Sm_110, i_Sm_aboveIn.1, b_Sm_aboveIn.1, b_Sm_aboveIn.2.1, b_Sm_aboveIn.2.2, ⟨by decide, by decide⟩, rfl⟩, i_Sm_aboveIn.2⟩
theorem e_Sm_driveAir_Ta_size : x_edgeV y_Sm_driveAir y_Ta_size 116 0 := ⟨⟨l_Sm_116, i_Ta_size.1, b_Ta_size.1, b_Ta_size.2.1, b_Ta_size.2.2, ⟨by decide, by decide⟩, rfl⟩, i_Ta_size.2⟩
theorem e_Sm_driveAir_Ta_at : x_edgeV y_Sm_driveAir y_Ta_at 92 2 := ⟨⟨l_Sm_92, i_Ta_at.1, b_Ta_at.1, b_Ta_at.2.1, b_Ta_at.2.2, ⟨by decide, by decide⟩, rfl⟩, i_Ta_at.2⟩
theorem e_Sm_driveAir_Ta_has : x_edgeV y_Sm_driveAir y_Ta_has 131 1 := ⟨⟨l_Sm_131, i_Ta_has.1, b_Ta_has.1, b_Ta_has.2.1, b_Ta_has.2.2, ⟨by decide, by decide⟩, rfl⟩, i_Ta_has.2⟩
theorem e_Sm_driveAir_JM_min : x_edgeS y_Sm_driveAir y_JM_min 142 2 := ⟨l_Sm_142, i_JM_min, b_JM_min.1, b_JM_min.2.1, b_JM_min.2.2, ⟨by decide, by decide⟩, rfl⟩
theorem e_Sm_driveAir_JM_max : x_edgeS y_Sm_driveAir y_JM_max 147 2 := ⟨l_Sm_147, i_JM_max, b_JM_max.1, b_JM_max.2.1, b_JM_max.2.2, ⟨by decide, by decide⟩, rfl⟩
theorem e_Sm_step_Sm_begin : x_edgeV y_Sm_step y_Sm_begin 150 3 := ⟨⟨l_Sm_150, i_Sm_begin.1, b_Sm_begin.1, b_Sm_begin.2.1, b_Sm_begin.2.2, ⟨by decide, by decide⟩, rfl⟩, i_Sm_begin.2⟩
theorem e_Sm_step_Ta_size : x_edgeV y_Sm_step y_Ta_size 116 0 := ⟨⟨l_Sm_116, i_Ta_size.1, b_Ta_size.1, b_Ta_size.2.1, b_Ta_size.2.2, ⟨by decide, by decide⟩, rfl⟩, i_Ta_size.2⟩
theorem e_Sm_step_Ta_at : x_edgeV y_Sm_step y_Ta_at 92 2 := ⟨⟨l_Sm_92, i_Ta_at.1, b_Ta_at.1, b_Ta_at.2.1, b_Ta_at.2.2, ⟨by decide, by decide⟩, rfl⟩, i_Ta_at.2⟩
theorem e_Sm_step_Ta_has : x_edgeV y_Sm_step y_Ta_has 131 1 := ⟨⟨l_Sm_131, i_Ta_has.1, b_Ta_has.1, b_Ta_has.2.1, b_Ta_has.2.2, ⟨by decide, by decide⟩, rfl⟩, i_Ta_has.2⟩
theorem e_Sm_step_Sm_carry : x_edgeV y_Sm_step y_Sm_carry 153 4 := ⟨⟨l_Sm_153, i_Sm_carry.1, b_Sm_carry.1, b_Sm_carry.2.1, b_Sm_carry.2.2, ⟨by decide, by decide⟩, rfl⟩, i_Sm_carry.2⟩
theorem e_Sm_step_Sm_settle : x_edgeV y_Sm_step y_Sm_settle 157 2 := ⟨⟨l_Sm_157, i_Sm_settle.1, b_Sm_settle.1, b_Sm_settle.2.1, b_Sm_settle.2.2, ⟨by decide, by decide⟩, rfl⟩, i_Sm_settle.2⟩
theorem e_Sm_step_Sm_wash : x_edgeV y_Sm_step y_Sm_wash 161 2 := ⟨⟨l_Sm_161, i_Sm_wash.1, b_Sm_wash.1, b_Sm_wash.2.1, b_Sm_wash.2.2, ⟨by decide, by decide⟩, rfl⟩, i_Sm_wash.2⟩
theorem e_Sm_begin_Ta_size : x_edgeV y_Sm_begin y_Ta_size 116 0 := ⟨⟨l_Sm_116, i_Ta_size.1, b_Ta_size.1, b_Ta_size.2.1, b_Ta_size.2.2, ⟨by decide, by decide⟩, rfl⟩, i_Ta_size.2⟩
theorem e_Sm_begin_Sm_aboveIn : x_edgeV y_Sm_begin y_Sm_aboveIn 110 2 := ⟨⟨l_Sm_110, i_Sm_aboveIn.1, b_Sm_aboveIn.1, b_Sm_aboveIn.2.1, b_Sm_aboveIn.2.2, ⟨by decide, by decide⟩, rfl⟩, i_Sm_aboveIn.2⟩
theorem e_Sm_begin_Sm_mixedIn : x_edgeV y_Sm_begin y_Sm_mixedIn 104 2 := ⟨⟨l_Sm_104, i_Sm_mixedIn.1, b_Sm_mixedIn.1, b_Sm_mixedIn.2.1, b_Sm_mixedIn.2.2, ⟨by decide, by decide⟩, rfl⟩, i_Sm_mixedIn.2⟩
theorem e_Sm_carry_JM_min : x_edgeS y_Sm_carry y_JM_min 142 2 := ⟨l_Sm_142, i_JM_min, b_JM_min.1, b_JM_min.2.1, b_JM_min.2.2, ⟨by decide, by decide⟩, rfl⟩
theorem e_Sm_carry_Sm_mixedIn : x_edgeV y_Sm_carry y_Sm_mixedIn 104 2 := ⟨⟨l_Sm_104, i_Sm_mixedIn.1, b_Sm_mixedIn.1, b_Sm_mixedIn.2.1, b_Sm_mixedIn.2.2, ⟨by decide, by decide⟩, rfl⟩, i_Sm_mixedIn.2⟩
theorem e_Sm_settle_Ta_at : x_edgeV y_Sm_settle y_Ta_at 92 2 := ⟨⟨l_Sm_92, i_Ta_at.1, b_Ta_at.1, b_Ta_at.2.1, b_Ta_at.2.2, ⟨by decide, by decide⟩, rfl⟩, i_Ta_at.2⟩
theorem e_Sm_settle_JM_min : x_edgeS y_Sm_settle y_JM_min 142 2 := ⟨l_Sm_142, i_JM_min, b_JM_min.1, b_JM_min.2.1, b_JM_min.2.2, ⟨by decide, by decide⟩, rfl⟩
theorem e_Sm_settle_Sm_mixedIn : x_edgeV y_Sm_settle y_Sm_mixedIn 104 2 := ⟨⟨l_Sm_104, i_Sm_mixedIn.1, b_Sm_mixedIn.1, b_Sm_mixedIn.2.1, b_Sm_mixedIn.2.2, ⟨by decide, by decide⟩, rfl⟩, i_Sm_mixedIn.2⟩
theorem e_Sm_wash_Sm_mixedIn : x_edgeV y_Sm_wash y_Sm_mixedIn 104 2 := ⟨⟨l_Sm_104, i_Sm_mixedIn.1, b_Sm_mixedIn.1, b_Sm_mixedIn.2.1, b_Sm_mixedIn.2.2, ⟨by decide, by decide⟩, rfl⟩, i_Sm_mixedIn.2⟩
theorem e_Ta_init_JM_max : x_edgeS y_Ta_init y_JM_max 7 2 := ⟨l_Ta_7, i_JM_max, b_JM_max.1, b_JM_max.2.1, b_JM_max.2.2, ⟨by decide, by decide⟩, rfl⟩
theorem e_Ta_draft_Ta_put : x_edgeV y_Ta_draft y_Ta_put 26 3 := ⟨⟨l_Ta_26, i_Ta_put.1, b_Ta_put.1, b_Ta_put.2.1, b_Ta_put.2.2, ⟨by decide, by decide⟩, rfl⟩, i_Ta_put.2⟩
theorem e_Tu_outBy_Ac_version : x_edgeV y_Tu_outBy y_Ac_version 41 0 := ⟨⟨l_Tu_41, i_Ac_version.1, b_Ac_version.1, b_Ac_version.2.1, b_Ac_version.2.2, ⟨by decide, by decide⟩, rfl⟩, i_Ac_version.2⟩
theorem e_Tu_outBy_Sm_follow : x_edgeV y_Tu_outBy y_Sm_follow 47 4 := ⟨⟨l_Tu_47, i_Sm_follow.1, b_Sm_follow.1, b_Sm_follow.2.1, b_Sm_follow.2.2, ⟨by decide, by decide⟩, rfl⟩, i_Sm_follow.2⟩
theorem e_Tu_outBy_Ho_walkTimes : x_edgeV y_Tu_outBy y_Ho_walkTimes 53 0 := ⟨⟨l_Tu_53, i_Ho_walkTimes.1, b_Ho_walkTimes.1, b_Ho_walkTimes.2.1, b_Ho_walkTimes.2.2, ⟨by decide, by decide⟩, rfl⟩, i_Ho_walkTimes.2⟩
theorem e_Tu_outBy_Ho_madeDoors : x_edgeV y_Tu_outBy y_Ho_madeDoors 58 0 := ⟨⟨l_Tu_58, i_Ho_madeDoors.1, b_Ho_madeDoors.1, b_Ho_madeDoors.2.1, b_Ho_madeDoors.2.2, ⟨by decide, by decide⟩, rfl⟩, i_Ho_madeDoors.2⟩
theorem e_Tu_outBy_Es_most : x_edgeV y_Tu_outBy y_Es_most 61 3 := ⟨⟨l_Tu_61, i_Es_most.1, b_Es_most.1, b_Es_most.2.1, b_Es_most.2.2, ⟨by decide, by decide⟩, rfl⟩, i_Es_most.2⟩
theorem e_Tu_regretOf_Tu_outBy : x_edgeV y_Tu_regretOf y_Tu_outBy 67 5 := ⟨⟨l_Tu_67, i_Tu_outBy.1, b_Tu_outBy.1, b_Tu_outBy.2.1, b_Tu_outBy.2.2, ⟨by decide, by decide⟩, rfl⟩, i_Tu_outBy.2⟩
theorem e_Tu_regretOf_JM_max : x_edgeS y_Tu_regretOf y_JM_max 71 2 := ⟨l_Tu_71, i_JM_max, b_JM_max.1, b_JM_max.2.1, b_JM_max.2.2, ⟨by decide, by decide⟩, rfl⟩
theorem e_Tu_weigh_Ta_size : x_edgeV y_Tu_weigh y_Ta_size 81 0 := ⟨⟨l_Tu_81, i_Ta_size.1, b_Ta_size.1, b_Ta_size.2.1, b_Ta_size.2.2, ⟨by decide, by decide⟩, rfl⟩, i_Ta_size.2⟩
theorem e_Tu_weigh_Tu_regretOf : x_edgeV y_Tu_weigh y_Tu_regretOf 86 5 := ⟨⟨l_Tu_86, i_Tu_regretOf.1, b_Tu_regretOf.1, b_Tu_regretOf.2.1, b_Tu_regretOf.2.2, ⟨by decide, by decide⟩, rfl⟩, i_Tu_regretOf.2⟩
theorem e_Tu_planFor_Tu_greatestRegret : x_edgeV y_Tu_planFor y_Tu_greatestRegret 89 3 := ⟨⟨l_Tu_89, i_Tu_greatestRegret.1, b_Tu_greatestRegret.1, b_Tu_greatestRegret.2.1, b_Tu_greatestRegret.2.2, ⟨by decide, by decide⟩, rfl⟩, i_Tu_greatestRegret.2⟩
theorem e_Tu_regretOfTurn_Ta_size : x_edgeV y_Tu_regretOfTurn y_Ta_size 81 0 := ⟨⟨l_Tu_81, i_Ta_size.1, b_Ta_size.1, b_Ta_size.2.1, b_Ta_size.2.2, ⟨by decide, by decide⟩, rfl⟩, i_Ta_size.2⟩
theorem e_Tu_regretOfTurn_Tu_planFor : x_edgeV y_Tu_regretOfTurn y_Tu_planFor 93 2 := ⟨⟨l_Tu_93, i_Tu_planFor.1, b_Tu_planFor.1, b_Tu_planFor.2.1, b_Tu_planFor.2.2, ⟨by decide, by decide⟩, rfl⟩, i_Tu_planFor.2⟩
theorem e_Tu_regretOfTurn_JM_max : x_edgeS y_Tu_regretOfTurn y_JM_max 71 2 := ⟨l_Tu_71, i_JM_max, b_JM_max.1, b_JM_max.2.1, b_JM_max.2.2, ⟨by decide, by decide⟩, rfl⟩
theorem e_Tu_fewestDoors_Ho_madeDoors : x_edgeV y_Tu_fewestDoors y_Ho_madeDoors 58 0 := ⟨⟨l_Tu_58, i_Ho_madeDoors.1, b_Ho_madeDoors.1, b_Ho_madeDoors.2.1, b_Ho_madeDoors.2.2, ⟨by decide, by decide⟩, rfl⟩, i_Ho_madeDoors.2⟩
theorem e_Tu_fewestDoors_Ta_size : x_edgeV y_Tu_fewestDoors y_Ta_size 81 0 := ⟨⟨l_Tu_81, i_Ta_size.1, b_Ta_size.1, b_Ta_size.2.1, b_Ta_size.2.2, ⟨by decide, by decide⟩, rfl⟩, i_Ta_size.2⟩
theorem e_Tu_fewestDoors_Tu_isBetter : x_edgeV y_Tu_fewestDoors y_Tu_isBetter 99 2 := ⟨⟨l_Tu_99, i_Tu_isBetter.1, b_Tu_isBetter.1, b_Tu_isBetter.2.1, b_Tu_isBetter.2.2, ⟨by decide, by decide⟩, rfl⟩, i_Tu_isBetter.2⟩
theorem e_Tu_fewestDoors_Tu_areAllOut : x_edgeV y_Tu_fewestDoors y_Tu_areAllOut 103 4 := ⟨⟨l_Tu_103, i_Tu_areAllOut.1, b_Tu_areAllOut.1, b_Tu_areAllOut.2.1, b_Tu_areAllOut.2.2, ⟨by decide, by decide⟩, rfl⟩, i_Tu_areAllOut.2⟩
theorem e_Tu_greatestRegret_Ta_size : x_edgeV y_Tu_greatestRegret y_Ta_size 81 0 := ⟨⟨l_Tu_81, i_Ta_size.1, b_Ta_size.1, b_Ta_size.2.1, b_Ta_size.2.2, ⟨by decide, by decide⟩, rfl⟩, i_Ta_size.2⟩
theorem e_Tu_greatestRegret_Wa_sameTold : x_edgeV y_Tu_greatestRegret y_Wa_sameTold 107 3 := ⟨⟨l_Tu_107, i_Wa_sameTold.1, b_Wa_sameTold.1, b_Wa_sameTold.2.1, b_Wa_sameTold.2.2, ⟨by decide, by decide⟩, rfl⟩, i_Wa_sameTold.2⟩
theorem e_Tu_greatestRegret_JM_max : x_edgeS y_Tu_greatestRegret y_JM_max 71 2 := ⟨l_Tu_71, i_JM_max, b_JM_max.1, b_JM_max.2.1, b_JM_max.2.2, ⟨by decide, by decide⟩, rfl⟩
theorem e_Tu_isBetter_JI_bitCount : x_edgeS y_Tu_isBetter y_JI_bitCount 113 1 := ⟨l_Tu_113, i_JI_bitCount, b_JI_bitCount.1, b_JI_bitCount.2.1, b_JI_bitCount.2.2, ⟨by decide, by decide⟩, rfl⟩
theorem e_Tu_isBetter_JI_compare : x_edgeS y_Tu_isBetter y_JI_compare 119 2 := ⟨l_Tu_119, i_JI_compare, b_JI_compare.1, b_JI_compare.2.1, b_JI_compare.2.2, ⟨by decide, by decide⟩, rfl⟩
theorem e_Tu_isBetter_Ho_doorCost : x_edgeV y_Tu_isBetter y_Ho_doorCost 122 1 := ⟨⟨l_Tu_122, i_Ho_doorCost.1, b_Ho_doorCost.1, b_Ho_doorCost.2.1, b_Ho_doorCost.2.2, ⟨by decide, by decide⟩, rfl⟩, i_Ho_doorCost.2⟩
theorem e_Tu_areAllOut_Ho_allPeople : x_edgeV y_Tu_areAllOut y_Ho_allPeople 125 0 := ⟨⟨l_Tu_125, i_Ho_allPeople.1, b_Ho_allPeople.1, b_Ho_allPeople.2.1, b_Ho_allPeople.2.2, ⟨by decide, by decide⟩, rfl⟩, i_Ho_allPeople.2⟩
theorem e_Tu_areAllOut_Sm_follow : x_edgeV y_Tu_areAllOut y_Sm_follow 47 4 := ⟨⟨l_Tu_47, i_Sm_follow.1, b_Sm_follow.1, b_Sm_follow.2.1, b_Sm_follow.2.2, ⟨by decide, by decide⟩, rfl⟩, i_Sm_follow.2⟩
theorem e_Tu_areAllOut_Ho_walkTimes : x_edgeV y_Tu_areAllOut y_Ho_walkTimes 53 0 := ⟨⟨l_Tu_53, i_Ho_walkTimes.1, b_Ho_walkTimes.1, b_Ho_walkTimes.2.1, b_Ho_walkTimes.2.2, ⟨by decide, by decide⟩, rfl⟩, i_Ho_walkTimes.2⟩
theorem e_Tu_areAllOut_Es_most : x_edgeV y_Tu_areAllOut y_Es_most 61 3 := ⟨⟨l_Tu_61, i_Es_most.1, b_Es_most.1, b_Es_most.2.1, b_Es_most.2.2, ⟨by decide, by decide⟩, rfl⟩, i_Es_most.2⟩
theorem e_Wa_look_Ta_size : x_edgeV y_Wa_look y_Ta_size 29 0 := ⟨⟨l_Wa_29, i_Ta_size.1, b_Ta_size.1, b_Ta_size.2.1, b_Ta_size.2.2, ⟨by decide, by decide⟩, rfl⟩, i_Ta_size.2⟩
theorem e_Wa_look_Sm_follow : x_edgeV y_Wa_look y_Sm_follow 35 4 := ⟨⟨l_Wa_35, i_Sm_follow.1, b_Sm_follow.1, b_Sm_follow.2.1, b_Sm_follow.2.2, ⟨by decide, by decide⟩, rfl⟩, i_Sm_follow.2⟩
theorem e_Wa_look_Wa_keep : x_edgeV y_Wa_look y_Wa_keep 41 1 := ⟨⟨l_Wa_41, i_Wa_keep.1, b_Wa_keep.1, b_Wa_keep.2.1, b_Wa_keep.2.2, ⟨by decide, by decide⟩, rfl⟩, i_Wa_keep.2⟩
theorem e_Wa_sameTold_Ta_at : x_edgeV y_Wa_sameTold y_Ta_at 48 2 := ⟨⟨l_Wa_48, i_Ta_at.1, b_Ta_at.1, b_Ta_at.2.1, b_Ta_at.2.2, ⟨by decide, by decide⟩, rfl⟩, i_Ta_at.2⟩
theorem e_Wa_sameTold_JM_min : x_edgeS y_Wa_sameTold y_JM_min 52 2 := ⟨l_Wa_52, i_JM_min, b_JM_min.1, b_JM_min.2.1, b_JM_min.2.2, ⟨by decide, by decide⟩, rfl⟩
theorem e_Wa_sameTold_Wa_markedAt : x_edgeV y_Wa_sameTold y_Wa_markedAt 57 2 := ⟨⟨l_Wa_57, i_Wa_markedAt.1, b_Wa_markedAt.1, b_Wa_markedAt.2.1, b_Wa_markedAt.2.2, ⟨by decide, by decide⟩, rfl⟩, i_Wa_markedAt.2⟩
theorem e_Wa_fitting_Ta_size : x_edgeV y_Wa_fitting y_Ta_size 29 0 := ⟨⟨l_Wa_29, i_Ta_size.1, b_Ta_size.1, b_Ta_size.2.1, b_Ta_size.2.2, ⟨by decide, by decide⟩, rfl⟩, i_Ta_size.2⟩
theorem e_Wa_fitting_Wa_fitsAll : x_edgeV y_Wa_fitting y_Wa_fitsAll 60 1 := ⟨⟨l_Wa_60, i_Wa_fitsAll.1, b_Wa_fitsAll.1, b_Wa_fitsAll.2.1, b_Wa_fitsAll.2.2, ⟨by decide, by decide⟩, rfl⟩, i_Wa_fitsAll.2⟩
theorem e_Wa_asked_Wa_fitting : x_edgeV y_Wa_asked y_Wa_fitting 64 0 := ⟨⟨l_Wa_64, i_Wa_fitting.1, b_Wa_fitting.1, b_Wa_fitting.2.1, b_Wa_fitting.2.2, ⟨by decide, by decide⟩, rfl⟩, i_Wa_fitting.2⟩
theorem e_Wa_asked_JI_bitCount : x_edgeS y_Wa_asked y_JI_bitCount 67 1 := ⟨l_Wa_67, i_JI_bitCount, b_JI_bitCount.1, b_JI_bitCount.2.1, b_JI_bitCount.2.2, ⟨by decide, by decide⟩, rfl⟩
theorem e_Wa_asked_Ta_size : x_edgeV y_Wa_asked y_Ta_size 29 0 := ⟨⟨l_Wa_29, i_Ta_size.1, b_Ta_size.1, b_Ta_size.2.1, b_Ta_size.2.2, ⟨by decide, by decide⟩, rfl⟩, i_Ta_size.2⟩
theorem e_Wa_asked_Wa_countMarked : x_edgeV y_Wa_asked y_Wa_countMarked 76 3 := ⟨⟨l_Wa_76, i_Wa_countMarked.1, b_Wa_countMarked.1, b_Wa_countMarked.2.1, b_Wa_countMarked.2.2, ⟨by decide, by decide⟩, rfl⟩, i_Wa_countMarked.2⟩
theorem e_Wa_asked_JM_max : x_edgeS y_Wa_asked y_JM_max 80 2 := ⟨l_Wa_80, i_JM_max, b_JM_max.1, b_JM_max.2.1, b_JM_max.2.2, ⟨by decide, by decide⟩, rfl⟩
theorem e_Wa_asked_Ta_at : x_edgeV y_Wa_asked y_Ta_at 48 2 := ⟨⟨l_Wa_48, i_Ta_at.1, b_Ta_at.1, b_Ta_at.2.1, b_Ta_at.2.2, ⟨by decide, by decide⟩, rfl⟩, i_Ta_at.2⟩
theorem e_Wa_keep_Ta_size : x_edgeV y_Wa_keep y_Ta_size 29 0 := ⟨⟨l_Wa_29, i_Ta_size.1, b_Ta_size.1, b_Ta_size.2.1, b_Ta_size.2.2, ⟨by decide, by decide⟩, rfl⟩, i_Ta_size.2⟩
theorem e_Wa_keep_Sm_isMarked : x_edgeV y_Wa_keep y_Sm_isMarked 83 2 := ⟨⟨l_Wa_83, i_Sm_isMarked.1, b_Sm_isMarked.1, b_Sm_isMarked.2.1, b_Sm_isMarked.2.2, ⟨by decide, by decide⟩, rfl⟩, i_Sm_isMarked.2⟩
theorem e_Wa_fitsAll_Ta_size : x_edgeV y_Wa_fitsAll y_Ta_size 29 0 := ⟨⟨l_Wa_29, i_Ta_size.1, b_Ta_size.1, b_Ta_size.2.1, b_Ta_size.2.2, ⟨by decide, by decide⟩, rfl⟩, i_Ta_size.2⟩
theorem e_Wa_fitsAll_Ta_at : x_edgeV y_Wa_fitsAll y_Ta_at 48 2 := ⟨⟨l_Wa_48, i_Ta_at.1, b_Ta_at.1, b_Ta_at.2.1, b_Ta_at.2.2, ⟨by decide, by decide⟩, rfl⟩, i_Ta_at.2⟩
theorem e_Wa_fitsAll_Wa_markedAt : x_edgeV y_Wa_fitsAll y_Wa_markedAt 57 2 := ⟨⟨l_Wa_57, i_Wa_markedAt.1, b_Wa_markedAt.1, b_Wa_markedAt.2.1, b_Wa_markedAt.2.2, ⟨by decide, by decide⟩, rfl⟩, i_Wa_markedAt.2⟩
theorem e_F_piece_F_needWithin : x_edgeS y_F_piece y_F_needWithin 80 3 := ⟨l_F_80, i_F_needWithin, b_F_needWithin.1, b_F_needWithin.2.1, b_F_needWithin.2.2, ⟨by decide, by decide⟩, rfl⟩
theorem e_F_piece_Ho_add : x_edgeV y_F_piece y_Ho_add 88 7 := ⟨⟨l_F_88, i_Ho_add.1, b_Ho_add.1, b_Ho_add.2.1, b_Ho_add.2.2, ⟨by decide, by decide⟩, rfl⟩, i_Ho_add.2⟩
theorem e_F_way_F_needRow : x_edgeS y_F_way y_F_needRow 92 2 := ⟨l_F_92, i_F_needRow, b_F_needRow.1, b_F_needRow.2.1, b_F_needRow.2.2, ⟨by decide, by decide⟩, rfl⟩
theorem e_F_way_F_needWithin : x_edgeS y_F_way y_F_needWithin 80 3 := ⟨l_F_80, i_F_needWithin, b_F_needWithin.1, b_F_needWithin.2.1, b_F_needWithin.2.2, ⟨by decide, by decide⟩, rfl⟩
theorem e_F_way_Ho_add : x_edgeV y_F_way y_Ho_add 88 7 := ⟨⟨l_F_88, i_Ho_add.1, b_Ho_add.1, b_Ho_add.2.1, b_Ho_add.2.2, ⟨by decide, by decide⟩, rfl⟩, i_Ho_add.2⟩
theorem e_F_water_F_needRow : x_edgeS y_F_water y_F_needRow 92 2 := ⟨l_F_92, i_F_needRow, b_F_needRow.1, b_F_needRow.2.1, b_F_needRow.2.2, ⟨by decide, by decide⟩, rfl⟩
theorem e_F_water_F_needWithin : x_edgeS y_F_water y_F_needWithin 80 3 := ⟨l_F_80, i_F_needWithin, b_F_needWithin.1, b_F_needWithin.2.1, b_F_needWithin.2.2, ⟨by decide, by decide⟩, rfl⟩
theorem e_F_water_Ho_change : x_edgeV y_F_water y_Ho_change 106 4 := ⟨⟨l_F_106, i_Ho_change.1, b_Ho_change.1, b_Ho_change.2.1, b_Ho_change.2.2, ⟨by decide, by decide⟩, rfl⟩, i_Ho_change.2⟩
theorem e_F_fire_F_needRow : x_edgeS y_F_fire y_F_needRow 92 2 := ⟨l_F_92, i_F_needRow, b_F_needRow.1, b_F_needRow.2.1, b_F_needRow.2.2, ⟨by decide, by decide⟩, rfl⟩
theorem e_F_fire_F_needMinute : x_edgeS y_F_fire y_F_needMinute 110 1 := ⟨l_F_110, i_F_needMinute, b_F_needMinute.1, b_F_needMinute.2.1, b_F_needMinute.2.2, ⟨by decide, by decide⟩, rfl⟩
theorem e_F_fire_F_needWithin : x_edgeS y_F_fire y_F_needWithin 80 3 := ⟨l_F_80, i_F_needWithin, b_F_needWithin.1, b_F_needWithin.2.1, b_F_needWithin.2.2, ⟨by decide, by decide⟩, rfl⟩
theorem e_F_fire_Ho_add : x_edgeV y_F_fire y_Ho_add 88 7 := ⟨⟨l_F_88, i_Ho_add.1, b_Ho_add.1, b_Ho_add.2.1, b_Ho_add.2.2, ⟨by decide, by decide⟩, rfl⟩, i_Ho_add.2⟩
theorem e_F_fan_F_needRow : x_edgeS y_F_fan y_F_needRow 92 2 := ⟨l_F_92, i_F_needRow, b_F_needRow.1, b_F_needRow.2.1, b_F_needRow.2.2, ⟨by decide, by decide⟩, rfl⟩
theorem e_F_fan_F_needWithin : x_edgeS y_F_fan y_F_needWithin 80 3 := ⟨l_F_80, i_F_needWithin, b_F_needWithin.1, b_F_needWithin.2.1, b_F_needWithin.2.2, ⟨by decide, by decide⟩, rfl⟩
theorem e_F_fan_F_needPieceSet : x_edgeV y_F_fan y_F_needPieceSet 119 1 := ⟨⟨l_F_119, i_F_needPieceSet.1, b_F_needPieceSet.1, b_F_needPieceSet.2.1, b_F_needPieceSet.2.2, ⟨by decide, by decide⟩, rfl⟩, i_F_needPieceSet.2⟩
theorem e_F_fan_Ho_add : x_edgeV y_F_fan y_Ho_add 88 7 := ⟨⟨l_F_88, i_Ho_add.1, b_Ho_add.1, b_Ho_add.2.1, b_Ho_add.2.2, ⟨by decide, by decide⟩, rfl⟩, i_Ho_add.2⟩
theorem e_F_set_F_needRow : x_edgeS y_F_set y_F_needRow 92 2 := ⟨l_F_92, i_F_needRow, b_F_needRow.1, b_F_needRow.2.1, b_F_needRow.2.2, ⟨by decide, by decide⟩, rfl⟩
theorem e_F_set_F_needPlan : x_edgeS y_F_set y_F_needPlan 125 1 := ⟨l_F_125, i_F_needPlan, b_F_needPlan.1, b_F_needPlan.2.1, b_F_needPlan.2.2, ⟨by decide, by decide⟩, rfl⟩
theorem e_F_set_F_needMinute : x_edgeS y_F_set y_F_needMinute 110 1 := ⟨l_F_110, i_F_needMinute, b_F_needMinute.1, b_F_needMinute.2.1, b_F_needMinute.2.2, ⟨by decide, by decide⟩, rfl⟩
theorem e_F_set_F_needWithin : x_edgeS y_F_set y_F_needWithin 80 3 := ⟨l_F_80, i_F_needWithin, b_F_needWithin.1, b_F_needWithin.2.1, b_F_needWithin.2.2, ⟨by decide, by decide⟩, rfl⟩
theorem e_F_set_Ho_add : x_edgeV y_F_set y_Ho_add 88 7 := ⟨⟨l_F_88, i_Ho_add.1, b_Ho_add.1, b_Ho_add.2.1, b_Ho_add.2.2, ⟨by decide, by decide⟩, rfl⟩, i_Ho_add.2⟩
theorem e_F_eyes_F_needWithin : x_edgeS y_F_eyes y_F_needWithin 80 3 := ⟨l_F_80, i_F_needWithin, b_F_needWithin.1, b_F_needWithin.2.1, b_F_needWithin.2.2, ⟨by decide, by decide⟩, rfl⟩
theorem e_F_eyes_Ho_change : x_edgeV y_F_eyes y_Ho_change 106 4 := ⟨⟨l_F_106, i_Ho_change.1, b_Ho_change.1, b_Ho_change.2.1, b_Ho_change.2.2, ⟨by decide, by decide⟩, rfl⟩, i_Ho_change.2⟩
theorem e_F_group_F_needRow : x_edgeS y_F_group y_F_needRow 92 2 := ⟨l_F_92, i_F_needRow, b_F_needRow.1, b_F_needRow.2.1, b_F_needRow.2.2, ⟨by decide, by decide⟩, rfl⟩
theorem e_F_group_F_needWithin : x_edgeS y_F_group y_F_needWithin 80 3 := ⟨l_F_80, i_F_needWithin, b_F_needWithin.1, b_F_needWithin.2.1, b_F_needWithin.2.2, ⟨by decide, by decide⟩, rfl⟩
theorem e_F_group_F_needMinute : x_edgeS y_F_group y_F_needMinute 110 1 := ⟨l_F_110, i_F_needMinute, b_F_needMinute.1, b_F_needMinute.2.1, b_F_needMinute.2.2, ⟨by decide, by decide⟩, rfl⟩
theorem e_F_group_Ho_add : x_edgeV y_F_group y_Ho_add 88 7 := ⟨⟨l_F_88, i_Ho_add.1, b_Ho_add.1, b_Ho_add.2.1, b_Ho_add.2.2, ⟨by decide, by decide⟩, rfl⟩, i_Ho_add.2⟩
theorem e_F_walk_F_needWithin : x_edgeS y_F_walk y_F_needWithin 80 3 := ⟨l_F_80, i_F_needWithin, b_F_needWithin.1, b_F_needWithin.2.1, b_F_needWithin.2.2, ⟨by decide, by decide⟩, rfl⟩
theorem e_F_walk_Ho_change : x_edgeV y_F_walk y_Ho_change 106 4 := ⟨⟨l_F_106, i_Ho_change.1, b_Ho_change.1, b_Ho_change.2.1, b_Ho_change.2.2, ⟨by decide, by decide⟩, rfl⟩, i_Ho_change.2⟩
theorem e_F_door_F_needRow : x_edgeS y_F_door y_F_needRow 92 2 := ⟨l_F_92, i_F_needRow, b_F_needRow.1, b_F_needRow.2.1, b_F_needRow.2.2, ⟨by decide, by decide⟩, rfl⟩
theorem e_F_door_F_needWithin : x_edgeS y_F_door y_F_needWithin 80 3 := ⟨l_F_80, i_F_needWithin, b_F_needWithin.1, b_F_needWithin.2.1, b_F_needWithin.2.2, ⟨by decide, by decide⟩, rfl⟩
theorem e_F_door_Ho_add : x_edgeV y_F_door y_Ho_add 88 7 := ⟨⟨l_F_88, i_Ho_add.1, b_Ho_add.1, b_Ho_add.2.1, b_Ho_add.2.2, ⟨by decide, by decide⟩, rfl⟩, i_Ho_add.2⟩
theorem e_F_make_F_needRow : x_edgeS y_F_make y_F_needRow 92 2 := ⟨l_F_92, i_F_needRow, b_F_needRow.1, b_F_needRow.2.1, b_F_needRow.2.2, ⟨by decide, by decide⟩, rfl⟩
theorem e_F_make_Ho_change : x_edgeV y_F_make y_Ho_change 106 4 := ⟨⟨l_F_106, i_Ho_change.1, b_Ho_change.1, b_Ho_change.2.1, b_Ho_change.2.2, ⟨by decide, by decide⟩, rfl⟩, i_Ho_change.2⟩
theorem e_F_gauges_F_needPieceSet : x_edgeV y_F_gauges y_F_needPieceSet 119 1 := ⟨⟨l_F_119, i_F_needPieceSet.1, b_F_needPieceSet.1, b_F_needPieceSet.2.1, b_F_needPieceSet.2.2, ⟨by decide, by decide⟩, rfl⟩, i_F_needPieceSet.2⟩
theorem e_F_gauges_F_needWithin : x_edgeS y_F_gauges y_F_needWithin 80 3 := ⟨l_F_80, i_F_needWithin, b_F_needWithin.1, b_F_needWithin.2.1, b_F_needWithin.2.2, ⟨by decide, by decide⟩, rfl⟩
theorem e_F_gauges_Ho_changeGauges : x_edgeV y_F_gauges y_Ho_changeGauges 140 3 := ⟨⟨l_F_140, i_Ho_changeGauges.1, b_Ho_changeGauges.1, b_Ho_changeGauges.2.1, b_Ho_changeGauges.2.2, ⟨by decide, by decide⟩, rfl⟩, i_Ho_changeGauges.2⟩
theorem e_F_air_F_needFireOrNone : x_edgeV y_F_air y_F_needFireOrNone 143 1 := ⟨⟨l_F_143, i_F_needFireOrNone.1, b_F_needFireOrNone.1, b_F_needFireOrNone.2.1, b_F_needFireOrNone.2.2, ⟨by decide, by decide⟩, rfl⟩, i_F_needFireOrNone.2⟩
theorem e_F_air_F_needRow : x_edgeS y_F_air y_F_needRow 92 2 := ⟨l_F_92, i_F_needRow, b_F_needRow.1, b_F_needRow.2.1, b_F_needRow.2.2, ⟨by decide, by decide⟩, rfl⟩
theorem e_F_air_F_needCourse : x_edgeS y_F_air y_F_needCourse 146 3 := ⟨l_F_146, i_F_needCourse, b_F_needCourse.1, b_F_needCourse.2.1, b_F_needCourse.2.2, ⟨by decide, by decide⟩, rfl⟩
theorem e_F_air_F_needMinute : x_edgeS y_F_air y_F_needMinute 110 1 := ⟨l_F_110, i_F_needMinute, b_F_needMinute.1, b_F_needMinute.2.1, b_F_needMinute.2.2, ⟨by decide, by decide⟩, rfl⟩
theorem e_F_air_Sm_follow : x_edgeV y_F_air y_Sm_follow 149 4 := ⟨⟨l_F_149, i_Sm_follow.1, b_Sm_follow.1, b_Sm_follow.2.1, b_Sm_follow.2.2, ⟨by decide, by decide⟩, rfl⟩, i_Sm_follow.2⟩
theorem e_F_air_Sm_airOf : x_edgeV y_F_air y_Sm_airOf 153 2 := ⟨⟨l_F_153, i_Sm_airOf.1, b_Sm_airOf.1, b_Sm_airOf.2.1, b_Sm_airOf.2.2, ⟨by decide, by decide⟩, rfl⟩, i_Sm_airOf.2⟩
theorem e_F_smoke_F_needFireOrNone : x_edgeV y_F_smoke y_F_needFireOrNone 143 1 := ⟨⟨l_F_143, i_F_needFireOrNone.1, b_F_needFireOrNone.1, b_F_needFireOrNone.2.1, b_F_needFireOrNone.2.2, ⟨by decide, by decide⟩, rfl⟩, i_F_needFireOrNone.2⟩
theorem e_F_smoke_F_needRow : x_edgeS y_F_smoke y_F_needRow 92 2 := ⟨l_F_92, i_F_needRow, b_F_needRow.1, b_F_needRow.2.1, b_F_needRow.2.2, ⟨by decide, by decide⟩, rfl⟩
theorem e_F_smoke_F_needCourse : x_edgeS y_F_smoke y_F_needCourse 146 3 := ⟨l_F_146, i_F_needCourse, b_F_needCourse.1, b_F_needCourse.2.1, b_F_needCourse.2.2, ⟨by decide, by decide⟩, rfl⟩
theorem e_F_smoke_F_needMinute : x_edgeS y_F_smoke y_F_needMinute 110 1 := ⟨l_F_110, i_F_needMinute, b_F_needMinute.1, b_F_needMinute.2.1, b_F_needMinute.2.2, ⟨by decide, by decide⟩, rfl⟩
theorem e_F_smoke_Sm_follow : x_edgeV y_F_smoke y_Sm_follow 149 4 := ⟨⟨l_F_149, i_Sm_follow.1, b_Sm_follow.1, b_Sm_follow.2.1, b_Sm_follow.2.2, ⟨by decide, by decide⟩, rfl⟩, i_Sm_follow.2⟩
theorem e_F_smoke_Sm_aboveIn : x_edgeV y_F_smoke y_Sm_aboveIn 157 2 := ⟨⟨l_F_157, i_Sm_aboveIn.1, b_Sm_aboveIn.1, b_Sm_aboveIn.2.1, b_Sm_aboveIn.2.2, ⟨by decide, by decide⟩, rfl⟩, i_Sm_aboveIn.2⟩
theorem e_F_smoke_Sm_mixedIn : x_edgeV y_F_smoke y_Sm_mixedIn 160 2 := ⟨⟨l_F_160, i_Sm_mixedIn.1, b_Sm_mixedIn.1, b_Sm_mixedIn.2.1, b_Sm_mixedIn.2.2, ⟨by decide, by decide⟩, rfl⟩, i_Sm_mixedIn.2⟩
theorem e_F_given_F_needFireOrNone : x_edgeV y_F_given y_F_needFireOrNone 143 1 := ⟨⟨l_F_143, i_F_needFireOrNone.1, b_F_needFireOrNone.1, b_F_needFireOrNone.2.1, b_F_needFireOrNone.2.2, ⟨by decide, by decide⟩, rfl⟩, i_F_needFireOrNone.2⟩
theorem e_F_given_F_needCourse : x_edgeS y_F_given y_F_needCourse 146 3 := ⟨l_F_146, i_F_needCourse, b_F_needCourse.1, b_F_needCourse.2.1, b_F_needCourse.2.2, ⟨by decide, by decide⟩, rfl⟩
theorem e_F_given_F_needMinute : x_edgeS y_F_given y_F_needMinute 110 1 := ⟨l_F_110, i_F_needMinute, b_F_needMinute.1, b_F_needMinute.2.1, b_F_needMinute.2.2, ⟨by decide, by decide⟩, rfl⟩
theorem e_F_given_F_needWithin : x_edgeS y_F_given y_F_needWithin 80 3 := ⟨l_F_80, i_F_needWithin, b_F_needWithin.1, b_F_needWithin.2.1, b_F_needWithin.2.2, ⟨by decide, by decide⟩, rfl⟩
theorem e_F_given_Sm_follow : x_edgeV y_F_given y_Sm_follow 149 4 := ⟨⟨l_F_149, i_Sm_follow.1, b_Sm_follow.1, b_Sm_follow.2.1, b_Sm_follow.2.2, ⟨by decide, by decide⟩, rfl⟩, i_Sm_follow.2⟩
theorem e_F_given_Sm_total : x_edgeV y_F_given y_Sm_total 163 2 := ⟨⟨l_F_163, i_Sm_total.1, b_Sm_total.1, b_Sm_total.2.1, b_Sm_total.2.2, ⟨by decide, by decide⟩, rfl⟩, i_Sm_total.2⟩
theorem e_F_lost_F_needFireOrNone : x_edgeV y_F_lost y_F_needFireOrNone 143 1 := ⟨⟨l_F_143, i_F_needFireOrNone.1, b_F_needFireOrNone.1, b_F_needFireOrNone.2.1, b_F_needFireOrNone.2.2, ⟨by decide, by decide⟩, rfl⟩, i_F_needFireOrNone.2⟩
theorem e_F_lost_F_needRow : x_edgeS y_F_lost y_F_needRow 92 2 := ⟨l_F_92, i_F_needRow, b_F_needRow.1, b_F_needRow.2.1, b_F_needRow.2.2, ⟨by decide, by decide⟩, rfl⟩
theorem e_F_lost_F_needCourse : x_edgeS y_F_lost y_F_needCourse 146 3 := ⟨l_F_146, i_F_needCourse, b_F_needCourse.1, b_F_needCourse.2.1, b_F_needCourse.2.2, ⟨by decide, by decide⟩, rfl⟩
theorem e_F_lost_Sm_follow : x_edgeV y_F_lost y_Sm_follow 149 4 := ⟨⟨l_F_149, i_Sm_follow.1, b_Sm_follow.1, b_Sm_follow.2.1, b_Sm_follow.2.2, ⟨by decide, by decide⟩, rfl⟩, i_Sm_follow.2⟩
theorem e_F_lost_Sm_lostFrom : x_edgeV y_F_lost y_Sm_lostFrom 166 1 := ⟨⟨l_F_166, i_Sm_lostFrom.1, b_Sm_lostFrom.1, b_Sm_lostFrom.2.1, b_Sm_lostFrom.2.2, ⟨by decide, by decide⟩, rfl⟩, i_Sm_lostFrom.2⟩
theorem e_F_shut_F_needFireOrNone : x_edgeV y_F_shut y_F_needFireOrNone 143 1 := ⟨⟨l_F_143, i_F_needFireOrNone.1, b_F_needFireOrNone.1, b_F_needFireOrNone.2.1, b_F_needFireOrNone.2.2, ⟨by decide, by decide⟩, rfl⟩, i_F_needFireOrNone.2⟩
theorem e_F_shut_F_needRow : x_edgeS y_F_shut y_F_needRow 92 2 := ⟨l_F_92, i_F_needRow, b_F_needRow.1, b_F_needRow.2.1, b_F_needRow.2.2, ⟨by decide, by decide⟩, rfl⟩
theorem e_F_shut_F_needCourse : x_edgeS y_F_shut y_F_needCourse 146 3 := ⟨l_F_146, i_F_needCourse, b_F_needCourse.1, b_F_needCourse.2.1, b_F_needCourse.2.2, ⟨by decide, by decide⟩, rfl⟩
theorem e_F_shut_F_needMinute : x_edgeS y_F_shut y_F_needMinute 110 1 := ⟨l_F_110, i_F_needMinute, b_F_needMinute.1, b_F_needMinute.2.1, b_F_needMinute.2.2, ⟨by decide, by decide⟩, rfl⟩
theorem e_F_shut_Sm_follow : x_edgeV y_F_shut y_Sm_follow 149 4 := ⟨⟨l_F_149, i_Sm_follow.1, b_Sm_follow.1, b_Sm_follow.2.1, b_Sm_follow.2.2, ⟨by decide, by decide⟩, rfl⟩, i_Sm_follow.2⟩
theorem e_F_shut_Sm_isShut : x_edgeV y_F_shut y_Sm_isShut 170 2 := ⟨⟨l_F_170, i_Sm_isShut.1, b_Sm_isShut.1, b_Sm_isShut.2.1, b_Sm_isShut.2.2, ⟨by decide, by decide⟩, rfl⟩, i_Sm_isShut.2⟩
theorem e_F_out_F_needFireOrNone : x_edgeV y_F_out y_F_needFireOrNone 143 1 := ⟨⟨l_F_143, i_F_needFireOrNone.1, b_F_needFireOrNone.1, b_F_needFireOrNone.2.1, b_F_needFireOrNone.2.2, ⟨by decide, by decide⟩, rfl⟩, i_F_needFireOrNone.2⟩
theorem e_F_out_F_needCourse : x_edgeS y_F_out y_F_needCourse 146 3 := ⟨l_F_146, i_F_needCourse, b_F_needCourse.1, b_F_needCourse.2.1, b_F_needCourse.2.2, ⟨by decide, by decide⟩, rfl⟩
theorem e_F_out_F_needMinute : x_edgeS y_F_out y_F_needMinute 110 1 := ⟨l_F_110, i_F_needMinute, b_F_needMinute.1, b_F_needMinute.2.1, b_F_needMinute.2.2, ⟨by decide, by decide⟩, rfl⟩
theorem e_F_out_Tu_outBy : x_edgeV y_F_out y_Tu_outBy 174 5 := ⟨⟨l_F_174, i_Tu_outBy.1, b_Tu_outBy.1, b_Tu_outBy.2.1, b_Tu_outBy.2.2, ⟨by decide, by decide⟩, rfl⟩, i_Tu_outBy.2⟩
theorem e_F_all_F_needFireOrNone : x_edgeV y_F_all y_F_needFireOrNone 143 1 := ⟨⟨l_F_143, i_F_needFireOrNone.1, b_F_needFireOrNone.1, b_F_needFireOrNone.2.1, b_F_needFireOrNone.2.2, ⟨by decide, by decide⟩, rfl⟩, i_F_needFireOrNone.2⟩
theorem e_F_all_F_needCourse : x_edgeS y_F_all y_F_needCourse 146 3 := ⟨l_F_146, i_F_needCourse, b_F_needCourse.1, b_F_needCourse.2.1, b_F_needCourse.2.2, ⟨by decide, by decide⟩, rfl⟩
theorem e_F_all_Sm_follow : x_edgeV y_F_all y_Sm_follow 149 4 := ⟨⟨l_F_149, i_Sm_follow.1, b_Sm_follow.1, b_Sm_follow.2.1, b_Sm_follow.2.2, ⟨by decide, by decide⟩, rfl⟩, i_Sm_follow.2⟩
theorem e_F_all_Es_firstForAll : x_edgeV y_F_all y_Es_firstForAll 178 0 := ⟨⟨l_F_178, i_Es_firstForAll.1, b_Es_firstForAll.1, b_Es_firstForAll.2.1, b_Es_firstForAll.2.2, ⟨by decide, by decide⟩, rfl⟩, i_Es_firstForAll.2⟩
theorem e_F_side_F_needFireOrNone : x_edgeV y_F_side y_F_needFireOrNone 143 1 := ⟨⟨l_F_143, i_F_needFireOrNone.1, b_F_needFireOrNone.1, b_F_needFireOrNone.2.1, b_F_needFireOrNone.2.2, ⟨by decide, by decide⟩, rfl⟩, i_F_needFireOrNone.2⟩
theorem e_F_side_F_needCourse : x_edgeS y_F_side y_F_needCourse 146 3 := ⟨l_F_146, i_F_needCourse, b_F_needCourse.1, b_F_needCourse.2.1, b_F_needCourse.2.2, ⟨by decide, by decide⟩, rfl⟩
theorem e_F_side_F_needMinute : x_edgeS y_F_side y_F_needMinute 110 1 := ⟨l_F_110, i_F_needMinute, b_F_needMinute.1, b_F_needMinute.2.1, b_F_needMinute.2.2, ⟨by decide, by decide⟩, rfl⟩
theorem e_F_side_F_needWithin : x_edgeS y_F_side y_F_needWithin 80 3 := ⟨l_F_80, i_F_needWithin, b_F_needWithin.1, b_F_needWithin.2.1, b_F_needWithin.2.2, ⟨by decide, by decide⟩, rfl⟩
theorem e_F_side_Sm_follow : x_edgeV y_F_side y_Sm_follow 149 4 := ⟨⟨l_F_149, i_Sm_follow.1, b_Sm_follow.1, b_Sm_follow.2.1, b_Sm_follow.2.2, ⟨by decide, by decide⟩, rfl⟩, i_Sm_follow.2⟩
theorem e_F_side_Ho_walkTimes : x_edgeV y_F_side y_Ho_walkTimes 182 0 := ⟨⟨l_F_182, i_Ho_walkTimes.1, b_Ho_walkTimes.1, b_Ho_walkTimes.2.1, b_Ho_walkTimes.2.2, ⟨by decide, by decide⟩, rfl⟩, i_Ho_walkTimes.2⟩
theorem e_F_side_Ho_madeDoors : x_edgeV y_F_side y_Ho_madeDoors 185 0 := ⟨⟨l_F_185, i_Ho_madeDoors.1, b_Ho_madeDoors.1, b_Ho_madeDoors.2.1, b_Ho_madeDoors.2.2, ⟨by decide, by decide⟩, rfl⟩, i_Ho_madeDoors.2⟩
theorem e_F_side_Es_most : x_edgeV y_F_side y_Es_most 188 3 := ⟨⟨l_F_188, i_Es_most.1, b_Es_most.1, b_Es_most.2.1, b_Es_most.2.2, ⟨by decide, by decide⟩, rfl⟩, i_Es_most.2⟩
theorem e_F_side_Es_sideAt : x_edgeV y_F_side y_Es_sideAt 192 1 := ⟨⟨l_F_192, i_Es_sideAt.1, b_Es_sideAt.1, b_Es_sideAt.2.1, b_Es_sideAt.2.2, ⟨by decide, by decide⟩, rfl⟩, i_Es_sideAt.2⟩
theorem e_F_worth_F_needFireOrNone : x_edgeV y_F_worth y_F_needFireOrNone 143 1 := ⟨⟨l_F_143, i_F_needFireOrNone.1, b_F_needFireOrNone.1, b_F_needFireOrNone.2.1, b_F_needFireOrNone.2.2, ⟨by decide, by decide⟩, rfl⟩, i_F_needFireOrNone.2⟩
theorem e_F_worth_F_needRowNumber : x_edgeS y_F_worth y_F_needRowNumber 195 1 := ⟨l_F_195, i_F_needRowNumber, b_F_needRowNumber.1, b_F_needRowNumber.2.1, b_F_needRowNumber.2.2, ⟨by decide, by decide⟩, rfl⟩
theorem e_F_worth_F_needCourse : x_edgeS y_F_worth y_F_needCourse 146 3 := ⟨l_F_146, i_F_needCourse, b_F_needCourse.1, b_F_needCourse.2.1, b_F_needCourse.2.2, ⟨by decide, by decide⟩, rfl⟩
theorem e_F_worth_F_needMinute : x_edgeS y_F_worth y_F_needMinute 110 1 := ⟨l_F_110, i_F_needMinute, b_F_needMinute.1, b_F_needMinute.2.1, b_F_needMinute.2.2, ⟨by decide, by decide⟩, rfl⟩
theorem e_F_worth_F_needPlaces : x_edgeV y_F_worth y_F_needPlaces 198 2 := ⟨⟨l_F_198, i_F_needPlaces.1, b_F_needPlaces.1, b_F_needPlaces.2.1, b_F_needPlaces.2.2, ⟨by decide, by decide⟩, rfl⟩, i_F_needPlaces.2⟩
theorem e_F_worth_Sm_follow : x_edgeV y_F_worth y_Sm_follow 149 4 := ⟨⟨l_F_149, i_Sm_follow.1, b_Sm_follow.1, b_Sm_follow.2.1, b_Sm_follow.2.2, ⟨by decide, by decide⟩, rfl⟩, i_Sm_follow.2⟩
theorem e_F_worth_Es_worthOf : x_edgeV y_F_worth y_Es_worthOf 202 3 := ⟨⟨l_F_202, i_Es_worthOf.1, b_Es_worthOf.1, b_Es_worthOf.2.1, b_Es_worthOf.2.2, ⟨by decide, by decide⟩, rfl⟩, i_Es_worthOf.2⟩
theorem e_F_fewest_F_needPlan : x_edgeS y_F_fewest y_F_needPlan 125 1 := ⟨l_F_125, i_F_needPlan, b_F_needPlan.1, b_F_needPlan.2.1, b_F_needPlan.2.2, ⟨by decide, by decide⟩, rfl⟩
theorem e_F_fewest_F_needMinute : x_edgeS y_F_fewest y_F_needMinute 110 1 := ⟨l_F_110, i_F_needMinute, b_F_needMinute.1, b_F_needMinute.2.1, b_F_needMinute.2.2, ⟨by decide, by decide⟩, rfl⟩
theorem e_F_fewest_Ta_size : x_edgeV y_F_fewest y_Ta_size 206 0 := ⟨⟨l_F_206, i_Ta_size.1, b_Ta_size.1, b_Ta_size.2.1, b_Ta_size.2.2, ⟨by decide, by decide⟩, rfl⟩, i_Ta_size.2⟩
theorem e_F_fewest_Tu_fewestDoors : x_edgeV y_F_fewest y_Tu_fewestDoors 213 3 := ⟨⟨l_F_213, i_Tu_fewestDoors.1, b_Tu_fewestDoors.1, b_Tu_fewestDoors.2.1, b_Tu_fewestDoors.2.2, ⟨by decide, by decide⟩, rfl⟩, i_Tu_fewestDoors.2⟩
theorem e_F_alike_F_needFireOrNone : x_edgeV y_F_alike y_F_needFireOrNone 143 1 := ⟨⟨l_F_143, i_F_needFireOrNone.1, b_F_needFireOrNone.1, b_F_needFireOrNone.2.1, b_F_needFireOrNone.2.2, ⟨by decide, by decide⟩, rfl⟩, i_F_needFireOrNone.2⟩
theorem e_F_alike_F_needPlan : x_edgeS y_F_alike y_F_needPlan 125 1 := ⟨l_F_125, i_F_needPlan, b_F_needPlan.1, b_F_needPlan.2.1, b_F_needPlan.2.2, ⟨by decide, by decide⟩, rfl⟩
theorem e_F_alike_F_needMinute : x_edgeS y_F_alike y_F_needMinute 110 1 := ⟨l_F_110, i_F_needMinute, b_F_needMinute.1, b_F_needMinute.2.1, b_F_needMinute.2.2, ⟨by decide, by decide⟩, rfl⟩
theorem e_F_alike_Wa_look : x_edgeV y_F_alike y_Wa_look 216 1 := ⟨⟨l_F_216, i_Wa_look.1, b_Wa_look.1, b_Wa_look.2.1, b_Wa_look.2.2, ⟨by decide, by decide⟩, rfl⟩, i_Wa_look.2⟩
theorem e_F_alike_Wa_sameTold : x_edgeV y_F_alike y_Wa_sameTold 219 3 := ⟨⟨l_F_219, i_Wa_sameTold.1, b_Wa_sameTold.1, b_Wa_sameTold.2.1, b_Wa_sameTold.2.2, ⟨by decide, by decide⟩, rfl⟩, i_Wa_sameTold.2⟩
theorem e_F_regret_F_needFireOrNone : x_edgeV y_F_regret y_F_needFireOrNone 143 1 := ⟨⟨l_F_143, i_F_needFireOrNone.1, b_F_needFireOrNone.1, b_F_needFireOrNone.2.1, b_F_needFireOrNone.2.2, ⟨by decide, by decide⟩, rfl⟩, i_F_needFireOrNone.2⟩
theorem e_F_regret_F_needCourse : x_edgeS y_F_regret y_F_needCourse 146 3 := ⟨l_F_146, i_F_needCourse, b_F_needCourse.1, b_F_needCourse.2.1, b_F_needCourse.2.2, ⟨by decide, by decide⟩, rfl⟩
theorem e_F_regret_F_needMinute : x_edgeS y_F_regret y_F_needMinute 110 1 := ⟨l_F_110, i_F_needMinute, b_F_needMinute.1, b_F_needMinute.2.1, b_F_needMinute.2.2, ⟨by decide, by decide⟩, rfl⟩
theorem e_F_regret_Tu_regretOf : x_edgeV y_F_regret y_Tu_regretOf 223 5 := ⟨⟨l_F_223, i_Tu_regretOf.1, b_Tu_regretOf.1, b_Tu_regretOf.2.1, b_Tu_regretOf.2.2, ⟨by decide, by decide⟩, rfl⟩, i_Tu_regretOf.2⟩
theorem e_F_turn_F_needSomeFire : x_edgeV y_F_turn y_F_needSomeFire 226 0 := ⟨⟨l_F_226, i_F_needSomeFire.1, b_F_needSomeFire.1, b_F_needSomeFire.2.1, b_F_needSomeFire.2.2, ⟨by decide, by decide⟩, rfl⟩, i_F_needSomeFire.2⟩
theorem e_F_turn_F_needPlan : x_edgeS y_F_turn y_F_needPlan 125 1 := ⟨l_F_125, i_F_needPlan, b_F_needPlan.1, b_F_needPlan.2.1, b_F_needPlan.2.2, ⟨by decide, by decide⟩, rfl⟩
theorem e_F_turn_F_needWithin : x_edgeS y_F_turn y_F_needWithin 80 3 := ⟨l_F_80, i_F_needWithin, b_F_needWithin.1, b_F_needWithin.2.1, b_F_needWithin.2.2, ⟨by decide, by decide⟩, rfl⟩
theorem e_F_turn_F_needMinute : x_edgeS y_F_turn y_F_needMinute 110 1 := ⟨l_F_110, i_F_needMinute, b_F_needMinute.1, b_F_needMinute.2.1, b_F_needMinute.2.2, ⟨by decide, by decide⟩, rfl⟩
theorem e_F_turn_Wa_look : x_edgeV y_F_turn y_Wa_look 216 1 := ⟨⟨l_F_216, i_Wa_look.1, b_Wa_look.1, b_Wa_look.2.1, b_Wa_look.2.2, ⟨by decide, by decide⟩, rfl⟩, i_Wa_look.2⟩
theorem e_F_turn_Tu_weigh : x_edgeV y_F_turn y_Tu_weigh 229 3 := ⟨⟨l_F_229, i_Tu_weigh.1, b_Tu_weigh.1, b_Tu_weigh.2.1, b_Tu_weigh.2.2, ⟨by decide, by decide⟩, rfl⟩, i_Tu_weigh.2⟩
theorem e_F_turn_Tu_regretOfTurn : x_edgeV y_F_turn y_Tu_regretOfTurn 232 1 := ⟨⟨l_F_232, i_Tu_regretOfTurn.1, b_Tu_regretOfTurn.1, b_Tu_regretOfTurn.2.1, b_Tu_regretOfTurn.2.2, ⟨by decide, by decide⟩, rfl⟩, i_Tu_regretOfTurn.2⟩
theorem e_F_turnTo_F_needRow : x_edgeS y_F_turnTo y_F_needRow 92 2 := ⟨l_F_92, i_F_needRow, b_F_needRow.1, b_F_needRow.2.1, b_F_needRow.2.2, ⟨by decide, by decide⟩, rfl⟩
theorem e_F_turnTo_F_needPlan : x_edgeS y_F_turnTo y_F_needPlan 125 1 := ⟨l_F_125, i_F_needPlan, b_F_needPlan.1, b_F_needPlan.2.1, b_F_needPlan.2.2, ⟨by decide, by decide⟩, rfl⟩
theorem e_F_turnTo_F_needWithin : x_edgeS y_F_turnTo y_F_needWithin 80 3 := ⟨l_F_80, i_F_needWithin, b_F_needWithin.1, b_F_needWithin.2.1, b_F_needWithin.2.2, ⟨by decide, by decide⟩, rfl⟩
theorem e_F_turnTo_F_needMinute : x_edgeS y_F_turnTo y_F_needMinute 110 1 := ⟨l_F_110, i_F_needMinute, b_F_needMinute.1, b_F_needMinute.2.1, b_F_needMinute.2.2, ⟨by decide, by decide⟩, rfl⟩
theorem e_F_turnTo_Wa_look : x_edgeV y_F_turnTo y_Wa_look 216 1 := ⟨⟨l_F_216, i_Wa_look.1, b_Wa_look.1, b_Wa_look.2.1, b_Wa_look.2.2, ⟨by decide, by decide⟩, rfl⟩, i_Wa_look.2⟩
theorem e_F_turnTo_Tu_weigh : x_edgeV y_F_turnTo y_Tu_weigh 229 3 := ⟨⟨l_F_229, i_Tu_weigh.1, b_Tu_weigh.1, b_Tu_weigh.2.1, b_Tu_weigh.2.2, ⟨by decide, by decide⟩, rfl⟩, i_Tu_weigh.2⟩
theorem e_F_turnTo_Tu_planFor : x_edgeV y_F_turnTo y_Tu_planFor 235 2 := ⟨⟨l_F_235, i_Tu_planFor.1, b_Tu_planFor.1, b_Tu_planFor.2.1, b_Tu_planFor.2.2, ⟨by decide, by decide⟩, rfl⟩, i_Tu_planFor.2⟩
theorem e_F_best_F_needSomeFire : x_edgeV y_F_best y_F_needSomeFire 226 0 := ⟨⟨l_F_226, i_F_needSomeFire.1, b_F_needSomeFire.1, b_F_needSomeFire.2.1, b_F_needSomeFire.2.2, ⟨by decide, by decide⟩, rfl⟩, i_F_needSomeFire.2⟩
theorem e_F_best_F_needWithin : x_edgeS y_F_best y_F_needWithin 80 3 := ⟨l_F_80, i_F_needWithin, b_F_needWithin.1, b_F_needWithin.2.1, b_F_needWithin.2.2, ⟨by decide, by decide⟩, rfl⟩
theorem e_F_best_F_needMinute : x_edgeS y_F_best y_F_needMinute 110 1 := ⟨l_F_110, i_F_needMinute, b_F_needMinute.1, b_F_needMinute.2.1, b_F_needMinute.2.2, ⟨by decide, by decide⟩, rfl⟩
theorem e_F_best_Wa_look : x_edgeV y_F_best y_Wa_look 216 1 := ⟨⟨l_F_216, i_Wa_look.1, b_Wa_look.1, b_Wa_look.2.1, b_Wa_look.2.2, ⟨by decide, by decide⟩, rfl⟩, i_Wa_look.2⟩
theorem e_F_best_Tu_weigh : x_edgeV y_F_best y_Tu_weigh 229 3 := ⟨⟨l_F_229, i_Tu_weigh.1, b_Tu_weigh.1, b_Tu_weigh.2.1, b_Tu_weigh.2.2, ⟨by decide, by decide⟩, rfl⟩, i_Tu_weigh.2⟩
theorem e_F_best_Tu_regretOfTurn : x_edgeV y_F_best y_Tu_regretOfTurn 232 1 := ⟨⟨l_F_232, i_Tu_regretOfTurn.1, b_Tu_regretOfTurn.1, b_Tu_regretOfTurn.2.1, b_Tu_regretOfTurn.2.2, ⟨by decide, by decide⟩, rfl⟩, i_Tu_regretOfTurn.2⟩
theorem e_F_reach_F_needFireOrNone : x_edgeV y_F_reach y_F_needFireOrNone 143 1 := ⟨⟨l_F_143, i_F_needFireOrNone.1, b_F_needFireOrNone.1, b_F_needFireOrNone.2.1, b_F_needFireOrNone.2.2, ⟨by decide, by decide⟩, rfl⟩, i_F_needFireOrNone.2⟩
theorem e_F_reach_F_needRow : x_edgeS y_F_reach y_F_needRow 92 2 := ⟨l_F_92, i_F_needRow, b_F_needRow.1, b_F_needRow.2.1, b_F_needRow.2.2, ⟨by decide, by decide⟩, rfl⟩
theorem e_F_reach_F_needCourse : x_edgeS y_F_reach y_F_needCourse 146 3 := ⟨l_F_146, i_F_needCourse, b_F_needCourse.1, b_F_needCourse.2.1, b_F_needCourse.2.2, ⟨by decide, by decide⟩, rfl⟩
theorem e_F_reach_F_needWithin : x_edgeS y_F_reach y_F_needWithin 80 3 := ⟨l_F_80, i_F_needWithin, b_F_needWithin.1, b_F_needWithin.2.1, b_F_needWithin.2.2, ⟨by decide, by decide⟩, rfl⟩
theorem e_F_reach_Sm_follow : x_edgeV y_F_reach y_Sm_follow 149 4 := ⟨⟨l_F_149, i_Sm_follow.1, b_Sm_follow.1, b_Sm_follow.2.1, b_Sm_follow.2.2, ⟨by decide, by decide⟩, rfl⟩, i_Sm_follow.2⟩
theorem e_F_reach_Cr_firstReach : x_edgeV y_F_reach y_Cr_firstReach 238 2 := ⟨⟨l_F_238, i_Cr_firstReach.1, b_Cr_firstReach.1, b_Cr_firstReach.2.1, b_Cr_firstReach.2.2, ⟨by decide, by decide⟩, rfl⟩, i_Cr_firstReach.2⟩
theorem e_F_drill_F_needMinute : x_edgeS y_F_drill y_F_needMinute 110 1 := ⟨l_F_110, i_F_needMinute, b_F_needMinute.1, b_F_needMinute.2.1, b_F_needMinute.2.2, ⟨by decide, by decide⟩, rfl⟩
theorem e_F_drill_F_needWithin : x_edgeS y_F_drill y_F_needWithin 80 3 := ⟨l_F_80, i_F_needWithin, b_F_needWithin.1, b_F_needWithin.2.1, b_F_needWithin.2.2, ⟨by decide, by decide⟩, rfl⟩
theorem e_F_drill_Ho_add : x_edgeV y_F_drill y_Ho_add 88 7 := ⟨⟨l_F_88, i_Ho_add.1, b_Ho_add.1, b_Ho_add.2.1, b_Ho_add.2.2, ⟨by decide, by decide⟩, rfl⟩, i_Ho_add.2⟩
theorem e_F_fit_Sm_follow : x_edgeV y_F_fit y_Sm_follow 149 4 := ⟨⟨l_F_149, i_Sm_follow.1, b_Sm_follow.1, b_Sm_follow.2.1, b_Sm_follow.2.2, ⟨by decide, by decide⟩, rfl⟩, i_Sm_follow.2⟩
theorem e_F_fit_Es_fitsDrills : x_edgeV y_F_fit y_Es_fitsDrills 244 1 := ⟨⟨l_F_244, i_Es_fitsDrills.1, b_Es_fitsDrills.1, b_Es_fitsDrills.2.1, b_Es_fitsDrills.2.2, ⟨by decide, by decide⟩, rfl⟩, i_Es_fitsDrills.2⟩
theorem e_F_dose_F_needPerson : x_edgeV y_F_dose y_F_needPerson 248 2 := ⟨⟨l_F_248, i_F_needPerson.1, b_F_needPerson.1, b_F_needPerson.2.1, b_F_needPerson.2.2, ⟨by decide, by decide⟩, rfl⟩, i_F_needPerson.2⟩
theorem e_F_dose_F_needCourse : x_edgeS y_F_dose y_F_needCourse 146 3 := ⟨l_F_146, i_F_needCourse, b_F_needCourse.1, b_F_needCourse.2.1, b_F_needCourse.2.2, ⟨by decide, by decide⟩, rfl⟩
theorem e_F_dose_F_needMinute : x_edgeS y_F_dose y_F_needMinute 110 1 := ⟨l_F_110, i_F_needMinute, b_F_needMinute.1, b_F_needMinute.2.1, b_F_needMinute.2.2, ⟨by decide, by decide⟩, rfl⟩
theorem e_F_dose_Sm_follow : x_edgeV y_F_dose y_Sm_follow 149 4 := ⟨⟨l_F_149, i_Sm_follow.1, b_Sm_follow.1, b_Sm_follow.2.1, b_Sm_follow.2.2, ⟨by decide, by decide⟩, rfl⟩, i_Sm_follow.2⟩
theorem e_F_dose_Pe_weigh : x_edgeV y_F_dose y_Pe_weigh 251 0 := ⟨⟨l_F_251, i_Pe_weigh.1, b_Pe_weigh.1, b_Pe_weigh.2.1, b_Pe_weigh.2.2, ⟨by decide, by decide⟩, rfl⟩, i_Pe_weigh.2⟩
theorem e_F_dose_Pe_doseFrom : x_edgeV y_F_dose y_Pe_doseFrom 253 2 := ⟨⟨l_F_253, i_Pe_doseFrom.1, b_Pe_doseFrom.1, b_Pe_doseFrom.2.1, b_Pe_doseFrom.2.2, ⟨by decide, by decide⟩, rfl⟩, i_Pe_doseFrom.2⟩
theorem e_F_outAt_F_needPerson : x_edgeV y_F_outAt y_F_needPerson 248 2 := ⟨⟨l_F_248, i_F_needPerson.1, b_F_needPerson.1, b_F_needPerson.2.1, b_F_needPerson.2.2, ⟨by decide, by decide⟩, rfl⟩, i_F_needPerson.2⟩
theorem e_F_outAt_F_needCourse : x_edgeS y_F_outAt y_F_needCourse 146 3 := ⟨l_F_146, i_F_needCourse, b_F_needCourse.1, b_F_needCourse.2.1, b_F_needCourse.2.2, ⟨by decide, by decide⟩, rfl⟩
theorem e_F_outAt_F_needMinute : x_edgeS y_F_outAt y_F_needMinute 110 1 := ⟨l_F_110, i_F_needMinute, b_F_needMinute.1, b_F_needMinute.2.1, b_F_needMinute.2.2, ⟨by decide, by decide⟩, rfl⟩
theorem e_F_outAt_Sm_follow : x_edgeV y_F_outAt y_Sm_follow 149 4 := ⟨⟨l_F_149, i_Sm_follow.1, b_Sm_follow.1, b_Sm_follow.2.1, b_Sm_follow.2.2, ⟨by decide, by decide⟩, rfl⟩, i_Sm_follow.2⟩
theorem e_F_outAt_Pe_weigh : x_edgeV y_F_outAt y_Pe_weigh 251 0 := ⟨⟨l_F_251, i_Pe_weigh.1, b_Pe_weigh.1, b_Pe_weigh.2.1, b_Pe_weigh.2.2, ⟨by decide, by decide⟩, rfl⟩, i_Pe_weigh.2⟩
theorem e_F_outAt_Pe_outFrom : x_edgeV y_F_outAt y_Pe_outFrom 256 2 := ⟨⟨l_F_256, i_Pe_outFrom.1, b_Pe_outFrom.1, b_Pe_outFrom.2.1, b_Pe_outFrom.2.2, ⟨by decide, by decide⟩, rfl⟩, i_Pe_outFrom.2⟩
theorem e_F_whereAt_F_needPerson : x_edgeV y_F_whereAt y_F_needPerson 248 2 := ⟨⟨l_F_248, i_F_needPerson.1, b_F_needPerson.1, b_F_needPerson.2.1, b_F_needPerson.2.2, ⟨by decide, by decide⟩, rfl⟩, i_F_needPerson.2⟩
theorem e_F_whereAt_F_needCourse : x_edgeS y_F_whereAt y_F_needCourse 146 3 := ⟨l_F_146, i_F_needCourse, b_F_needCourse.1, b_F_needCourse.2.1, b_F_needCourse.2.2, ⟨by decide, by decide⟩, rfl⟩
theorem e_F_whereAt_F_needMinute : x_edgeS y_F_whereAt y_F_needMinute 110 1 := ⟨l_F_110, i_F_needMinute, b_F_needMinute.1, b_F_needMinute.2.1, b_F_needMinute.2.2, ⟨by decide, by decide⟩, rfl⟩
theorem e_F_whereAt_Sm_follow : x_edgeV y_F_whereAt y_Sm_follow 149 4 := ⟨⟨l_F_149, i_Sm_follow.1, b_Sm_follow.1, b_Sm_follow.2.1, b_Sm_follow.2.2, ⟨by decide, by decide⟩, rfl⟩, i_Sm_follow.2⟩
theorem e_F_whereAt_Pe_weigh : x_edgeV y_F_whereAt y_Pe_weigh 251 0 := ⟨⟨l_F_251, i_Pe_weigh.1, b_Pe_weigh.1, b_Pe_weigh.2.1, b_Pe_weigh.2.2, ⟨by decide, by decide⟩, rfl⟩, i_Pe_weigh.2⟩
theorem e_F_whereAt_Pe_whereFrom : x_edgeV y_F_whereAt y_Pe_whereFrom 259 3 := ⟨⟨l_F_259, i_Pe_whereFrom.1, b_Pe_whereFrom.1, b_Pe_whereFrom.2.1, b_Pe_whereFrom.2.2, ⟨by decide, by decide⟩, rfl⟩, i_Pe_whereFrom.2⟩
theorem e_F_reading_F_needRow : x_edgeS y_F_reading y_F_needRow 92 2 := ⟨l_F_92, i_F_needRow, b_F_needRow.1, b_F_needRow.2.1, b_F_needRow.2.2, ⟨by decide, by decide⟩, rfl⟩
theorem e_F_reading_F_needMinute : x_edgeS y_F_reading y_F_needMinute 110 1 := ⟨l_F_110, i_F_needMinute, b_F_needMinute.1, b_F_needMinute.2.1, b_F_needMinute.2.2, ⟨by decide, by decide⟩, rfl⟩
theorem e_F_reading_Ho_add : x_edgeV y_F_reading y_Ho_add 88 7 := ⟨⟨l_F_88, i_Ho_add.1, b_Ho_add.1, b_Ho_add.2.1, b_Ho_add.2.2, ⟨by decide, by decide⟩, rfl⟩, i_Ho_add.2⟩
theorem e_F_fits_F_needPlan : x_edgeS y_F_fits y_F_needPlan 125 1 := ⟨l_F_125, i_F_needPlan, b_F_needPlan.1, b_F_needPlan.2.1, b_F_needPlan.2.2, ⟨by decide, by decide⟩, rfl⟩
theorem e_F_fits_Wa_look : x_edgeV y_F_fits y_Wa_look 216 1 := ⟨⟨l_F_216, i_Wa_look.1, b_Wa_look.1, b_Wa_look.2.1, b_Wa_look.2.2, ⟨by decide, by decide⟩, rfl⟩, i_Wa_look.2⟩
theorem e_F_fits_Wa_fitting : x_edgeV y_F_fits y_Wa_fitting 265 0 := ⟨⟨l_F_265, i_Wa_fitting.1, b_Wa_fitting.1, b_Wa_fitting.2.1, b_Wa_fitting.2.2, ⟨by decide, by decide⟩, rfl⟩, i_Wa_fitting.2⟩
theorem e_F_next_F_needPlan : x_edgeS y_F_next y_F_needPlan 125 1 := ⟨l_F_125, i_F_needPlan, b_F_needPlan.1, b_F_needPlan.2.1, b_F_needPlan.2.2, ⟨by decide, by decide⟩, rfl⟩
theorem e_F_next_Wa_look : x_edgeV y_F_next y_Wa_look 216 1 := ⟨⟨l_F_216, i_Wa_look.1, b_Wa_look.1, b_Wa_look.2.1, b_Wa_look.2.2, ⟨by decide, by decide⟩, rfl⟩, i_Wa_look.2⟩
theorem e_F_next_Wa_asked : x_edgeV y_F_next y_Wa_asked 268 0 := ⟨⟨l_F_268, i_Wa_asked.1, b_Wa_asked.1, b_Wa_asked.2.1, b_Wa_asked.2.2, ⟨by decide, by decide⟩, rfl⟩, i_Wa_asked.2⟩
theorem e_F_undo_Ac_takeBack : x_edgeV y_F_undo y_Ac_takeBack 271 0 := ⟨⟨l_F_271, i_Ac_takeBack.1, b_Ac_takeBack.1, b_Ac_takeBack.2.1, b_Ac_takeBack.2.2, ⟨by decide, by decide⟩, rfl⟩, i_Ac_takeBack.2⟩
theorem e_F_redo_Ac_doAgain : x_edgeV y_F_redo y_Ac_doAgain 275 0 := ⟨⟨l_F_275, i_Ac_doAgain.1, b_Ac_doAgain.1, b_Ac_doAgain.2.1, b_Ac_doAgain.2.2, ⟨by decide, by decide⟩, rfl⟩, i_Ac_doAgain.2⟩
theorem e_F_row_F_needRowNumber : x_edgeS y_F_row y_F_needRowNumber 195 1 := ⟨l_F_195, i_F_needRowNumber, b_F_needRowNumber.1, b_F_needRowNumber.2.1, b_F_needRowNumber.2.2, ⟨by decide, by decide⟩, rfl⟩
theorem e_F_row_F_needWithin : x_edgeS y_F_row y_F_needWithin 80 3 := ⟨l_F_80, i_F_needWithin, b_F_needWithin.1, b_F_needWithin.2.1, b_F_needWithin.2.2, ⟨by decide, by decide⟩, rfl⟩
theorem e_F_row_Ro_start : x_edgeV y_F_row y_Ro_start 278 3 := ⟨⟨l_F_278, i_Ro_start.1, b_Ro_start.1, b_Ro_start.2.1, b_Ro_start.2.2, ⟨by decide, by decide⟩, rfl⟩, i_Ro_start.2⟩
theorem e_F_write_F_needRowNumber : x_edgeS y_F_write y_F_needRowNumber 195 1 := ⟨l_F_195, i_F_needRowNumber, b_F_needRowNumber.1, b_F_needRowNumber.2.1, b_F_needRowNumber.2.2, ⟨by decide, by decide⟩, rfl⟩
theorem e_F_write_F_needPlaces : x_edgeV y_F_write y_F_needPlaces 198 2 := ⟨⟨l_F_198, i_F_needPlaces.1, b_F_needPlaces.1, b_F_needPlaces.2.1, b_F_needPlaces.2.2, ⟨by decide, by decide⟩, rfl⟩, i_F_needPlaces.2⟩
theorem e_F_write_Ro_lengthOf : x_edgeV y_F_write y_Ro_lengthOf 281 1 := ⟨⟨l_F_281, i_Ro_lengthOf.1, b_Ro_lengthOf.1, b_Ro_lengthOf.2.1, b_Ro_lengthOf.2.2, ⟨by decide, by decide⟩, rfl⟩, i_Ro_lengthOf.2⟩
theorem e_F_write_Ro_put : x_edgeV y_F_write y_Ro_put 289 3 := ⟨⟨l_F_289, i_Ro_put.1, b_Ro_put.1, b_Ro_put.2.1, b_Ro_put.2.2, ⟨by decide, by decide⟩, rfl⟩, i_Ro_put.2⟩
theorem e_F_lay_F_needFireOrNone : x_edgeV y_F_lay y_F_needFireOrNone 143 1 := ⟨⟨l_F_143, i_F_needFireOrNone.1, b_F_needFireOrNone.1, b_F_needFireOrNone.2.1, b_F_needFireOrNone.2.2, ⟨by decide, by decide⟩, rfl⟩, i_F_needFireOrNone.2⟩
theorem e_F_lay_F_needRowNumber : x_edgeS y_F_lay y_F_needRowNumber 195 1 := ⟨l_F_195, i_F_needRowNumber, b_F_needRowNumber.1, b_F_needRowNumber.2.1, b_F_needRowNumber.2.2, ⟨by decide, by decide⟩, rfl⟩
theorem e_F_lay_F_needCourse : x_edgeS y_F_lay y_F_needCourse 146 3 := ⟨l_F_146, i_F_needCourse, b_F_needCourse.1, b_F_needCourse.2.1, b_F_needCourse.2.2, ⟨by decide, by decide⟩, rfl⟩
theorem e_F_lay_F_needMinute : x_edgeS y_F_lay y_F_needMinute 110 1 := ⟨l_F_110, i_F_needMinute, b_F_needMinute.1, b_F_needMinute.2.1, b_F_needMinute.2.2, ⟨by decide, by decide⟩, rfl⟩
theorem e_F_lay_F_needPlaces : x_edgeV y_F_lay y_F_needPlaces 198 2 := ⟨⟨l_F_198, i_F_needPlaces.1, b_F_needPlaces.1, b_F_needPlaces.2.1, b_F_needPlaces.2.2, ⟨by decide, by decide⟩, rfl⟩, i_F_needPlaces.2⟩
theorem e_F_lay_Sm_follow : x_edgeV y_F_lay y_Sm_follow 149 4 := ⟨⟨l_F_149, i_Sm_follow.1, b_Sm_follow.1, b_Sm_follow.2.1, b_Sm_follow.2.2, ⟨by decide, by decide⟩, rfl⟩, i_Sm_follow.2⟩
theorem e_F_lay_Ho_walkTimes : x_edgeV y_F_lay y_Ho_walkTimes 182 0 := ⟨⟨l_F_182, i_Ho_walkTimes.1, b_Ho_walkTimes.1, b_Ho_walkTimes.2.1, b_Ho_walkTimes.2.2, ⟨by decide, by decide⟩, rfl⟩, i_Ho_walkTimes.2⟩
theorem e_F_lay_Ho_madeDoors : x_edgeV y_F_lay y_Ho_madeDoors 185 0 := ⟨⟨l_F_185, i_Ho_madeDoors.1, b_Ho_madeDoors.1, b_Ho_madeDoors.2.1, b_Ho_madeDoors.2.2, ⟨by decide, by decide⟩, rfl⟩, i_Ho_madeDoors.2⟩
theorem e_F_lay_Es_most : x_edgeV y_F_lay y_Es_most 188 3 := ⟨⟨l_F_188, i_Es_most.1, b_Es_most.1, b_Es_most.2.1, b_Es_most.2.2, ⟨by decide, by decide⟩, rfl⟩, i_Es_most.2⟩
theorem e_F_lay_Es_sideAt : x_edgeV y_F_lay y_Es_sideAt 192 1 := ⟨⟨l_F_192, i_Es_sideAt.1, b_Es_sideAt.1, b_Es_sideAt.2.1, b_Es_sideAt.2.2, ⟨by decide, by decide⟩, rfl⟩, i_Es_sideAt.2⟩
theorem e_F_lay_Ro_put : x_edgeV y_F_lay y_Ro_put 289 3 := ⟨⟨l_F_289, i_Ro_put.1, b_Ro_put.1, b_Ro_put.2.1, b_Ro_put.2.2, ⟨by decide, by decide⟩, rfl⟩, i_Ro_put.2⟩
theorem e_F_count_Ta_size : x_edgeV y_F_count y_Ta_size 206 0 := ⟨⟨l_F_206, i_Ta_size.1, b_Ta_size.1, b_Ta_size.2.1, b_Ta_size.2.2, ⟨by decide, by decide⟩, rfl⟩, i_Ta_size.2⟩
theorem e_F_count_Ho_allPeople : x_edgeV y_F_count y_Ho_allPeople 293 0 := ⟨⟨l_F_293, i_Ho_allPeople.1, b_Ho_allPeople.1, b_Ho_allPeople.2.1, b_Ho_allPeople.2.2, ⟨by decide, by decide⟩, rfl⟩, i_Ho_allPeople.2⟩
theorem e_F_count_Ho_madeDoors : x_edgeV y_F_count y_Ho_madeDoors 185 0 := ⟨⟨l_F_185, i_Ho_madeDoors.1, b_Ho_madeDoors.1, b_Ho_madeDoors.2.1, b_Ho_madeDoors.2.2, ⟨by decide, by decide⟩, rfl⟩, i_Ho_madeDoors.2⟩
theorem e_F_count_JI_bitCount : x_edgeS y_F_count y_JI_bitCount 296 1 := ⟨l_F_296, i_JI_bitCount, b_JI_bitCount.1, b_JI_bitCount.2.1, b_JI_bitCount.2.2, ⟨by decide, by decide⟩, rfl⟩
theorem e_F_count_Ac_done : x_edgeV y_F_count y_Ac_done 301 0 := ⟨⟨l_F_301, i_Ac_done.1, b_Ac_done.1, b_Ac_done.2.1, b_Ac_done.2.2, ⟨by decide, by decide⟩, rfl⟩, i_Ac_done.2⟩
theorem e_F_count_Ac_undone : x_edgeV y_F_count y_Ac_undone 304 0 := ⟨⟨l_F_304, i_Ac_undone.1, b_Ac_undone.1, b_Ac_undone.2.1, b_Ac_undone.2.2, ⟨by decide, by decide⟩, rfl⟩, i_Ac_undone.2⟩
theorem e_F_needMinute_F_needWithin : x_edgeS y_F_needMinute y_F_needWithin 80 3 := ⟨l_F_80, i_F_needWithin, b_F_needWithin.1, b_F_needWithin.2.1, b_F_needWithin.2.2, ⟨by decide, by decide⟩, rfl⟩
theorem e_F_needPlan_F_needWithin : x_edgeS y_F_needPlan y_F_needWithin 80 3 := ⟨l_F_80, i_F_needWithin, b_F_needWithin.1, b_F_needWithin.2.1, b_F_needWithin.2.2, ⟨by decide, by decide⟩, rfl⟩
theorem e_F_needCourse_F_needPlan : x_edgeS y_F_needCourse y_F_needPlan 125 1 := ⟨l_F_125, i_F_needPlan, b_F_needPlan.1, b_F_needPlan.2.1, b_F_needPlan.2.2, ⟨by decide, by decide⟩, rfl⟩
theorem e_F_needCourse_F_needWithin : x_edgeS y_F_needCourse y_F_needWithin 80 3 := ⟨l_F_80, i_F_needWithin, b_F_needWithin.1, b_F_needWithin.2.1, b_F_needWithin.2.2, ⟨by decide, by decide⟩, rfl⟩
theorem e_F_needRow_Ta_has : x_edgeV y_F_needRow y_Ta_has 309 1 := ⟨⟨l_F_309, i_Ta_has.1, b_Ta_has.1, b_Ta_has.2.1, b_Ta_has.2.2, ⟨by decide, by decide⟩, rfl⟩, i_Ta_has.2⟩
theorem e_F_needFireOrNone_F_needRow : x_edgeS y_F_needFireOrNone y_F_needRow 92 2 := ⟨l_F_92, i_F_needRow, b_F_needRow.1, b_F_needRow.2.1, b_F_needRow.2.2, ⟨by decide, by decide⟩, rfl⟩
theorem e_F_needPerson_F_needFireOrNone : x_edgeV y_F_needPerson y_F_needFireOrNone 143 1 := ⟨⟨l_F_143, i_F_needFireOrNone.1, b_F_needFireOrNone.1, b_F_needFireOrNone.2.1, b_F_needFireOrNone.2.2, ⟨by decide, by decide⟩, rfl⟩, i_F_needFireOrNone.2⟩
theorem e_F_needPerson_F_needRow : x_edgeS y_F_needPerson y_F_needRow 92 2 := ⟨l_F_92, i_F_needRow, b_F_needRow.1, b_F_needRow.2.1, b_F_needRow.2.2, ⟨by decide, by decide⟩, rfl⟩
theorem e_F_needPieceSet_Ta_size : x_edgeV y_F_needPieceSet y_Ta_size 206 0 := ⟨⟨l_F_206, i_Ta_size.1, b_Ta_size.1, b_Ta_size.2.1, b_Ta_size.2.2, ⟨by decide, by decide⟩, rfl⟩, i_Ta_size.2⟩
theorem e_F_needPieceSet_F_needWithin : x_edgeS y_F_needPieceSet y_F_needWithin 80 3 := ⟨l_F_80, i_F_needWithin, b_F_needWithin.1, b_F_needWithin.2.1, b_F_needWithin.2.2, ⟨by decide, by decide⟩, rfl⟩
theorem e_F_needSomeFire_Ta_size : x_edgeV y_F_needSomeFire y_Ta_size 206 0 := ⟨⟨l_F_206, i_Ta_size.1, b_Ta_size.1, b_Ta_size.2.1, b_Ta_size.2.2, ⟨by decide, by decide⟩, rfl⟩, i_Ta_size.2⟩
theorem e_F_needPlaces_Ro_isMissing : x_edgeV y_F_needPlaces y_Ro_isMissing 324 1 := ⟨⟨l_F_324, i_Ro_isMissing.1, b_Ro_isMissing.1, b_Ro_isMissing.2.1, b_Ro_isMissing.2.2, ⟨by decide, by decide⟩, rfl⟩, i_Ro_isMissing.2⟩
theorem e_F_needPlaces_Ro_lengthOf : x_edgeV y_F_needPlaces y_Ro_lengthOf 281 1 := ⟨⟨l_F_281, i_Ro_lengthOf.1, b_Ro_lengthOf.1, b_Ro_lengthOf.2.1, b_Ro_lengthOf.2.2, ⟨by decide, by decide⟩, rfl⟩, i_Ro_lengthOf.2⟩
theorem e_M_isMinute_M_within : x_edgeS y_M_isMinute y_M_within 222 3 := ⟨l_M_222, i_M_within, b_M_within.1, b_M_within.2.1, b_M_within.2.2, ⟨by decide, by decide⟩, rfl⟩
theorem e_M_isPlan_M_within : x_edgeS y_M_isPlan y_M_within 222 3 := ⟨l_M_222, i_M_within, b_M_within.1, b_M_within.2.1, b_M_within.2.2, ⟨by decide, by decide⟩, rfl⟩
theorem e_M_isPiece_M_within : x_edgeS y_M_isPiece y_M_within 222 3 := ⟨l_M_222, i_M_within, b_M_within.1, b_M_within.2.1, b_M_within.2.2, ⟨by decide, by decide⟩, rfl⟩
theorem e_M_act_M_does : x_edgeV y_M_act y_M_does 234 1 := ⟨⟨l_M_234, i_M_does.1, b_M_does.1, b_M_does.2.1, b_M_does.2.2, ⟨by decide, by decide⟩, rfl⟩, i_M_does.2⟩
theorem e_M_act_JM_max : x_edgeS y_M_act y_JM_max 244 2 := ⟨l_M_244, i_JM_max, b_JM_max.1, b_JM_max.2.1, b_JM_max.2.2, ⟨by decide, by decide⟩, rfl⟩
theorem e_M_does_M_doesMore : x_edgeV y_M_does y_M_doesMore 265 4 := ⟨⟨l_M_265, i_M_doesMore.1, b_M_doesMore.1, b_M_doesMore.2.1, b_M_doesMore.2.2, ⟨by decide, by decide⟩, rfl⟩, i_M_doesMore.2⟩
theorem e_M_undo_M_does : x_edgeV y_M_undo y_M_does 234 1 := ⟨⟨l_M_234, i_M_does.1, b_M_does.1, b_M_does.2.1, b_M_does.2.2, ⟨by decide, by decide⟩, rfl⟩, i_M_does.2⟩
theorem e_M_redo_M_does : x_edgeV y_M_redo y_M_does 234 1 := ⟨⟨l_M_234, i_M_does.1, b_M_does.1, b_M_does.2.1, b_M_does.2.2, ⟨by decide, by decide⟩, rfl⟩, i_M_does.2⟩
theorem e_M_piece_M_within : x_edgeS y_M_piece y_M_within 222 3 := ⟨l_M_222, i_M_within, b_M_within.1, b_M_within.2.1, b_M_within.2.2, ⟨by decide, by decide⟩, rfl⟩
theorem e_M_piece_M_fails : x_edgeV y_M_piece y_M_fails 285 1 := ⟨⟨l_M_285, i_M_fails.1, b_M_fails.1, b_M_fails.2.1, b_M_fails.2.2, ⟨by decide, by decide⟩, rfl⟩, i_M_fails.2⟩
theorem e_M_piece_M_act : x_edgeV y_M_piece y_M_act 289 7 := ⟨⟨l_M_289, i_M_act.1, b_M_act.1, b_M_act.2.1, b_M_act.2.2, ⟨by decide, by decide⟩, rfl⟩, i_M_act.2⟩
theorem e_M_way_M_isPiece : x_edgeV y_M_way y_M_isPiece 293 1 := ⟨⟨l_M_293, i_M_isPiece.1, b_M_isPiece.1, b_M_isPiece.2.1, b_M_isPiece.2.2, ⟨by decide, by decide⟩, rfl⟩, i_M_isPiece.2⟩
theorem e_M_way_M_fails : x_edgeV y_M_way y_M_fails 285 1 := ⟨⟨l_M_285, i_M_fails.1, b_M_fails.1, b_M_fails.2.1, b_M_fails.2.2, ⟨by decide, by decide⟩, rfl⟩, i_M_fails.2⟩
theorem e_M_way_M_within : x_edgeS y_M_way y_M_within 222 3 := ⟨l_M_222, i_M_within, b_M_within.1, b_M_within.2.1, b_M_within.2.2, ⟨by decide, by decide⟩, rfl⟩
theorem e_M_way_M_act : x_edgeV y_M_way y_M_act 289 7 := ⟨⟨l_M_289, i_M_act.1, b_M_act.1, b_M_act.2.1, b_M_act.2.2, ⟨by decide, by decide⟩, rfl⟩, i_M_act.2⟩
theorem e_M_water_M_isPiece : x_edgeV y_M_water y_M_isPiece 293 1 := ⟨⟨l_M_293, i_M_isPiece.1, b_M_isPiece.1, b_M_isPiece.2.1, b_M_isPiece.2.2, ⟨by decide, by decide⟩, rfl⟩, i_M_isPiece.2⟩
theorem e_M_water_M_fails : x_edgeV y_M_water y_M_fails 285 1 := ⟨⟨l_M_285, i_M_fails.1, b_M_fails.1, b_M_fails.2.1, b_M_fails.2.2, ⟨by decide, by decide⟩, rfl⟩, i_M_fails.2⟩
theorem e_M_water_M_within : x_edgeS y_M_water y_M_within 222 3 := ⟨l_M_222, i_M_within, b_M_within.1, b_M_within.2.1, b_M_within.2.2, ⟨by decide, by decide⟩, rfl⟩
theorem e_M_water_M_act : x_edgeV y_M_water y_M_act 289 7 := ⟨⟨l_M_289, i_M_act.1, b_M_act.1, b_M_act.2.1, b_M_act.2.2, ⟨by decide, by decide⟩, rfl⟩, i_M_act.2⟩
theorem e_M_fire_M_isPiece : x_edgeV y_M_fire y_M_isPiece 293 1 := ⟨⟨l_M_293, i_M_isPiece.1, b_M_isPiece.1, b_M_isPiece.2.1, b_M_isPiece.2.2, ⟨by decide, by decide⟩, rfl⟩, i_M_isPiece.2⟩
theorem e_M_fire_M_fails : x_edgeV y_M_fire y_M_fails 285 1 := ⟨⟨l_M_285, i_M_fails.1, b_M_fails.1, b_M_fails.2.1, b_M_fails.2.2, ⟨by decide, by decide⟩, rfl⟩, i_M_fails.2⟩
theorem e_M_fire_M_isMinute : x_edgeS y_M_fire y_M_isMinute 305 1 := ⟨l_M_305, i_M_isMinute, b_M_isMinute.1, b_M_isMinute.2.1, b_M_isMinute.2.2, ⟨by decide, by decide⟩, rfl⟩
theorem e_M_fire_M_within : x_edgeS y_M_fire y_M_within 222 3 := ⟨l_M_222, i_M_within, b_M_within.1, b_M_within.2.1, b_M_within.2.2, ⟨by decide, by decide⟩, rfl⟩
theorem e_M_fire_M_act : x_edgeV y_M_fire y_M_act 289 7 := ⟨⟨l_M_289, i_M_act.1, b_M_act.1, b_M_act.2.1, b_M_act.2.2, ⟨by decide, by decide⟩, rfl⟩, i_M_act.2⟩
theorem e_M_fan_M_within : x_edgeS y_M_fan y_M_within 222 3 := ⟨l_M_222, i_M_within, b_M_within.1, b_M_within.2.1, b_M_within.2.2, ⟨by decide, by decide⟩, rfl⟩
theorem e_M_fan_M_fails : x_edgeV y_M_fan y_M_fails 285 1 := ⟨⟨l_M_285, i_M_fails.1, b_M_fails.1, b_M_fails.2.1, b_M_fails.2.2, ⟨by decide, by decide⟩, rfl⟩, i_M_fails.2⟩
theorem e_M_fan_M_act : x_edgeV y_M_fan y_M_act 289 7 := ⟨⟨l_M_289, i_M_act.1, b_M_act.1, b_M_act.2.1, b_M_act.2.2, ⟨by decide, by decide⟩, rfl⟩, i_M_act.2⟩
theorem e_M_set_M_within : x_edgeS y_M_set y_M_within 222 3 := ⟨l_M_222, i_M_within, b_M_within.1, b_M_within.2.1, b_M_within.2.2, ⟨by decide, by decide⟩, rfl⟩
theorem e_M_set_M_fails : x_edgeV y_M_set y_M_fails 285 1 := ⟨⟨l_M_285, i_M_fails.1, b_M_fails.1, b_M_fails.2.1, b_M_fails.2.2, ⟨by decide, by decide⟩, rfl⟩, i_M_fails.2⟩
theorem e_M_set_M_isPlan : x_edgeS y_M_set y_M_isPlan 314 1 := ⟨l_M_314, i_M_isPlan, b_M_isPlan.1, b_M_isPlan.2.1, b_M_isPlan.2.2, ⟨by decide, by decide⟩, rfl⟩
theorem e_M_set_M_isMinute : x_edgeS y_M_set y_M_isMinute 305 1 := ⟨l_M_305, i_M_isMinute, b_M_isMinute.1, b_M_isMinute.2.1, b_M_isMinute.2.2, ⟨by decide, by decide⟩, rfl⟩
theorem e_M_set_M_act : x_edgeV y_M_set y_M_act 289 7 := ⟨⟨l_M_289, i_M_act.1, b_M_act.1, b_M_act.2.1, b_M_act.2.2, ⟨by decide, by decide⟩, rfl⟩, i_M_act.2⟩
theorem e_M_eyes_M_within : x_edgeS y_M_eyes y_M_within 222 3 := ⟨l_M_222, i_M_within, b_M_within.1, b_M_within.2.1, b_M_within.2.2, ⟨by decide, by decide⟩, rfl⟩
theorem e_M_eyes_M_fails : x_edgeV y_M_eyes y_M_fails 285 1 := ⟨⟨l_M_285, i_M_fails.1, b_M_fails.1, b_M_fails.2.1, b_M_fails.2.2, ⟨by decide, by decide⟩, rfl⟩, i_M_fails.2⟩
theorem e_M_eyes_M_act : x_edgeV y_M_eyes y_M_act 289 7 := ⟨⟨l_M_289, i_M_act.1, b_M_act.1, b_M_act.2.1, b_M_act.2.2, ⟨by decide, by decide⟩, rfl⟩, i_M_act.2⟩
theorem e_M_group_M_isPiece : x_edgeV y_M_group y_M_isPiece 293 1 := ⟨⟨l_M_293, i_M_isPiece.1, b_M_isPiece.1, b_M_isPiece.2.1, b_M_isPiece.2.2, ⟨by decide, by decide⟩, rfl⟩, i_M_isPiece.2⟩
theorem e_M_group_M_fails : x_edgeV y_M_group y_M_fails 285 1 := ⟨⟨l_M_285, i_M_fails.1, b_M_fails.1, b_M_fails.2.1, b_M_fails.2.2, ⟨by decide, by decide⟩, rfl⟩, i_M_fails.2⟩
theorem e_M_group_M_within : x_edgeS y_M_group y_M_within 222 3 := ⟨l_M_222, i_M_within, b_M_within.1, b_M_within.2.1, b_M_within.2.2, ⟨by decide, by decide⟩, rfl⟩
theorem e_M_group_M_isMinute : x_edgeS y_M_group y_M_isMinute 305 1 := ⟨l_M_305, i_M_isMinute, b_M_isMinute.1, b_M_isMinute.2.1, b_M_isMinute.2.2, ⟨by decide, by decide⟩, rfl⟩
theorem e_M_group_M_act : x_edgeV y_M_group y_M_act 289 7 := ⟨⟨l_M_289, i_M_act.1, b_M_act.1, b_M_act.2.1, b_M_act.2.2, ⟨by decide, by decide⟩, rfl⟩, i_M_act.2⟩
theorem e_M_walk_M_within : x_edgeS y_M_walk y_M_within 222 3 := ⟨l_M_222, i_M_within, b_M_within.1, b_M_within.2.1, b_M_within.2.2, ⟨by decide, by decide⟩, rfl⟩
theorem e_M_walk_M_fails : x_edgeV y_M_walk y_M_fails 285 1 := ⟨⟨l_M_285, i_M_fails.1, b_M_fails.1, b_M_fails.2.1, b_M_fails.2.2, ⟨by decide, by decide⟩, rfl⟩, i_M_fails.2⟩
theorem e_M_walk_M_act : x_edgeV y_M_walk y_M_act 289 7 := ⟨⟨l_M_289, i_M_act.1, b_M_act.1, b_M_act.2.1, b_M_act.2.2, ⟨by decide, by decide⟩, rfl⟩, i_M_act.2⟩
theorem e_M_door_M_isPiece : x_edgeV y_M_door y_M_isPiece 293 1 := ⟨⟨l_M_293, i_M_isPiece.1, b_M_isPiece.1, b_M_isPiece.2.1, b_M_isPiece.2.2, ⟨by decide, by decide⟩, rfl⟩, i_M_isPiece.2⟩
theorem e_M_door_M_fails : x_edgeV y_M_door y_M_fails 285 1 := ⟨⟨l_M_285, i_M_fails.1, b_M_fails.1, b_M_fails.2.1, b_M_fails.2.2, ⟨by decide, by decide⟩, rfl⟩, i_M_fails.2⟩
theorem e_M_door_M_within : x_edgeS y_M_door y_M_within 222 3 := ⟨l_M_222, i_M_within, b_M_within.1, b_M_within.2.1, b_M_within.2.2, ⟨by decide, by decide⟩, rfl⟩
theorem e_M_door_M_act : x_edgeV y_M_door y_M_act 289 7 := ⟨⟨l_M_289, i_M_act.1, b_M_act.1, b_M_act.2.1, b_M_act.2.2, ⟨by decide, by decide⟩, rfl⟩, i_M_act.2⟩
theorem e_M_make_M_within : x_edgeS y_M_make y_M_within 222 3 := ⟨l_M_222, i_M_within, b_M_within.1, b_M_within.2.1, b_M_within.2.2, ⟨by decide, by decide⟩, rfl⟩
theorem e_M_make_M_act : x_edgeV y_M_make y_M_act 289 7 := ⟨⟨l_M_289, i_M_act.1, b_M_act.1, b_M_act.2.1, b_M_act.2.2, ⟨by decide, by decide⟩, rfl⟩, i_M_act.2⟩
theorem e_M_gauges_M_within : x_edgeS y_M_gauges y_M_within 222 3 := ⟨l_M_222, i_M_within, b_M_within.1, b_M_within.2.1, b_M_within.2.2, ⟨by decide, by decide⟩, rfl⟩
theorem e_M_gauges_M_act : x_edgeV y_M_gauges y_M_act 289 7 := ⟨⟨l_M_289, i_M_act.1, b_M_act.1, b_M_act.2.1, b_M_act.2.2, ⟨by decide, by decide⟩, rfl⟩, i_M_act.2⟩
theorem e_M_gives_JM_min : x_edgeS y_M_gives y_JM_min 325 2 := ⟨l_M_325, i_JM_min, b_JM_min.1, b_JM_min.2.1, b_JM_min.2.2, ⟨by decide, by decide⟩, rfl⟩
theorem e_M_blows_M_isBy : x_edgeV y_M_blows y_M_isBy 328 3 := ⟨⟨l_M_328, i_M_isBy.1, b_M_isBy.1, b_M_isBy.2.1, b_M_isBy.2.2, ⟨by decide, by decide⟩, rfl⟩, i_M_isBy.2⟩
theorem e_M_blows_JM_min : x_edgeS y_M_blows y_JM_min 325 2 := ⟨l_M_325, i_JM_min, b_JM_min.1, b_JM_min.2.1, b_JM_min.2.2, ⟨by decide, by decide⟩, rfl⟩
theorem e_M_blows_JM_max : x_edgeS y_M_blows y_JM_max 244 2 := ⟨l_M_244, i_JM_max, b_JM_max.1, b_JM_max.2.1, b_JM_max.2.2, ⟨by decide, by decide⟩, rfl⟩
theorem e_M_rises_M_isAt : x_edgeV y_M_rises y_M_isAt 332 2 := ⟨⟨l_M_332, i_M_isAt.1, b_M_isAt.1, b_M_isAt.2.1, b_M_isAt.2.2, ⟨by decide, by decide⟩, rfl⟩, i_M_isAt.2⟩
theorem e_M_rises_JM_abs : x_edgeS y_M_rises y_JM_abs 336 1 := ⟨l_M_336, i_JM_abs, b_JM_abs.1, b_JM_abs.2.1, b_JM_abs.2.2, ⟨by decide, by decide⟩, rfl⟩
theorem e_M_rises_M_towards : x_edgeV y_M_rises y_M_towards 339 3 := ⟨⟨l_M_339, i_M_towards.1, b_M_towards.1, b_M_towards.2.1, b_M_towards.2.2, ⟨by decide, by decide⟩, rfl⟩, i_M_towards.2⟩
theorem e_M_rises_JM_min : x_edgeS y_M_rises y_JM_min 325 2 := ⟨l_M_325, i_JM_min, b_JM_min.1, b_JM_min.2.1, b_JM_min.2.2, ⟨by decide, by decide⟩, rfl⟩
theorem e_M_rises_M_otherEnd : x_edgeV y_M_rises y_M_otherEnd 342 2 := ⟨⟨l_M_342, i_M_otherEnd.1, b_M_otherEnd.1, b_M_otherEnd.2.1, b_M_otherEnd.2.2, ⟨by decide, by decide⟩, rfl⟩, i_M_otherEnd.2⟩
theorem e_M_drifts_M_isAt : x_edgeV y_M_drifts y_M_isAt 332 2 := ⟨⟨l_M_332, i_M_isAt.1, b_M_isAt.1, b_M_isAt.2.1, b_M_isAt.2.2, ⟨by decide, by decide⟩, rfl⟩, i_M_isAt.2⟩
theorem e_M_drifts_M_towards : x_edgeV y_M_drifts y_M_towards 339 3 := ⟨⟨l_M_339, i_M_towards.1, b_M_towards.1, b_M_towards.2.1, b_M_towards.2.2, ⟨by decide, by decide⟩, rfl⟩, i_M_towards.2⟩
theorem e_M_drifts_JM_min : x_edgeS y_M_drifts y_JM_min 325 2 := ⟨l_M_325, i_JM_min, b_JM_min.1, b_JM_min.2.1, b_JM_min.2.2, ⟨by decide, by decide⟩, rfl⟩
theorem e_M_drifts_M_otherEnd : x_edgeV y_M_drifts y_M_otherEnd 342 2 := ⟨⟨l_M_342, i_M_otherEnd.1, b_M_otherEnd.1, b_M_otherEnd.2.1, b_M_otherEnd.2.2, ⟨by decide, by decide⟩, rfl⟩, i_M_otherEnd.2⟩
theorem e_M_burns_M_loses : x_edgeV y_M_burns y_M_loses 345 2 := ⟨⟨l_M_345, i_M_loses.1, b_M_loses.1, b_M_loses.2.1, b_M_loses.2.2, ⟨by decide, by decide⟩, rfl⟩, i_M_loses.2⟩
theorem e_M_burns_M_blows : x_edgeV y_M_burns y_M_blows 349 2 := ⟨⟨l_M_349, i_M_blows.1, b_M_blows.1, b_M_blows.2.1, b_M_blows.2.2, ⟨by decide, by decide⟩, rfl⟩, i_M_blows.2⟩
theorem e_M_burns_M_gives : x_edgeV y_M_burns y_M_gives 352 2 := ⟨⟨l_M_352, i_M_gives.1, b_M_gives.1, b_M_gives.2.1, b_M_gives.2.2, ⟨by decide, by decide⟩, rfl⟩, i_M_gives.2⟩
theorem e_M_burns_M_rises : x_edgeV y_M_burns y_M_rises 355 3 := ⟨⟨l_M_355, i_M_rises.1, b_M_rises.1, b_M_rises.2.1, b_M_rises.2.2, ⟨by decide, by decide⟩, rfl⟩, i_M_rises.2⟩
theorem e_M_burns_M_drifts : x_edgeV y_M_burns y_M_drifts 359 2 := ⟨⟨l_M_359, i_M_drifts.1, b_M_drifts.1, b_M_drifts.2.1, b_M_drifts.2.2, ⟨by decide, by decide⟩, rfl⟩, i_M_drifts.2⟩
theorem e_M_isFire_M_within : x_edgeS y_M_isFire y_M_within 222 3 := ⟨l_M_222, i_M_within, b_M_within.1, b_M_within.2.1, b_M_within.2.2, ⟨by decide, by decide⟩, rfl⟩
theorem e_M_isCourse_M_isPlan : x_edgeS y_M_isCourse y_M_isPlan 314 1 := ⟨l_M_314, i_M_isPlan, b_M_isPlan.1, b_M_isPlan.2.1, b_M_isPlan.2.2, ⟨by decide, by decide⟩, rfl⟩
theorem e_M_isCourse_M_within : x_edgeS y_M_isCourse y_M_within 222 3 := ⟨l_M_222, i_M_within, b_M_within.1, b_M_within.2.1, b_M_within.2.2, ⟨by decide, by decide⟩, rfl⟩
theorem e_M_air_M_isFire : x_edgeV y_M_air y_M_isFire 362 1 := ⟨⟨l_M_362, i_M_isFire.1, b_M_isFire.1, b_M_isFire.2.1, b_M_isFire.2.2, ⟨by decide, by decide⟩, rfl⟩, i_M_isFire.2⟩
theorem e_M_air_M_within : x_edgeS y_M_air y_M_within 222 3 := ⟨l_M_222, i_M_within, b_M_within.1, b_M_within.2.1, b_M_within.2.2, ⟨by decide, by decide⟩, rfl⟩
theorem e_M_air_M_fails : x_edgeV y_M_air y_M_fails 285 1 := ⟨⟨l_M_285, i_M_fails.1, b_M_fails.1, b_M_fails.2.1, b_M_fails.2.2, ⟨by decide, by decide⟩, rfl⟩, i_M_fails.2⟩
theorem e_M_air_M_isCourse : x_edgeS y_M_air y_M_isCourse 365 3 := ⟨l_M_365, i_M_isCourse, b_M_isCourse.1, b_M_isCourse.2.1, b_M_isCourse.2.2, ⟨by decide, by decide⟩, rfl⟩
theorem e_M_air_M_isMinute : x_edgeS y_M_air y_M_isMinute 305 1 := ⟨l_M_305, i_M_isMinute, b_M_isMinute.1, b_M_isMinute.2.1, b_M_isMinute.2.2, ⟨by decide, by decide⟩, rfl⟩
theorem e_M_air_M_burns : x_edgeV y_M_air y_M_burns 369 4 := ⟨⟨l_M_369, i_M_burns.1, b_M_burns.1, b_M_burns.2.1, b_M_burns.2.2, ⟨by decide, by decide⟩, rfl⟩, i_M_burns.2⟩
theorem e_M_smoke_M_isFire : x_edgeV y_M_smoke y_M_isFire 362 1 := ⟨⟨l_M_362, i_M_isFire.1, b_M_isFire.1, b_M_isFire.2.1, b_M_isFire.2.2, ⟨by decide, by decide⟩, rfl⟩, i_M_isFire.2⟩
theorem e_M_smoke_M_isPiece : x_edgeV y_M_smoke y_M_isPiece 293 1 := ⟨⟨l_M_293, i_M_isPiece.1, b_M_isPiece.1, b_M_isPiece.2.1, b_M_isPiece.2.2, ⟨by decide, by decide⟩, rfl⟩, i_M_isPiece.2⟩
theorem e_M_smoke_M_fails : x_edgeV y_M_smoke y_M_fails 285 1 := ⟨⟨l_M_285, i_M_fails.1, b_M_fails.1, b_M_fails.2.1, b_M_fails.2.2, ⟨by decide, by decide⟩, rfl⟩, i_M_fails.2⟩
theorem e_M_smoke_M_isCourse : x_edgeS y_M_smoke y_M_isCourse 365 3 := ⟨l_M_365, i_M_isCourse, b_M_isCourse.1, b_M_isCourse.2.1, b_M_isCourse.2.2, ⟨by decide, by decide⟩, rfl⟩
theorem e_M_smoke_M_isMinute : x_edgeS y_M_smoke y_M_isMinute 305 1 := ⟨l_M_305, i_M_isMinute, b_M_isMinute.1, b_M_isMinute.2.1, b_M_isMinute.2.2, ⟨by decide, by decide⟩, rfl⟩
theorem e_M_smoke_M_burns : x_edgeV y_M_smoke y_M_burns 369 4 := ⟨⟨l_M_369, i_M_burns.1, b_M_burns.1, b_M_burns.2.1, b_M_burns.2.2, ⟨by decide, by decide⟩, rfl⟩, i_M_burns.2⟩
theorem e_M_given_M_isFire : x_edgeV y_M_given y_M_isFire 362 1 := ⟨⟨l_M_362, i_M_isFire.1, b_M_isFire.1, b_M_isFire.2.1, b_M_isFire.2.2, ⟨by decide, by decide⟩, rfl⟩, i_M_isFire.2⟩
theorem e_M_given_M_fails : x_edgeV y_M_given y_M_fails 285 1 := ⟨⟨l_M_285, i_M_fails.1, b_M_fails.1, b_M_fails.2.1, b_M_fails.2.2, ⟨by decide, by decide⟩, rfl⟩, i_M_fails.2⟩
theorem e_M_given_M_isCourse : x_edgeS y_M_given y_M_isCourse 365 3 := ⟨l_M_365, i_M_isCourse, b_M_isCourse.1, b_M_isCourse.2.1, b_M_isCourse.2.2, ⟨by decide, by decide⟩, rfl⟩
theorem e_M_given_M_isMinute : x_edgeS y_M_given y_M_isMinute 305 1 := ⟨l_M_305, i_M_isMinute, b_M_isMinute.1, b_M_isMinute.2.1, b_M_isMinute.2.2, ⟨by decide, by decide⟩, rfl⟩
theorem e_M_given_M_within : x_edgeS y_M_given y_M_within 222 3 := ⟨l_M_222, i_M_within, b_M_within.1, b_M_within.2.1, b_M_within.2.2, ⟨by decide, by decide⟩, rfl⟩
theorem e_M_given_M_burns : x_edgeV y_M_given y_M_burns 369 4 := ⟨⟨l_M_369, i_M_burns.1, b_M_burns.1, b_M_burns.2.1, b_M_burns.2.2, ⟨by decide, by decide⟩, rfl⟩, i_M_burns.2⟩
theorem e_M_lost_M_isFire : x_edgeV y_M_lost y_M_isFire 362 1 := ⟨⟨l_M_362, i_M_isFire.1, b_M_isFire.1, b_M_isFire.2.1, b_M_isFire.2.2, ⟨by decide, by decide⟩, rfl⟩, i_M_isFire.2⟩
theorem e_M_lost_M_within : x_edgeS y_M_lost y_M_within 222 3 := ⟨l_M_222, i_M_within, b_M_within.1, b_M_within.2.1, b_M_within.2.2, ⟨by decide, by decide⟩, rfl⟩
theorem e_M_lost_M_fails : x_edgeV y_M_lost y_M_fails 285 1 := ⟨⟨l_M_285, i_M_fails.1, b_M_fails.1, b_M_fails.2.1, b_M_fails.2.2, ⟨by decide, by decide⟩, rfl⟩, i_M_fails.2⟩
theorem e_M_lost_M_isCourse : x_edgeS y_M_lost y_M_isCourse 365 3 := ⟨l_M_365, i_M_isCourse, b_M_isCourse.1, b_M_isCourse.2.1, b_M_isCourse.2.2, ⟨by decide, by decide⟩, rfl⟩
theorem e_M_lost_M_burns : x_edgeV y_M_lost y_M_burns 369 4 := ⟨⟨l_M_369, i_M_burns.1, b_M_burns.1, b_M_burns.2.1, b_M_burns.2.2, ⟨by decide, by decide⟩, rfl⟩, i_M_burns.2⟩
theorem e_M_shut_M_isFire : x_edgeV y_M_shut y_M_isFire 362 1 := ⟨⟨l_M_362, i_M_isFire.1, b_M_isFire.1, b_M_isFire.2.1, b_M_isFire.2.2, ⟨by decide, by decide⟩, rfl⟩, i_M_isFire.2⟩
theorem e_M_shut_M_isPiece : x_edgeV y_M_shut y_M_isPiece 293 1 := ⟨⟨l_M_293, i_M_isPiece.1, b_M_isPiece.1, b_M_isPiece.2.1, b_M_isPiece.2.2, ⟨by decide, by decide⟩, rfl⟩, i_M_isPiece.2⟩
theorem e_M_shut_M_isCourse : x_edgeS y_M_shut y_M_isCourse 365 3 := ⟨l_M_365, i_M_isCourse, b_M_isCourse.1, b_M_isCourse.2.1, b_M_isCourse.2.2, ⟨by decide, by decide⟩, rfl⟩
theorem e_M_shut_M_isMinute : x_edgeS y_M_shut y_M_isMinute 305 1 := ⟨l_M_305, i_M_isMinute, b_M_isMinute.1, b_M_isMinute.2.1, b_M_isMinute.2.2, ⟨by decide, by decide⟩, rfl⟩
theorem e_M_shut_M_burns : x_edgeV y_M_shut y_M_burns 369 4 := ⟨⟨l_M_369, i_M_burns.1, b_M_burns.1, b_M_burns.2.1, b_M_burns.2.2, ⟨by decide, by decide⟩, rfl⟩, i_M_burns.2⟩
theorem e_M_shut_M_isShut : x_edgeV y_M_shut y_M_isShut 372 2 := ⟨⟨l_M_372, i_M_isShut.1, b_M_isShut.1, b_M_isShut.2.1, b_M_isShut.2.2, ⟨by decide, by decide⟩, rfl⟩, i_M_isShut.2⟩
theorem e_M_lays_M_begin : x_edgeS y_M_lays y_M_begin 378 2 := ⟨l_M_378, i_M_begin, b_M_begin.1, b_M_begin.2.1, b_M_begin.2.2, ⟨by decide, by decide⟩, rfl⟩
theorem e_M_lays_M_arc : x_edgeV y_M_lays y_M_arc 381 3 := ⟨⟨l_M_381, i_M_arc.1, b_M_arc.1, b_M_arc.2.1, b_M_arc.2.2, ⟨by decide, by decide⟩, rfl⟩, i_M_arc.2⟩
theorem e_M_lays_M_isShut : x_edgeV y_M_lays y_M_isShut 372 2 := ⟨⟨l_M_372, i_M_isShut.1, b_M_isShut.1, b_M_isShut.2.1, b_M_isShut.2.2, ⟨by decide, by decide⟩, rfl⟩, i_M_isShut.2⟩
theorem e_M_lays_M_being : x_edgeS y_M_lays y_M_being 384 2 := ⟨l_M_384, i_M_being, b_M_being.1, b_M_being.2.1, b_M_being.2.2, ⟨by decide, by decide⟩, rfl⟩
theorem e_M_lays_M_wideOut : x_edgeV y_M_lays y_M_wideOut 388 2 := ⟨⟨l_M_388, i_M_wideOut.1, b_M_wideOut.1, b_M_wideOut.2.1, b_M_wideOut.2.2, ⟨by decide, by decide⟩, rfl⟩, i_M_wideOut.2⟩
theorem e_M_passes_JM_min : x_edgeS y_M_passes y_JM_min 325 2 := ⟨l_M_325, i_JM_min, b_JM_min.1, b_JM_min.2.1, b_JM_min.2.2, ⟨by decide, by decide⟩, rfl⟩
theorem e_M_pushes_M_passes : x_edgeV y_M_pushes y_M_passes 391 1 := ⟨⟨l_M_391, i_M_passes.1, b_M_passes.1, b_M_passes.2.1, b_M_passes.2.2, ⟨by decide, by decide⟩, rfl⟩, i_M_passes.2⟩
theorem e_M_most_M_lays : x_edgeV y_M_most y_M_lays 394 3 := ⟨⟨l_M_394, i_M_lays.1, b_M_lays.1, b_M_lays.2.1, b_M_lays.2.2, ⟨by decide, by decide⟩, rfl⟩, i_M_lays.2⟩
theorem e_M_most_M_layers : x_edgeV y_M_most y_M_layers 397 0 := ⟨⟨l_M_397, i_M_layers.1, b_M_layers.1, b_M_layers.2.1, b_M_layers.2.2, ⟨by decide, by decide⟩, rfl⟩, i_M_layers.2⟩
theorem e_M_most_M_pushes : x_edgeV y_M_most y_M_pushes 401 0 := ⟨⟨l_M_401, i_M_pushes.1, b_M_pushes.1, b_M_pushes.2.1, b_M_pushes.2.2, ⟨by decide, by decide⟩, rfl⟩, i_M_pushes.2⟩
theorem e_M_outBy_M_burns : x_edgeV y_M_outBy y_M_burns 369 4 := ⟨⟨l_M_369, i_M_burns.1, b_M_burns.1, b_M_burns.2.1, b_M_burns.2.2, ⟨by decide, by decide⟩, rfl⟩, i_M_burns.2⟩
theorem e_M_outBy_M_made : x_edgeV y_M_outBy y_M_made 405 0 := ⟨⟨l_M_405, i_M_made.1, b_M_made.1, b_M_made.2.1, b_M_made.2.2, ⟨by decide, by decide⟩, rfl⟩, i_M_made.2⟩
theorem e_M_outBy_M_most : x_edgeV y_M_outBy y_M_most 408 3 := ⟨⟨l_M_408, i_M_most.1, b_M_most.1, b_M_most.2.1, b_M_most.2.2, ⟨by decide, by decide⟩, rfl⟩, i_M_most.2⟩
theorem e_M_out_M_isFire : x_edgeV y_M_out y_M_isFire 362 1 := ⟨⟨l_M_362, i_M_isFire.1, b_M_isFire.1, b_M_isFire.2.1, b_M_isFire.2.2, ⟨by decide, by decide⟩, rfl⟩, i_M_isFire.2⟩
theorem e_M_out_M_fails : x_edgeV y_M_out y_M_fails 285 1 := ⟨⟨l_M_285, i_M_fails.1, b_M_fails.1, b_M_fails.2.1, b_M_fails.2.2, ⟨by decide, by decide⟩, rfl⟩, i_M_fails.2⟩
theorem e_M_out_M_isCourse : x_edgeS y_M_out y_M_isCourse 365 3 := ⟨l_M_365, i_M_isCourse, b_M_isCourse.1, b_M_isCourse.2.1, b_M_isCourse.2.2, ⟨by decide, by decide⟩, rfl⟩
theorem e_M_out_M_isMinute : x_edgeS y_M_out y_M_isMinute 305 1 := ⟨l_M_305, i_M_isMinute, b_M_isMinute.1, b_M_isMinute.2.1, b_M_isMinute.2.2, ⟨by decide, by decide⟩, rfl⟩
theorem e_M_out_M_outBy : x_edgeV y_M_out y_M_outBy 411 5 := ⟨⟨l_M_411, i_M_outBy.1, b_M_outBy.1, b_M_outBy.2.1, b_M_outBy.2.2, ⟨by decide, by decide⟩, rfl⟩, i_M_outBy.2⟩
theorem e_M_all_M_isFire : x_edgeV y_M_all y_M_isFire 362 1 := ⟨⟨l_M_362, i_M_isFire.1, b_M_isFire.1, b_M_isFire.2.1, b_M_isFire.2.2, ⟨by decide, by decide⟩, rfl⟩, i_M_isFire.2⟩
theorem e_M_all_M_fails : x_edgeV y_M_all y_M_fails 285 1 := ⟨⟨l_M_285, i_M_fails.1, b_M_fails.1, b_M_fails.2.1, b_M_fails.2.2, ⟨by decide, by decide⟩, rfl⟩, i_M_fails.2⟩
theorem e_M_all_M_isCourse : x_edgeS y_M_all y_M_isCourse 365 3 := ⟨l_M_365, i_M_isCourse, b_M_isCourse.1, b_M_isCourse.2.1, b_M_isCourse.2.2, ⟨by decide, by decide⟩, rfl⟩
theorem e_M_all_M_outBy : x_edgeV y_M_all y_M_outBy 411 5 := ⟨⟨l_M_411, i_M_outBy.1, b_M_outBy.1, b_M_outBy.2.1, b_M_outBy.2.2, ⟨by decide, by decide⟩, rfl⟩, i_M_outBy.2⟩
theorem e_M_all_M_people : x_edgeV y_M_all y_M_people 415 0 := ⟨⟨l_M_415, i_M_people.1, b_M_people.1, b_M_people.2.1, b_M_people.2.2, ⟨by decide, by decide⟩, rfl⟩, i_M_people.2⟩
theorem e_M_side_M_isFire : x_edgeV y_M_side y_M_isFire 362 1 := ⟨⟨l_M_362, i_M_isFire.1, b_M_isFire.1, b_M_isFire.2.1, b_M_isFire.2.2, ⟨by decide, by decide⟩, rfl⟩, i_M_isFire.2⟩
theorem e_M_side_M_fails : x_edgeV y_M_side y_M_fails 285 1 := ⟨⟨l_M_285, i_M_fails.1, b_M_fails.1, b_M_fails.2.1, b_M_fails.2.2, ⟨by decide, by decide⟩, rfl⟩, i_M_fails.2⟩
theorem e_M_side_M_isCourse : x_edgeS y_M_side y_M_isCourse 365 3 := ⟨l_M_365, i_M_isCourse, b_M_isCourse.1, b_M_isCourse.2.1, b_M_isCourse.2.2, ⟨by decide, by decide⟩, rfl⟩
theorem e_M_side_M_isMinute : x_edgeS y_M_side y_M_isMinute 305 1 := ⟨l_M_305, i_M_isMinute, b_M_isMinute.1, b_M_isMinute.2.1, b_M_isMinute.2.2, ⟨by decide, by decide⟩, rfl⟩
theorem e_M_side_M_within : x_edgeS y_M_side y_M_within 222 3 := ⟨l_M_222, i_M_within, b_M_within.1, b_M_within.2.1, b_M_within.2.2, ⟨by decide, by decide⟩, rfl⟩
theorem e_M_side_M_outBy : x_edgeV y_M_side y_M_outBy 411 5 := ⟨⟨l_M_411, i_M_outBy.1, b_M_outBy.1, b_M_outBy.2.1, b_M_outBy.2.2, ⟨by decide, by decide⟩, rfl⟩, i_M_outBy.2⟩
theorem e_M_side_M_sideOf : x_edgeV y_M_side y_M_sideOf 418 1 := ⟨⟨l_M_418, i_M_sideOf.1, b_M_sideOf.1, b_M_sideOf.2.1, b_M_sideOf.2.2, ⟨by decide, by decide⟩, rfl⟩, i_M_sideOf.2⟩
theorem e_M_leaves_M_begin : x_edgeS y_M_leaves y_M_begin 378 2 := ⟨l_M_378, i_M_begin, b_M_begin.1, b_M_begin.2.1, b_M_begin.2.2, ⟨by decide, by decide⟩, rfl⟩
theorem e_M_leaves_M_isIn : x_edgeV y_M_leaves y_M_isIn 421 1 := ⟨⟨l_M_421, i_M_isIn.1, b_M_isIn.1, b_M_isIn.2.1, b_M_isIn.2.2, ⟨by decide, by decide⟩, rfl⟩, i_M_isIn.2⟩
theorem e_M_leaves_M_made : x_edgeV y_M_leaves y_M_made 405 0 := ⟨⟨l_M_405, i_M_made.1, b_M_made.1, b_M_made.2.1, b_M_made.2.2, ⟨by decide, by decide⟩, rfl⟩, i_M_made.2⟩
theorem e_M_leaves_M_wideOut : x_edgeV y_M_leaves y_M_wideOut 388 2 := ⟨⟨l_M_388, i_M_wideOut.1, b_M_wideOut.1, b_M_wideOut.2.1, b_M_wideOut.2.2, ⟨by decide, by decide⟩, rfl⟩, i_M_wideOut.2⟩
theorem e_M_leaves_M_isAt : x_edgeV y_M_leaves y_M_isAt 332 2 := ⟨⟨l_M_332, i_M_isAt.1, b_M_isAt.1, b_M_isAt.2.1, b_M_isAt.2.2, ⟨by decide, by decide⟩, rfl⟩, i_M_isAt.2⟩
theorem e_M_leaves_M_otherEnd : x_edgeV y_M_leaves y_M_otherEnd 342 2 := ⟨⟨l_M_342, i_M_otherEnd.1, b_M_otherEnd.1, b_M_otherEnd.2.1, b_M_otherEnd.2.2, ⟨by decide, by decide⟩, rfl⟩, i_M_otherEnd.2⟩
theorem e_M_worthOf_M_begin : x_edgeS y_M_worthOf y_M_begin 378 2 := ⟨l_M_378, i_M_begin, b_M_begin.1, b_M_begin.2.1, b_M_begin.2.2, ⟨by decide, by decide⟩, rfl⟩
theorem e_M_worthOf_M_isIn : x_edgeV y_M_worthOf y_M_isIn 421 1 := ⟨⟨l_M_421, i_M_isIn.1, b_M_isIn.1, b_M_isIn.2.1, b_M_isIn.2.2, ⟨by decide, by decide⟩, rfl⟩, i_M_isIn.2⟩
theorem e_M_worthOf_M_being : x_edgeS y_M_worthOf y_M_being 384 2 := ⟨l_M_384, i_M_being, b_M_being.1, b_M_being.2.1, b_M_being.2.2, ⟨by decide, by decide⟩, rfl⟩
theorem e_M_worthOf_M_leaves : x_edgeV y_M_worthOf y_M_leaves 424 3 := ⟨⟨l_M_424, i_M_leaves.1, b_M_leaves.1, b_M_leaves.2.1, b_M_leaves.2.2, ⟨by decide, by decide⟩, rfl⟩, i_M_leaves.2⟩
theorem e_M_worthOf_M_isShut : x_edgeV y_M_worthOf y_M_isShut 372 2 := ⟨⟨l_M_372, i_M_isShut.1, b_M_isShut.1, b_M_isShut.2.1, b_M_isShut.2.2, ⟨by decide, by decide⟩, rfl⟩, i_M_isShut.2⟩
theorem e_M_worth_M_isFire : x_edgeV y_M_worth y_M_isFire 362 1 := ⟨⟨l_M_362, i_M_isFire.1, b_M_isFire.1, b_M_isFire.2.1, b_M_isFire.2.2, ⟨by decide, by decide⟩, rfl⟩, i_M_isFire.2⟩
theorem e_M_worth_M_isRow : x_edgeS y_M_worth y_M_isRow 427 1 := ⟨l_M_427, i_M_isRow, b_M_isRow.1, b_M_isRow.2.1, b_M_isRow.2.2, ⟨by decide, by decide⟩, rfl⟩
theorem e_M_worth_M_fails : x_edgeV y_M_worth y_M_fails 285 1 := ⟨⟨l_M_285, i_M_fails.1, b_M_fails.1, b_M_fails.2.1, b_M_fails.2.2, ⟨by decide, by decide⟩, rfl⟩, i_M_fails.2⟩
theorem e_M_worth_M_isCourse : x_edgeS y_M_worth y_M_isCourse 365 3 := ⟨l_M_365, i_M_isCourse, b_M_isCourse.1, b_M_isCourse.2.1, b_M_isCourse.2.2, ⟨by decide, by decide⟩, rfl⟩
theorem e_M_worth_M_isMinute : x_edgeS y_M_worth y_M_isMinute 305 1 := ⟨l_M_305, i_M_isMinute, b_M_isMinute.1, b_M_isMinute.2.1, b_M_isMinute.2.2, ⟨by decide, by decide⟩, rfl⟩
theorem e_M_worth_M_burns : x_edgeV y_M_worth y_M_burns 369 4 := ⟨⟨l_M_369, i_M_burns.1, b_M_burns.1, b_M_burns.2.1, b_M_burns.2.2, ⟨by decide, by decide⟩, rfl⟩, i_M_burns.2⟩
theorem e_M_worth_M_worthOf : x_edgeV y_M_worth y_M_worthOf 432 1 := ⟨⟨l_M_432, i_M_worthOf.1, b_M_worthOf.1, b_M_worthOf.2.1, b_M_worthOf.2.2, ⟨by decide, by decide⟩, rfl⟩, i_M_worthOf.2⟩
theorem e_M_suffices_M_people : x_edgeV y_M_suffices y_M_people 415 0 := ⟨⟨l_M_415, i_M_people.1, b_M_people.1, b_M_people.2.1, b_M_people.2.2, ⟨by decide, by decide⟩, rfl⟩, i_M_people.2⟩
theorem e_M_suffices_M_burns : x_edgeV y_M_suffices y_M_burns 369 4 := ⟨⟨l_M_369, i_M_burns.1, b_M_burns.1, b_M_burns.2.1, b_M_burns.2.2, ⟨by decide, by decide⟩, rfl⟩, i_M_burns.2⟩
theorem e_M_suffices_M_most : x_edgeV y_M_suffices y_M_most 408 3 := ⟨⟨l_M_408, i_M_most.1, b_M_most.1, b_M_most.2.1, b_M_most.2.2, ⟨by decide, by decide⟩, rfl⟩, i_M_most.2⟩
theorem e_M_fewest_M_isPlan : x_edgeS y_M_fewest y_M_isPlan 314 1 := ⟨l_M_314, i_M_isPlan, b_M_isPlan.1, b_M_isPlan.2.1, b_M_isPlan.2.2, ⟨by decide, by decide⟩, rfl⟩
theorem e_M_fewest_M_isMinute : x_edgeS y_M_fewest y_M_isMinute 305 1 := ⟨l_M_305, i_M_isMinute, b_M_isMinute.1, b_M_isMinute.2.1, b_M_isMinute.2.2, ⟨by decide, by decide⟩, rfl⟩
theorem e_M_fewest_M_fails : x_edgeV y_M_fewest y_M_fails 285 1 := ⟨⟨l_M_285, i_M_fails.1, b_M_fails.1, b_M_fails.2.1, b_M_fails.2.2, ⟨by decide, by decide⟩, rfl⟩, i_M_fails.2⟩
theorem e_M_fewest_M_ones : x_edgeS y_M_fewest y_M_ones 435 1 := ⟨l_M_435, i_M_ones, b_M_ones.1, b_M_ones.2.1, b_M_ones.2.2, ⟨by decide, by decide⟩, rfl⟩
theorem e_M_fewest_M_made : x_edgeV y_M_fewest y_M_made 405 0 := ⟨⟨l_M_405, i_M_made.1, b_M_made.1, b_M_made.2.1, b_M_made.2.2, ⟨by decide, by decide⟩, rfl⟩, i_M_made.2⟩
theorem e_M_fewest_M_suffices : x_edgeV y_M_fewest y_M_suffices 438 4 := ⟨⟨l_M_438, i_M_suffices.1, b_M_suffices.1, b_M_suffices.2.1, b_M_suffices.2.2, ⟨by decide, by decide⟩, rfl⟩, i_M_suffices.2⟩
theorem e_M_listens_M_burns : x_edgeV y_M_listens y_M_burns 369 4 := ⟨⟨l_M_369, i_M_burns.1, b_M_burns.1, b_M_burns.2.1, b_M_burns.2.2, ⟨by decide, by decide⟩, rfl⟩, i_M_burns.2⟩
theorem e_M_areAlike_JM_min : x_edgeS y_M_areAlike y_JM_min 325 2 := ⟨l_M_325, i_JM_min, b_JM_min.1, b_JM_min.2.1, b_JM_min.2.2, ⟨by decide, by decide⟩, rfl⟩
theorem e_M_alike_M_isFire : x_edgeV y_M_alike y_M_isFire 362 1 := ⟨⟨l_M_362, i_M_isFire.1, b_M_isFire.1, b_M_isFire.2.1, b_M_isFire.2.2, ⟨by decide, by decide⟩, rfl⟩, i_M_isFire.2⟩
theorem e_M_alike_M_isPlan : x_edgeS y_M_alike y_M_isPlan 314 1 := ⟨l_M_314, i_M_isPlan, b_M_isPlan.1, b_M_isPlan.2.1, b_M_isPlan.2.2, ⟨by decide, by decide⟩, rfl⟩
theorem e_M_alike_M_isMinute : x_edgeS y_M_alike y_M_isMinute 305 1 := ⟨l_M_305, i_M_isMinute, b_M_isMinute.1, b_M_isMinute.2.1, b_M_isMinute.2.2, ⟨by decide, by decide⟩, rfl⟩
theorem e_M_alike_M_listens : x_edgeV y_M_alike y_M_listens 442 2 := ⟨⟨l_M_442, i_M_listens.1, b_M_listens.1, b_M_listens.2.1, b_M_listens.2.2, ⟨by decide, by decide⟩, rfl⟩, i_M_listens.2⟩
theorem e_M_alike_M_areAlike : x_edgeV y_M_alike y_M_areAlike 445 3 := ⟨⟨l_M_445, i_M_areAlike.1, b_M_areAlike.1, b_M_areAlike.2.1, b_M_areAlike.2.2, ⟨by decide, by decide⟩, rfl⟩, i_M_areAlike.2⟩
theorem e_M_bestOut_M_outBy : x_edgeV y_M_bestOut y_M_outBy 411 5 := ⟨⟨l_M_411, i_M_outBy.1, b_M_outBy.1, b_M_outBy.2.1, b_M_outBy.2.2, ⟨by decide, by decide⟩, rfl⟩, i_M_outBy.2⟩
theorem e_M_bestOut_JM_max : x_edgeS y_M_bestOut y_JM_max 244 2 := ⟨l_M_244, i_JM_max, b_JM_max.1, b_JM_max.2.1, b_JM_max.2.2, ⟨by decide, by decide⟩, rfl⟩
theorem e_M_regret_M_isFire : x_edgeV y_M_regret y_M_isFire 362 1 := ⟨⟨l_M_362, i_M_isFire.1, b_M_isFire.1, b_M_isFire.2.1, b_M_isFire.2.2, ⟨by decide, by decide⟩, rfl⟩, i_M_isFire.2⟩
theorem e_M_regret_M_fails : x_edgeV y_M_regret y_M_fails 285 1 := ⟨⟨l_M_285, i_M_fails.1, b_M_fails.1, b_M_fails.2.1, b_M_fails.2.2, ⟨by decide, by decide⟩, rfl⟩, i_M_fails.2⟩
theorem e_M_regret_M_isCourse : x_edgeS y_M_regret y_M_isCourse 365 3 := ⟨l_M_365, i_M_isCourse, b_M_isCourse.1, b_M_isCourse.2.1, b_M_isCourse.2.2, ⟨by decide, by decide⟩, rfl⟩
theorem e_M_regret_M_isMinute : x_edgeS y_M_regret y_M_isMinute 305 1 := ⟨l_M_305, i_M_isMinute, b_M_isMinute.1, b_M_isMinute.2.1, b_M_isMinute.2.2, ⟨by decide, by decide⟩, rfl⟩
theorem e_M_regret_M_bestOut : x_edgeV y_M_regret y_M_bestOut 448 2 := ⟨⟨l_M_448, i_M_bestOut.1, b_M_bestOut.1, b_M_bestOut.2.1, b_M_bestOut.2.2, ⟨by decide, by decide⟩, rfl⟩, i_M_bestOut.2⟩
theorem e_M_regret_M_outBy : x_edgeV y_M_regret y_M_outBy 411 5 := ⟨⟨l_M_411, i_M_outBy.1, b_M_outBy.1, b_M_outBy.2.1, b_M_outBy.2.2, ⟨by decide, by decide⟩, rfl⟩, i_M_outBy.2⟩
theorem e_M_turns_M_bestOut : x_edgeV y_M_turns y_M_bestOut 448 2 := ⟨⟨l_M_448, i_M_bestOut.1, b_M_bestOut.1, b_M_bestOut.2.1, b_M_bestOut.2.2, ⟨by decide, by decide⟩, rfl⟩, i_M_bestOut.2⟩
theorem e_M_turns_M_outBy : x_edgeV y_M_turns y_M_outBy 411 5 := ⟨⟨l_M_411, i_M_outBy.1, b_M_outBy.1, b_M_outBy.2.1, b_M_outBy.2.2, ⟨by decide, by decide⟩, rfl⟩, i_M_outBy.2⟩
theorem e_M_turns_M_listens : x_edgeV y_M_turns y_M_listens 442 2 := ⟨⟨l_M_442, i_M_listens.1, b_M_listens.1, b_M_listens.2.1, b_M_listens.2.2, ⟨by decide, by decide⟩, rfl⟩, i_M_listens.2⟩
theorem e_M_turns_M_areAlike : x_edgeV y_M_turns y_M_areAlike 445 3 := ⟨⟨l_M_445, i_M_areAlike.1, b_M_areAlike.1, b_M_areAlike.2.1, b_M_areAlike.2.2, ⟨by decide, by decide⟩, rfl⟩, i_M_areAlike.2⟩
theorem e_M_turns_JM_max : x_edgeS y_M_turns y_JM_max 244 2 := ⟨l_M_244, i_JM_max, b_JM_max.1, b_JM_max.2.1, b_JM_max.2.2, ⟨by decide, by decide⟩, rfl⟩
theorem e_M_turn_M_fails : x_edgeV y_M_turn y_M_fails 285 1 := ⟨⟨l_M_285, i_M_fails.1, b_M_fails.1, b_M_fails.2.1, b_M_fails.2.2, ⟨by decide, by decide⟩, rfl⟩, i_M_fails.2⟩
theorem e_M_turn_M_isCourse : x_edgeS y_M_turn y_M_isCourse 365 3 := ⟨l_M_365, i_M_isCourse, b_M_isCourse.1, b_M_isCourse.2.1, b_M_isCourse.2.2, ⟨by decide, by decide⟩, rfl⟩
theorem e_M_turn_M_isMinute : x_edgeS y_M_turn y_M_isMinute 305 1 := ⟨l_M_305, i_M_isMinute, b_M_isMinute.1, b_M_isMinute.2.1, b_M_isMinute.2.2, ⟨by decide, by decide⟩, rfl⟩
theorem e_M_turn_M_turns : x_edgeV y_M_turn y_M_turns 455 3 := ⟨⟨l_M_455, i_M_turns.1, b_M_turns.1, b_M_turns.2.1, b_M_turns.2.2, ⟨by decide, by decide⟩, rfl⟩, i_M_turns.2⟩
theorem e_M_turnTo_M_within : x_edgeS y_M_turnTo y_M_within 222 3 := ⟨l_M_222, i_M_within, b_M_within.1, b_M_within.2.1, b_M_within.2.2, ⟨by decide, by decide⟩, rfl⟩
theorem e_M_turnTo_M_fails : x_edgeV y_M_turnTo y_M_fails 285 1 := ⟨⟨l_M_285, i_M_fails.1, b_M_fails.1, b_M_fails.2.1, b_M_fails.2.2, ⟨by decide, by decide⟩, rfl⟩, i_M_fails.2⟩
theorem e_M_turnTo_M_isCourse : x_edgeS y_M_turnTo y_M_isCourse 365 3 := ⟨l_M_365, i_M_isCourse, b_M_isCourse.1, b_M_isCourse.2.1, b_M_isCourse.2.2, ⟨by decide, by decide⟩, rfl⟩
theorem e_M_turnTo_M_isMinute : x_edgeS y_M_turnTo y_M_isMinute 305 1 := ⟨l_M_305, i_M_isMinute, b_M_isMinute.1, b_M_isMinute.2.1, b_M_isMinute.2.2, ⟨by decide, by decide⟩, rfl⟩
theorem e_M_turnTo_M_turns : x_edgeV y_M_turnTo y_M_turns 455 3 := ⟨⟨l_M_455, i_M_turns.1, b_M_turns.1, b_M_turns.2.1, b_M_turns.2.2, ⟨by decide, by decide⟩, rfl⟩, i_M_turns.2⟩
theorem e_M_best_M_fails : x_edgeV y_M_best y_M_fails 285 1 := ⟨⟨l_M_285, i_M_fails.1, b_M_fails.1, b_M_fails.2.1, b_M_fails.2.2, ⟨by decide, by decide⟩, rfl⟩, i_M_fails.2⟩
theorem e_M_best_M_isCourse : x_edgeS y_M_best y_M_isCourse 365 3 := ⟨l_M_365, i_M_isCourse, b_M_isCourse.1, b_M_isCourse.2.1, b_M_isCourse.2.2, ⟨by decide, by decide⟩, rfl⟩
theorem e_M_best_M_isMinute : x_edgeS y_M_best y_M_isMinute 305 1 := ⟨l_M_305, i_M_isMinute, b_M_isMinute.1, b_M_isMinute.2.1, b_M_isMinute.2.2, ⟨by decide, by decide⟩, rfl⟩
theorem e_M_best_M_turns : x_edgeV y_M_best y_M_turns 455 3 := ⟨⟨l_M_455, i_M_turns.1, b_M_turns.1, b_M_turns.2.1, b_M_turns.2.2, ⟨by decide, by decide⟩, rfl⟩, i_M_turns.2⟩
theorem e_M_costs_M_isShut : x_edgeV y_M_costs y_M_isShut 372 2 := ⟨⟨l_M_372, i_M_isShut.1, b_M_isShut.1, b_M_isShut.2.1, b_M_isShut.2.2, ⟨by decide, by decide⟩, rfl⟩, i_M_isShut.2⟩
theorem e_M_walksOn_M_costs : x_edgeV y_M_walksOn y_M_costs 458 3 := ⟨⟨l_M_458, i_M_costs.1, b_M_costs.1, b_M_costs.2.1, b_M_costs.2.2, ⟨by decide, by decide⟩, rfl⟩, i_M_costs.2⟩
theorem e_M_walksOn_JM_min : x_edgeS y_M_walksOn y_JM_min 325 2 := ⟨l_M_325, i_JM_min, b_JM_min.1, b_JM_min.2.1, b_JM_min.2.2, ⟨by decide, by decide⟩, rfl⟩
theorem e_M_walksOn_M_isAt : x_edgeV y_M_walksOn y_M_isAt 332 2 := ⟨⟨l_M_332, i_M_isAt.1, b_M_isAt.1, b_M_isAt.2.1, b_M_isAt.2.2, ⟨by decide, by decide⟩, rfl⟩, i_M_isAt.2⟩
theorem e_M_walksOn_M_otherEnd : x_edgeV y_M_walksOn y_M_otherEnd 342 2 := ⟨⟨l_M_342, i_M_otherEnd.1, b_M_otherEnd.1, b_M_otherEnd.2.1, b_M_otherEnd.2.2, ⟨by decide, by decide⟩, rfl⟩, i_M_otherEnd.2⟩
theorem e_M_reach_M_isFire : x_edgeV y_M_reach y_M_isFire 362 1 := ⟨⟨l_M_362, i_M_isFire.1, b_M_isFire.1, b_M_isFire.2.1, b_M_isFire.2.2, ⟨by decide, by decide⟩, rfl⟩, i_M_isFire.2⟩
theorem e_M_reach_M_isPiece : x_edgeV y_M_reach y_M_isPiece 293 1 := ⟨⟨l_M_293, i_M_isPiece.1, b_M_isPiece.1, b_M_isPiece.2.1, b_M_isPiece.2.2, ⟨by decide, by decide⟩, rfl⟩, i_M_isPiece.2⟩
theorem e_M_reach_M_fails : x_edgeV y_M_reach y_M_fails 285 1 := ⟨⟨l_M_285, i_M_fails.1, b_M_fails.1, b_M_fails.2.1, b_M_fails.2.2, ⟨by decide, by decide⟩, rfl⟩, i_M_fails.2⟩
theorem e_M_reach_M_isCourse : x_edgeS y_M_reach y_M_isCourse 365 3 := ⟨l_M_365, i_M_isCourse, b_M_isCourse.1, b_M_isCourse.2.1, b_M_isCourse.2.2, ⟨by decide, by decide⟩, rfl⟩
theorem e_M_reach_M_within : x_edgeS y_M_reach y_M_within 222 3 := ⟨l_M_222, i_M_within, b_M_within.1, b_M_within.2.1, b_M_within.2.2, ⟨by decide, by decide⟩, rfl⟩
theorem e_M_reach_M_burns : x_edgeV y_M_reach y_M_burns 369 4 := ⟨⟨l_M_369, i_M_burns.1, b_M_burns.1, b_M_burns.2.1, b_M_burns.2.2, ⟨by decide, by decide⟩, rfl⟩, i_M_burns.2⟩
theorem e_M_reach_M_walksOn : x_edgeV y_M_reach y_M_walksOn 461 0 := ⟨⟨l_M_461, i_M_walksOn.1, b_M_walksOn.1, b_M_walksOn.2.1, b_M_walksOn.2.2, ⟨by decide, by decide⟩, rfl⟩, i_M_walksOn.2⟩
theorem e_M_drill_M_isMinute : x_edgeS y_M_drill y_M_isMinute 305 1 := ⟨l_M_305, i_M_isMinute, b_M_isMinute.1, b_M_isMinute.2.1, b_M_isMinute.2.2, ⟨by decide, by decide⟩, rfl⟩
theorem e_M_drill_M_within : x_edgeS y_M_drill y_M_within 222 3 := ⟨l_M_222, i_M_within, b_M_within.1, b_M_within.2.1, b_M_within.2.2, ⟨by decide, by decide⟩, rfl⟩
theorem e_M_drill_M_fails : x_edgeV y_M_drill y_M_fails 285 1 := ⟨⟨l_M_285, i_M_fails.1, b_M_fails.1, b_M_fails.2.1, b_M_fails.2.2, ⟨by decide, by decide⟩, rfl⟩, i_M_fails.2⟩
theorem e_M_drill_M_act : x_edgeV y_M_drill y_M_act 289 7 := ⟨⟨l_M_289, i_M_act.1, b_M_act.1, b_M_act.2.1, b_M_act.2.2, ⟨by decide, by decide⟩, rfl⟩, i_M_act.2⟩
theorem e_M_fit_M_burns : x_edgeV y_M_fit y_M_burns 369 4 := ⟨⟨l_M_369, i_M_burns.1, b_M_burns.1, b_M_burns.2.1, b_M_burns.2.2, ⟨by decide, by decide⟩, rfl⟩, i_M_burns.2⟩
theorem e_M_fit_M_made : x_edgeV y_M_fit y_M_made 405 0 := ⟨⟨l_M_405, i_M_made.1, b_M_made.1, b_M_made.2.1, b_M_made.2.2, ⟨by decide, by decide⟩, rfl⟩, i_M_made.2⟩
theorem e_M_fit_M_most : x_edgeV y_M_fit y_M_most 408 3 := ⟨⟨l_M_408, i_M_most.1, b_M_most.1, b_M_most.2.1, b_M_most.2.2, ⟨by decide, by decide⟩, rfl⟩, i_M_most.2⟩
theorem e_M_goesAlone_M_isShut : x_edgeV y_M_goesAlone y_M_isShut 372 2 := ⟨⟨l_M_372, i_M_isShut.1, b_M_isShut.1, b_M_isShut.2.1, b_M_isShut.2.2, ⟨by decide, by decide⟩, rfl⟩, i_M_isShut.2⟩
theorem e_M_goesAlone_M_made : x_edgeV y_M_goesAlone y_M_made 405 0 := ⟨⟨l_M_405, i_M_made.1, b_M_made.1, b_M_made.2.1, b_M_made.2.2, ⟨by decide, by decide⟩, rfl⟩, i_M_made.2⟩
theorem e_M_goesAlone_M_wideOut : x_edgeV y_M_goesAlone y_M_wideOut 388 2 := ⟨⟨l_M_388, i_M_wideOut.1, b_M_wideOut.1, b_M_wideOut.2.1, b_M_wideOut.2.2, ⟨by decide, by decide⟩, rfl⟩, i_M_wideOut.2⟩
theorem e_M_goesAlone_M_tries : x_edgeV y_M_goesAlone y_M_tries 468 4 := ⟨⟨l_M_468, i_M_tries.1, b_M_tries.1, b_M_tries.2.1, b_M_tries.2.2, ⟨by decide, by decide⟩, rfl⟩, i_M_tries.2⟩
theorem e_M_goesAlone_M_isAt : x_edgeV y_M_goesAlone y_M_isAt 332 2 := ⟨⟨l_M_332, i_M_isAt.1, b_M_isAt.1, b_M_isAt.2.1, b_M_isAt.2.2, ⟨by decide, by decide⟩, rfl⟩, i_M_isAt.2⟩
theorem e_M_goesAlone_M_otherEnd : x_edgeV y_M_goesAlone y_M_otherEnd 342 2 := ⟨⟨l_M_342, i_M_otherEnd.1, b_M_otherEnd.1, b_M_otherEnd.2.1, b_M_otherEnd.2.2, ⟨by decide, by decide⟩, rfl⟩, i_M_otherEnd.2⟩
theorem e_M_alone_M_burns : x_edgeV y_M_alone y_M_burns 369 4 := ⟨⟨l_M_369, i_M_burns.1, b_M_burns.1, b_M_burns.2.1, b_M_burns.2.2, ⟨by decide, by decide⟩, rfl⟩, i_M_burns.2⟩
theorem e_M_alone_M_goesAlone : x_edgeV y_M_alone y_M_goesAlone 472 2 := ⟨⟨l_M_472, i_M_goesAlone.1, b_M_goesAlone.1, b_M_goesAlone.2.1, b_M_goesAlone.2.2, ⟨by decide, by decide⟩, rfl⟩, i_M_goesAlone.2⟩
theorem e_M_refuses_M_isFire : x_edgeV y_M_refuses y_M_isFire 362 1 := ⟨⟨l_M_362, i_M_isFire.1, b_M_isFire.1, b_M_isFire.2.1, b_M_isFire.2.2, ⟨by decide, by decide⟩, rfl⟩, i_M_isFire.2⟩
theorem e_M_refuses_M_isPiece : x_edgeV y_M_refuses y_M_isPiece 293 1 := ⟨⟨l_M_293, i_M_isPiece.1, b_M_isPiece.1, b_M_isPiece.2.1, b_M_isPiece.2.2, ⟨by decide, by decide⟩, rfl⟩, i_M_isPiece.2⟩
theorem e_M_refuses_M_isCourse : x_edgeS y_M_refuses y_M_isCourse 365 3 := ⟨l_M_365, i_M_isCourse, b_M_isCourse.1, b_M_isCourse.2.1, b_M_isCourse.2.2, ⟨by decide, by decide⟩, rfl⟩
theorem e_M_refuses_M_isMinute : x_edgeS y_M_refuses y_M_isMinute 305 1 := ⟨l_M_305, i_M_isMinute, b_M_isMinute.1, b_M_isMinute.2.1, b_M_isMinute.2.2, ⟨by decide, by decide⟩, rfl⟩
theorem e_M_dose_M_refuses : x_edgeV y_M_dose y_M_refuses 475 6 := ⟨⟨l_M_475, i_M_refuses.1, b_M_refuses.1, b_M_refuses.2.1, b_M_refuses.2.2, ⟨by decide, by decide⟩, rfl⟩, i_M_refuses.2⟩
theorem e_M_dose_M_alone : x_edgeV y_M_dose y_M_alone 479 4 := ⟨⟨l_M_479, i_M_alone.1, b_M_alone.1, b_M_alone.2.1, b_M_alone.2.2, ⟨by decide, by decide⟩, rfl⟩, i_M_alone.2⟩
theorem e_M_outAt_M_refuses : x_edgeV y_M_outAt y_M_refuses 475 6 := ⟨⟨l_M_475, i_M_refuses.1, b_M_refuses.1, b_M_refuses.2.1, b_M_refuses.2.2, ⟨by decide, by decide⟩, rfl⟩, i_M_refuses.2⟩
theorem e_M_outAt_M_alone : x_edgeV y_M_outAt y_M_alone 479 4 := ⟨⟨l_M_479, i_M_alone.1, b_M_alone.1, b_M_alone.2.1, b_M_alone.2.2, ⟨by decide, by decide⟩, rfl⟩, i_M_alone.2⟩
theorem e_M_whereAt_M_refuses : x_edgeV y_M_whereAt y_M_refuses 475 6 := ⟨⟨l_M_475, i_M_refuses.1, b_M_refuses.1, b_M_refuses.2.1, b_M_refuses.2.2, ⟨by decide, by decide⟩, rfl⟩, i_M_refuses.2⟩
theorem e_M_whereAt_M_isMinute : x_edgeS y_M_whereAt y_M_isMinute 305 1 := ⟨l_M_305, i_M_isMinute, b_M_isMinute.1, b_M_isMinute.2.1, b_M_isMinute.2.2, ⟨by decide, by decide⟩, rfl⟩
theorem e_M_whereAt_M_alone : x_edgeV y_M_whereAt y_M_alone 479 4 := ⟨⟨l_M_479, i_M_alone.1, b_M_alone.1, b_M_alone.2.1, b_M_alone.2.2, ⟨by decide, by decide⟩, rfl⟩, i_M_alone.2⟩
theorem e_M_whereAt_M_otherEnd : x_edgeV y_M_whereAt y_M_otherEnd 342 2 := ⟨⟨l_M_342, i_M_otherEnd.1, b_M_otherEnd.1, b_M_otherEnd.2.1, b_M_otherEnd.2.2, ⟨by decide, by decide⟩, rfl⟩, i_M_otherEnd.2⟩
theorem e_M_reading_M_isPiece : x_edgeV y_M_reading y_M_isPiece 293 1 := ⟨⟨l_M_293, i_M_isPiece.1, b_M_isPiece.1, b_M_isPiece.2.1, b_M_isPiece.2.2, ⟨by decide, by decide⟩, rfl⟩, i_M_isPiece.2⟩
theorem e_M_reading_M_fails : x_edgeV y_M_reading y_M_fails 285 1 := ⟨⟨l_M_285, i_M_fails.1, b_M_fails.1, b_M_fails.2.1, b_M_fails.2.2, ⟨by decide, by decide⟩, rfl⟩, i_M_fails.2⟩
theorem e_M_reading_M_isMinute : x_edgeS y_M_reading y_M_isMinute 305 1 := ⟨l_M_305, i_M_isMinute, b_M_isMinute.1, b_M_isMinute.2.1, b_M_isMinute.2.2, ⟨by decide, by decide⟩, rfl⟩
theorem e_M_reading_M_act : x_edgeV y_M_reading y_M_act 289 7 := ⟨⟨l_M_289, i_M_act.1, b_M_act.1, b_M_act.2.1, b_M_act.2.2, ⟨by decide, by decide⟩, rfl⟩, i_M_act.2⟩
theorem e_M_fitting_M_burns : x_edgeV y_M_fitting y_M_burns 369 4 := ⟨⟨l_M_369, i_M_burns.1, b_M_burns.1, b_M_burns.2.1, b_M_burns.2.2, ⟨by decide, by decide⟩, rfl⟩, i_M_burns.2⟩
theorem e_M_fits_M_isPlan : x_edgeS y_M_fits y_M_isPlan 314 1 := ⟨l_M_314, i_M_isPlan, b_M_isPlan.1, b_M_isPlan.2.1, b_M_isPlan.2.2, ⟨by decide, by decide⟩, rfl⟩
theorem e_M_fits_M_fitting : x_edgeV y_M_fits y_M_fitting 482 1 := ⟨⟨l_M_482, i_M_fitting.1, b_M_fitting.1, b_M_fitting.2.1, b_M_fitting.2.2, ⟨by decide, by decide⟩, rfl⟩, i_M_fitting.2⟩
theorem e_M_fits_M_fails : x_edgeV y_M_fits y_M_fails 285 1 := ⟨⟨l_M_285, i_M_fails.1, b_M_fails.1, b_M_fails.2.1, b_M_fails.2.2, ⟨by decide, by decide⟩, rfl⟩, i_M_fails.2⟩
theorem e_M_next_M_isPlan : x_edgeS y_M_next y_M_isPlan 314 1 := ⟨l_M_314, i_M_isPlan, b_M_isPlan.1, b_M_isPlan.2.1, b_M_isPlan.2.2, ⟨by decide, by decide⟩, rfl⟩
theorem e_M_next_M_fails : x_edgeV y_M_next y_M_fails 285 1 := ⟨⟨l_M_285, i_M_fails.1, b_M_fails.1, b_M_fails.2.1, b_M_fails.2.2, ⟨by decide, by decide⟩, rfl⟩, i_M_fails.2⟩
theorem e_M_next_M_fitting : x_edgeV y_M_next y_M_fitting 482 1 := ⟨⟨l_M_482, i_M_fitting.1, b_M_fitting.1, b_M_fitting.2.1, b_M_fitting.2.2, ⟨by decide, by decide⟩, rfl⟩, i_M_fitting.2⟩
theorem e_M_next_M_ones : x_edgeS y_M_next y_M_ones 435 1 := ⟨l_M_435, i_M_ones, b_M_ones.1, b_M_ones.2.1, b_M_ones.2.2, ⟨by decide, by decide⟩, rfl⟩
theorem e_M_next_JM_max : x_edgeS y_M_next y_JM_max 244 2 := ⟨l_M_244, i_JM_max, b_JM_max.1, b_JM_max.2.1, b_JM_max.2.2, ⟨by decide, by decide⟩, rfl⟩
theorem e_M_isRow_M_within : x_edgeS y_M_isRow y_M_within 222 3 := ⟨l_M_222, i_M_within, b_M_within.1, b_M_within.2.1, b_M_within.2.2, ⟨by decide, by decide⟩, rfl⟩
theorem e_M_row_M_isRow : x_edgeS y_M_row y_M_isRow 427 1 := ⟨l_M_427, i_M_isRow, b_M_isRow.1, b_M_isRow.2.1, b_M_isRow.2.2, ⟨by decide, by decide⟩, rfl⟩
theorem e_M_row_M_within : x_edgeS y_M_row y_M_within 222 3 := ⟨l_M_222, i_M_within, b_M_within.1, b_M_within.2.1, b_M_within.2.2, ⟨by decide, by decide⟩, rfl⟩
theorem e_M_write_M_isRow : x_edgeS y_M_write y_M_isRow 427 1 := ⟨l_M_427, i_M_isRow, b_M_isRow.1, b_M_isRow.2.1, b_M_isRow.2.2, ⟨by decide, by decide⟩, rfl⟩
theorem e_M_write_M_fails : x_edgeV y_M_write y_M_fails 285 1 := ⟨⟨l_M_285, i_M_fails.1, b_M_fails.1, b_M_fails.2.1, b_M_fails.2.2, ⟨by decide, by decide⟩, rfl⟩, i_M_fails.2⟩
theorem e_M_write_M_within : x_edgeS y_M_write y_M_within 222 3 := ⟨l_M_222, i_M_within, b_M_within.1, b_M_within.2.1, b_M_within.2.2, ⟨by decide, by decide⟩, rfl⟩
theorem e_M_write_M_puts : x_edgeV y_M_write y_M_puts 487 3 := ⟨⟨l_M_487, i_M_puts.1, b_M_puts.1, b_M_puts.2.1, b_M_puts.2.2, ⟨by decide, by decide⟩, rfl⟩, i_M_puts.2⟩
theorem e_M_lay_M_isFire : x_edgeV y_M_lay y_M_isFire 362 1 := ⟨⟨l_M_362, i_M_isFire.1, b_M_isFire.1, b_M_isFire.2.1, b_M_isFire.2.2, ⟨by decide, by decide⟩, rfl⟩, i_M_isFire.2⟩
theorem e_M_lay_M_isRow : x_edgeS y_M_lay y_M_isRow 427 1 := ⟨l_M_427, i_M_isRow, b_M_isRow.1, b_M_isRow.2.1, b_M_isRow.2.2, ⟨by decide, by decide⟩, rfl⟩
theorem e_M_lay_M_fails : x_edgeV y_M_lay y_M_fails 285 1 := ⟨⟨l_M_285, i_M_fails.1, b_M_fails.1, b_M_fails.2.1, b_M_fails.2.2, ⟨by decide, by decide⟩, rfl⟩, i_M_fails.2⟩
theorem e_M_lay_M_isCourse : x_edgeS y_M_lay y_M_isCourse 365 3 := ⟨l_M_365, i_M_isCourse, b_M_isCourse.1, b_M_isCourse.2.1, b_M_isCourse.2.2, ⟨by decide, by decide⟩, rfl⟩
theorem e_M_lay_M_isMinute : x_edgeS y_M_lay y_M_isMinute 305 1 := ⟨l_M_305, i_M_isMinute, b_M_isMinute.1, b_M_isMinute.2.1, b_M_isMinute.2.2, ⟨by decide, by decide⟩, rfl⟩
theorem e_M_lay_M_outBy : x_edgeV y_M_lay y_M_outBy 411 5 := ⟨⟨l_M_411, i_M_outBy.1, b_M_outBy.1, b_M_outBy.2.1, b_M_outBy.2.2, ⟨by decide, by decide⟩, rfl⟩, i_M_outBy.2⟩
theorem e_M_lay_M_sideOf : x_edgeV y_M_lay y_M_sideOf 418 1 := ⟨⟨l_M_418, i_M_sideOf.1, b_M_sideOf.1, b_M_sideOf.2.1, b_M_sideOf.2.2, ⟨by decide, by decide⟩, rfl⟩, i_M_sideOf.2⟩
theorem e_M_lay_M_puts : x_edgeV y_M_lay y_M_puts 487 3 := ⟨⟨l_M_487, i_M_puts.1, b_M_puts.1, b_M_puts.2.1, b_M_puts.2.2, ⟨by decide, by decide⟩, rfl⟩, i_M_puts.2⟩
theorem e_M_count_M_people : x_edgeV y_M_count y_M_people 415 0 := ⟨⟨l_M_415, i_M_people.1, b_M_people.1, b_M_people.2.1, b_M_people.2.2, ⟨by decide, by decide⟩, rfl⟩, i_M_people.2⟩
theorem e_M_count_M_made : x_edgeV y_M_count y_M_made 405 0 := ⟨⟨l_M_405, i_M_made.1, b_M_made.1, b_M_made.2.1, b_M_made.2.2, ⟨by decide, by decide⟩, rfl⟩, i_M_made.2⟩
theorem e_M_count_M_ones : x_edgeS y_M_count y_M_ones 435 1 := ⟨l_M_435, i_M_ones, b_M_ones.1, b_M_ones.2.1, b_M_ones.2.2, ⟨by decide, by decide⟩, rfl⟩
