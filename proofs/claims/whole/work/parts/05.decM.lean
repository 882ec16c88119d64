theorem d_M_init_0 : decode b_M_init 0 = .ok (.aload_n 0, 1) := by decide +kernel
theorem d_M_init_1 : decode b_M_init 1 = .ok (.invokespecial 1, 3) := by decide +kernel
theorem d_M_init_4 : decode b_M_init 4 = .ok (.aload_n 0, 1) := by decide +kernel
theorem d_M_init_5 : decode b_M_init 5 = .ok (.bipush 8, 2) := by decide +kernel
theorem d_M_init_7 : decode b_M_init 7 = .ok (.newarray .int, 2) := by decide +kernel
theorem d_M_init_9 : decode b_M_init 9 = .ok (.putfield 7, 3) := by decide +kernel
theorem d_M_init_12 : decode b_M_init 12 = .ok (.aload_n 0, 1) := by decide +kernel
theorem d_M_init_13 : decode b_M_init 13 = .ok (.bipush 60, 2) := by decide +kernel
theorem d_M_init_15 : decode b_M_init 15 = .ok (.newarray .int, 2) := by decide +kernel
theorem d_M_init_17 : decode b_M_init 17 = .ok (.putfield 13, 3) := by decide +kernel
theorem d_M_init_20 : decode b_M_init 20 = .ok (.aload_n 0, 1) := by decide +kernel
theorem d_M_init_21 : decode b_M_init 21 = .ok (.bipush 60, 2) := by decide +kernel
theorem d_M_init_23 : decode b_M_init 23 = .ok (.newarray .int, 2) := by decide +kernel
theorem d_M_init_25 : decode b_M_init 25 = .ok (.putfield 16, 3) := by decide +kernel
theorem d_M_init_28 : decode b_M_init 28 = .ok (.aload_n 0, 1) := by decide +kernel
theorem d_M_init_29 : decode b_M_init 29 = .ok (.bipush 60, 2) := by decide +kernel
theorem d_M_init_31 : decode b_M_init 31 = .ok (.newarray .int, 2) := by decide +kernel
theorem d_M_init_33 : decode b_M_init 33 = .ok (.putfield 19, 3) := by decide +kernel
theorem d_M_init_36 : decode b_M_init 36 = .ok (.aload_n 0, 1) := by decide +kernel
theorem d_M_init_37 : decode b_M_init 37 = .ok (.bipush 60, 2) := by decide +kernel
theorem d_M_init_39 : decode b_M_init 39 = .ok (.newarray .int, 2) := by decide +kernel
theorem d_M_init_41 : decode b_M_init 41 = .ok (.putfield 22, 3) := by decide +kernel
theorem d_M_init_44 : decode b_M_init 44 = .ok (.aload_n 0, 1) := by decide +kernel
theorem d_M_init_45 : decode b_M_init 45 = .ok (.bipush 60, 2) := by decide +kernel
theorem d_M_init_47 : decode b_M_init 47 = .ok (.newarray .boolean, 2) := by decide +kernel
theorem d_M_init_49 : decode b_M_init 49 = .ok (.putfield 25, 3) := by decide +kernel
theorem d_M_init_52 : decode b_M_init 52 = .ok (.aload_n 0, 1) := by decide +kernel
theorem d_M_init_53 : decode b_M_init 53 = .ok (.sipush 1000, 3) := by decide +kernel
theorem d_M_init_56 : decode b_M_init 56 = .ok (.newarray .int, 2) := by decide +kernel
theorem d_M_init_58 : decode b_M_init 58 = .ok (.putfield 29, 3) := by decide +kernel
theorem d_M_init_61 : decode b_M_init 61 = .ok (.return_, 1) := by decide +kernel
theorem cy_M_init : zY y_M_init b_M_init 1 none 0 := ⟨kw_588, kw_3, by decide +kernel, by decide +kernel⟩
theorem d_M_in_0 : decode b_M_in 0 = .ok (.iload_n 0, 1) := by decide +kernel
theorem d_M_in_1 : decode b_M_in 1 = .ok (.iload_n 1, 1) := by decide +kernel
theorem d_M_in_2 : decode b_M_in 2 = .ok (.if_icmp .lt 12, 3) := by decide +kernel
theorem d_M_in_5 : decode b_M_in 5 = .ok (.iload_n 0, 1) := by decide +kernel
theorem d_M_in_6 : decode b_M_in 6 = .ok (.iload_n 2, 1) := by decide +kernel
theorem d_M_in_7 : decode b_M_in 7 = .ok (.if_icmp .gt 7, 3) := by decide +kernel
theorem d_M_in_10 : decode b_M_in 10 = .ok (.iconst 1, 1) := by decide +kernel
theorem d_M_in_11 : decode b_M_in 11 = .ok (.goto 4, 3) := by decide +kernel
theorem d_M_in_14 : decode b_M_in 14 = .ok (.iconst 0, 1) := by decide +kernel
theorem d_M_in_15 : decode b_M_in 15 = .ok (.ireturn, 1) := by decide +kernel
theorem cy_M_in : zY y_M_in b_M_in 3 (some (FieldType.boolean)) 3 := ⟨kw_637, kw_3, by decide +kernel, by decide +kernel⟩
theorem d_M_isLamp_0 : decode b_M_isLamp 0 = .ok (.iload_n 1, 1) := by decide +kernel
theorem d_M_isLamp_1 : decode b_M_isLamp 1 = .ok (.iconst 0, 1) := by decide +kernel
theorem d_M_isLamp_2 : decode b_M_isLamp 2 = .ok (.aload_n 0, 1) := by decide +kernel
theorem d_M_isLamp_3 : decode b_M_isLamp 3 = .ok (.getfield 32, 3) := by decide +kernel
theorem d_M_isLamp_6 : decode b_M_isLamp 6 = .ok (.iconst 1, 1) := by decide +kernel
theorem d_M_isLamp_7 : decode b_M_isLamp 7 = .ok (.isub, 1) := by decide +kernel
theorem d_M_isLamp_8 : decode b_M_isLamp 8 = .ok (.invokestatic 36, 3) := by decide +kernel
theorem d_M_isLamp_11 : decode b_M_isLamp 11 = .ok (.ireturn, 1) := by decide +kernel
theorem cy_M_isLamp : zY y_M_isLamp b_M_isLamp 2 (some (FieldType.boolean)) 1 := ⟨kw_649, kw_3, by decide +kernel, by decide +kernel⟩
theorem d_M_isHorned_0 : decode b_M_isHorned 0 = .ok (.aload_n 0, 1) := by decide +kernel
theorem d_M_isHorned_1 : decode b_M_isHorned 1 = .ok (.getfield 13, 3) := by decide +kernel
theorem d_M_isHorned_4 : decode b_M_isHorned 4 = .ok (.iload_n 1, 1) := by decide +kernel
theorem d_M_isHorned_5 : decode b_M_isHorned 5 = .ok (.iaload, 1) := by decide +kernel
theorem d_M_isHorned_6 : decode b_M_isHorned 6 = .ok (.iconst 3, 1) := by decide +kernel
theorem d_M_isHorned_7 : decode b_M_isHorned 7 = .ok (.iconst 5, 1) := by decide +kernel
theorem d_M_isHorned_8 : decode b_M_isHorned 8 = .ok (.invokestatic 36, 3) := by decide +kernel
theorem d_M_isHorned_11 : decode b_M_isHorned 11 = .ok (.ifCond .ne 14, 3) := by decide +kernel
theorem d_M_isHorned_14 : decode b_M_isHorned 14 = .ok (.aload_n 0, 1) := by decide +kernel
theorem d_M_isHorned_15 : decode b_M_isHorned 15 = .ok (.getfield 13, 3) := by decide +kernel
theorem d_M_isHorned_18 : decode b_M_isHorned 18 = .ok (.iload_n 1, 1) := by decide +kernel
theorem d_M_isHorned_19 : decode b_M_isHorned 19 = .ok (.iaload, 1) := by decide +kernel
theorem d_M_isHorned_20 : decode b_M_isHorned 20 = .ok (.bipush 6, 2) := by decide +kernel
theorem d_M_isHorned_22 : decode b_M_isHorned 22 = .ok (.if_icmp .le 7, 3) := by decide +kernel
theorem d_M_isHorned_25 : decode b_M_isHorned 25 = .ok (.iconst 1, 1) := by decide +kernel
theorem d_M_isHorned_26 : decode b_M_isHorned 26 = .ok (.goto 4, 3) := by decide +kernel
theorem d_M_isHorned_29 : decode b_M_isHorned 29 = .ok (.iconst 0, 1) := by decide +kernel
theorem d_M_isHorned_30 : decode b_M_isHorned 30 = .ok (.ireturn, 1) := by decide +kernel
theorem cy_M_isHorned : zY y_M_isHorned b_M_isHorned 2 (some (FieldType.boolean)) 1 := ⟨kw_658, kw_3, by decide +kernel, by decide +kernel⟩
theorem d_M_begins_0 : decode b_M_begins 0 = .ok (.aload_n 0, 1) := by decide +kernel
theorem d_M_begins_1 : decode b_M_begins 1 = .ok (.getfield 40, 3) := by decide +kernel
theorem d_M_begins_4 : decode b_M_begins 4 = .ok (.sipush 1000, 3) := by decide +kernel
theorem d_M_begins_7 : decode b_M_begins 7 = .ok (.if_icmp .ge 23, 3) := by decide +kernel
theorem d_M_begins_10 : decode b_M_begins 10 = .ok (.aload_n 0, 1) := by decide +kernel
theorem d_M_begins_11 : decode b_M_begins 11 = .ok (.getfield 29, 3) := by decide +kernel
theorem d_M_begins_14 : decode b_M_begins 14 = .ok (.aload_n 0, 1) := by decide +kernel
theorem d_M_begins_15 : decode b_M_begins 15 = .ok (.getfield 40, 3) := by decide +kernel
theorem d_M_begins_18 : decode b_M_begins 18 = .ok (.iload_n 1, 1) := by decide +kernel
theorem d_M_begins_19 : decode b_M_begins 19 = .ok (.iastore, 1) := by decide +kernel
theorem d_M_begins_20 : decode b_M_begins 20 = .ok (.aload_n 0, 1) := by decide +kernel
theorem d_M_begins_21 : decode b_M_begins 21 = .ok (.dup, 1) := by decide +kernel
theorem d_M_begins_22 : decode b_M_begins 22 = .ok (.getfield 40, 3) := by decide +kernel
theorem d_M_begins_25 : decode b_M_begins 25 = .ok (.iconst 1, 1) := by decide +kernel
theorem d_M_begins_26 : decode b_M_begins 26 = .ok (.iadd, 1) := by decide +kernel
theorem d_M_begins_27 : decode b_M_begins 27 = .ok (.putfield 40, 3) := by decide +kernel
theorem d_M_begins_30 : decode b_M_begins 30 = .ok (.return_, 1) := by decide +kernel
theorem cy_M_begins : zY y_M_begins b_M_begins 2 none 1 := ⟨kw_671, kw_3, by decide +kernel, by decide +kernel⟩
theorem d_M_act_0 : decode b_M_act 0 = .ok (.aload_n 0, 1) := by decide +kernel
theorem d_M_act_1 : decode b_M_act 1 = .ok (.iconst 0, 1) := by decide +kernel
theorem d_M_act_2 : decode b_M_act 2 = .ok (.putfield 40, 3) := by decide +kernel
theorem d_M_act_5 : decode b_M_act 5 = .ok (.aload_n 0, 1) := by decide +kernel
theorem d_M_act_6 : decode b_M_act 6 = .ok (.dup, 1) := by decide +kernel
theorem d_M_act_7 : decode b_M_act 7 = .ok (.getfield 43, 3) := by decide +kernel
theorem d_M_act_10 : decode b_M_act 10 = .ok (.iconst 1, 1) := by decide +kernel
theorem d_M_act_11 : decode b_M_act 11 = .ok (.iadd, 1) := by decide +kernel
theorem d_M_act_12 : decode b_M_act 12 = .ok (.putfield 43, 3) := by decide +kernel
theorem d_M_act_15 : decode b_M_act 15 = .ok (.return_, 1) := by decide +kernel
theorem cy_M_act : zY y_M_act b_M_act 1 none 0 := ⟨kw_654, kw_3, by decide +kernel, by decide +kernel⟩
theorem d_M_burnLamp_0 : decode b_M_burnLamp 0 = .ok (.aload_n 0, 1) := by decide +kernel
theorem d_M_burnLamp_1 : decode b_M_burnLamp 1 = .ok (.iconst 0, 1) := by decide +kernel
theorem d_M_burnLamp_2 : decode b_M_burnLamp 2 = .ok (.invokevirtual 46, 3) := by decide +kernel
theorem d_M_burnLamp_5 : decode b_M_burnLamp 5 = .ok (.aload_n 0, 1) := by decide +kernel
theorem d_M_burnLamp_6 : decode b_M_burnLamp 6 = .ok (.getfield 22, 3) := by decide +kernel
theorem d_M_burnLamp_9 : decode b_M_burnLamp 9 = .ok (.iload_n 1, 1) := by decide +kernel
theorem d_M_burnLamp_10 : decode b_M_burnLamp 10 = .ok (.dup2, 1) := by decide +kernel
theorem d_M_burnLamp_11 : decode b_M_burnLamp 11 = .ok (.iaload, 1) := by decide +kernel
theorem d_M_burnLamp_12 : decode b_M_burnLamp 12 = .ok (.iload_n 2, 1) := by decide +kernel
theorem d_M_burnLamp_13 : decode b_M_burnLamp 13 = .ok (.iadd, 1) := by decide +kernel
theorem d_M_burnLamp_14 : decode b_M_burnLamp 14 = .ok (.iastore, 1) := by decide +kernel
theorem d_M_burnLamp_15 : decode b_M_burnLamp 15 = .ok (.iload_n 2, 1) := by decide +kernel
theorem d_M_burnLamp_16 : decode b_M_burnLamp 16 = .ok (.aload_n 0, 1) := by decide +kernel
theorem d_M_burnLamp_17 : decode b_M_burnLamp 17 = .ok (.getfield 7, 3) := by decide +kernel
theorem d_M_burnLamp_20 : decode b_M_burnLamp 20 = .ok (.iconst 0, 1) := by decide +kernel
theorem d_M_burnLamp_21 : decode b_M_burnLamp 21 = .ok (.iaload, 1) := by decide +kernel
theorem d_M_burnLamp_22 : decode b_M_burnLamp 22 = .ok (.imul, 1) := by decide +kernel
theorem d_M_burnLamp_23 : decode b_M_burnLamp 23 = .ok (.iconst 1, 1) := by decide +kernel
theorem d_M_burnLamp_24 : decode b_M_burnLamp 24 = .ok (.iadd, 1) := by decide +kernel
theorem d_M_burnLamp_25 : decode b_M_burnLamp 25 = .ok (.ireturn, 1) := by decide +kernel
theorem cy_M_burnLamp : zY y_M_burnLamp b_M_burnLamp 3 (some (FieldType.int)) 2 := ⟨kw_675, kw_3, by decide +kernel, by decide +kernel⟩
theorem d_M_burnOil_0 : decode b_M_burnOil 0 = .ok (.aload_n 0, 1) := by decide +kernel
theorem d_M_burnOil_1 : decode b_M_burnOil 1 = .ok (.bipush 10, 2) := by decide +kernel
theorem d_M_burnOil_3 : decode b_M_burnOil 3 = .ok (.invokevirtual 46, 3) := by decide +kernel
theorem d_M_burnOil_6 : decode b_M_burnOil 6 = .ok (.aload_n 0, 1) := by decide +kernel
theorem d_M_burnOil_7 : decode b_M_burnOil 7 = .ok (.iload_n 1, 1) := by decide +kernel
theorem d_M_burnOil_8 : decode b_M_burnOil 8 = .ok (.iload_n 2, 1) := by decide +kernel
theorem d_M_burnOil_9 : decode b_M_burnOil 9 = .ok (.invokevirtual 50, 3) := by decide +kernel
theorem d_M_burnOil_12 : decode b_M_burnOil 12 = .ok (.istore_n 3, 1) := by decide +kernel
theorem d_M_burnOil_13 : decode b_M_burnOil 13 = .ok (.iload_n 3, 1) := by decide +kernel
theorem d_M_burnOil_14 : decode b_M_burnOil 14 = .ok (.aload_n 0, 1) := by decide +kernel
theorem d_M_burnOil_15 : decode b_M_burnOil 15 = .ok (.getfield 22, 3) := by decide +kernel
theorem d_M_burnOil_18 : decode b_M_burnOil 18 = .ok (.iload_n 1, 1) := by decide +kernel
theorem d_M_burnOil_19 : decode b_M_burnOil 19 = .ok (.iaload, 1) := by decide +kernel
theorem d_M_burnOil_20 : decode b_M_burnOil 20 = .ok (.bipush 50, 2) := by decide +kernel
theorem d_M_burnOil_22 : decode b_M_burnOil 22 = .ok (.idiv, 1) := by decide +kernel
theorem d_M_burnOil_23 : decode b_M_burnOil 23 = .ok (.iadd, 1) := by decide +kernel
theorem d_M_burnOil_24 : decode b_M_burnOil 24 = .ok (.ireturn, 1) := by decide +kernel
theorem cy_M_burnOil : zY y_M_burnOil b_M_burnOil 4 (some (FieldType.int)) 2 := ⟨kw_667, kw_3, by decide +kernel, by decide +kernel⟩
theorem d_M_burnTwin_0 : decode b_M_burnTwin 0 = .ok (.aload_n 0, 1) := by decide +kernel
theorem d_M_burnTwin_1 : decode b_M_burnTwin 1 = .ok (.bipush 30, 2) := by decide +kernel
theorem d_M_burnTwin_3 : decode b_M_burnTwin 3 = .ok (.invokevirtual 46, 3) := by decide +kernel
theorem d_M_burnTwin_6 : decode b_M_burnTwin 6 = .ok (.aload_n 0, 1) := by decide +kernel
theorem d_M_burnTwin_7 : decode b_M_burnTwin 7 = .ok (.iload_n 1, 1) := by decide +kernel
theorem d_M_burnTwin_8 : decode b_M_burnTwin 8 = .ok (.iload_n 2, 1) := by decide +kernel
theorem d_M_burnTwin_9 : decode b_M_burnTwin 9 = .ok (.invokevirtual 54, 3) := by decide +kernel
theorem d_M_burnTwin_12 : decode b_M_burnTwin 12 = .ok (.istore_n 3, 1) := by decide +kernel
theorem d_M_burnTwin_13 : decode b_M_burnTwin 13 = .ok (.iload_n 3, 1) := by decide +kernel
theorem d_M_burnTwin_14 : decode b_M_burnTwin 14 = .ok (.aload_n 0, 1) := by decide +kernel
theorem d_M_burnTwin_15 : decode b_M_burnTwin 15 = .ok (.iload_n 1, 1) := by decide +kernel
theorem d_M_burnTwin_16 : decode b_M_burnTwin 16 = .ok (.iload_n 2, 1) := by decide +kernel
theorem d_M_burnTwin_17 : decode b_M_burnTwin 17 = .ok (.invokevirtual 54, 3) := by decide +kernel
theorem d_M_burnTwin_20 : decode b_M_burnTwin 20 = .ok (.iadd, 1) := by decide +kernel
theorem d_M_burnTwin_21 : decode b_M_burnTwin 21 = .ok (.ireturn, 1) := by decide +kernel
theorem cy_M_burnTwin : zY y_M_burnTwin b_M_burnTwin 4 (some (FieldType.int)) 2 := ⟨kw_679, kw_3, by decide +kernel, by decide +kernel⟩
theorem d_M_burnSwing_0 : decode b_M_burnSwing 0 = .ok (.aload_n 0, 1) := by decide +kernel
theorem d_M_burnSwing_1 : decode b_M_burnSwing 1 = .ok (.bipush 50, 2) := by decide +kernel
theorem d_M_burnSwing_3 : decode b_M_burnSwing 3 = .ok (.invokevirtual 46, 3) := by decide +kernel
theorem d_M_burnSwing_6 : decode b_M_burnSwing 6 = .ok (.aload_n 0, 1) := by decide +kernel
theorem d_M_burnSwing_7 : decode b_M_burnSwing 7 = .ok (.iload_n 1, 1) := by decide +kernel
theorem d_M_burnSwing_8 : decode b_M_burnSwing 8 = .ok (.iload_n 2, 1) := by decide +kernel
theorem d_M_burnSwing_9 : decode b_M_burnSwing 9 = .ok (.invokevirtual 57, 3) := by decide +kernel
theorem d_M_burnSwing_12 : decode b_M_burnSwing 12 = .ok (.iload_n 2, 1) := by decide +kernel
theorem d_M_burnSwing_13 : decode b_M_burnSwing 13 = .ok (.iconst 2, 1) := by decide +kernel
theorem d_M_burnSwing_14 : decode b_M_burnSwing 14 = .ok (.idiv, 1) := by decide +kernel
theorem d_M_burnSwing_15 : decode b_M_burnSwing 15 = .ok (.iadd, 1) := by decide +kernel
theorem d_M_burnSwing_16 : decode b_M_burnSwing 16 = .ok (.ireturn, 1) := by decide +kernel
theorem cy_M_burnSwing : zY y_M_burnSwing b_M_burnSwing 3 (some (FieldType.int)) 2 := ⟨kw_683, kw_3, by decide +kernel, by decide +kernel⟩
theorem d_M_burnFlare_0 : decode b_M_burnFlare 0 = .ok (.aload_n 0, 1) := by decide +kernel
theorem d_M_burnFlare_1 : decode b_M_burnFlare 1 = .ok (.bipush 70, 2) := by decide +kernel
theorem d_M_burnFlare_3 : decode b_M_burnFlare 3 = .ok (.invokevirtual 46, 3) := by decide +kernel
theorem d_M_burnFlare_6 : decode b_M_burnFlare 6 = .ok (.aload_n 0, 1) := by decide +kernel
theorem d_M_burnFlare_7 : decode b_M_burnFlare 7 = .ok (.iload_n 1, 1) := by decide +kernel
theorem d_M_burnFlare_8 : decode b_M_burnFlare 8 = .ok (.iload_n 2, 1) := by decide +kernel
theorem d_M_burnFlare_9 : decode b_M_burnFlare 9 = .ok (.iconst 2, 1) := by decide +kernel
theorem d_M_burnFlare_10 : decode b_M_burnFlare 10 = .ok (.idiv, 1) := by decide +kernel
theorem d_M_burnFlare_11 : decode b_M_burnFlare 11 = .ok (.invokevirtual 50, 3) := by decide +kernel
theorem d_M_burnFlare_14 : decode b_M_burnFlare 14 = .ok (.ireturn, 1) := by decide +kernel
theorem cy_M_burnFlare : zY y_M_burnFlare b_M_burnFlare 3 (some (FieldType.int)) 2 := ⟨kw_691, kw_3, by decide +kernel, by decide +kernel⟩
theorem d_M_burnOuter_0 : decode b_M_burnOuter 0 = .ok (.aload_n 0, 1) := by decide +kernel
theorem d_M_burnOuter_1 : decode b_M_burnOuter 1 = .ok (.bipush 90, 2) := by decide +kernel
theorem d_M_burnOuter_3 : decode b_M_burnOuter 3 = .ok (.invokevirtual 46, 3) := by decide +kernel
theorem d_M_burnOuter_6 : decode b_M_burnOuter 6 = .ok (.aload_n 0, 1) := by decide +kernel
theorem d_M_burnOuter_7 : decode b_M_burnOuter 7 = .ok (.iload_n 1, 1) := by decide +kernel
theorem d_M_burnOuter_8 : decode b_M_burnOuter 8 = .ok (.iload_n 2, 1) := by decide +kernel
theorem d_M_burnOuter_9 : decode b_M_burnOuter 9 = .ok (.invokevirtual 60, 3) := by decide +kernel
theorem d_M_burnOuter_12 : decode b_M_burnOuter 12 = .ok (.aload_n 0, 1) := by decide +kernel
theorem d_M_burnOuter_13 : decode b_M_burnOuter 13 = .ok (.getfield 7, 3) := by decide +kernel
theorem d_M_burnOuter_16 : decode b_M_burnOuter 16 = .ok (.iconst 1, 1) := by decide +kernel
theorem d_M_burnOuter_17 : decode b_M_burnOuter 17 = .ok (.iaload, 1) := by decide +kernel
theorem d_M_burnOuter_18 : decode b_M_burnOuter 18 = .ok (.isub, 1) := by decide +kernel
theorem d_M_burnOuter_19 : decode b_M_burnOuter 19 = .ok (.istore_n 3, 1) := by decide +kernel
theorem d_M_burnOuter_20 : decode b_M_burnOuter 20 = .ok (.iload_n 3, 1) := by decide +kernel
theorem d_M_burnOuter_21 : decode b_M_burnOuter 21 = .ok (.ifCond .ge 7, 3) := by decide +kernel
theorem d_M_burnOuter_24 : decode b_M_burnOuter 24 = .ok (.iconst 0, 1) := by decide +kernel
theorem d_M_burnOuter_25 : decode b_M_burnOuter 25 = .ok (.goto 4, 3) := by decide +kernel
theorem d_M_burnOuter_28 : decode b_M_burnOuter 28 = .ok (.iload_n 3, 1) := by decide +kernel
theorem d_M_burnOuter_29 : decode b_M_burnOuter 29 = .ok (.ireturn, 1) := by decide +kernel
theorem cy_M_burnOuter : zY y_M_burnOuter b_M_burnOuter 4 (some (FieldType.int)) 2 := ⟨kw_687, kw_3, by decide +kernel, by decide +kernel⟩
theorem d_M_burn_0 : decode b_M_burn 0 = .ok (.aload_n 0, 1) := by decide +kernel
theorem d_M_burn_1 : decode b_M_burn 1 = .ok (.getfield 13, 3) := by decide +kernel
theorem d_M_burn_4 : decode b_M_burn 4 = .ok (.iload_n 1, 1) := by decide +kernel
theorem d_M_burn_5 : decode b_M_burn 5 = .ok (.iaload, 1) := by decide +kernel
theorem d_M_burn_6 : decode b_M_burn 6 = .ok (.tableswitch 85 1 9 #[50, 50, 57, 57, 64, 71, 85, 85, 78], 50) := by decide +kernel
theorem d_M_burn_56 : decode b_M_burn 56 = .ok (.aload_n 0, 1) := by decide +kernel
theorem d_M_burn_57 : decode b_M_burn 57 = .ok (.iload_n 1, 1) := by decide +kernel
theorem d_M_burn_58 : decode b_M_burn 58 = .ok (.iload_n 2, 1) := by decide +kernel
theorem d_M_burn_59 : decode b_M_burn 59 = .ok (.invokevirtual 54, 3) := by decide +kernel
theorem d_M_burn_62 : decode b_M_burn 62 = .ok (.ireturn, 1) := by decide +kernel
theorem d_M_burn_63 : decode b_M_burn 63 = .ok (.aload_n 0, 1) := by decide +kernel
theorem d_M_burn_64 : decode b_M_burn 64 = .ok (.iload_n 1, 1) := by decide +kernel
theorem d_M_burn_65 : decode b_M_burn 65 = .ok (.iload_n 2, 1) := by decide +kernel
theorem d_M_burn_66 : decode b_M_burn 66 = .ok (.invokevirtual 57, 3) := by decide +kernel
theorem d_M_burn_69 : decode b_M_burn 69 = .ok (.ireturn, 1) := by decide +kernel
theorem d_M_burn_70 : decode b_M_burn 70 = .ok (.aload_n 0, 1) := by decide +kernel
theorem d_M_burn_71 : decode b_M_burn 71 = .ok (.iload_n 1, 1) := by decide +kernel
theorem d_M_burn_72 : decode b_M_burn 72 = .ok (.iload_n 2, 1) := by decide +kernel
theorem d_M_burn_73 : decode b_M_burn 73 = .ok (.invokevirtual 63, 3) := by decide +kernel
theorem d_M_burn_76 : decode b_M_burn 76 = .ok (.ireturn, 1) := by decide +kernel
theorem d_M_burn_77 : decode b_M_burn 77 = .ok (.aload_n 0, 1) := by decide +kernel
theorem d_M_burn_78 : decode b_M_burn 78 = .ok (.iload_n 1, 1) := by decide +kernel
theorem d_M_burn_79 : decode b_M_burn 79 = .ok (.iload_n 2, 1) := by decide +kernel
theorem d_M_burn_80 : decode b_M_burn 80 = .ok (.invokevirtual 50, 3) := by decide +kernel
theorem d_M_burn_83 : decode b_M_burn 83 = .ok (.ireturn, 1) := by decide +kernel
theorem d_M_burn_84 : decode b_M_burn 84 = .ok (.aload_n 0, 1) := by decide +kernel
theorem d_M_burn_85 : decode b_M_burn 85 = .ok (.iload_n 1, 1) := by decide +kernel
theorem d_M_burn_86 : decode b_M_burn 86 = .ok (.iload_n 2, 1) := by decide +kernel
theorem d_M_burn_87 : decode b_M_burn 87 = .ok (.invokevirtual 66, 3) := by decide +kernel
theorem d_M_burn_90 : decode b_M_burn 90 = .ok (.ireturn, 1) := by decide +kernel
theorem d_M_burn_91 : decode b_M_burn 91 = .ok (.aload_n 0, 1) := by decide +kernel
theorem d_M_burn_92 : decode b_M_burn 92 = .ok (.iload_n 1, 1) := by decide +kernel
theorem d_M_burn_93 : decode b_M_burn 93 = .ok (.iload_n 2, 1) := by decide +kernel
theorem d_M_burn_94 : decode b_M_burn 94 = .ok (.invokevirtual 60, 3) := by decide +kernel
theorem d_M_burn_97 : decode b_M_burn 97 = .ok (.ireturn, 1) := by decide +kernel
theorem cy_M_burn : zY y_M_burn b_M_burn 3 (some (FieldType.int)) 2 := ⟨kw_663, kw_3, by decide +kernel, by decide +kernel⟩
theorem d_M_reachLamp_0 : decode b_M_reachLamp 0 = .ok (.aload_n 0, 1) := by decide +kernel
theorem d_M_reachLamp_1 : decode b_M_reachLamp 1 = .ok (.iconst 1, 1) := by decide +kernel
theorem d_M_reachLamp_2 : decode b_M_reachLamp 2 = .ok (.invokevirtual 46, 3) := by decide +kernel
theorem d_M_reachLamp_5 : decode b_M_reachLamp 5 = .ok (.aload_n 0, 1) := by decide +kernel
theorem d_M_reachLamp_6 : decode b_M_reachLamp 6 = .ok (.getfield 16, 3) := by decide +kernel
theorem d_M_reachLamp_9 : decode b_M_reachLamp 9 = .ok (.iload_n 1, 1) := by decide +kernel
theorem d_M_reachLamp_10 : decode b_M_reachLamp 10 = .ok (.iaload, 1) := by decide +kernel
theorem d_M_reachLamp_11 : decode b_M_reachLamp 11 = .ok (.bipush 10, 2) := by decide +kernel
theorem d_M_reachLamp_13 : decode b_M_reachLamp 13 = .ok (.idiv, 1) := by decide +kernel
theorem d_M_reachLamp_14 : decode b_M_reachLamp 14 = .ok (.bipush 30, 2) := by decide +kernel
theorem d_M_reachLamp_16 : decode b_M_reachLamp 16 = .ok (.iadd, 1) := by decide +kernel
theorem d_M_reachLamp_17 : decode b_M_reachLamp 17 = .ok (.iconst 3, 1) := by decide +kernel
theorem d_M_reachLamp_18 : decode b_M_reachLamp 18 = .ok (.iload_n 2, 1) := by decide +kernel
theorem d_M_reachLamp_19 : decode b_M_reachLamp 19 = .ok (.imul, 1) := by decide +kernel
theorem d_M_reachLamp_20 : decode b_M_reachLamp 20 = .ok (.isub, 1) := by decide +kernel
theorem d_M_reachLamp_21 : decode b_M_reachLamp 21 = .ok (.ireturn, 1) := by decide +kernel
theorem cy_M_reachLamp : zY y_M_reachLamp b_M_reachLamp 3 (some (FieldType.int)) 2 := ⟨kw_699, kw_3, by decide +kernel, by decide +kernel⟩
theorem d_M_reachRound_0 : decode b_M_reachRound 0 = .ok (.aload_n 0, 1) := by decide +kernel
theorem d_M_reachRound_1 : decode b_M_reachRound 1 = .ok (.bipush 21, 2) := by decide +kernel
theorem d_M_reachRound_3 : decode b_M_reachRound 3 = .ok (.invokevirtual 46, 3) := by decide +kernel
theorem d_M_reachRound_6 : decode b_M_reachRound 6 = .ok (.aload_n 0, 1) := by decide +kernel
theorem d_M_reachRound_7 : decode b_M_reachRound 7 = .ok (.iload_n 1, 1) := by decide +kernel
theorem d_M_reachRound_8 : decode b_M_reachRound 8 = .ok (.iload_n 2, 1) := by decide +kernel
theorem d_M_reachRound_9 : decode b_M_reachRound 9 = .ok (.invokevirtual 69, 3) := by decide +kernel
theorem d_M_reachRound_12 : decode b_M_reachRound 12 = .ok (.aload_n 0, 1) := by decide +kernel
theorem d_M_reachRound_13 : decode b_M_reachRound 13 = .ok (.getfield 7, 3) := by decide +kernel
theorem d_M_reachRound_16 : decode b_M_reachRound 16 = .ok (.iconst 2, 1) := by decide +kernel
theorem d_M_reachRound_17 : decode b_M_reachRound 17 = .ok (.iaload, 1) := by decide +kernel
theorem d_M_reachRound_18 : decode b_M_reachRound 18 = .ok (.iadd, 1) := by decide +kernel
theorem d_M_reachRound_19 : decode b_M_reachRound 19 = .ok (.ireturn, 1) := by decide +kernel
theorem cy_M_reachRound : zY y_M_reachRound b_M_reachRound 3 (some (FieldType.int)) 2 := ⟨kw_703, kw_3, by decide +kernel, by decide +kernel⟩
theorem d_M_reachTwin_0 : decode b_M_reachTwin 0 = .ok (.aload_n 0, 1) := by decide +kernel
theorem d_M_reachTwin_1 : decode b_M_reachTwin 1 = .ok (.bipush 31, 2) := by decide +kernel
theorem d_M_reachTwin_3 : decode b_M_reachTwin 3 = .ok (.invokevirtual 46, 3) := by decide +kernel
theorem d_M_reachTwin_6 : decode b_M_reachTwin 6 = .ok (.aload_n 0, 1) := by decide +kernel
theorem d_M_reachTwin_7 : decode b_M_reachTwin 7 = .ok (.iload_n 1, 1) := by decide +kernel
theorem d_M_reachTwin_8 : decode b_M_reachTwin 8 = .ok (.iload_n 2, 1) := by decide +kernel
theorem d_M_reachTwin_9 : decode b_M_reachTwin 9 = .ok (.invokevirtual 72, 3) := by decide +kernel
theorem d_M_reachTwin_12 : decode b_M_reachTwin 12 = .ok (.istore_n 3, 1) := by decide +kernel
theorem d_M_reachTwin_13 : decode b_M_reachTwin 13 = .ok (.iload_n 3, 1) := by decide +kernel
theorem d_M_reachTwin_14 : decode b_M_reachTwin 14 = .ok (.aload_n 0, 1) := by decide +kernel
theorem d_M_reachTwin_15 : decode b_M_reachTwin 15 = .ok (.iload_n 1, 1) := by decide +kernel
theorem d_M_reachTwin_16 : decode b_M_reachTwin 16 = .ok (.iload_n 2, 1) := by decide +kernel
theorem d_M_reachTwin_17 : decode b_M_reachTwin 17 = .ok (.iconst 1, 1) := by decide +kernel
theorem d_M_reachTwin_18 : decode b_M_reachTwin 18 = .ok (.iadd, 1) := by decide +kernel
theorem d_M_reachTwin_19 : decode b_M_reachTwin 19 = .ok (.invokevirtual 72, 3) := by decide +kernel
theorem d_M_reachTwin_22 : decode b_M_reachTwin 22 = .ok (.iconst 2, 1) := by decide +kernel
theorem d_M_reachTwin_23 : decode b_M_reachTwin 23 = .ok (.idiv, 1) := by decide +kernel
theorem d_M_reachTwin_24 : decode b_M_reachTwin 24 = .ok (.iadd, 1) := by decide +kernel
theorem d_M_reachTwin_25 : decode b_M_reachTwin 25 = .ok (.ireturn, 1) := by decide +kernel
theorem cy_M_reachTwin : zY y_M_reachTwin b_M_reachTwin 4 (some (FieldType.int)) 2 := ⟨kw_707, kw_3, by decide +kernel, by decide +kernel⟩
theorem d_M_reachDrum_0 : decode b_M_reachDrum 0 = .ok (.aload_n 0, 1) := by decide +kernel
theorem d_M_reachDrum_1 : decode b_M_reachDrum 1 = .ok (.bipush 41, 2) := by decide +kernel
theorem d_M_reachDrum_3 : decode b_M_reachDrum 3 = .ok (.invokevirtual 46, 3) := by decide +kernel
theorem d_M_reachDrum_6 : decode b_M_reachDrum 6 = .ok (.aload_n 0, 1) := by decide +kernel
theorem d_M_reachDrum_7 : decode b_M_reachDrum 7 = .ok (.iload_n 1, 1) := by decide +kernel
theorem d_M_reachDrum_8 : decode b_M_reachDrum 8 = .ok (.iload_n 2, 1) := by decide +kernel
theorem d_M_reachDrum_9 : decode b_M_reachDrum 9 = .ok (.invokevirtual 75, 3) := by decide +kernel
theorem d_M_reachDrum_12 : decode b_M_reachDrum 12 = .ok (.istore_n 3, 1) := by decide +kernel
theorem d_M_reachDrum_13 : decode b_M_reachDrum 13 = .ok (.iload_n 3, 1) := by decide +kernel
theorem d_M_reachDrum_14 : decode b_M_reachDrum 14 = .ok (.bipush 20, 2) := by decide +kernel
theorem d_M_reachDrum_16 : decode b_M_reachDrum 16 = .ok (.if_icmp .ge 8, 3) := by decide +kernel
theorem d_M_reachDrum_19 : decode b_M_reachDrum 19 = .ok (.bipush 20, 2) := by decide +kernel
theorem d_M_reachDrum_21 : decode b_M_reachDrum 21 = .ok (.goto 4, 3) := by decide +kernel
theorem d_M_reachDrum_24 : decode b_M_reachDrum 24 = .ok (.iload_n 3, 1) := by decide +kernel
theorem d_M_reachDrum_25 : decode b_M_reachDrum 25 = .ok (.ireturn, 1) := by decide +kernel
theorem cy_M_reachDrum : zY y_M_reachDrum b_M_reachDrum 4 (some (FieldType.int)) 2 := ⟨kw_711, kw_3, by decide +kernel, by decide +kernel⟩
theorem d_M_reachGas_0 : decode b_M_reachGas 0 = .ok (.aload_n 0, 1) := by decide +kernel
theorem d_M_reachGas_1 : decode b_M_reachGas 1 = .ok (.bipush 61, 2) := by decide +kernel
theorem d_M_reachGas_3 : decode b_M_reachGas 3 = .ok (.invokevirtual 46, 3) := by decide +kernel
theorem d_M_reachGas_6 : decode b_M_reachGas 6 = .ok (.aload_n 0, 1) := by decide +kernel
theorem d_M_reachGas_7 : decode b_M_reachGas 7 = .ok (.iload_n 1, 1) := by decide +kernel
theorem d_M_reachGas_8 : decode b_M_reachGas 8 = .ok (.iload_n 2, 1) := by decide +kernel
theorem d_M_reachGas_9 : decode b_M_reachGas 9 = .ok (.invokevirtual 69, 3) := by decide +kernel
theorem d_M_reachGas_12 : decode b_M_reachGas 12 = .ok (.aload_n 0, 1) := by decide +kernel
theorem d_M_reachGas_13 : decode b_M_reachGas 13 = .ok (.getfield 22, 3) := by decide +kernel
theorem d_M_reachGas_16 : decode b_M_reachGas 16 = .ok (.iload_n 1, 1) := by decide +kernel
theorem d_M_reachGas_17 : decode b_M_reachGas 17 = .ok (.iaload, 1) := by decide +kernel
theorem d_M_reachGas_18 : decode b_M_reachGas 18 = .ok (.bipush 10, 2) := by decide +kernel
theorem d_M_reachGas_20 : decode b_M_reachGas 20 = .ok (.idiv, 1) := by decide +kernel
theorem d_M_reachGas_21 : decode b_M_reachGas 21 = .ok (.isub, 1) := by decide +kernel
theorem d_M_reachGas_22 : decode b_M_reachGas 22 = .ok (.ireturn, 1) := by decide +kernel
theorem cy_M_reachGas : zY y_M_reachGas b_M_reachGas 3 (some (FieldType.int)) 2 := ⟨kw_715, kw_3, by decide +kernel, by decide +kernel⟩
theorem d_M_reachBuoy_0 : decode b_M_reachBuoy 0 = .ok (.aload_n 0, 1) := by decide +kernel
theorem d_M_reachBuoy_1 : decode b_M_reachBuoy 1 = .ok (.bipush 81, 2) := by decide +kernel
theorem d_M_reachBuoy_3 : decode b_M_reachBuoy 3 = .ok (.invokevirtual 46, 3) := by decide +kernel
theorem d_M_reachBuoy_6 : decode b_M_reachBuoy 6 = .ok (.aload_n 0, 1) := by decide +kernel
theorem d_M_reachBuoy_7 : decode b_M_reachBuoy 7 = .ok (.iload_n 1, 1) := by decide +kernel
theorem d_M_reachBuoy_8 : decode b_M_reachBuoy 8 = .ok (.iload_n 2, 1) := by decide +kernel
theorem d_M_reachBuoy_9 : decode b_M_reachBuoy 9 = .ok (.invokevirtual 78, 3) := by decide +kernel
theorem d_M_reachBuoy_12 : decode b_M_reachBuoy 12 = .ok (.iconst 2, 1) := by decide +kernel
theorem d_M_reachBuoy_13 : decode b_M_reachBuoy 13 = .ok (.idiv, 1) := by decide +kernel
theorem d_M_reachBuoy_14 : decode b_M_reachBuoy 14 = .ok (.ireturn, 1) := by decide +kernel
theorem cy_M_reachBuoy : zY y_M_reachBuoy b_M_reachBuoy 3 (some (FieldType.int)) 2 := ⟨kw_719, kw_3, by decide +kernel, by decide +kernel⟩
theorem d_M_reach_0 : decode b_M_reach 0 = .ok (.aload_n 0, 1) := by decide +kernel
theorem d_M_reach_1 : decode b_M_reach 1 = .ok (.getfield 13, 3) := by decide +kernel
theorem d_M_reach_4 : decode b_M_reach 4 = .ok (.iload_n 1, 1) := by decide +kernel
theorem d_M_reach_5 : decode b_M_reach 5 = .ok (.iaload, 1) := by decide +kernel
theorem d_M_reach_6 : decode b_M_reach 6 = .ok (.tableswitch 77 1 7 #[42, 49, 56, 63, 63, 70, 70], 42) := by decide +kernel
theorem d_M_reach_48 : decode b_M_reach 48 = .ok (.aload_n 0, 1) := by decide +kernel
theorem d_M_reach_49 : decode b_M_reach 49 = .ok (.iload_n 1, 1) := by decide +kernel
theorem d_M_reach_50 : decode b_M_reach 50 = .ok (.iload_n 2, 1) := by decide +kernel
theorem d_M_reach_51 : decode b_M_reach 51 = .ok (.invokevirtual 69, 3) := by decide +kernel
theorem d_M_reach_54 : decode b_M_reach 54 = .ok (.ireturn, 1) := by decide +kernel
theorem d_M_reach_55 : decode b_M_reach 55 = .ok (.aload_n 0, 1) := by decide +kernel
theorem d_M_reach_56 : decode b_M_reach 56 = .ok (.iload_n 1, 1) := by decide +kernel
theorem d_M_reach_57 : decode b_M_reach 57 = .ok (.iload_n 2, 1) := by decide +kernel
theorem d_M_reach_58 : decode b_M_reach 58 = .ok (.invokevirtual 72, 3) := by decide +kernel
theorem d_M_reach_61 : decode b_M_reach 61 = .ok (.ireturn, 1) := by decide +kernel
theorem d_M_reach_62 : decode b_M_reach 62 = .ok (.aload_n 0, 1) := by decide +kernel
theorem d_M_reach_63 : decode b_M_reach 63 = .ok (.iload_n 1, 1) := by decide +kernel
theorem d_M_reach_64 : decode b_M_reach 64 = .ok (.iload_n 2, 1) := by decide +kernel
theorem d_M_reach_65 : decode b_M_reach 65 = .ok (.invokevirtual 75, 3) := by decide +kernel
theorem d_M_reach_68 : decode b_M_reach 68 = .ok (.ireturn, 1) := by decide +kernel
theorem d_M_reach_69 : decode b_M_reach 69 = .ok (.aload_n 0, 1) := by decide +kernel
theorem d_M_reach_70 : decode b_M_reach 70 = .ok (.iload_n 1, 1) := by decide +kernel
theorem d_M_reach_71 : decode b_M_reach 71 = .ok (.iload_n 2, 1) := by decide +kernel
theorem d_M_reach_72 : decode b_M_reach 72 = .ok (.invokevirtual 81, 3) := by decide +kernel
theorem d_M_reach_75 : decode b_M_reach 75 = .ok (.ireturn, 1) := by decide +kernel
theorem d_M_reach_76 : decode b_M_reach 76 = .ok (.aload_n 0, 1) := by decide +kernel
theorem d_M_reach_77 : decode b_M_reach 77 = .ok (.iload_n 1, 1) := by decide +kernel
theorem d_M_reach_78 : decode b_M_reach 78 = .ok (.iload_n 2, 1) := by decide +kernel
theorem d_M_reach_79 : decode b_M_reach 79 = .ok (.invokevirtual 78, 3) := by decide +kernel
theorem d_M_reach_82 : decode b_M_reach 82 = .ok (.ireturn, 1) := by decide +kernel
theorem d_M_reach_83 : decode b_M_reach 83 = .ok (.aload_n 0, 1) := by decide +kernel
theorem d_M_reach_84 : decode b_M_reach 84 = .ok (.iload_n 1, 1) := by decide +kernel
theorem d_M_reach_85 : decode b_M_reach 85 = .ok (.iload_n 2, 1) := by decide +kernel
theorem d_M_reach_86 : decode b_M_reach 86 = .ok (.invokevirtual 84, 3) := by decide +kernel
theorem d_M_reach_89 : decode b_M_reach 89 = .ok (.ireturn, 1) := by decide +kernel
theorem cy_M_reach : zY y_M_reach b_M_reach 3 (some (FieldType.int)) 2 := ⟨kw_695, kw_3, by decide +kernel, by decide +kernel⟩
theorem d_M_flashLamp_0 : decode b_M_flashLamp 0 = .ok (.aload_n 0, 1) := by decide +kernel
theorem d_M_flashLamp_1 : decode b_M_flashLamp 1 = .ok (.iconst 2, 1) := by decide +kernel
theorem d_M_flashLamp_2 : decode b_M_flashLamp 2 = .ok (.invokevirtual 46, 3) := by decide +kernel
theorem d_M_flashLamp_5 : decode b_M_flashLamp 5 = .ok (.bipush 100, 2) := by decide +kernel
theorem d_M_flashLamp_7 : decode b_M_flashLamp 7 = .ok (.ireturn, 1) := by decide +kernel
theorem cy_M_flashLamp : zY y_M_flashLamp b_M_flashLamp 1 (some (FieldType.int)) 0 := ⟨kw_731, kw_3, by decide +kernel, by decide +kernel⟩
theorem d_M_flashTwin_0 : decode b_M_flashTwin 0 = .ok (.aload_n 0, 1) := by decide +kernel
theorem d_M_flashTwin_1 : decode b_M_flashTwin 1 = .ok (.bipush 32, 2) := by decide +kernel
theorem d_M_flashTwin_3 : decode b_M_flashTwin 3 = .ok (.invokevirtual 46, 3) := by decide +kernel
theorem d_M_flashTwin_6 : decode b_M_flashTwin 6 = .ok (.iload_n 1, 1) := by decide +kernel
theorem d_M_flashTwin_7 : decode b_M_flashTwin 7 = .ok (.iconst 3, 1) := by decide +kernel
theorem d_M_flashTwin_8 : decode b_M_flashTwin 8 = .ok (.iand, 1) := by decide +kernel
theorem d_M_flashTwin_9 : decode b_M_flashTwin 9 = .ok (.ifCond .ne 7, 3) := by decide +kernel
theorem d_M_flashTwin_12 : decode b_M_flashTwin 12 = .ok (.iconst 0, 1) := by decide +kernel
theorem d_M_flashTwin_13 : decode b_M_flashTwin 13 = .ok (.goto 7, 3) := by decide +kernel
theorem d_M_flashTwin_16 : decode b_M_flashTwin 16 = .ok (.aload_n 0, 1) := by decide +kernel
theorem d_M_flashTwin_17 : decode b_M_flashTwin 17 = .ok (.invokevirtual 87, 3) := by decide +kernel
theorem d_M_flashTwin_20 : decode b_M_flashTwin 20 = .ok (.ireturn, 1) := by decide +kernel
theorem cy_M_flashTwin : zY y_M_flashTwin b_M_flashTwin 2 (some (FieldType.int)) 1 := ⟨kw_727, kw_3, by decide +kernel, by decide +kernel⟩
theorem d_M_flashSwing_0 : decode b_M_flashSwing 0 = .ok (.aload_n 0, 1) := by decide +kernel
theorem d_M_flashSwing_1 : decode b_M_flashSwing 1 = .ok (.bipush 52, 2) := by decide +kernel
theorem d_M_flashSwing_3 : decode b_M_flashSwing 3 = .ok (.invokevirtual 46, 3) := by decide +kernel
theorem d_M_flashSwing_6 : decode b_M_flashSwing 6 = .ok (.aload_n 0, 1) := by decide +kernel
theorem d_M_flashSwing_7 : decode b_M_flashSwing 7 = .ok (.iload_n 1, 1) := by decide +kernel
theorem d_M_flashSwing_8 : decode b_M_flashSwing 8 = .ok (.iconst 3, 1) := by decide +kernel
theorem d_M_flashSwing_9 : decode b_M_flashSwing 9 = .ok (.idiv, 1) := by decide +kernel
theorem d_M_flashSwing_10 : decode b_M_flashSwing 10 = .ok (.invokevirtual 91, 3) := by decide +kernel
theorem d_M_flashSwing_13 : decode b_M_flashSwing 13 = .ok (.ireturn, 1) := by decide +kernel
theorem cy_M_flashSwing : zY y_M_flashSwing b_M_flashSwing 2 (some (FieldType.int)) 1 := ⟨kw_735, kw_3, by decide +kernel, by decide +kernel⟩
theorem d_M_flashFlare_0 : decode b_M_flashFlare 0 = .ok (.aload_n 0, 1) := by decide +kernel
theorem d_M_flashFlare_1 : decode b_M_flashFlare 1 = .ok (.bipush 72, 2) := by decide +kernel
theorem d_M_flashFlare_3 : decode b_M_flashFlare 3 = .ok (.invokevirtual 46, 3) := by decide +kernel
theorem d_M_flashFlare_6 : decode b_M_flashFlare 6 = .ok (.iload_n 1, 1) := by decide +kernel
theorem d_M_flashFlare_7 : decode b_M_flashFlare 7 = .ok (.iconst 1, 1) := by decide +kernel
theorem d_M_flashFlare_8 : decode b_M_flashFlare 8 = .ok (.iand, 1) := by decide +kernel
theorem d_M_flashFlare_9 : decode b_M_flashFlare 9 = .ok (.ifCond .ne 10, 3) := by decide +kernel
theorem d_M_flashFlare_12 : decode b_M_flashFlare 12 = .ok (.aload_n 0, 1) := by decide +kernel
theorem d_M_flashFlare_13 : decode b_M_flashFlare 13 = .ok (.invokevirtual 87, 3) := by decide +kernel
theorem d_M_flashFlare_16 : decode b_M_flashFlare 16 = .ok (.goto 4, 3) := by decide +kernel
theorem d_M_flashFlare_19 : decode b_M_flashFlare 19 = .ok (.iconst 0, 1) := by decide +kernel
theorem d_M_flashFlare_20 : decode b_M_flashFlare 20 = .ok (.ireturn, 1) := by decide +kernel
theorem cy_M_flashFlare : zY y_M_flashFlare b_M_flashFlare 2 (some (FieldType.int)) 1 := ⟨kw_739, kw_3, by decide +kernel, by decide +kernel⟩
theorem d_M_flashOuter_0 : decode b_M_flashOuter 0 = .ok (.aload_n 0, 1) := by decide +kernel
theorem d_M_flashOuter_1 : decode b_M_flashOuter 1 = .ok (.bipush 92, 2) := by decide +kernel
theorem d_M_flashOuter_3 : decode b_M_flashOuter 3 = .ok (.invokevirtual 46, 3) := by decide +kernel
theorem d_M_flashOuter_6 : decode b_M_flashOuter 6 = .ok (.aload_n 0, 1) := by decide +kernel
theorem d_M_flashOuter_7 : decode b_M_flashOuter 7 = .ok (.iload_n 1, 1) := by decide +kernel
theorem d_M_flashOuter_8 : decode b_M_flashOuter 8 = .ok (.invokevirtual 95, 3) := by decide +kernel
theorem d_M_flashOuter_11 : decode b_M_flashOuter 11 = .ok (.istore_n 2, 1) := by decide +kernel
theorem d_M_flashOuter_12 : decode b_M_flashOuter 12 = .ok (.iload_n 2, 1) := by decide +kernel
theorem d_M_flashOuter_13 : decode b_M_flashOuter 13 = .ok (.aload_n 0, 1) := by decide +kernel
theorem d_M_flashOuter_14 : decode b_M_flashOuter 14 = .ok (.iload_n 1, 1) := by decide +kernel
theorem d_M_flashOuter_15 : decode b_M_flashOuter 15 = .ok (.iconst 1, 1) := by decide +kernel
theorem d_M_flashOuter_16 : decode b_M_flashOuter 16 = .ok (.iadd, 1) := by decide +kernel
theorem d_M_flashOuter_17 : decode b_M_flashOuter 17 = .ok (.invokevirtual 95, 3) := by decide +kernel
theorem d_M_flashOuter_20 : decode b_M_flashOuter 20 = .ok (.iadd, 1) := by decide +kernel
theorem d_M_flashOuter_21 : decode b_M_flashOuter 21 = .ok (.ireturn, 1) := by decide +kernel
theorem cy_M_flashOuter : zY y_M_flashOuter b_M_flashOuter 3 (some (FieldType.int)) 1 := ⟨kw_743, kw_3, by decide +kernel, by decide +kernel⟩
theorem d_M_flash_0 : decode b_M_flash 0 = .ok (.aload_n 0, 1) := by decide +kernel
theorem d_M_flash_1 : decode b_M_flash 1 = .ok (.getfield 13, 3) := by decide +kernel
theorem d_M_flash_4 : decode b_M_flash 4 = .ok (.iload_n 1, 1) := by decide +kernel
theorem d_M_flash_5 : decode b_M_flash 5 = .ok (.iaload, 1) := by decide +kernel
theorem d_M_flash_6 : decode b_M_flash 6 = .ok (.tableswitch 66 3 9 #[42, 42, 48, 66, 54, 54, 60], 42) := by decide +kernel
theorem d_M_flash_48 : decode b_M_flash 48 = .ok (.aload_n 0, 1) := by decide +kernel
theorem d_M_flash_49 : decode b_M_flash 49 = .ok (.iload_n 2, 1) := by decide +kernel
theorem d_M_flash_50 : decode b_M_flash 50 = .ok (.invokevirtual 91, 3) := by decide +kernel
theorem d_M_flash_53 : decode b_M_flash 53 = .ok (.ireturn, 1) := by decide +kernel
theorem d_M_flash_54 : decode b_M_flash 54 = .ok (.aload_n 0, 1) := by decide +kernel
theorem d_M_flash_55 : decode b_M_flash 55 = .ok (.iload_n 2, 1) := by decide +kernel
theorem d_M_flash_56 : decode b_M_flash 56 = .ok (.invokevirtual 98, 3) := by decide +kernel
theorem d_M_flash_59 : decode b_M_flash 59 = .ok (.ireturn, 1) := by decide +kernel
theorem d_M_flash_60 : decode b_M_flash 60 = .ok (.aload_n 0, 1) := by decide +kernel
theorem d_M_flash_61 : decode b_M_flash 61 = .ok (.iload_n 2, 1) := by decide +kernel
theorem d_M_flash_62 : decode b_M_flash 62 = .ok (.invokevirtual 95, 3) := by decide +kernel
theorem d_M_flash_65 : decode b_M_flash 65 = .ok (.ireturn, 1) := by decide +kernel
theorem d_M_flash_66 : decode b_M_flash 66 = .ok (.aload_n 0, 1) := by decide +kernel
theorem d_M_flash_67 : decode b_M_flash 67 = .ok (.iload_n 2, 1) := by decide +kernel
theorem d_M_flash_68 : decode b_M_flash 68 = .ok (.invokevirtual 101, 3) := by decide +kernel
theorem d_M_flash_71 : decode b_M_flash 71 = .ok (.ireturn, 1) := by decide +kernel
theorem d_M_flash_72 : decode b_M_flash 72 = .ok (.aload_n 0, 1) := by decide +kernel
theorem d_M_flash_73 : decode b_M_flash 73 = .ok (.invokevirtual 87, 3) := by decide +kernel
theorem d_M_flash_76 : decode b_M_flash 76 = .ok (.ireturn, 1) := by decide +kernel
theorem cy_M_flash : zY y_M_flash b_M_flash 3 (some (FieldType.int)) 2 := ⟨kw_723, kw_3, by decide +kernel, by decide +kernel⟩
theorem d_M_tendLamp_0 : decode b_M_tendLamp 0 = .ok (.aload_n 0, 1) := by decide +kernel
theorem d_M_tendLamp_1 : decode b_M_tendLamp 1 = .ok (.iconst 3, 1) := by decide +kernel
theorem d_M_tendLamp_2 : decode b_M_tendLamp 2 = .ok (.invokevirtual 46, 3) := by decide +kernel
theorem d_M_tendLamp_5 : decode b_M_tendLamp 5 = .ok (.aload_n 0, 1) := by decide +kernel
theorem d_M_tendLamp_6 : decode b_M_tendLamp 6 = .ok (.getfield 22, 3) := by decide +kernel
theorem d_M_tendLamp_9 : decode b_M_tendLamp 9 = .ok (.iload_n 1, 1) := by decide +kernel
theorem d_M_tendLamp_10 : decode b_M_tendLamp 10 = .ok (.iaload, 1) := by decide +kernel
theorem d_M_tendLamp_11 : decode b_M_tendLamp 11 = .ok (.iload_n 2, 1) := by decide +kernel
theorem d_M_tendLamp_12 : decode b_M_tendLamp 12 = .ok (.isub, 1) := by decide +kernel
theorem d_M_tendLamp_13 : decode b_M_tendLamp 13 = .ok (.istore_n 3, 1) := by decide +kernel
theorem d_M_tendLamp_14 : decode b_M_tendLamp 14 = .ok (.aload_n 0, 1) := by decide +kernel
theorem d_M_tendLamp_15 : decode b_M_tendLamp 15 = .ok (.getfield 22, 3) := by decide +kernel
theorem d_M_tendLamp_18 : decode b_M_tendLamp 18 = .ok (.iload_n 1, 1) := by decide +kernel
theorem d_M_tendLamp_19 : decode b_M_tendLamp 19 = .ok (.iload_n 3, 1) := by decide +kernel
theorem d_M_tendLamp_20 : decode b_M_tendLamp 20 = .ok (.ifCond .ge 7, 3) := by decide +kernel
theorem d_M_tendLamp_23 : decode b_M_tendLamp 23 = .ok (.iconst 0, 1) := by decide +kernel
theorem d_M_tendLamp_24 : decode b_M_tendLamp 24 = .ok (.goto 4, 3) := by decide +kernel
theorem d_M_tendLamp_27 : decode b_M_tendLamp 27 = .ok (.iload_n 3, 1) := by decide +kernel
theorem d_M_tendLamp_28 : decode b_M_tendLamp 28 = .ok (.iastore, 1) := by decide +kernel
theorem d_M_tendLamp_29 : decode b_M_tendLamp 29 = .ok (.aload_n 0, 1) := by decide +kernel
theorem d_M_tendLamp_30 : decode b_M_tendLamp 30 = .ok (.getfield 22, 3) := by decide +kernel
theorem d_M_tendLamp_33 : decode b_M_tendLamp 33 = .ok (.iload_n 1, 1) := by decide +kernel
theorem d_M_tendLamp_34 : decode b_M_tendLamp 34 = .ok (.iaload, 1) := by decide +kernel
theorem d_M_tendLamp_35 : decode b_M_tendLamp 35 = .ok (.ireturn, 1) := by decide +kernel
theorem cy_M_tendLamp : zY y_M_tendLamp b_M_tendLamp 4 (some (FieldType.int)) 2 := ⟨kw_755, kw_3, by decide +kernel, by decide +kernel⟩
theorem d_M_tendRound_0 : decode b_M_tendRound 0 = .ok (.aload_n 0, 1) := by decide +kernel
theorem d_M_tendRound_1 : decode b_M_tendRound 1 = .ok (.bipush 23, 2) := by decide +kernel
theorem d_M_tendRound_3 : decode b_M_tendRound 3 = .ok (.invokevirtual 46, 3) := by decide +kernel
theorem d_M_tendRound_6 : decode b_M_tendRound 6 = .ok (.aload_n 0, 1) := by decide +kernel
theorem d_M_tendRound_7 : decode b_M_tendRound 7 = .ok (.iload_n 1, 1) := by decide +kernel
theorem d_M_tendRound_8 : decode b_M_tendRound 8 = .ok (.iload_n 2, 1) := by decide +kernel
theorem d_M_tendRound_9 : decode b_M_tendRound 9 = .ok (.invokevirtual 104, 3) := by decide +kernel
theorem d_M_tendRound_12 : decode b_M_tendRound 12 = .ok (.istore_n 3, 1) := by decide +kernel
theorem d_M_tendRound_13 : decode b_M_tendRound 13 = .ok (.aload_n 0, 1) := by decide +kernel
theorem d_M_tendRound_14 : decode b_M_tendRound 14 = .ok (.iload_n 1, 1) := by decide +kernel
theorem d_M_tendRound_15 : decode b_M_tendRound 15 = .ok (.iload_n 2, 1) := by decide +kernel
theorem d_M_tendRound_16 : decode b_M_tendRound 16 = .ok (.iconst 2, 1) := by decide +kernel
theorem d_M_tendRound_17 : decode b_M_tendRound 17 = .ok (.idiv, 1) := by decide +kernel
theorem d_M_tendRound_18 : decode b_M_tendRound 18 = .ok (.invokevirtual 104, 3) := by decide +kernel
theorem d_M_tendRound_21 : decode b_M_tendRound 21 = .ok (.ireturn, 1) := by decide +kernel
theorem cy_M_tendRound : zY y_M_tendRound b_M_tendRound 4 (some (FieldType.int)) 2 := ⟨kw_751, kw_3, by decide +kernel, by decide +kernel⟩
theorem d_M_tendDrum_0 : decode b_M_tendDrum 0 = .ok (.aload_n 0, 1) := by decide +kernel
theorem d_M_tendDrum_1 : decode b_M_tendDrum 1 = .ok (.bipush 43, 2) := by decide +kernel
theorem d_M_tendDrum_3 : decode b_M_tendDrum 3 = .ok (.invokevirtual 46, 3) := by decide +kernel
theorem d_M_tendDrum_6 : decode b_M_tendDrum 6 = .ok (.aload_n 0, 1) := by decide +kernel
theorem d_M_tendDrum_7 : decode b_M_tendDrum 7 = .ok (.iload_n 1, 1) := by decide +kernel
theorem d_M_tendDrum_8 : decode b_M_tendDrum 8 = .ok (.iload_n 2, 1) := by decide +kernel
theorem d_M_tendDrum_9 : decode b_M_tendDrum 9 = .ok (.aload_n 0, 1) := by decide +kernel
theorem d_M_tendDrum_10 : decode b_M_tendDrum 10 = .ok (.getfield 7, 3) := by decide +kernel
theorem d_M_tendDrum_13 : decode b_M_tendDrum 13 = .ok (.iconst 3, 1) := by decide +kernel
theorem d_M_tendDrum_14 : decode b_M_tendDrum 14 = .ok (.iaload, 1) := by decide +kernel
theorem d_M_tendDrum_15 : decode b_M_tendDrum 15 = .ok (.iadd, 1) := by decide +kernel
theorem d_M_tendDrum_16 : decode b_M_tendDrum 16 = .ok (.invokevirtual 107, 3) := by decide +kernel
theorem d_M_tendDrum_19 : decode b_M_tendDrum 19 = .ok (.ireturn, 1) := by decide +kernel
theorem cy_M_tendDrum : zY y_M_tendDrum b_M_tendDrum 3 (some (FieldType.int)) 2 := ⟨kw_759, kw_3, by decide +kernel, by decide +kernel⟩
theorem d_M_tendBuoy_0 : decode b_M_tendBuoy 0 = .ok (.aload_n 0, 1) := by decide +kernel
theorem d_M_tendBuoy_1 : decode b_M_tendBuoy 1 = .ok (.bipush 83, 2) := by decide +kernel
theorem d_M_tendBuoy_3 : decode b_M_tendBuoy 3 = .ok (.invokevirtual 46, 3) := by decide +kernel
theorem d_M_tendBuoy_6 : decode b_M_tendBuoy 6 = .ok (.aload_n 0, 1) := by decide +kernel
theorem d_M_tendBuoy_7 : decode b_M_tendBuoy 7 = .ok (.getfield 7, 3) := by decide +kernel
theorem d_M_tendBuoy_10 : decode b_M_tendBuoy 10 = .ok (.iconst 4, 1) := by decide +kernel
theorem d_M_tendBuoy_11 : decode b_M_tendBuoy 11 = .ok (.iaload, 1) := by decide +kernel
theorem d_M_tendBuoy_12 : decode b_M_tendBuoy 12 = .ok (.ifCond .ne 12, 3) := by decide +kernel
theorem d_M_tendBuoy_15 : decode b_M_tendBuoy 15 = .ok (.aload_n 0, 1) := by decide +kernel
theorem d_M_tendBuoy_16 : decode b_M_tendBuoy 16 = .ok (.iload_n 1, 1) := by decide +kernel
theorem d_M_tendBuoy_17 : decode b_M_tendBuoy 17 = .ok (.iload_n 2, 1) := by decide +kernel
theorem d_M_tendBuoy_18 : decode b_M_tendBuoy 18 = .ok (.invokevirtual 104, 3) := by decide +kernel
theorem d_M_tendBuoy_21 : decode b_M_tendBuoy 21 = .ok (.goto 9, 3) := by decide +kernel
theorem d_M_tendBuoy_24 : decode b_M_tendBuoy 24 = .ok (.aload_n 0, 1) := by decide +kernel
theorem d_M_tendBuoy_25 : decode b_M_tendBuoy 25 = .ok (.getfield 7, 3) := by decide +kernel
theorem d_M_tendBuoy_28 : decode b_M_tendBuoy 28 = .ok (.iconst 4, 1) := by decide +kernel
theorem d_M_tendBuoy_29 : decode b_M_tendBuoy 29 = .ok (.iaload, 1) := by decide +kernel
theorem d_M_tendBuoy_30 : decode b_M_tendBuoy 30 = .ok (.ireturn, 1) := by decide +kernel
theorem cy_M_tendBuoy : zY y_M_tendBuoy b_M_tendBuoy 3 (some (FieldType.int)) 2 := ⟨kw_763, kw_3, by decide +kernel, by decide +kernel⟩
theorem d_M_tend_0 : decode b_M_tend 0 = .ok (.aload_n 0, 1) := by decide +kernel
theorem d_M_tend_1 : decode b_M_tend 1 = .ok (.getfield 13, 3) := by decide +kernel
theorem d_M_tend_4 : decode b_M_tend 4 = .ok (.iload_n 1, 1) := by decide +kernel
theorem d_M_tend_5 : decode b_M_tend 5 = .ok (.iaload, 1) := by decide +kernel
theorem d_M_tend_6 : decode b_M_tend 6 = .ok (.tableswitch 67 2 9 #[46, 46, 53, 53, 67, 67, 60, 60], 46) := by decide +kernel
theorem d_M_tend_52 : decode b_M_tend 52 = .ok (.aload_n 0, 1) := by decide +kernel
theorem d_M_tend_53 : decode b_M_tend 53 = .ok (.iload_n 1, 1) := by decide +kernel
theorem d_M_tend_54 : decode b_M_tend 54 = .ok (.iload_n 2, 1) := by decide +kernel
theorem d_M_tend_55 : decode b_M_tend 55 = .ok (.invokevirtual 107, 3) := by decide +kernel
theorem d_M_tend_58 : decode b_M_tend 58 = .ok (.ireturn, 1) := by decide +kernel
theorem d_M_tend_59 : decode b_M_tend 59 = .ok (.aload_n 0, 1) := by decide +kernel
theorem d_M_tend_60 : decode b_M_tend 60 = .ok (.iload_n 1, 1) := by decide +kernel
theorem d_M_tend_61 : decode b_M_tend 61 = .ok (.iload_n 2, 1) := by decide +kernel
theorem d_M_tend_62 : decode b_M_tend 62 = .ok (.invokevirtual 110, 3) := by decide +kernel
theorem d_M_tend_65 : decode b_M_tend 65 = .ok (.ireturn, 1) := by decide +kernel
theorem d_M_tend_66 : decode b_M_tend 66 = .ok (.aload_n 0, 1) := by decide +kernel
theorem d_M_tend_67 : decode b_M_tend 67 = .ok (.iload_n 1, 1) := by decide +kernel
theorem d_M_tend_68 : decode b_M_tend 68 = .ok (.iload_n 2, 1) := by decide +kernel
theorem d_M_tend_69 : decode b_M_tend 69 = .ok (.invokevirtual 113, 3) := by decide +kernel
theorem d_M_tend_72 : decode b_M_tend 72 = .ok (.ireturn, 1) := by decide +kernel
theorem d_M_tend_73 : decode b_M_tend 73 = .ok (.aload_n 0, 1) := by decide +kernel
theorem d_M_tend_74 : decode b_M_tend 74 = .ok (.iload_n 1, 1) := by decide +kernel
theorem d_M_tend_75 : decode b_M_tend 75 = .ok (.iload_n 2, 1) := by decide +kernel
theorem d_M_tend_76 : decode b_M_tend 76 = .ok (.invokevirtual 104, 3) := by decide +kernel
theorem d_M_tend_79 : decode b_M_tend 79 = .ok (.ireturn, 1) := by decide +kernel
theorem cy_M_tend : zY y_M_tend b_M_tend 3 (some (FieldType.int)) 2 := ⟨kw_747, kw_3, by decide +kernel, by decide +kernel⟩
theorem d_M_rankLamp_0 : decode b_M_rankLamp 0 = .ok (.aload_n 0, 1) := by decide +kernel
theorem d_M_rankLamp_1 : decode b_M_rankLamp 1 = .ok (.iconst 4, 1) := by decide +kernel
theorem d_M_rankLamp_2 : decode b_M_rankLamp 2 = .ok (.invokevirtual 46, 3) := by decide +kernel
theorem d_M_rankLamp_5 : decode b_M_rankLamp 5 = .ok (.aload_n 0, 1) := by decide +kernel
theorem d_M_rankLamp_6 : decode b_M_rankLamp 6 = .ok (.getfield 16, 3) := by decide +kernel
theorem d_M_rankLamp_9 : decode b_M_rankLamp 9 = .ok (.iload_n 1, 1) := by decide +kernel
theorem d_M_rankLamp_10 : decode b_M_rankLamp 10 = .ok (.iaload, 1) := by decide +kernel
theorem d_M_rankLamp_11 : decode b_M_rankLamp 11 = .ok (.bipush 9, 2) := by decide +kernel
theorem d_M_rankLamp_13 : decode b_M_rankLamp 13 = .ok (.irem, 1) := by decide +kernel
theorem d_M_rankLamp_14 : decode b_M_rankLamp 14 = .ok (.ireturn, 1) := by decide +kernel
theorem cy_M_rankLamp : zY y_M_rankLamp b_M_rankLamp 2 (some (FieldType.int)) 1 := ⟨kw_775, kw_3, by decide +kernel, by decide +kernel⟩
theorem d_M_rankOil_0 : decode b_M_rankOil 0 = .ok (.aload_n 0, 1) := by decide +kernel
theorem d_M_rankOil_1 : decode b_M_rankOil 1 = .ok (.bipush 14, 2) := by decide +kernel
theorem d_M_rankOil_3 : decode b_M_rankOil 3 = .ok (.invokevirtual 46, 3) := by decide +kernel
theorem d_M_rankOil_6 : decode b_M_rankOil 6 = .ok (.aload_n 0, 1) := by decide +kernel
theorem d_M_rankOil_7 : decode b_M_rankOil 7 = .ok (.iload_n 1, 1) := by decide +kernel
theorem d_M_rankOil_8 : decode b_M_rankOil 8 = .ok (.invokevirtual 116, 3) := by decide +kernel
theorem d_M_rankOil_11 : decode b_M_rankOil 11 = .ok (.iconst 1, 1) := by decide +kernel
theorem d_M_rankOil_12 : decode b_M_rankOil 12 = .ok (.iadd, 1) := by decide +kernel
theorem d_M_rankOil_13 : decode b_M_rankOil 13 = .ok (.ireturn, 1) := by decide +kernel
theorem cy_M_rankOil : zY y_M_rankOil b_M_rankOil 2 (some (FieldType.int)) 1 := ⟨kw_771, kw_3, by decide +kernel, by decide +kernel⟩
theorem d_M_rankDrum_0 : decode b_M_rankDrum 0 = .ok (.aload_n 0, 1) := by decide +kernel
theorem d_M_rankDrum_1 : decode b_M_rankDrum 1 = .ok (.bipush 44, 2) := by decide +kernel
theorem d_M_rankDrum_3 : decode b_M_rankDrum 3 = .ok (.invokevirtual 46, 3) := by decide +kernel
theorem d_M_rankDrum_6 : decode b_M_rankDrum 6 = .ok (.iconst 2, 1) := by decide +kernel
theorem d_M_rankDrum_7 : decode b_M_rankDrum 7 = .ok (.aload_n 0, 1) := by decide +kernel
theorem d_M_rankDrum_8 : decode b_M_rankDrum 8 = .ok (.iload_n 1, 1) := by decide +kernel
theorem d_M_rankDrum_9 : decode b_M_rankDrum 9 = .ok (.invokevirtual 119, 3) := by decide +kernel
theorem d_M_rankDrum_12 : decode b_M_rankDrum 12 = .ok (.imul, 1) := by decide +kernel
theorem d_M_rankDrum_13 : decode b_M_rankDrum 13 = .ok (.ireturn, 1) := by decide +kernel
theorem cy_M_rankDrum : zY y_M_rankDrum b_M_rankDrum 2 (some (FieldType.int)) 1 := ⟨kw_779, kw_3, by decide +kernel, by decide +kernel⟩
theorem d_M_rankFlare_0 : decode b_M_rankFlare 0 = .ok (.aload_n 0, 1) := by decide +kernel
theorem d_M_rankFlare_1 : decode b_M_rankFlare 1 = .ok (.bipush 74, 2) := by decide +kernel
theorem d_M_rankFlare_3 : decode b_M_rankFlare 3 = .ok (.invokevirtual 46, 3) := by decide +kernel
theorem d_M_rankFlare_6 : decode b_M_rankFlare 6 = .ok (.aload_n 0, 1) := by decide +kernel
theorem d_M_rankFlare_7 : decode b_M_rankFlare 7 = .ok (.iload_n 1, 1) := by decide +kernel
theorem d_M_rankFlare_8 : decode b_M_rankFlare 8 = .ok (.invokevirtual 116, 3) := by decide +kernel
theorem d_M_rankFlare_11 : decode b_M_rankFlare 11 = .ok (.aload_n 0, 1) := by decide +kernel
theorem d_M_rankFlare_12 : decode b_M_rankFlare 12 = .ok (.getfield 22, 3) := by decide +kernel
theorem d_M_rankFlare_15 : decode b_M_rankFlare 15 = .ok (.iload_n 1, 1) := by decide +kernel
theorem d_M_rankFlare_16 : decode b_M_rankFlare 16 = .ok (.iaload, 1) := by decide +kernel
theorem d_M_rankFlare_17 : decode b_M_rankFlare 17 = .ok (.iconst 5, 1) := by decide +kernel
theorem d_M_rankFlare_18 : decode b_M_rankFlare 18 = .ok (.irem, 1) := by decide +kernel
theorem d_M_rankFlare_19 : decode b_M_rankFlare 19 = .ok (.iadd, 1) := by decide +kernel
theorem d_M_rankFlare_20 : decode b_M_rankFlare 20 = .ok (.ireturn, 1) := by decide +kernel
theorem cy_M_rankFlare : zY y_M_rankFlare b_M_rankFlare 2 (some (FieldType.int)) 1 := ⟨kw_787, kw_3, by decide +kernel, by decide +kernel⟩
theorem d_M_rankOuter_0 : decode b_M_rankOuter 0 = .ok (.aload_n 0, 1) := by decide +kernel
theorem d_M_rankOuter_1 : decode b_M_rankOuter 1 = .ok (.bipush 94, 2) := by decide +kernel
theorem d_M_rankOuter_3 : decode b_M_rankOuter 3 = .ok (.invokevirtual 46, 3) := by decide +kernel
theorem d_M_rankOuter_6 : decode b_M_rankOuter 6 = .ok (.aload_n 0, 1) := by decide +kernel
theorem d_M_rankOuter_7 : decode b_M_rankOuter 7 = .ok (.iload_n 1, 1) := by decide +kernel
theorem d_M_rankOuter_8 : decode b_M_rankOuter 8 = .ok (.invokevirtual 122, 3) := by decide +kernel
theorem d_M_rankOuter_11 : decode b_M_rankOuter 11 = .ok (.aload_n 0, 1) := by decide +kernel
theorem d_M_rankOuter_12 : decode b_M_rankOuter 12 = .ok (.getfield 19, 3) := by decide +kernel
theorem d_M_rankOuter_15 : decode b_M_rankOuter 15 = .ok (.iload_n 1, 1) := by decide +kernel
theorem d_M_rankOuter_16 : decode b_M_rankOuter 16 = .ok (.iaload, 1) := by decide +kernel
theorem d_M_rankOuter_17 : decode b_M_rankOuter 17 = .ok (.iconst 3, 1) := by decide +kernel
theorem d_M_rankOuter_18 : decode b_M_rankOuter 18 = .ok (.irem, 1) := by decide +kernel
theorem d_M_rankOuter_19 : decode b_M_rankOuter 19 = .ok (.iadd, 1) := by decide +kernel
theorem d_M_rankOuter_20 : decode b_M_rankOuter 20 = .ok (.ireturn, 1) := by decide +kernel
theorem cy_M_rankOuter : zY y_M_rankOuter b_M_rankOuter 2 (some (FieldType.int)) 1 := ⟨kw_783, kw_3, by decide +kernel, by decide +kernel⟩
theorem d_M_rank_0 : decode b_M_rank 0 = .ok (.aload_n 0, 1) := by decide +kernel
theorem d_M_rank_1 : decode b_M_rank 1 = .ok (.getfield 13, 3) := by decide +kernel
theorem d_M_rank_4 : decode b_M_rank 4 = .ok (.iload_n 1, 1) := by decide +kernel
theorem d_M_rank_5 : decode b_M_rank 5 = .ok (.iaload, 1) := by decide +kernel
theorem d_M_rank_6 : decode b_M_rank 6 = .ok (.tableswitch 74 1 9 #[50, 50, 50, 56, 56, 62, 74, 74, 68], 50) := by decide +kernel
theorem d_M_rank_56 : decode b_M_rank 56 = .ok (.aload_n 0, 1) := by decide +kernel
theorem d_M_rank_57 : decode b_M_rank 57 = .ok (.iload_n 1, 1) := by decide +kernel
theorem d_M_rank_58 : decode b_M_rank 58 = .ok (.invokevirtual 119, 3) := by decide +kernel
theorem d_M_rank_61 : decode b_M_rank 61 = .ok (.ireturn, 1) := by decide +kernel
theorem d_M_rank_62 : decode b_M_rank 62 = .ok (.aload_n 0, 1) := by decide +kernel
theorem d_M_rank_63 : decode b_M_rank 63 = .ok (.iload_n 1, 1) := by decide +kernel
theorem d_M_rank_64 : decode b_M_rank 64 = .ok (.invokevirtual 125, 3) := by decide +kernel
theorem d_M_rank_67 : decode b_M_rank 67 = .ok (.ireturn, 1) := by decide +kernel
theorem d_M_rank_68 : decode b_M_rank 68 = .ok (.aload_n 0, 1) := by decide +kernel
theorem d_M_rank_69 : decode b_M_rank 69 = .ok (.iload_n 1, 1) := by decide +kernel
theorem d_M_rank_70 : decode b_M_rank 70 = .ok (.invokevirtual 116, 3) := by decide +kernel
theorem d_M_rank_73 : decode b_M_rank 73 = .ok (.ireturn, 1) := by decide +kernel
theorem d_M_rank_74 : decode b_M_rank 74 = .ok (.aload_n 0, 1) := by decide +kernel
theorem d_M_rank_75 : decode b_M_rank 75 = .ok (.iload_n 1, 1) := by decide +kernel
theorem d_M_rank_76 : decode b_M_rank 76 = .ok (.invokevirtual 128, 3) := by decide +kernel
theorem d_M_rank_79 : decode b_M_rank 79 = .ok (.ireturn, 1) := by decide +kernel
theorem d_M_rank_80 : decode b_M_rank 80 = .ok (.aload_n 0, 1) := by decide +kernel
theorem d_M_rank_81 : decode b_M_rank 81 = .ok (.iload_n 1, 1) := by decide +kernel
theorem d_M_rank_82 : decode b_M_rank 82 = .ok (.invokevirtual 122, 3) := by decide +kernel
theorem d_M_rank_85 : decode b_M_rank 85 = .ok (.ireturn, 1) := by decide +kernel
theorem cy_M_rank : zY y_M_rank b_M_rank 2 (some (FieldType.int)) 1 := ⟨kw_767, kw_3, by decide +kernel, by decide +kernel⟩
theorem d_M_toneOil_0 : decode b_M_toneOil 0 = .ok (.aload_n 0, 1) := by decide +kernel
theorem d_M_toneOil_1 : decode b_M_toneOil 1 = .ok (.bipush 16, 2) := by decide +kernel
theorem d_M_toneOil_3 : decode b_M_toneOil 3 = .ok (.invokevirtual 46, 3) := by decide +kernel
theorem d_M_toneOil_6 : decode b_M_toneOil 6 = .ok (.bipush 7, 2) := by decide +kernel
theorem d_M_toneOil_8 : decode b_M_toneOil 8 = .ok (.ireturn, 1) := by decide +kernel
theorem cy_M_toneOil : zY y_M_toneOil b_M_toneOil 1 (some (FieldType.int)) 0 := ⟨kw_803, kw_3, by decide +kernel, by decide +kernel⟩
theorem d_M_toneDrum_0 : decode b_M_toneDrum 0 = .ok (.aload_n 0, 1) := by decide +kernel
theorem d_M_toneDrum_1 : decode b_M_toneDrum 1 = .ok (.bipush 46, 2) := by decide +kernel
theorem d_M_toneDrum_3 : decode b_M_toneDrum 3 = .ok (.invokevirtual 46, 3) := by decide +kernel
theorem d_M_toneDrum_6 : decode b_M_toneDrum 6 = .ok (.aload_n 0, 1) := by decide +kernel
theorem d_M_toneDrum_7 : decode b_M_toneDrum 7 = .ok (.invokevirtual 131, 3) := by decide +kernel
theorem d_M_toneDrum_10 : decode b_M_toneDrum 10 = .ok (.aload_n 0, 1) := by decide +kernel
theorem d_M_toneDrum_11 : decode b_M_toneDrum 11 = .ok (.getfield 7, 3) := by decide +kernel
theorem d_M_toneDrum_14 : decode b_M_toneDrum 14 = .ok (.iconst 5, 1) := by decide +kernel
theorem d_M_toneDrum_15 : decode b_M_toneDrum 15 = .ok (.iaload, 1) := by decide +kernel
theorem d_M_toneDrum_16 : decode b_M_toneDrum 16 = .ok (.iadd, 1) := by decide +kernel
theorem d_M_toneDrum_17 : decode b_M_toneDrum 17 = .ok (.ireturn, 1) := by decide +kernel
theorem cy_M_toneDrum : zY y_M_toneDrum b_M_toneDrum 1 (some (FieldType.int)) 0 := ⟨kw_799, kw_3, by decide +kernel, by decide +kernel⟩
theorem d_M_toneFlare_0 : decode b_M_toneFlare 0 = .ok (.aload_n 0, 1) := by decide +kernel
theorem d_M_toneFlare_1 : decode b_M_toneFlare 1 = .ok (.bipush 76, 2) := by decide +kernel
theorem d_M_toneFlare_3 : decode b_M_toneFlare 3 = .ok (.invokevirtual 46, 3) := by decide +kernel
theorem d_M_toneFlare_6 : decode b_M_toneFlare 6 = .ok (.bipush 9, 2) := by decide +kernel
theorem d_M_toneFlare_8 : decode b_M_toneFlare 8 = .ok (.ireturn, 1) := by decide +kernel
theorem cy_M_toneFlare : zY y_M_toneFlare b_M_toneFlare 1 (some (FieldType.int)) 0 := ⟨kw_807, kw_3, by decide +kernel, by decide +kernel⟩
theorem d_M_toneOuter_0 : decode b_M_toneOuter 0 = .ok (.aload_n 0, 1) := by decide +kernel
theorem d_M_toneOuter_1 : decode b_M_toneOuter 1 = .ok (.bipush 96, 2) := by decide +kernel
theorem d_M_toneOuter_3 : decode b_M_toneOuter 3 = .ok (.invokevirtual 46, 3) := by decide +kernel
theorem d_M_toneOuter_6 : decode b_M_toneOuter 6 = .ok (.aload_n 0, 1) := by decide +kernel
theorem d_M_toneOuter_7 : decode b_M_toneOuter 7 = .ok (.invokevirtual 134, 3) := by decide +kernel
theorem d_M_toneOuter_10 : decode b_M_toneOuter 10 = .ok (.istore_n 2, 1) := by decide +kernel
theorem d_M_toneOuter_11 : decode b_M_toneOuter 11 = .ok (.iload_n 2, 1) := by decide +kernel
theorem d_M_toneOuter_12 : decode b_M_toneOuter 12 = .ok (.aload_n 0, 1) := by decide +kernel
theorem d_M_toneOuter_13 : decode b_M_toneOuter 13 = .ok (.iload_n 1, 1) := by decide +kernel
theorem d_M_toneOuter_14 : decode b_M_toneOuter 14 = .ok (.invokevirtual 137, 3) := by decide +kernel
theorem d_M_toneOuter_17 : decode b_M_toneOuter 17 = .ok (.iadd, 1) := by decide +kernel
theorem d_M_toneOuter_18 : decode b_M_toneOuter 18 = .ok (.ireturn, 1) := by decide +kernel
theorem cy_M_toneOuter : zY y_M_toneOuter b_M_toneOuter 3 (some (FieldType.int)) 1 := ⟨kw_811, kw_3, by decide +kernel, by decide +kernel⟩
theorem d_M_tone_0 : decode b_M_tone 0 = .ok (.aload_n 0, 1) := by decide +kernel
theorem d_M_tone_1 : decode b_M_tone 1 = .ok (.getfield 13, 3) := by decide +kernel
theorem d_M_tone_4 : decode b_M_tone 4 = .ok (.iload_n 1, 1) := by decide +kernel
theorem d_M_tone_5 : decode b_M_tone 5 = .ok (.iaload, 1) := by decide +kernel
theorem d_M_tone_6 : decode b_M_tone 6 = .ok (.tableswitch 54 4 9 #[38, 38, 54, 43, 43, 48], 38) := by decide +kernel
theorem d_M_tone_44 : decode b_M_tone 44 = .ok (.aload_n 0, 1) := by decide +kernel
theorem d_M_tone_45 : decode b_M_tone 45 = .ok (.invokevirtual 140, 3) := by decide +kernel
theorem d_M_tone_48 : decode b_M_tone 48 = .ok (.ireturn, 1) := by decide +kernel
theorem d_M_tone_49 : decode b_M_tone 49 = .ok (.aload_n 0, 1) := by decide +kernel
theorem d_M_tone_50 : decode b_M_tone 50 = .ok (.invokevirtual 134, 3) := by decide +kernel
theorem d_M_tone_53 : decode b_M_tone 53 = .ok (.ireturn, 1) := by decide +kernel
theorem d_M_tone_54 : decode b_M_tone 54 = .ok (.aload_n 0, 1) := by decide +kernel
theorem d_M_tone_55 : decode b_M_tone 55 = .ok (.iload_n 1, 1) := by decide +kernel
theorem d_M_tone_56 : decode b_M_tone 56 = .ok (.invokevirtual 143, 3) := by decide +kernel
theorem d_M_tone_59 : decode b_M_tone 59 = .ok (.ireturn, 1) := by decide +kernel
theorem d_M_tone_60 : decode b_M_tone 60 = .ok (.aload_n 0, 1) := by decide +kernel
theorem d_M_tone_61 : decode b_M_tone 61 = .ok (.invokevirtual 131, 3) := by decide +kernel
theorem d_M_tone_64 : decode b_M_tone 64 = .ok (.ireturn, 1) := by decide +kernel
theorem cy_M_tone : zY y_M_tone b_M_tone 2 (some (FieldType.int)) 1 := ⟨kw_795, kw_3, by decide +kernel, by decide +kernel⟩
theorem d_M_horn_0 : decode b_M_horn 0 = .ok (.aload_n 0, 1) := by decide +kernel
theorem d_M_horn_1 : decode b_M_horn 1 = .ok (.getfield 13, 3) := by decide +kernel
theorem d_M_horn_4 : decode b_M_horn 4 = .ok (.iload_n 1, 1) := by decide +kernel
theorem d_M_horn_5 : decode b_M_horn 5 = .ok (.iaload, 1) := by decide +kernel
theorem d_M_horn_6 : decode b_M_horn 6 = .ok (.iconst 5, 1) := by decide +kernel
theorem d_M_horn_7 : decode b_M_horn 7 = .ok (.if_icmp .ne 17, 3) := by decide +kernel
theorem d_M_horn_10 : decode b_M_horn 10 = .ok (.aload_n 0, 1) := by decide +kernel
theorem d_M_horn_11 : decode b_M_horn 11 = .ok (.bipush 55, 2) := by decide +kernel
theorem d_M_horn_13 : decode b_M_horn 13 = .ok (.invokevirtual 46, 3) := by decide +kernel
theorem d_M_horn_16 : decode b_M_horn 16 = .ok (.aload_n 0, 1) := by decide +kernel
theorem d_M_horn_17 : decode b_M_horn 17 = .ok (.iload_n 1, 1) := by decide +kernel
theorem d_M_horn_18 : decode b_M_horn 18 = .ok (.invokevirtual 146, 3) := by decide +kernel
theorem d_M_horn_21 : decode b_M_horn 21 = .ok (.iload_n 2, 1) := by decide +kernel
theorem d_M_horn_22 : decode b_M_horn 22 = .ok (.iadd, 1) := by decide +kernel
theorem d_M_horn_23 : decode b_M_horn 23 = .ok (.ireturn, 1) := by decide +kernel
theorem d_M_horn_24 : decode b_M_horn 24 = .ok (.aload_n 0, 1) := by decide +kernel
theorem d_M_horn_25 : decode b_M_horn 25 = .ok (.iconst 5, 1) := by decide +kernel
theorem d_M_horn_26 : decode b_M_horn 26 = .ok (.invokevirtual 46, 3) := by decide +kernel
theorem d_M_horn_29 : decode b_M_horn 29 = .ok (.aload_n 0, 1) := by decide +kernel
theorem d_M_horn_30 : decode b_M_horn 30 = .ok (.iload_n 1, 1) := by decide +kernel
theorem d_M_horn_31 : decode b_M_horn 31 = .ok (.invokevirtual 146, 3) := by decide +kernel
theorem d_M_horn_34 : decode b_M_horn 34 = .ok (.iload_n 2, 1) := by decide +kernel
theorem d_M_horn_35 : decode b_M_horn 35 = .ok (.imul, 1) := by decide +kernel
theorem d_M_horn_36 : decode b_M_horn 36 = .ok (.istore_n 3, 1) := by decide +kernel
theorem d_M_horn_37 : decode b_M_horn 37 = .ok (.iload_n 3, 1) := by decide +kernel
theorem d_M_horn_38 : decode b_M_horn 38 = .ok (.aload_n 0, 1) := by decide +kernel
theorem d_M_horn_39 : decode b_M_horn 39 = .ok (.iload_n 1, 1) := by decide +kernel
theorem d_M_horn_40 : decode b_M_horn 40 = .ok (.iconst 0, 1) := by decide +kernel
theorem d_M_horn_41 : decode b_M_horn 41 = .ok (.invokevirtual 149, 3) := by decide +kernel
theorem d_M_horn_44 : decode b_M_horn 44 = .ok (.iadd, 1) := by decide +kernel
theorem d_M_horn_45 : decode b_M_horn 45 = .ok (.ireturn, 1) := by decide +kernel
theorem cy_M_horn : zY y_M_horn b_M_horn 4 (some (FieldType.int)) 2 := ⟨kw_791, kw_3, by decide +kernel, by decide +kernel⟩
theorem d_M_dial_0 : decode b_M_dial 0 = .ok (.iload_n 1, 1) := by decide +kernel
theorem d_M_dial_1 : decode b_M_dial 1 = .ok (.iconst 0, 1) := by decide +kernel
theorem d_M_dial_2 : decode b_M_dial 2 = .ok (.bipush 7, 2) := by decide +kernel
theorem d_M_dial_4 : decode b_M_dial 4 = .ok (.invokestatic 36, 3) := by decide +kernel
theorem d_M_dial_7 : decode b_M_dial 7 = .ok (.ifCond .eq 14, 3) := by decide +kernel
theorem d_M_dial_10 : decode b_M_dial 10 = .ok (.iload_n 2, 1) := by decide +kernel
theorem d_M_dial_11 : decode b_M_dial 11 = .ok (.iconst 0, 1) := by decide +kernel
theorem d_M_dial_12 : decode b_M_dial 12 = .ok (.sipush 1000, 3) := by decide +kernel
theorem d_M_dial_15 : decode b_M_dial 15 = .ok (.invokestatic 36, 3) := by decide +kernel
theorem d_M_dial_18 : decode b_M_dial 18 = .ok (.ifCond .ne 5, 3) := by decide +kernel
theorem d_M_dial_21 : decode b_M_dial 21 = .ok (.iconst (-1), 1) := by decide +kernel
theorem d_M_dial_22 : decode b_M_dial 22 = .ok (.ireturn, 1) := by decide +kernel
theorem d_M_dial_23 : decode b_M_dial 23 = .ok (.aload_n 0, 1) := by decide +kernel
theorem d_M_dial_24 : decode b_M_dial 24 = .ok (.getfield 7, 3) := by decide +kernel
theorem d_M_dial_27 : decode b_M_dial 27 = .ok (.iload_n 1, 1) := by decide +kernel
theorem d_M_dial_28 : decode b_M_dial 28 = .ok (.iaload, 1) := by decide +kernel
theorem d_M_dial_29 : decode b_M_dial 29 = .ok (.istore_n 3, 1) := by decide +kernel
theorem d_M_dial_30 : decode b_M_dial 30 = .ok (.aload_n 0, 1) := by decide +kernel
theorem d_M_dial_31 : decode b_M_dial 31 = .ok (.getfield 7, 3) := by decide +kernel
theorem d_M_dial_34 : decode b_M_dial 34 = .ok (.iload_n 1, 1) := by decide +kernel
theorem d_M_dial_35 : decode b_M_dial 35 = .ok (.iload_n 2, 1) := by decide +kernel
theorem d_M_dial_36 : decode b_M_dial 36 = .ok (.iastore, 1) := by decide +kernel
theorem d_M_dial_37 : decode b_M_dial 37 = .ok (.iload_n 3, 1) := by decide +kernel
theorem d_M_dial_38 : decode b_M_dial 38 = .ok (.ireturn, 1) := by decide +kernel
theorem cy_M_dial : zY y_M_dial b_M_dial 4 (some (FieldType.int)) 2 := ⟨kw_634, kw_3, by decide +kernel, by decide +kernel⟩
theorem d_M_lamp_0 : decode b_M_lamp 0 = .ok (.iload_n 1, 1) := by decide +kernel
theorem d_M_lamp_1 : decode b_M_lamp 1 = .ok (.iconst 1, 1) := by decide +kernel
theorem d_M_lamp_2 : decode b_M_lamp 2 = .ok (.bipush 9, 2) := by decide +kernel
theorem d_M_lamp_4 : decode b_M_lamp 4 = .ok (.invokestatic 36, 3) := by decide +kernel
theorem d_M_lamp_7 : decode b_M_lamp 7 = .ok (.ifCond .eq 14, 3) := by decide +kernel
theorem d_M_lamp_10 : decode b_M_lamp 10 = .ok (.iload_n 2, 1) := by decide +kernel
theorem d_M_lamp_11 : decode b_M_lamp 11 = .ok (.iconst 0, 1) := by decide +kernel
theorem d_M_lamp_12 : decode b_M_lamp 12 = .ok (.sipush 500, 3) := by decide +kernel
theorem d_M_lamp_15 : decode b_M_lamp 15 = .ok (.invokestatic 36, 3) := by decide +kernel
theorem d_M_lamp_18 : decode b_M_lamp 18 = .ok (.ifCond .ne 5, 3) := by decide +kernel
theorem d_M_lamp_21 : decode b_M_lamp 21 = .ok (.iconst (-1), 1) := by decide +kernel
theorem d_M_lamp_22 : decode b_M_lamp 22 = .ok (.ireturn, 1) := by decide +kernel
theorem d_M_lamp_23 : decode b_M_lamp 23 = .ok (.aload_n 0, 1) := by decide +kernel
theorem d_M_lamp_24 : decode b_M_lamp 24 = .ok (.getfield 32, 3) := by decide +kernel
theorem d_M_lamp_27 : decode b_M_lamp 27 = .ok (.bipush 60, 2) := by decide +kernel
theorem d_M_lamp_29 : decode b_M_lamp 29 = .ok (.if_icmp .ne 6, 3) := by decide +kernel
theorem d_M_lamp_32 : decode b_M_lamp 32 = .ok (.bipush (-2), 2) := by decide +kernel
theorem d_M_lamp_34 : decode b_M_lamp 34 = .ok (.ireturn, 1) := by decide +kernel
theorem d_M_lamp_35 : decode b_M_lamp 35 = .ok (.aload_n 0, 1) := by decide +kernel
theorem d_M_lamp_36 : decode b_M_lamp 36 = .ok (.getfield 13, 3) := by decide +kernel
theorem d_M_lamp_39 : decode b_M_lamp 39 = .ok (.aload_n 0, 1) := by decide +kernel
theorem d_M_lamp_40 : decode b_M_lamp 40 = .ok (.getfield 32, 3) := by decide +kernel
theorem d_M_lamp_43 : decode b_M_lamp 43 = .ok (.iload_n 1, 1) := by decide +kernel
theorem d_M_lamp_44 : decode b_M_lamp 44 = .ok (.iastore, 1) := by decide +kernel
theorem d_M_lamp_45 : decode b_M_lamp 45 = .ok (.aload_n 0, 1) := by decide +kernel
theorem d_M_lamp_46 : decode b_M_lamp 46 = .ok (.getfield 16, 3) := by decide +kernel
theorem d_M_lamp_49 : decode b_M_lamp 49 = .ok (.aload_n 0, 1) := by decide +kernel
theorem d_M_lamp_50 : decode b_M_lamp 50 = .ok (.getfield 32, 3) := by decide +kernel
theorem d_M_lamp_53 : decode b_M_lamp 53 = .ok (.iload_n 2, 1) := by decide +kernel
theorem d_M_lamp_54 : decode b_M_lamp 54 = .ok (.iastore, 1) := by decide +kernel
theorem d_M_lamp_55 : decode b_M_lamp 55 = .ok (.aload_n 0, 1) := by decide +kernel
theorem d_M_lamp_56 : decode b_M_lamp 56 = .ok (.dup, 1) := by decide +kernel
theorem d_M_lamp_57 : decode b_M_lamp 57 = .ok (.getfield 32, 3) := by decide +kernel
theorem d_M_lamp_60 : decode b_M_lamp 60 = .ok (.iconst 1, 1) := by decide +kernel
theorem d_M_lamp_61 : decode b_M_lamp 61 = .ok (.iadd, 1) := by decide +kernel
theorem d_M_lamp_62 : decode b_M_lamp 62 = .ok (.putfield 32, 3) := by decide +kernel
theorem d_M_lamp_65 : decode b_M_lamp 65 = .ok (.aload_n 0, 1) := by decide +kernel
theorem d_M_lamp_66 : decode b_M_lamp 66 = .ok (.getfield 32, 3) := by decide +kernel
theorem d_M_lamp_69 : decode b_M_lamp 69 = .ok (.iconst 1, 1) := by decide +kernel
theorem d_M_lamp_70 : decode b_M_lamp 70 = .ok (.isub, 1) := by decide +kernel
theorem d_M_lamp_71 : decode b_M_lamp 71 = .ok (.ireturn, 1) := by decide +kernel
theorem cy_M_lamp : zY y_M_lamp b_M_lamp 3 (some (FieldType.int)) 2 := ⟨kw_641, kw_3, by decide +kernel, by decide +kernel⟩
theorem d_M_ask_0 : decode b_M_ask 0 = .ok (.aload_n 0, 1) := by decide +kernel
theorem d_M_ask_1 : decode b_M_ask 1 = .ok (.iload_n 1, 1) := by decide +kernel
theorem d_M_ask_2 : decode b_M_ask 2 = .ok (.invokevirtual 152, 3) := by decide +kernel
theorem d_M_ask_5 : decode b_M_ask 5 = .ok (.ifCond .eq 13, 3) := by decide +kernel
theorem d_M_ask_8 : decode b_M_ask 8 = .ok (.iload_n 2, 1) := by decide +kernel
theorem d_M_ask_9 : decode b_M_ask 9 = .ok (.iconst 0, 1) := by decide +kernel
theorem d_M_ask_10 : decode b_M_ask 10 = .ok (.bipush 6, 2) := by decide +kernel
theorem d_M_ask_12 : decode b_M_ask 12 = .ok (.invokestatic 36, 3) := by decide +kernel
theorem d_M_ask_15 : decode b_M_ask 15 = .ok (.ifCond .ne 7, 3) := by decide +kernel
theorem d_M_ask_18 : decode b_M_ask 18 = .ok (.ldc2_w 156, 3) := by decide +kernel
theorem d_M_ask_21 : decode b_M_ask 21 = .ok (.lreturn, 1) := by decide +kernel
theorem d_M_ask_22 : decode b_M_ask 22 = .ok (.aload_n 0, 1) := by decide +kernel
theorem d_M_ask_23 : decode b_M_ask 23 = .ok (.invokevirtual 158, 3) := by decide +kernel
theorem d_M_ask_26 : decode b_M_ask 26 = .ok (.iload_n 2, 1) := by decide +kernel
theorem d_M_ask_27 : decode b_M_ask 27 = .ok (.iconst 4, 1) := by decide +kernel
theorem d_M_ask_28 : decode b_M_ask 28 = .ok (.if_icmp .le 15, 3) := by decide +kernel
theorem d_M_ask_31 : decode b_M_ask 31 = .ok (.aload_n 0, 1) := by decide +kernel
theorem d_M_ask_32 : decode b_M_ask 32 = .ok (.iload_n 1, 1) := by decide +kernel
theorem d_M_ask_33 : decode b_M_ask 33 = .ok (.invokevirtual 161, 3) := by decide +kernel
theorem d_M_ask_36 : decode b_M_ask 36 = .ok (.ifCond .ne 7, 3) := by decide +kernel
theorem d_M_ask_39 : decode b_M_ask 39 = .ok (.ldc2_w 164, 3) := by decide +kernel
theorem d_M_ask_42 : decode b_M_ask 42 = .ok (.lreturn, 1) := by decide +kernel
theorem d_M_ask_43 : decode b_M_ask 43 = .ok (.iload_n 2, 1) := by decide +kernel
theorem d_M_ask_44 : decode b_M_ask 44 = .ok (.tableswitch 87 0 5 #[40, 48, 56, 64, 72, 79], 40) := by decide +kernel
theorem d_M_ask_84 : decode b_M_ask 84 = .ok (.aload_n 0, 1) := by decide +kernel
theorem d_M_ask_85 : decode b_M_ask 85 = .ok (.iload_n 1, 1) := by decide +kernel
theorem d_M_ask_86 : decode b_M_ask 86 = .ok (.iload_n 3, 1) := by decide +kernel
theorem d_M_ask_87 : decode b_M_ask 87 = .ok (.invokevirtual 166, 3) := by decide +kernel
theorem d_M_ask_90 : decode b_M_ask 90 = .ok (.i2l, 1) := by decide +kernel
theorem d_M_ask_91 : decode b_M_ask 91 = .ok (.lreturn, 1) := by decide +kernel
theorem d_M_ask_92 : decode b_M_ask 92 = .ok (.aload_n 0, 1) := by decide +kernel
theorem d_M_ask_93 : decode b_M_ask 93 = .ok (.iload_n 1, 1) := by decide +kernel
theorem d_M_ask_94 : decode b_M_ask 94 = .ok (.iload_n 3, 1) := by decide +kernel
theorem d_M_ask_95 : decode b_M_ask 95 = .ok (.invokevirtual 149, 3) := by decide +kernel
theorem d_M_ask_98 : decode b_M_ask 98 = .ok (.i2l, 1) := by decide +kernel
theorem d_M_ask_99 : decode b_M_ask 99 = .ok (.lreturn, 1) := by decide +kernel
theorem d_M_ask_100 : decode b_M_ask 100 = .ok (.aload_n 0, 1) := by decide +kernel
theorem d_M_ask_101 : decode b_M_ask 101 = .ok (.iload_n 1, 1) := by decide +kernel
theorem d_M_ask_102 : decode b_M_ask 102 = .ok (.iload_n 3, 1) := by decide +kernel
theorem d_M_ask_103 : decode b_M_ask 103 = .ok (.invokevirtual 169, 3) := by decide +kernel
theorem d_M_ask_106 : decode b_M_ask 106 = .ok (.i2l, 1) := by decide +kernel
theorem d_M_ask_107 : decode b_M_ask 107 = .ok (.lreturn, 1) := by decide +kernel
theorem d_M_ask_108 : decode b_M_ask 108 = .ok (.aload_n 0, 1) := by decide +kernel
theorem d_M_ask_109 : decode b_M_ask 109 = .ok (.iload_n 1, 1) := by decide +kernel
theorem d_M_ask_110 : decode b_M_ask 110 = .ok (.iload_n 3, 1) := by decide +kernel
theorem d_M_ask_111 : decode b_M_ask 111 = .ok (.invokevirtual 172, 3) := by decide +kernel
theorem d_M_ask_114 : decode b_M_ask 114 = .ok (.i2l, 1) := by decide +kernel
theorem d_M_ask_115 : decode b_M_ask 115 = .ok (.lreturn, 1) := by decide +kernel
theorem d_M_ask_116 : decode b_M_ask 116 = .ok (.aload_n 0, 1) := by decide +kernel
theorem d_M_ask_117 : decode b_M_ask 117 = .ok (.iload_n 1, 1) := by decide +kernel
theorem d_M_ask_118 : decode b_M_ask 118 = .ok (.invokevirtual 137, 3) := by decide +kernel
theorem d_M_ask_121 : decode b_M_ask 121 = .ok (.i2l, 1) := by decide +kernel
theorem d_M_ask_122 : decode b_M_ask 122 = .ok (.lreturn, 1) := by decide +kernel
theorem d_M_ask_123 : decode b_M_ask 123 = .ok (.aload_n 0, 1) := by decide +kernel
theorem d_M_ask_124 : decode b_M_ask 124 = .ok (.iload_n 1, 1) := by decide +kernel
theorem d_M_ask_125 : decode b_M_ask 125 = .ok (.iload_n 3, 1) := by decide +kernel
theorem d_M_ask_126 : decode b_M_ask 126 = .ok (.invokevirtual 175, 3) := by decide +kernel
theorem d_M_ask_129 : decode b_M_ask 129 = .ok (.i2l, 1) := by decide +kernel
theorem d_M_ask_130 : decode b_M_ask 130 = .ok (.lreturn, 1) := by decide +kernel
theorem d_M_ask_131 : decode b_M_ask 131 = .ok (.aload_n 0, 1) := by decide +kernel
theorem d_M_ask_132 : decode b_M_ask 132 = .ok (.iload_n 1, 1) := by decide +kernel
theorem d_M_ask_133 : decode b_M_ask 133 = .ok (.invokevirtual 146, 3) := by decide +kernel
theorem d_M_ask_136 : decode b_M_ask 136 = .ok (.i2l, 1) := by decide +kernel
theorem d_M_ask_137 : decode b_M_ask 137 = .ok (.lreturn, 1) := by decide +kernel
theorem cy_M_ask : zY y_M_ask b_M_ask 4 (some (FieldType.long)) 3 := ⟨kw_645, kw_3, by decide +kernel, by decide +kernel⟩
theorem d_M_trace_0 : decode b_M_trace 0 = .ok (.iload_n 1, 1) := by decide +kernel
theorem d_M_trace_1 : decode b_M_trace 1 = .ok (.iconst 0, 1) := by decide +kernel
theorem d_M_trace_2 : decode b_M_trace 2 = .ok (.aload_n 0, 1) := by decide +kernel
theorem d_M_trace_3 : decode b_M_trace 3 = .ok (.getfield 40, 3) := by decide +kernel
theorem d_M_trace_6 : decode b_M_trace 6 = .ok (.iconst 1, 1) := by decide +kernel
theorem d_M_trace_7 : decode b_M_trace 7 = .ok (.isub, 1) := by decide +kernel
theorem d_M_trace_8 : decode b_M_trace 8 = .ok (.invokestatic 36, 3) := by decide +kernel
theorem d_M_trace_11 : decode b_M_trace 11 = .ok (.ifCond .eq 12, 3) := by decide +kernel
theorem d_M_trace_14 : decode b_M_trace 14 = .ok (.aload_n 0, 1) := by decide +kernel
theorem d_M_trace_15 : decode b_M_trace 15 = .ok (.getfield 29, 3) := by decide +kernel
theorem d_M_trace_18 : decode b_M_trace 18 = .ok (.iload_n 1, 1) := by decide +kernel
theorem d_M_trace_19 : decode b_M_trace 19 = .ok (.iaload, 1) := by decide +kernel
theorem d_M_trace_20 : decode b_M_trace 20 = .ok (.goto 4, 3) := by decide +kernel
theorem d_M_trace_23 : decode b_M_trace 23 = .ok (.iconst (-1), 1) := by decide +kernel
theorem d_M_trace_24 : decode b_M_trace 24 = .ok (.ireturn, 1) := by decide +kernel
theorem cy_M_trace : zY y_M_trace b_M_trace 2 (some (FieldType.int)) 1 := ⟨kw_815, kw_3, by decide +kernel, by decide +kernel⟩
theorem d_M_haul_0 : decode b_M_haul 0 = .ok (.iload_n 1, 1) := by decide +kernel
theorem d_M_haul_1 : decode b_M_haul 1 = .ok (.iconst 1, 1) := by decide +kernel
theorem d_M_haul_2 : decode b_M_haul 2 = .ok (.ldc 178, 2) := by decide +kernel
theorem d_M_haul_4 : decode b_M_haul 4 = .ok (.invokestatic 36, 3) := by decide +kernel
theorem d_M_haul_7 : decode b_M_haul 7 = .ok (.ifCond .ne 7, 3) := by decide +kernel
theorem d_M_haul_10 : decode b_M_haul 10 = .ok (.ldc2_w 156, 3) := by decide +kernel
theorem d_M_haul_13 : decode b_M_haul 13 = .ok (.lreturn, 1) := by decide +kernel
theorem d_M_haul_14 : decode b_M_haul 14 = .ok (.aload_n 0, 1) := by decide +kernel
theorem d_M_haul_15 : decode b_M_haul 15 = .ok (.dup, 1) := by decide +kernel
theorem d_M_haul_16 : decode b_M_haul 16 = .ok (.getfield 179, 3) := by decide +kernel
theorem d_M_haul_19 : decode b_M_haul 19 = .ok (.iload_n 1, 1) := by decide +kernel
theorem d_M_haul_20 : decode b_M_haul 20 = .ok (.i2l, 1) := by decide +kernel
theorem d_M_haul_21 : decode b_M_haul 21 = .ok (.ladd, 1) := by decide +kernel
theorem d_M_haul_22 : decode b_M_haul 22 = .ok (.putfield 179, 3) := by decide +kernel
theorem d_M_haul_25 : decode b_M_haul 25 = .ok (.aload_n 0, 1) := by decide +kernel
theorem d_M_haul_26 : decode b_M_haul 26 = .ok (.getfield 179, 3) := by decide +kernel
theorem d_M_haul_29 : decode b_M_haul 29 = .ok (.lreturn, 1) := by decide +kernel
theorem cy_M_haul : zY y_M_haul b_M_haul 2 (some (FieldType.long)) 1 := ⟨kw_819, kw_3, by decide +kernel, by decide +kernel⟩
theorem d_M_fill_0 : decode b_M_fill 0 = .ok (.aload_n 0, 1) := by decide +kernel
theorem d_M_fill_1 : decode b_M_fill 1 = .ok (.iload_n 1, 1) := by decide +kernel
theorem d_M_fill_2 : decode b_M_fill 2 = .ok (.invokevirtual 152, 3) := by decide +kernel
theorem d_M_fill_5 : decode b_M_fill 5 = .ok (.ifCond .eq 13, 3) := by decide +kernel
theorem d_M_fill_8 : decode b_M_fill 8 = .ok (.iload_n 2, 1) := by decide +kernel
theorem d_M_fill_9 : decode b_M_fill 9 = .ok (.iconst 1, 1) := by decide +kernel
theorem d_M_fill_10 : decode b_M_fill 10 = .ok (.ldc 178, 2) := by decide +kernel
theorem d_M_fill_12 : decode b_M_fill 12 = .ok (.invokestatic 36, 3) := by decide +kernel
theorem d_M_fill_15 : decode b_M_fill 15 = .ok (.ifCond .ne 5, 3) := by decide +kernel
theorem d_M_fill_18 : decode b_M_fill 18 = .ok (.iconst (-1), 1) := by decide +kernel
theorem d_M_fill_19 : decode b_M_fill 19 = .ok (.ireturn, 1) := by decide +kernel
theorem d_M_fill_20 : decode b_M_fill 20 = .ok (.aload_n 0, 1) := by decide +kernel
theorem d_M_fill_21 : decode b_M_fill 21 = .ok (.getfield 179, 3) := by decide +kernel
theorem d_M_fill_24 : decode b_M_fill 24 = .ok (.iload_n 2, 1) := by decide +kernel
theorem d_M_fill_25 : decode b_M_fill 25 = .ok (.i2l, 1) := by decide +kernel
theorem d_M_fill_26 : decode b_M_fill 26 = .ok (.lcmp, 1) := by decide +kernel
theorem d_M_fill_27 : decode b_M_fill 27 = .ok (.ifCond .ge 6, 3) := by decide +kernel
theorem d_M_fill_30 : decode b_M_fill 30 = .ok (.bipush (-3), 2) := by decide +kernel
theorem d_M_fill_32 : decode b_M_fill 32 = .ok (.ireturn, 1) := by decide +kernel
theorem d_M_fill_33 : decode b_M_fill 33 = .ok (.aload_n 0, 1) := by decide +kernel
theorem d_M_fill_34 : decode b_M_fill 34 = .ok (.getfield 19, 3) := by decide +kernel
theorem d_M_fill_37 : decode b_M_fill 37 = .ok (.iload_n 1, 1) := by decide +kernel
theorem d_M_fill_38 : decode b_M_fill 38 = .ok (.iaload, 1) := by decide +kernel
theorem d_M_fill_39 : decode b_M_fill 39 = .ok (.iload_n 2, 1) := by decide +kernel
theorem d_M_fill_40 : decode b_M_fill 40 = .ok (.iadd, 1) := by decide +kernel
theorem d_M_fill_41 : decode b_M_fill 41 = .ok (.ldc 183, 2) := by decide +kernel
theorem d_M_fill_43 : decode b_M_fill 43 = .ok (.if_icmp .le 6, 3) := by decide +kernel
theorem d_M_fill_46 : decode b_M_fill 46 = .ok (.bipush (-2), 2) := by decide +kernel
theorem d_M_fill_48 : decode b_M_fill 48 = .ok (.ireturn, 1) := by decide +kernel
theorem d_M_fill_49 : decode b_M_fill 49 = .ok (.aload_n 0, 1) := by decide +kernel
theorem d_M_fill_50 : decode b_M_fill 50 = .ok (.dup, 1) := by decide +kernel
theorem d_M_fill_51 : decode b_M_fill 51 = .ok (.getfield 179, 3) := by decide +kernel
theorem d_M_fill_54 : decode b_M_fill 54 = .ok (.iload_n 2, 1) := by decide +kernel
theorem d_M_fill_55 : decode b_M_fill 55 = .ok (.i2l, 1) := by decide +kernel
theorem d_M_fill_56 : decode b_M_fill 56 = .ok (.lsub, 1) := by decide +kernel
theorem d_M_fill_57 : decode b_M_fill 57 = .ok (.putfield 179, 3) := by decide +kernel
theorem d_M_fill_60 : decode b_M_fill 60 = .ok (.aload_n 0, 1) := by decide +kernel
theorem d_M_fill_61 : decode b_M_fill 61 = .ok (.getfield 19, 3) := by decide +kernel
theorem d_M_fill_64 : decode b_M_fill 64 = .ok (.iload_n 1, 1) := by decide +kernel
theorem d_M_fill_65 : decode b_M_fill 65 = .ok (.dup2, 1) := by decide +kernel
theorem d_M_fill_66 : decode b_M_fill 66 = .ok (.iaload, 1) := by decide +kernel
theorem d_M_fill_67 : decode b_M_fill 67 = .ok (.iload_n 2, 1) := by decide +kernel
theorem d_M_fill_68 : decode b_M_fill 68 = .ok (.iadd, 1) := by decide +kernel
theorem d_M_fill_69 : decode b_M_fill 69 = .ok (.iastore, 1) := by decide +kernel
theorem d_M_fill_70 : decode b_M_fill 70 = .ok (.aload_n 0, 1) := by decide +kernel
theorem d_M_fill_71 : decode b_M_fill 71 = .ok (.getfield 19, 3) := by decide +kernel
theorem d_M_fill_74 : decode b_M_fill 74 = .ok (.iload_n 1, 1) := by decide +kernel
theorem d_M_fill_75 : decode b_M_fill 75 = .ok (.iaload, 1) := by decide +kernel
theorem d_M_fill_76 : decode b_M_fill 76 = .ok (.ireturn, 1) := by decide +kernel
theorem cy_M_fill : zY y_M_fill b_M_fill 3 (some (FieldType.int)) 2 := ⟨kw_824, kw_3, by decide +kernel, by decide +kernel⟩
theorem d_M_light_0 : decode b_M_light 0 = .ok (.aload_n 0, 1) := by decide +kernel
theorem d_M_light_1 : decode b_M_light 1 = .ok (.iload_n 1, 1) := by decide +kernel
theorem d_M_light_2 : decode b_M_light 2 = .ok (.invokevirtual 152, 3) := by decide +kernel
theorem d_M_light_5 : decode b_M_light 5 = .ok (.ifCond .ne 5, 3) := by decide +kernel
theorem d_M_light_8 : decode b_M_light 8 = .ok (.iconst (-1), 1) := by decide +kernel
theorem d_M_light_9 : decode b_M_light 9 = .ok (.ireturn, 1) := by decide +kernel
theorem d_M_light_10 : decode b_M_light 10 = .ok (.aload_n 0, 1) := by decide +kernel
theorem d_M_light_11 : decode b_M_light 11 = .ok (.getfield 25, 3) := by decide +kernel
theorem d_M_light_14 : decode b_M_light 14 = .ok (.iload_n 1, 1) := by decide +kernel
theorem d_M_light_15 : decode b_M_light 15 = .ok (.baload, 1) := by decide +kernel
theorem d_M_light_16 : decode b_M_light 16 = .ok (.iload_n 2, 1) := by decide +kernel
theorem d_M_light_17 : decode b_M_light 17 = .ok (.if_icmp .ne 5, 3) := by decide +kernel
theorem d_M_light_20 : decode b_M_light 20 = .ok (.iconst 0, 1) := by decide +kernel
theorem d_M_light_21 : decode b_M_light 21 = .ok (.ireturn, 1) := by decide +kernel
theorem d_M_light_22 : decode b_M_light 22 = .ok (.iload_n 2, 1) := by decide +kernel
theorem d_M_light_23 : decode b_M_light 23 = .ok (.ifCond .eq 15, 3) := by decide +kernel
theorem d_M_light_26 : decode b_M_light 26 = .ok (.aload_n 0, 1) := by decide +kernel
theorem d_M_light_27 : decode b_M_light 27 = .ok (.getfield 19, 3) := by decide +kernel
theorem d_M_light_30 : decode b_M_light 30 = .ok (.iload_n 1, 1) := by decide +kernel
theorem d_M_light_31 : decode b_M_light 31 = .ok (.iaload, 1) := by decide +kernel
theorem d_M_light_32 : decode b_M_light 32 = .ok (.ifCond .ne 6, 3) := by decide +kernel
theorem d_M_light_35 : decode b_M_light 35 = .ok (.bipush (-3), 2) := by decide +kernel
theorem d_M_light_37 : decode b_M_light 37 = .ok (.ireturn, 1) := by decide +kernel
theorem d_M_light_38 : decode b_M_light 38 = .ok (.aload_n 0, 1) := by decide +kernel
theorem d_M_light_39 : decode b_M_light 39 = .ok (.getfield 25, 3) := by decide +kernel
theorem d_M_light_42 : decode b_M_light 42 = .ok (.iload_n 1, 1) := by decide +kernel
theorem d_M_light_43 : decode b_M_light 43 = .ok (.iload_n 2, 1) := by decide +kernel
theorem d_M_light_44 : decode b_M_light 44 = .ok (.bastore, 1) := by decide +kernel
theorem d_M_light_45 : decode b_M_light 45 = .ok (.iconst 1, 1) := by decide +kernel
theorem d_M_light_46 : decode b_M_light 46 = .ok (.ireturn, 1) := by decide +kernel
theorem cy_M_light : zY y_M_light b_M_light 3 (some (FieldType.int)) 2 := ⟨kw_829, kw_3, by decide +kernel, by decide +kernel⟩
theorem d_M_isAnyLit_0 : decode b_M_isAnyLit 0 = .ok (.iconst 0, 1) := by decide +kernel
theorem d_M_isAnyLit_1 : decode b_M_isAnyLit 1 = .ok (.istore_n 1, 1) := by decide +kernel
theorem d_M_isAnyLit_2 : decode b_M_isAnyLit 2 = .ok (.iconst 0, 1) := by decide +kernel
theorem d_M_isAnyLit_3 : decode b_M_isAnyLit 3 = .ok (.istore_n 2, 1) := by decide +kernel
theorem d_M_isAnyLit_4 : decode b_M_isAnyLit 4 = .ok (.iload_n 2, 1) := by decide +kernel
theorem d_M_isAnyLit_5 : decode b_M_isAnyLit 5 = .ok (.aload_n 0, 1) := by decide +kernel
theorem d_M_isAnyLit_6 : decode b_M_isAnyLit 6 = .ok (.getfield 32, 3) := by decide +kernel
theorem d_M_isAnyLit_9 : decode b_M_isAnyLit 9 = .ok (.if_icmp .ge 28, 3) := by decide +kernel
theorem d_M_isAnyLit_12 : decode b_M_isAnyLit 12 = .ok (.iload_n 1, 1) := by decide +kernel
theorem d_M_isAnyLit_13 : decode b_M_isAnyLit 13 = .ok (.ifCond .ne 12, 3) := by decide +kernel
theorem d_M_isAnyLit_16 : decode b_M_isAnyLit 16 = .ok (.aload_n 0, 1) := by decide +kernel
theorem d_M_isAnyLit_17 : decode b_M_isAnyLit 17 = .ok (.getfield 25, 3) := by decide +kernel
theorem d_M_isAnyLit_20 : decode b_M_isAnyLit 20 = .ok (.iload_n 2, 1) := by decide +kernel
theorem d_M_isAnyLit_21 : decode b_M_isAnyLit 21 = .ok (.baload, 1) := by decide +kernel
theorem d_M_isAnyLit_22 : decode b_M_isAnyLit 22 = .ok (.ifCond .eq 7, 3) := by decide +kernel
theorem d_M_isAnyLit_25 : decode b_M_isAnyLit 25 = .ok (.iconst 1, 1) := by decide +kernel
theorem d_M_isAnyLit_26 : decode b_M_isAnyLit 26 = .ok (.goto 4, 3) := by decide +kernel
theorem d_M_isAnyLit_29 : decode b_M_isAnyLit 29 = .ok (.iconst 0, 1) := by decide +kernel
theorem d_M_isAnyLit_30 : decode b_M_isAnyLit 30 = .ok (.istore_n 1, 1) := by decide +kernel
theorem d_M_isAnyLit_31 : decode b_M_isAnyLit 31 = .ok (.iinc 2 1, 3) := by decide +kernel
theorem d_M_isAnyLit_34 : decode b_M_isAnyLit 34 = .ok (.goto (-30), 3) := by decide +kernel
theorem d_M_isAnyLit_37 : decode b_M_isAnyLit 37 = .ok (.iload_n 1, 1) := by decide +kernel
theorem d_M_isAnyLit_38 : decode b_M_isAnyLit 38 = .ok (.ireturn, 1) := by decide +kernel
theorem cy_M_isAnyLit : zY y_M_isAnyLit b_M_isAnyLit 3 (some (FieldType.boolean)) 0 := ⟨kw_837, kw_3, by decide +kernel, by decide +kernel⟩
theorem d_M_night_0 : decode b_M_night 0 = .ok (.iload_n 1, 1) := by decide +kernel
theorem d_M_night_1 : decode b_M_night 1 = .ok (.iconst 1, 1) := by decide +kernel
theorem d_M_night_2 : decode b_M_night 2 = .ok (.bipush 14, 2) := by decide +kernel
theorem d_M_night_4 : decode b_M_night 4 = .ok (.invokestatic 36, 3) := by decide +kernel
theorem d_M_night_7 : decode b_M_night 7 = .ok (.ifCond .ne 5, 3) := by decide +kernel
theorem d_M_night_10 : decode b_M_night 10 = .ok (.iconst (-1), 1) := by decide +kernel
theorem d_M_night_11 : decode b_M_night 11 = .ok (.ireturn, 1) := by decide +kernel
theorem d_M_night_12 : decode b_M_night 12 = .ok (.aload_n 0, 1) := by decide +kernel
theorem d_M_night_13 : decode b_M_night 13 = .ok (.dup, 1) := by decide +kernel
theorem d_M_night_14 : decode b_M_night 14 = .ok (.getfield 184, 3) := by decide +kernel
theorem d_M_night_17 : decode b_M_night 17 = .ok (.iconst 1, 1) := by decide +kernel
theorem d_M_night_18 : decode b_M_night 18 = .ok (.iadd, 1) := by decide +kernel
theorem d_M_night_19 : decode b_M_night 19 = .ok (.putfield 184, 3) := by decide +kernel
theorem d_M_night_22 : decode b_M_night 22 = .ok (.aload_n 0, 1) := by decide +kernel
theorem d_M_night_23 : decode b_M_night 23 = .ok (.invokevirtual 187, 3) := by decide +kernel
theorem d_M_night_26 : decode b_M_night 26 = .ok (.ifCond .ne 5, 3) := by decide +kernel
theorem d_M_night_29 : decode b_M_night 29 = .ok (.iconst 0, 1) := by decide +kernel
theorem d_M_night_30 : decode b_M_night 30 = .ok (.ireturn, 1) := by decide +kernel
theorem d_M_night_31 : decode b_M_night 31 = .ok (.aload_n 0, 1) := by decide +kernel
theorem d_M_night_32 : decode b_M_night 32 = .ok (.invokevirtual 158, 3) := by decide +kernel
theorem d_M_night_35 : decode b_M_night 35 = .ok (.iconst 0, 1) := by decide +kernel
theorem d_M_night_36 : decode b_M_night 36 = .ok (.istore_n 2, 1) := by decide +kernel
theorem d_M_night_37 : decode b_M_night 37 = .ok (.iconst 0, 1) := by decide +kernel
theorem d_M_night_38 : decode b_M_night 38 = .ok (.istore_n 3, 1) := by decide +kernel
theorem d_M_night_39 : decode b_M_night 39 = .ok (.iload_n 3, 1) := by decide +kernel
theorem d_M_night_40 : decode b_M_night 40 = .ok (.aload_n 0, 1) := by decide +kernel
theorem d_M_night_41 : decode b_M_night 41 = .ok (.getfield 32, 3) := by decide +kernel
theorem d_M_night_44 : decode b_M_night 44 = .ok (.if_icmp .ge 81, 3) := by decide +kernel
theorem d_M_night_47 : decode b_M_night 47 = .ok (.aload_n 0, 1) := by decide +kernel
theorem d_M_night_48 : decode b_M_night 48 = .ok (.getfield 25, 3) := by decide +kernel
theorem d_M_night_51 : decode b_M_night 51 = .ok (.iload_n 3, 1) := by decide +kernel
theorem d_M_night_52 : decode b_M_night 52 = .ok (.baload, 1) := by decide +kernel
theorem d_M_night_53 : decode b_M_night 53 = .ok (.ifCond .eq 66, 3) := by decide +kernel
theorem d_M_night_56 : decode b_M_night 56 = .ok (.aload_n 0, 1) := by decide +kernel
theorem d_M_night_57 : decode b_M_night 57 = .ok (.iload_n 3, 1) := by decide +kernel
theorem d_M_night_58 : decode b_M_night 58 = .ok (.iload_n 1, 1) := by decide +kernel
theorem d_M_night_59 : decode b_M_night 59 = .ok (.invokevirtual 166, 3) := by decide +kernel
theorem d_M_night_62 : decode b_M_night 62 = .ok (.istore 4, 2) := by decide +kernel
theorem d_M_night_64 : decode b_M_night 64 = .ok (.iload 4, 2) := by decide +kernel
theorem d_M_night_66 : decode b_M_night 66 = .ok (.ifCond .ge 7, 3) := by decide +kernel
theorem d_M_night_69 : decode b_M_night 69 = .ok (.iconst 0, 1) := by decide +kernel
theorem d_M_night_70 : decode b_M_night 70 = .ok (.goto 5, 3) := by decide +kernel
theorem d_M_night_73 : decode b_M_night 73 = .ok (.iload 4, 2) := by decide +kernel
theorem d_M_night_75 : decode b_M_night 75 = .ok (.istore 4, 2) := by decide +kernel
theorem d_M_night_77 : decode b_M_night 77 = .ok (.aload_n 0, 1) := by decide +kernel
theorem d_M_night_78 : decode b_M_night 78 = .ok (.getfield 19, 3) := by decide +kernel
theorem d_M_night_81 : decode b_M_night 81 = .ok (.iload_n 3, 1) := by decide +kernel
theorem d_M_night_82 : decode b_M_night 82 = .ok (.iaload, 1) := by decide +kernel
theorem d_M_night_83 : decode b_M_night 83 = .ok (.iload 4, 2) := by decide +kernel
theorem d_M_night_85 : decode b_M_night 85 = .ok (.if_icmp .gt 23, 3) := by decide +kernel
theorem d_M_night_88 : decode b_M_night 88 = .ok (.aload_n 0, 1) := by decide +kernel
theorem d_M_night_89 : decode b_M_night 89 = .ok (.getfield 19, 3) := by decide +kernel
theorem d_M_night_92 : decode b_M_night 92 = .ok (.iload_n 3, 1) := by decide +kernel
theorem d_M_night_93 : decode b_M_night 93 = .ok (.iconst 0, 1) := by decide +kernel
theorem d_M_night_94 : decode b_M_night 94 = .ok (.iastore, 1) := by decide +kernel
theorem d_M_night_95 : decode b_M_night 95 = .ok (.aload_n 0, 1) := by decide +kernel
theorem d_M_night_96 : decode b_M_night 96 = .ok (.getfield 25, 3) := by decide +kernel
theorem d_M_night_99 : decode b_M_night 99 = .ok (.iload_n 3, 1) := by decide +kernel
theorem d_M_night_100 : decode b_M_night 100 = .ok (.iconst 0, 1) := by decide +kernel
theorem d_M_night_101 : decode b_M_night 101 = .ok (.bastore, 1) := by decide +kernel
theorem d_M_night_102 : decode b_M_night 102 = .ok (.iinc 2 1, 3) := by decide +kernel
theorem d_M_night_105 : decode b_M_night 105 = .ok (.goto 14, 3) := by decide +kernel
theorem d_M_night_108 : decode b_M_night 108 = .ok (.aload_n 0, 1) := by decide +kernel
theorem d_M_night_109 : decode b_M_night 109 = .ok (.getfield 19, 3) := by decide +kernel
theorem d_M_night_112 : decode b_M_night 112 = .ok (.iload_n 3, 1) := by decide +kernel
theorem d_M_night_113 : decode b_M_night 113 = .ok (.dup2, 1) := by decide +kernel
theorem d_M_night_114 : decode b_M_night 114 = .ok (.iaload, 1) := by decide +kernel
theorem d_M_night_115 : decode b_M_night 115 = .ok (.iload 4, 2) := by decide +kernel
theorem d_M_night_117 : decode b_M_night 117 = .ok (.isub, 1) := by decide +kernel
theorem d_M_night_118 : decode b_M_night 118 = .ok (.iastore, 1) := by decide +kernel
theorem d_M_night_119 : decode b_M_night 119 = .ok (.iinc 3 1, 3) := by decide +kernel
theorem d_M_night_122 : decode b_M_night 122 = .ok (.goto (-83), 3) := by decide +kernel
theorem d_M_night_125 : decode b_M_night 125 = .ok (.iload_n 2, 1) := by decide +kernel
theorem d_M_night_126 : decode b_M_night 126 = .ok (.ireturn, 1) := by decide +kernel
theorem cy_M_night : zY y_M_night b_M_night 5 (some (FieldType.int)) 1 := ⟨kw_833, kw_3, by decide +kernel, by decide +kernel⟩
theorem d_M_seen_0 : decode b_M_seen 0 = .ok (.iload_n 1, 1) := by decide +kernel
theorem d_M_seen_1 : decode b_M_seen 1 = .ok (.iconst 0, 1) := by decide +kernel
theorem d_M_seen_2 : decode b_M_seen 2 = .ok (.bipush 9, 2) := by decide +kernel
theorem d_M_seen_4 : decode b_M_seen 4 = .ok (.invokestatic 36, 3) := by decide +kernel
theorem d_M_seen_7 : decode b_M_seen 7 = .ok (.ifCond .ne 5, 3) := by decide +kernel
theorem d_M_seen_10 : decode b_M_seen 10 = .ok (.iconst (-1), 1) := by decide +kernel
theorem d_M_seen_11 : decode b_M_seen 11 = .ok (.ireturn, 1) := by decide +kernel
theorem d_M_seen_12 : decode b_M_seen 12 = .ok (.aload_n 0, 1) := by decide +kernel
theorem d_M_seen_13 : decode b_M_seen 13 = .ok (.invokevirtual 187, 3) := by decide +kernel
theorem d_M_seen_16 : decode b_M_seen 16 = .ok (.ifCond .ne 6, 3) := by decide +kernel
theorem d_M_seen_19 : decode b_M_seen 19 = .ok (.bipush (-3), 2) := by decide +kernel
theorem d_M_seen_21 : decode b_M_seen 21 = .ok (.ireturn, 1) := by decide +kernel
theorem d_M_seen_22 : decode b_M_seen 22 = .ok (.aload_n 0, 1) := by decide +kernel
theorem d_M_seen_23 : decode b_M_seen 23 = .ok (.invokevirtual 158, 3) := by decide +kernel
theorem d_M_seen_26 : decode b_M_seen 26 = .ok (.iconst (-1), 1) := by decide +kernel
theorem d_M_seen_27 : decode b_M_seen 27 = .ok (.istore_n 2, 1) := by decide +kernel
theorem d_M_seen_28 : decode b_M_seen 28 = .ok (.iconst 0, 1) := by decide +kernel
theorem d_M_seen_29 : decode b_M_seen 29 = .ok (.istore_n 3, 1) := by decide +kernel
theorem d_M_seen_30 : decode b_M_seen 30 = .ok (.iconst 0, 1) := by decide +kernel
theorem d_M_seen_31 : decode b_M_seen 31 = .ok (.istore 4, 2) := by decide +kernel
theorem d_M_seen_33 : decode b_M_seen 33 = .ok (.iload 4, 2) := by decide +kernel
theorem d_M_seen_35 : decode b_M_seen 35 = .ok (.aload_n 0, 1) := by decide +kernel
theorem d_M_seen_36 : decode b_M_seen 36 = .ok (.getfield 32, 3) := by decide +kernel
theorem d_M_seen_39 : decode b_M_seen 39 = .ok (.if_icmp .ge 45, 3) := by decide +kernel
theorem d_M_seen_42 : decode b_M_seen 42 = .ok (.aload_n 0, 1) := by decide +kernel
theorem d_M_seen_43 : decode b_M_seen 43 = .ok (.getfield 25, 3) := by decide +kernel
theorem d_M_seen_46 : decode b_M_seen 46 = .ok (.iload 4, 2) := by decide +kernel
theorem d_M_seen_48 : decode b_M_seen 48 = .ok (.baload, 1) := by decide +kernel
theorem d_M_seen_49 : decode b_M_seen 49 = .ok (.ifCond .eq 29, 3) := by decide +kernel
theorem d_M_seen_52 : decode b_M_seen 52 = .ok (.aload_n 0, 1) := by decide +kernel
theorem d_M_seen_53 : decode b_M_seen 53 = .ok (.iload 4, 2) := by decide +kernel
theorem d_M_seen_55 : decode b_M_seen 55 = .ok (.iload_n 1, 1) := by decide +kernel
theorem d_M_seen_56 : decode b_M_seen 56 = .ok (.invokevirtual 149, 3) := by decide +kernel
theorem d_M_seen_59 : decode b_M_seen 59 = .ok (.istore 5, 2) := by decide +kernel
theorem d_M_seen_61 : decode b_M_seen 61 = .ok (.iload_n 2, 1) := by decide +kernel
theorem d_M_seen_62 : decode b_M_seen 62 = .ok (.iconst (-1), 1) := by decide +kernel
theorem d_M_seen_63 : decode b_M_seen 63 = .ok (.if_icmp .eq 9, 3) := by decide +kernel
theorem d_M_seen_66 : decode b_M_seen 66 = .ok (.iload 5, 2) := by decide +kernel
theorem d_M_seen_68 : decode b_M_seen 68 = .ok (.iload_n 3, 1) := by decide +kernel
theorem d_M_seen_69 : decode b_M_seen 69 = .ok (.if_icmp .le 9, 3) := by decide +kernel
theorem d_M_seen_72 : decode b_M_seen 72 = .ok (.iload 4, 2) := by decide +kernel
theorem d_M_seen_74 : decode b_M_seen 74 = .ok (.istore_n 2, 1) := by decide +kernel
theorem d_M_seen_75 : decode b_M_seen 75 = .ok (.iload 5, 2) := by decide +kernel
theorem d_M_seen_77 : decode b_M_seen 77 = .ok (.istore_n 3, 1) := by decide +kernel
theorem d_M_seen_78 : decode b_M_seen 78 = .ok (.iinc 4 1, 3) := by decide +kernel
theorem d_M_seen_81 : decode b_M_seen 81 = .ok (.goto (-48), 3) := by decide +kernel
theorem d_M_seen_84 : decode b_M_seen 84 = .ok (.iload_n 2, 1) := by decide +kernel
theorem d_M_seen_85 : decode b_M_seen 85 = .ok (.ireturn, 1) := by decide +kernel
theorem cy_M_seen : zY y_M_seen b_M_seen 6 (some (FieldType.int)) 1 := ⟨kw_841, kw_3, by decide +kernel, by decide +kernel⟩
theorem d_M_blow_0 : decode b_M_blow 0 = .ok (.aload_n 0, 1) := by decide +kernel
theorem d_M_blow_1 : decode b_M_blow 1 = .ok (.iload_n 1, 1) := by decide +kernel
theorem d_M_blow_2 : decode b_M_blow 2 = .ok (.invokevirtual 152, 3) := by decide +kernel
theorem d_M_blow_5 : decode b_M_blow 5 = .ok (.ifCond .ne 5, 3) := by decide +kernel
theorem d_M_blow_8 : decode b_M_blow 8 = .ok (.iconst (-1), 1) := by decide +kernel
theorem d_M_blow_9 : decode b_M_blow 9 = .ok (.ireturn, 1) := by decide +kernel
theorem d_M_blow_10 : decode b_M_blow 10 = .ok (.aload_n 0, 1) := by decide +kernel
theorem d_M_blow_11 : decode b_M_blow 11 = .ok (.invokevirtual 158, 3) := by decide +kernel
theorem d_M_blow_14 : decode b_M_blow 14 = .ok (.aload_n 0, 1) := by decide +kernel
theorem d_M_blow_15 : decode b_M_blow 15 = .ok (.iload_n 1, 1) := by decide +kernel
theorem d_M_blow_16 : decode b_M_blow 16 = .ok (.invokevirtual 161, 3) := by decide +kernel
theorem d_M_blow_19 : decode b_M_blow 19 = .ok (.ifCond .ne 6, 3) := by decide +kernel
theorem d_M_blow_22 : decode b_M_blow 22 = .ok (.bipush (-4), 2) := by decide +kernel
theorem d_M_blow_24 : decode b_M_blow 24 = .ok (.ireturn, 1) := by decide +kernel
theorem d_M_blow_25 : decode b_M_blow 25 = .ok (.aload_n 0, 1) := by decide +kernel
theorem d_M_blow_26 : decode b_M_blow 26 = .ok (.aload_n 0, 1) := by decide +kernel
theorem d_M_blow_27 : decode b_M_blow 27 = .ok (.iload_n 1, 1) := by decide +kernel
theorem d_M_blow_28 : decode b_M_blow 28 = .ok (.iload_n 2, 1) := by decide +kernel
theorem d_M_blow_29 : decode b_M_blow 29 = .ok (.invokevirtual 175, 3) := by decide +kernel
theorem d_M_blow_32 : decode b_M_blow 32 = .ok (.putfield 191, 3) := by decide +kernel
theorem d_M_blow_35 : decode b_M_blow 35 = .ok (.iconst 1, 1) := by decide +kernel
theorem d_M_blow_36 : decode b_M_blow 36 = .ok (.ireturn, 1) := by decide +kernel
theorem cy_M_blow : zY y_M_blow b_M_blow 3 (some (FieldType.int)) 2 := ⟨kw_845, kw_3, by decide +kernel, by decide +kernel⟩
theorem d_M_blown_0 : decode b_M_blown 0 = .ok (.aload_n 0, 1) := by decide +kernel
theorem d_M_blown_1 : decode b_M_blown 1 = .ok (.getfield 191, 3) := by decide +kernel
theorem d_M_blown_4 : decode b_M_blown 4 = .ok (.ireturn, 1) := by decide +kernel
theorem cy_M_blown : zY y_M_blown b_M_blown 1 (some (FieldType.int)) 0 := ⟨kw_849, kw_3, by decide +kernel, by decide +kernel⟩
theorem d_M_told_0 : decode b_M_told 0 = .ok (.aload_n 0, 1) := by decide +kernel
theorem d_M_told_1 : decode b_M_told 1 = .ok (.iload_n 1, 1) := by decide +kernel
theorem d_M_told_2 : decode b_M_told 2 = .ok (.invokevirtual 152, 3) := by decide +kernel
theorem d_M_told_5 : decode b_M_told 5 = .ok (.ifCond .ne 7, 3) := by decide +kernel
theorem d_M_told_8 : decode b_M_told 8 = .ok (.ldc2_w 156, 3) := by decide +kernel
theorem d_M_told_11 : decode b_M_told 11 = .ok (.lreturn, 1) := by decide +kernel
theorem d_M_told_12 : decode b_M_told 12 = .ok (.iload_n 2, 1) := by decide +kernel
theorem d_M_told_13 : decode b_M_told 13 = .ok (.tableswitch 100 0 5 #[39, 47, 55, 63, 71, 86], 39) := by decide +kernel
theorem d_M_told_52 : decode b_M_told 52 = .ok (.aload_n 0, 1) := by decide +kernel
theorem d_M_told_53 : decode b_M_told 53 = .ok (.getfield 13, 3) := by decide +kernel
theorem d_M_told_56 : decode b_M_told 56 = .ok (.iload_n 1, 1) := by decide +kernel
theorem d_M_told_57 : decode b_M_told 57 = .ok (.iaload, 1) := by decide +kernel
theorem d_M_told_58 : decode b_M_told 58 = .ok (.i2l, 1) := by decide +kernel
theorem d_M_told_59 : decode b_M_told 59 = .ok (.lreturn, 1) := by decide +kernel
theorem d_M_told_60 : decode b_M_told 60 = .ok (.aload_n 0, 1) := by decide +kernel
theorem d_M_told_61 : decode b_M_told 61 = .ok (.getfield 16, 3) := by decide +kernel
theorem d_M_told_64 : decode b_M_told 64 = .ok (.iload_n 1, 1) := by decide +kernel
theorem d_M_told_65 : decode b_M_told 65 = .ok (.iaload, 1) := by decide +kernel
theorem d_M_told_66 : decode b_M_told 66 = .ok (.i2l, 1) := by decide +kernel
theorem d_M_told_67 : decode b_M_told 67 = .ok (.lreturn, 1) := by decide +kernel
theorem d_M_told_68 : decode b_M_told 68 = .ok (.aload_n 0, 1) := by decide +kernel
theorem d_M_told_69 : decode b_M_told 69 = .ok (.getfield 19, 3) := by decide +kernel
theorem d_M_told_72 : decode b_M_told 72 = .ok (.iload_n 1, 1) := by decide +kernel
theorem d_M_told_73 : decode b_M_told 73 = .ok (.iaload, 1) := by decide +kernel
theorem d_M_told_74 : decode b_M_told 74 = .ok (.i2l, 1) := by decide +kernel
theorem d_M_told_75 : decode b_M_told 75 = .ok (.lreturn, 1) := by decide +kernel
theorem d_M_told_76 : decode b_M_told 76 = .ok (.aload_n 0, 1) := by decide +kernel
theorem d_M_told_77 : decode b_M_told 77 = .ok (.getfield 22, 3) := by decide +kernel
theorem d_M_told_80 : decode b_M_told 80 = .ok (.iload_n 1, 1) := by decide +kernel
theorem d_M_told_81 : decode b_M_told 81 = .ok (.iaload, 1) := by decide +kernel
theorem d_M_told_82 : decode b_M_told 82 = .ok (.i2l, 1) := by decide +kernel
theorem d_M_told_83 : decode b_M_told 83 = .ok (.lreturn, 1) := by decide +kernel
theorem d_M_told_84 : decode b_M_told 84 = .ok (.aload_n 0, 1) := by decide +kernel
theorem d_M_told_85 : decode b_M_told 85 = .ok (.getfield 25, 3) := by decide +kernel
theorem d_M_told_88 : decode b_M_told 88 = .ok (.iload_n 1, 1) := by decide +kernel
theorem d_M_told_89 : decode b_M_told 89 = .ok (.baload, 1) := by decide +kernel
theorem d_M_told_90 : decode b_M_told 90 = .ok (.ifCond .eq 7, 3) := by decide +kernel
theorem d_M_told_93 : decode b_M_told 93 = .ok (.lconst 1, 1) := by decide +kernel
theorem d_M_told_94 : decode b_M_told 94 = .ok (.goto 4, 3) := by decide +kernel
theorem d_M_told_97 : decode b_M_told 97 = .ok (.lconst 0, 1) := by decide +kernel
theorem d_M_told_98 : decode b_M_told 98 = .ok (.lreturn, 1) := by decide +kernel
theorem d_M_told_99 : decode b_M_told 99 = .ok (.aload_n 0, 1) := by decide +kernel
theorem d_M_told_100 : decode b_M_told 100 = .ok (.iload_n 1, 1) := by decide +kernel
theorem d_M_told_101 : decode b_M_told 101 = .ok (.invokevirtual 161, 3) := by decide +kernel
theorem d_M_told_104 : decode b_M_told 104 = .ok (.ifCond .eq 7, 3) := by decide +kernel
theorem d_M_told_107 : decode b_M_told 107 = .ok (.lconst 1, 1) := by decide +kernel
theorem d_M_told_108 : decode b_M_told 108 = .ok (.goto 4, 3) := by decide +kernel
theorem d_M_told_111 : decode b_M_told 111 = .ok (.lconst 0, 1) := by decide +kernel
theorem d_M_told_112 : decode b_M_told 112 = .ok (.lreturn, 1) := by decide +kernel
theorem d_M_told_113 : decode b_M_told 113 = .ok (.ldc2_w 156, 3) := by decide +kernel
theorem d_M_told_116 : decode b_M_told 116 = .ok (.lreturn, 1) := by decide +kernel
theorem cy_M_told : zY y_M_told b_M_told 3 (some (FieldType.long)) 2 := ⟨kw_853, kw_3, by decide +kernel, by decide +kernel⟩
theorem d_M_count_0 : decode b_M_count 0 = .ok (.iload_n 1, 1) := by decide +kernel
theorem d_M_count_1 : decode b_M_count 1 = .ok (.ifCond .ne 10, 3) := by decide +kernel
theorem d_M_count_4 : decode b_M_count 4 = .ok (.aload_n 0, 1) := by decide +kernel
theorem d_M_count_5 : decode b_M_count 5 = .ok (.getfield 32, 3) := by decide +kernel
theorem d_M_count_8 : decode b_M_count 8 = .ok (.goto 40, 3) := by decide +kernel
theorem d_M_count_11 : decode b_M_count 11 = .ok (.iload_n 1, 1) := by decide +kernel
theorem d_M_count_12 : decode b_M_count 12 = .ok (.iconst 1, 1) := by decide +kernel
theorem d_M_count_13 : decode b_M_count 13 = .ok (.if_icmp .ne 10, 3) := by decide +kernel
theorem d_M_count_16 : decode b_M_count 16 = .ok (.aload_n 0, 1) := by decide +kernel
theorem d_M_count_17 : decode b_M_count 17 = .ok (.getfield 184, 3) := by decide +kernel
theorem d_M_count_20 : decode b_M_count 20 = .ok (.goto 28, 3) := by decide +kernel
theorem d_M_count_23 : decode b_M_count 23 = .ok (.iload_n 1, 1) := by decide +kernel
theorem d_M_count_24 : decode b_M_count 24 = .ok (.iconst 2, 1) := by decide +kernel
theorem d_M_count_25 : decode b_M_count 25 = .ok (.if_icmp .ne 10, 3) := by decide +kernel
theorem d_M_count_28 : decode b_M_count 28 = .ok (.aload_n 0, 1) := by decide +kernel
theorem d_M_count_29 : decode b_M_count 29 = .ok (.getfield 40, 3) := by decide +kernel
theorem d_M_count_32 : decode b_M_count 32 = .ok (.goto 16, 3) := by decide +kernel
theorem d_M_count_35 : decode b_M_count 35 = .ok (.iload_n 1, 1) := by decide +kernel
theorem d_M_count_36 : decode b_M_count 36 = .ok (.iconst 3, 1) := by decide +kernel
theorem d_M_count_37 : decode b_M_count 37 = .ok (.if_icmp .ne 10, 3) := by decide +kernel
theorem d_M_count_40 : decode b_M_count 40 = .ok (.aload_n 0, 1) := by decide +kernel
theorem d_M_count_41 : decode b_M_count 41 = .ok (.getfield 43, 3) := by decide +kernel
theorem d_M_count_44 : decode b_M_count 44 = .ok (.goto 4, 3) := by decide +kernel
theorem d_M_count_47 : decode b_M_count 47 = .ok (.iconst (-1), 1) := by decide +kernel
theorem d_M_count_48 : decode b_M_count 48 = .ok (.ireturn, 1) := by decide +kernel
theorem cy_M_count : zY y_M_count b_M_count 2 (some (FieldType.int)) 1 := ⟨kw_857, kw_3, by decide +kernel, by decide +kernel⟩
theorem d_M_store_0 : decode b_M_store 0 = .ok (.aload_n 0, 1) := by decide +kernel
theorem d_M_store_1 : decode b_M_store 1 = .ok (.getfield 179, 3) := by decide +kernel
theorem d_M_store_4 : decode b_M_store 4 = .ok (.lreturn, 1) := by decide +kernel
theorem cy_M_store : zY y_M_store b_M_store 1 (some (FieldType.long)) 0 := ⟨kw_861, kw_3, by decide +kernel, by decide +kernel⟩
