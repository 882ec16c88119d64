theorem d_Buoy_init_0 : decode b_Buoy_init 0 = .ok (.aload_n 0, 1) := by decide +kernel
theorem d_Buoy_init_1 : decode b_Buoy_init 1 = .ok (.aload_n 1, 1) := by decide +kernel
theorem d_Buoy_init_2 : decode b_Buoy_init 2 = .ok (.iload_n 2, 1) := by decide +kernel
theorem d_Buoy_init_3 : decode b_Buoy_init 3 = .ok (.iload_n 3, 1) := by decide +kernel
theorem d_Buoy_init_4 : decode b_Buoy_init 4 = .ok (.invokespecial 3, 3) := by decide +kernel
theorem d_Buoy_init_7 : decode b_Buoy_init 7 = .ok (.return_, 1) := by decide +kernel
theorem cy_Buoy_init : zY y_Buoy_init b_Buoy_init 4 none 3 := ⟨kw_229, kw_12, by decide +kernel, by decide +kernel⟩
theorem d_Buoy_reach_0 : decode b_Buoy_reach 0 = .ok (.aload_n 0, 1) := by decide +kernel
theorem d_Buoy_reach_1 : decode b_Buoy_reach 1 = .ok (.getfield 9, 3) := by decide +kernel
theorem d_Buoy_reach_4 : decode b_Buoy_reach 4 = .ok (.bipush 8, 2) := by decide +kernel
theorem d_Buoy_reach_6 : decode b_Buoy_reach 6 = .ok (.iconst 1, 1) := by decide +kernel
theorem d_Buoy_reach_7 : decode b_Buoy_reach 7 = .ok (.invokevirtual 15, 3) := by decide +kernel
theorem d_Buoy_reach_10 : decode b_Buoy_reach 10 = .ok (.aload_n 0, 1) := by decide +kernel
theorem d_Buoy_reach_11 : decode b_Buoy_reach 11 = .ok (.iload_n 1, 1) := by decide +kernel
theorem d_Buoy_reach_12 : decode b_Buoy_reach 12 = .ok (.invokespecial 21, 3) := by decide +kernel
theorem d_Buoy_reach_15 : decode b_Buoy_reach 15 = .ok (.iconst 2, 1) := by decide +kernel
theorem d_Buoy_reach_16 : decode b_Buoy_reach 16 = .ok (.idiv, 1) := by decide +kernel
theorem d_Buoy_reach_17 : decode b_Buoy_reach 17 = .ok (.ireturn, 1) := by decide +kernel
theorem cy_Buoy_reach : zY y_Buoy_reach b_Buoy_reach 2 (some (FieldType.int)) 1 := ⟨kw_341, kw_12, by decide +kernel, by decide +kernel⟩
theorem d_Buoy_tend_0 : decode b_Buoy_tend 0 = .ok (.aload_n 0, 1) := by decide +kernel
theorem d_Buoy_tend_1 : decode b_Buoy_tend 1 = .ok (.getfield 9, 3) := by decide +kernel
theorem d_Buoy_tend_4 : decode b_Buoy_tend 4 = .ok (.bipush 8, 2) := by decide +kernel
theorem d_Buoy_tend_6 : decode b_Buoy_tend 6 = .ok (.iconst 3, 1) := by decide +kernel
theorem d_Buoy_tend_7 : decode b_Buoy_tend 7 = .ok (.invokevirtual 15, 3) := by decide +kernel
theorem d_Buoy_tend_10 : decode b_Buoy_tend 10 = .ok (.aload_n 0, 1) := by decide +kernel
theorem d_Buoy_tend_11 : decode b_Buoy_tend 11 = .ok (.getfield 9, 3) := by decide +kernel
theorem d_Buoy_tend_14 : decode b_Buoy_tend 14 = .ok (.iconst 4, 1) := by decide +kernel
theorem d_Buoy_tend_15 : decode b_Buoy_tend 15 = .ok (.invokevirtual 25, 3) := by decide +kernel
theorem d_Buoy_tend_18 : decode b_Buoy_tend 18 = .ok (.istore_n 2, 1) := by decide +kernel
theorem d_Buoy_tend_19 : decode b_Buoy_tend 19 = .ok (.iload_n 2, 1) := by decide +kernel
theorem d_Buoy_tend_20 : decode b_Buoy_tend 20 = .ok (.ifCond .ne 11, 3) := by decide +kernel
theorem d_Buoy_tend_23 : decode b_Buoy_tend 23 = .ok (.aload_n 0, 1) := by decide +kernel
theorem d_Buoy_tend_24 : decode b_Buoy_tend 24 = .ok (.iload_n 1, 1) := by decide +kernel
theorem d_Buoy_tend_25 : decode b_Buoy_tend 25 = .ok (.invokespecial 28, 3) := by decide +kernel
theorem d_Buoy_tend_28 : decode b_Buoy_tend 28 = .ok (.goto 4, 3) := by decide +kernel
theorem d_Buoy_tend_31 : decode b_Buoy_tend 31 = .ok (.iload_n 2, 1) := by decide +kernel
theorem d_Buoy_tend_32 : decode b_Buoy_tend 32 = .ok (.ireturn, 1) := by decide +kernel
theorem cy_Buoy_tend : zY y_Buoy_tend b_Buoy_tend 3 (some (FieldType.int)) 1 := ⟨kw_411, kw_12, by decide +kernel, by decide +kernel⟩
theorem d_Coast_init_0 : decode b_Coast_init 0 = .ok (.aload_n 0, 1) := by decide +kernel
theorem d_Coast_init_1 : decode b_Coast_init 1 = .ok (.invokespecial 3, 3) := by decide +kernel
theorem d_Coast_init_4 : decode b_Coast_init 4 = .ok (.aload_n 0, 1) := by decide +kernel
theorem d_Coast_init_5 : decode b_Coast_init 5 = .ok (.bipush 8, 2) := by decide +kernel
theorem d_Coast_init_7 : decode b_Coast_init 7 = .ok (.newarray .int, 2) := by decide +kernel
theorem d_Coast_init_9 : decode b_Coast_init 9 = .ok (.putfield 9, 3) := by decide +kernel
theorem d_Coast_init_12 : decode b_Coast_init 12 = .ok (.aload_n 0, 1) := by decide +kernel
theorem d_Coast_init_13 : decode b_Coast_init 13 = .ok (.sipush 1000, 3) := by decide +kernel
theorem d_Coast_init_16 : decode b_Coast_init 16 = .ok (.newarray .int, 2) := by decide +kernel
theorem d_Coast_init_18 : decode b_Coast_init 18 = .ok (.putfield 15, 3) := by decide +kernel
theorem d_Coast_init_21 : decode b_Coast_init 21 = .ok (.return_, 1) := by decide +kernel
theorem cy_Coast_init : zY y_Coast_init b_Coast_init 1 none 0 := ⟨kw_27, kw_2, by decide +kernel, by decide +kernel⟩
theorem d_Coast_dialed_0 : decode b_Coast_dialed 0 = .ok (.iload_n 1, 1) := by decide +kernel
theorem d_Coast_dialed_1 : decode b_Coast_dialed 1 = .ok (.ifCond .lt 21, 3) := by decide +kernel
theorem d_Coast_dialed_4 : decode b_Coast_dialed 4 = .ok (.iload_n 1, 1) := by decide +kernel
theorem d_Coast_dialed_5 : decode b_Coast_dialed 5 = .ok (.aload_n 0, 1) := by decide +kernel
theorem d_Coast_dialed_6 : decode b_Coast_dialed 6 = .ok (.getfield 9, 3) := by decide +kernel
theorem d_Coast_dialed_9 : decode b_Coast_dialed 9 = .ok (.arraylength, 1) := by decide +kernel
theorem d_Coast_dialed_10 : decode b_Coast_dialed 10 = .ok (.if_icmp .ge 12, 3) := by decide +kernel
theorem d_Coast_dialed_13 : decode b_Coast_dialed 13 = .ok (.aload_n 0, 1) := by decide +kernel
theorem d_Coast_dialed_14 : decode b_Coast_dialed 14 = .ok (.getfield 9, 3) := by decide +kernel
theorem d_Coast_dialed_17 : decode b_Coast_dialed 17 = .ok (.iload_n 1, 1) := by decide +kernel
theorem d_Coast_dialed_18 : decode b_Coast_dialed 18 = .ok (.iaload, 1) := by decide +kernel
theorem d_Coast_dialed_19 : decode b_Coast_dialed 19 = .ok (.goto 4, 3) := by decide +kernel
theorem d_Coast_dialed_22 : decode b_Coast_dialed 22 = .ok (.iconst 0, 1) := by decide +kernel
theorem d_Coast_dialed_23 : decode b_Coast_dialed 23 = .ok (.ireturn, 1) := by decide +kernel
theorem cy_Coast_dialed : zY y_Coast_dialed b_Coast_dialed 2 (some (FieldType.int)) 1 := ⟨kw_75, kw_2, by decide +kernel, by decide +kernel⟩
theorem d_Coast_turn_0 : decode b_Coast_turn 0 = .ok (.iload_n 1, 1) := by decide +kernel
theorem d_Coast_turn_1 : decode b_Coast_turn 1 = .ok (.ifCond .lt 19, 3) := by decide +kernel
theorem d_Coast_turn_4 : decode b_Coast_turn 4 = .ok (.iload_n 1, 1) := by decide +kernel
theorem d_Coast_turn_5 : decode b_Coast_turn 5 = .ok (.aload_n 0, 1) := by decide +kernel
theorem d_Coast_turn_6 : decode b_Coast_turn 6 = .ok (.getfield 9, 3) := by decide +kernel
theorem d_Coast_turn_9 : decode b_Coast_turn 9 = .ok (.arraylength, 1) := by decide +kernel
theorem d_Coast_turn_10 : decode b_Coast_turn 10 = .ok (.if_icmp .ge 10, 3) := by decide +kernel
theorem d_Coast_turn_13 : decode b_Coast_turn 13 = .ok (.aload_n 0, 1) := by decide +kernel
theorem d_Coast_turn_14 : decode b_Coast_turn 14 = .ok (.getfield 9, 3) := by decide +kernel
theorem d_Coast_turn_17 : decode b_Coast_turn 17 = .ok (.iload_n 1, 1) := by decide +kernel
theorem d_Coast_turn_18 : decode b_Coast_turn 18 = .ok (.iload_n 2, 1) := by decide +kernel
theorem d_Coast_turn_19 : decode b_Coast_turn 19 = .ok (.iastore, 1) := by decide +kernel
theorem d_Coast_turn_20 : decode b_Coast_turn 20 = .ok (.return_, 1) := by decide +kernel
theorem cy_Coast_turn : zY y_Coast_turn b_Coast_turn 3 none 2 := ⟨kw_79, kw_2, by decide +kernel, by decide +kernel⟩
theorem d_Coast_entry_0 : decode b_Coast_entry 0 = .ok (.iload_n 1, 1) := by decide +kernel
theorem d_Coast_entry_1 : decode b_Coast_entry 1 = .ok (.ifCond .lt 21, 3) := by decide +kernel
theorem d_Coast_entry_4 : decode b_Coast_entry 4 = .ok (.iload_n 1, 1) := by decide +kernel
theorem d_Coast_entry_5 : decode b_Coast_entry 5 = .ok (.aload_n 0, 1) := by decide +kernel
theorem d_Coast_entry_6 : decode b_Coast_entry 6 = .ok (.getfield 15, 3) := by decide +kernel
theorem d_Coast_entry_9 : decode b_Coast_entry 9 = .ok (.arraylength, 1) := by decide +kernel
theorem d_Coast_entry_10 : decode b_Coast_entry 10 = .ok (.if_icmp .ge 12, 3) := by decide +kernel
theorem d_Coast_entry_13 : decode b_Coast_entry 13 = .ok (.aload_n 0, 1) := by decide +kernel
theorem d_Coast_entry_14 : decode b_Coast_entry 14 = .ok (.getfield 15, 3) := by decide +kernel
theorem d_Coast_entry_17 : decode b_Coast_entry 17 = .ok (.iload_n 1, 1) := by decide +kernel
theorem d_Coast_entry_18 : decode b_Coast_entry 18 = .ok (.iaload, 1) := by decide +kernel
theorem d_Coast_entry_19 : decode b_Coast_entry 19 = .ok (.goto 4, 3) := by decide +kernel
theorem d_Coast_entry_22 : decode b_Coast_entry 22 = .ok (.iconst (-1), 1) := by decide +kernel
theorem d_Coast_entry_23 : decode b_Coast_entry 23 = .ok (.ireturn, 1) := by decide +kernel
theorem cy_Coast_entry : zY y_Coast_entry b_Coast_entry 2 (some (FieldType.int)) 1 := ⟨kw_523, kw_2, by decide +kernel, by decide +kernel⟩
theorem d_Coast_wipe_0 : decode b_Coast_wipe 0 = .ok (.aload_n 0, 1) := by decide +kernel
theorem d_Coast_wipe_1 : decode b_Coast_wipe 1 = .ok (.iconst 0, 1) := by decide +kernel
theorem d_Coast_wipe_2 : decode b_Coast_wipe 2 = .ok (.putfield 18, 3) := by decide +kernel
theorem d_Coast_wipe_5 : decode b_Coast_wipe 5 = .ok (.return_, 1) := by decide +kernel
theorem cy_Coast_wipe : zY y_Coast_wipe b_Coast_wipe 1 none 0 := ⟨kw_267, kw_2, by decide +kernel, by decide +kernel⟩
theorem d_Coast_begins_0 : decode b_Coast_begins 0 = .ok (.aload_n 0, 1) := by decide +kernel
theorem d_Coast_begins_1 : decode b_Coast_begins 1 = .ok (.getfield 18, 3) := by decide +kernel
theorem d_Coast_begins_4 : decode b_Coast_begins 4 = .ok (.ifCond .lt 40, 3) := by decide +kernel
theorem d_Coast_begins_7 : decode b_Coast_begins 7 = .ok (.aload_n 0, 1) := by decide +kernel
theorem d_Coast_begins_8 : decode b_Coast_begins 8 = .ok (.getfield 18, 3) := by decide +kernel
theorem d_Coast_begins_11 : decode b_Coast_begins 11 = .ok (.aload_n 0, 1) := by decide +kernel
theorem d_Coast_begins_12 : decode b_Coast_begins 12 = .ok (.getfield 15, 3) := by decide +kernel
theorem d_Coast_begins_15 : decode b_Coast_begins 15 = .ok (.arraylength, 1) := by decide +kernel
theorem d_Coast_begins_16 : decode b_Coast_begins 16 = .ok (.if_icmp .ge 28, 3) := by decide +kernel
theorem d_Coast_begins_19 : decode b_Coast_begins 19 = .ok (.aload_n 0, 1) := by decide +kernel
theorem d_Coast_begins_20 : decode b_Coast_begins 20 = .ok (.getfield 15, 3) := by decide +kernel
theorem d_Coast_begins_23 : decode b_Coast_begins 23 = .ok (.aload_n 0, 1) := by decide +kernel
theorem d_Coast_begins_24 : decode b_Coast_begins 24 = .ok (.getfield 18, 3) := by decide +kernel
theorem d_Coast_begins_27 : decode b_Coast_begins 27 = .ok (.bipush 10, 2) := by decide +kernel
theorem d_Coast_begins_29 : decode b_Coast_begins 29 = .ok (.iload_n 1, 1) := by decide +kernel
theorem d_Coast_begins_30 : decode b_Coast_begins 30 = .ok (.imul, 1) := by decide +kernel
theorem d_Coast_begins_31 : decode b_Coast_begins 31 = .ok (.iload_n 2, 1) := by decide +kernel
theorem d_Coast_begins_32 : decode b_Coast_begins 32 = .ok (.iadd, 1) := by decide +kernel
theorem d_Coast_begins_33 : decode b_Coast_begins 33 = .ok (.iastore, 1) := by decide +kernel
theorem d_Coast_begins_34 : decode b_Coast_begins 34 = .ok (.aload_n 0, 1) := by decide +kernel
theorem d_Coast_begins_35 : decode b_Coast_begins 35 = .ok (.dup, 1) := by decide +kernel
theorem d_Coast_begins_36 : decode b_Coast_begins 36 = .ok (.getfield 18, 3) := by decide +kernel
theorem d_Coast_begins_39 : decode b_Coast_begins 39 = .ok (.iconst 1, 1) := by decide +kernel
theorem d_Coast_begins_40 : decode b_Coast_begins 40 = .ok (.iadd, 1) := by decide +kernel
theorem d_Coast_begins_41 : decode b_Coast_begins 41 = .ok (.putfield 18, 3) := by decide +kernel
theorem d_Coast_begins_44 : decode b_Coast_begins 44 = .ok (.return_, 1) := by decide +kernel
theorem cy_Coast_begins : zY y_Coast_begins b_Coast_begins 3 none 2 := ⟨kw_295, kw_2, by decide +kernel, by decide +kernel⟩
theorem d_Drum_init_0 : decode b_Drum_init 0 = .ok (.aload_n 0, 1) := by decide +kernel
theorem d_Drum_init_1 : decode b_Drum_init 1 = .ok (.aload_n 1, 1) := by decide +kernel
theorem d_Drum_init_2 : decode b_Drum_init 2 = .ok (.iload_n 2, 1) := by decide +kernel
theorem d_Drum_init_3 : decode b_Drum_init 3 = .ok (.iload_n 3, 1) := by decide +kernel
theorem d_Drum_init_4 : decode b_Drum_init 4 = .ok (.invokespecial 3, 3) := by decide +kernel
theorem d_Drum_init_7 : decode b_Drum_init 7 = .ok (.return_, 1) := by decide +kernel
theorem cy_Drum_init : zY y_Drum_init b_Drum_init 4 none 3 := ⟨kw_177, kw_8, by decide +kernel, by decide +kernel⟩
theorem d_Drum_reach_0 : decode b_Drum_reach 0 = .ok (.aload_n 0, 1) := by decide +kernel
theorem d_Drum_reach_1 : decode b_Drum_reach 1 = .ok (.getfield 9, 3) := by decide +kernel
theorem d_Drum_reach_4 : decode b_Drum_reach 4 = .ok (.iconst 4, 1) := by decide +kernel
theorem d_Drum_reach_5 : decode b_Drum_reach 5 = .ok (.iconst 1, 1) := by decide +kernel
theorem d_Drum_reach_6 : decode b_Drum_reach 6 = .ok (.invokevirtual 15, 3) := by decide +kernel
theorem d_Drum_reach_9 : decode b_Drum_reach 9 = .ok (.aload_n 0, 1) := by decide +kernel
theorem d_Drum_reach_10 : decode b_Drum_reach 10 = .ok (.iload_n 1, 1) := by decide +kernel
theorem d_Drum_reach_11 : decode b_Drum_reach 11 = .ok (.invokespecial 21, 3) := by decide +kernel
theorem d_Drum_reach_14 : decode b_Drum_reach 14 = .ok (.bipush 20, 2) := by decide +kernel
theorem d_Drum_reach_16 : decode b_Drum_reach 16 = .ok (.invokestatic 25, 3) := by decide +kernel
theorem d_Drum_reach_19 : decode b_Drum_reach 19 = .ok (.ireturn, 1) := by decide +kernel
theorem cy_Drum_reach : zY y_Drum_reach b_Drum_reach 2 (some (FieldType.int)) 1 := ⟨kw_352, kw_8, by decide +kernel, by decide +kernel⟩
theorem d_Drum_tend_0 : decode b_Drum_tend 0 = .ok (.aload_n 0, 1) := by decide +kernel
theorem d_Drum_tend_1 : decode b_Drum_tend 1 = .ok (.getfield 9, 3) := by decide +kernel
theorem d_Drum_tend_4 : decode b_Drum_tend 4 = .ok (.iconst 4, 1) := by decide +kernel
theorem d_Drum_tend_5 : decode b_Drum_tend 5 = .ok (.iconst 3, 1) := by decide +kernel
theorem d_Drum_tend_6 : decode b_Drum_tend 6 = .ok (.invokevirtual 15, 3) := by decide +kernel
theorem d_Drum_tend_9 : decode b_Drum_tend 9 = .ok (.aload_n 0, 1) := by decide +kernel
theorem d_Drum_tend_10 : decode b_Drum_tend 10 = .ok (.iload_n 1, 1) := by decide +kernel
theorem d_Drum_tend_11 : decode b_Drum_tend 11 = .ok (.aload_n 0, 1) := by decide +kernel
theorem d_Drum_tend_12 : decode b_Drum_tend 12 = .ok (.getfield 9, 3) := by decide +kernel
theorem d_Drum_tend_15 : decode b_Drum_tend 15 = .ok (.iconst 3, 1) := by decide +kernel
theorem d_Drum_tend_16 : decode b_Drum_tend 16 = .ok (.invokevirtual 31, 3) := by decide +kernel
theorem d_Drum_tend_19 : decode b_Drum_tend 19 = .ok (.iadd, 1) := by decide +kernel
theorem d_Drum_tend_20 : decode b_Drum_tend 20 = .ok (.invokespecial 34, 3) := by decide +kernel
theorem d_Drum_tend_23 : decode b_Drum_tend 23 = .ok (.ireturn, 1) := by decide +kernel
theorem cy_Drum_tend : zY y_Drum_tend b_Drum_tend 2 (some (FieldType.int)) 1 := ⟨kw_418, kw_8, by decide +kernel, by decide +kernel⟩
theorem d_Drum_rank_0 : decode b_Drum_rank 0 = .ok (.aload_n 0, 1) := by decide +kernel
theorem d_Drum_rank_1 : decode b_Drum_rank 1 = .ok (.getfield 9, 3) := by decide +kernel
theorem d_Drum_rank_4 : decode b_Drum_rank 4 = .ok (.iconst 4, 1) := by decide +kernel
theorem d_Drum_rank_5 : decode b_Drum_rank 5 = .ok (.iconst 4, 1) := by decide +kernel
theorem d_Drum_rank_6 : decode b_Drum_rank 6 = .ok (.invokevirtual 15, 3) := by decide +kernel
theorem d_Drum_rank_9 : decode b_Drum_rank 9 = .ok (.iconst 2, 1) := by decide +kernel
theorem d_Drum_rank_10 : decode b_Drum_rank 10 = .ok (.aload_n 0, 1) := by decide +kernel
theorem d_Drum_rank_11 : decode b_Drum_rank 11 = .ok (.invokespecial 37, 3) := by decide +kernel
theorem d_Drum_rank_14 : decode b_Drum_rank 14 = .ok (.imul, 1) := by decide +kernel
theorem d_Drum_rank_15 : decode b_Drum_rank 15 = .ok (.ireturn, 1) := by decide +kernel
theorem cy_Drum_rank : zY y_Drum_rank b_Drum_rank 1 (some (FieldType.int)) 0 := ⟨kw_447, kw_8, by decide +kernel, by decide +kernel⟩
theorem d_Drum_tone_0 : decode b_Drum_tone 0 = .ok (.aload_n 0, 1) := by decide +kernel
theorem d_Drum_tone_1 : decode b_Drum_tone 1 = .ok (.getfield 9, 3) := by decide +kernel
theorem d_Drum_tone_4 : decode b_Drum_tone 4 = .ok (.iconst 4, 1) := by decide +kernel
theorem d_Drum_tone_5 : decode b_Drum_tone 5 = .ok (.bipush 6, 2) := by decide +kernel
theorem d_Drum_tone_7 : decode b_Drum_tone 7 = .ok (.invokevirtual 15, 3) := by decide +kernel
theorem d_Drum_tone_10 : decode b_Drum_tone 10 = .ok (.aload_n 0, 1) := by decide +kernel
theorem d_Drum_tone_11 : decode b_Drum_tone 11 = .ok (.invokespecial 41, 3) := by decide +kernel
theorem d_Drum_tone_14 : decode b_Drum_tone 14 = .ok (.aload_n 0, 1) := by decide +kernel
theorem d_Drum_tone_15 : decode b_Drum_tone 15 = .ok (.getfield 9, 3) := by decide +kernel
theorem d_Drum_tone_18 : decode b_Drum_tone 18 = .ok (.iconst 5, 1) := by decide +kernel
theorem d_Drum_tone_19 : decode b_Drum_tone 19 = .ok (.invokevirtual 31, 3) := by decide +kernel
theorem d_Drum_tone_22 : decode b_Drum_tone 22 = .ok (.iadd, 1) := by decide +kernel
theorem d_Drum_tone_23 : decode b_Drum_tone 23 = .ok (.ireturn, 1) := by decide +kernel
theorem cy_Drum_tone : zY y_Drum_tone b_Drum_tone 1 (some (FieldType.int)) 0 := ⟨kw_485, kw_8, by decide +kernel, by decide +kernel⟩
theorem d_Flare_init_0 : decode b_Flare_init 0 = .ok (.aload_n 0, 1) := by decide +kernel
theorem d_Flare_init_1 : decode b_Flare_init 1 = .ok (.aload_n 1, 1) := by decide +kernel
theorem d_Flare_init_2 : decode b_Flare_init 2 = .ok (.iload_n 2, 1) := by decide +kernel
theorem d_Flare_init_3 : decode b_Flare_init 3 = .ok (.iload_n 3, 1) := by decide +kernel
theorem d_Flare_init_4 : decode b_Flare_init 4 = .ok (.invokespecial 3, 3) := by decide +kernel
theorem d_Flare_init_7 : decode b_Flare_init 7 = .ok (.return_, 1) := by decide +kernel
theorem cy_Flare_init : zY y_Flare_init b_Flare_init 4 none 3 := ⟨kw_216, kw_11, by decide +kernel, by decide +kernel⟩
theorem d_Flare_horned_0 : decode b_Flare_horned 0 = .ok (.iconst 1, 1) := by decide +kernel
theorem d_Flare_horned_1 : decode b_Flare_horned 1 = .ok (.ireturn, 1) := by decide +kernel
theorem cy_Flare_horned : zY y_Flare_horned b_Flare_horned 1 (some (FieldType.boolean)) 0 := ⟨kw_273, kw_11, by decide +kernel, by decide +kernel⟩
theorem d_Flare_burn_0 : decode b_Flare_burn 0 = .ok (.aload_n 0, 1) := by decide +kernel
theorem d_Flare_burn_1 : decode b_Flare_burn 1 = .ok (.getfield 9, 3) := by decide +kernel
theorem d_Flare_burn_4 : decode b_Flare_burn 4 = .ok (.bipush 7, 2) := by decide +kernel
theorem d_Flare_burn_6 : decode b_Flare_burn 6 = .ok (.iconst 0, 1) := by decide +kernel
theorem d_Flare_burn_7 : decode b_Flare_burn 7 = .ok (.invokevirtual 15, 3) := by decide +kernel
theorem d_Flare_burn_10 : decode b_Flare_burn 10 = .ok (.aload_n 0, 1) := by decide +kernel
theorem d_Flare_burn_11 : decode b_Flare_burn 11 = .ok (.iload_n 1, 1) := by decide +kernel
theorem d_Flare_burn_12 : decode b_Flare_burn 12 = .ok (.iconst 2, 1) := by decide +kernel
theorem d_Flare_burn_13 : decode b_Flare_burn 13 = .ok (.idiv, 1) := by decide +kernel
theorem d_Flare_burn_14 : decode b_Flare_burn 14 = .ok (.invokespecial 21, 3) := by decide +kernel
theorem d_Flare_burn_17 : decode b_Flare_burn 17 = .ok (.ireturn, 1) := by decide +kernel
theorem cy_Flare_burn : zY y_Flare_burn b_Flare_burn 2 (some (FieldType.int)) 1 := ⟨kw_291, kw_11, by decide +kernel, by decide +kernel⟩
theorem d_Flare_flash_0 : decode b_Flare_flash 0 = .ok (.aload_n 0, 1) := by decide +kernel
theorem d_Flare_flash_1 : decode b_Flare_flash 1 = .ok (.getfield 9, 3) := by decide +kernel
theorem d_Flare_flash_4 : decode b_Flare_flash 4 = .ok (.bipush 7, 2) := by decide +kernel
theorem d_Flare_flash_6 : decode b_Flare_flash 6 = .ok (.iconst 2, 1) := by decide +kernel
theorem d_Flare_flash_7 : decode b_Flare_flash 7 = .ok (.invokevirtual 15, 3) := by decide +kernel
theorem d_Flare_flash_10 : decode b_Flare_flash 10 = .ok (.iload_n 1, 1) := by decide +kernel
theorem d_Flare_flash_11 : decode b_Flare_flash 11 = .ok (.iconst 1, 1) := by decide +kernel
theorem d_Flare_flash_12 : decode b_Flare_flash 12 = .ok (.iand, 1) := by decide +kernel
theorem d_Flare_flash_13 : decode b_Flare_flash 13 = .ok (.ifCond .ne 11, 3) := by decide +kernel
theorem d_Flare_flash_16 : decode b_Flare_flash 16 = .ok (.aload_n 0, 1) := by decide +kernel
theorem d_Flare_flash_17 : decode b_Flare_flash 17 = .ok (.iload_n 1, 1) := by decide +kernel
theorem d_Flare_flash_18 : decode b_Flare_flash 18 = .ok (.invokespecial 25, 3) := by decide +kernel
theorem d_Flare_flash_21 : decode b_Flare_flash 21 = .ok (.goto 4, 3) := by decide +kernel
theorem d_Flare_flash_24 : decode b_Flare_flash 24 = .ok (.iconst 0, 1) := by decide +kernel
theorem d_Flare_flash_25 : decode b_Flare_flash 25 = .ok (.ireturn, 1) := by decide +kernel
theorem cy_Flare_flash : zY y_Flare_flash b_Flare_flash 2 (some (FieldType.int)) 1 := ⟨kw_379, kw_11, by decide +kernel, by decide +kernel⟩
theorem d_Flare_rank_0 : decode b_Flare_rank 0 = .ok (.aload_n 0, 1) := by decide +kernel
theorem d_Flare_rank_1 : decode b_Flare_rank 1 = .ok (.getfield 9, 3) := by decide +kernel
theorem d_Flare_rank_4 : decode b_Flare_rank 4 = .ok (.bipush 7, 2) := by decide +kernel
theorem d_Flare_rank_6 : decode b_Flare_rank 6 = .ok (.iconst 4, 1) := by decide +kernel
theorem d_Flare_rank_7 : decode b_Flare_rank 7 = .ok (.invokevirtual 15, 3) := by decide +kernel
theorem d_Flare_rank_10 : decode b_Flare_rank 10 = .ok (.aload_n 0, 1) := by decide +kernel
theorem d_Flare_rank_11 : decode b_Flare_rank 11 = .ok (.invokespecial 28, 3) := by decide +kernel
theorem d_Flare_rank_14 : decode b_Flare_rank 14 = .ok (.aload_n 0, 1) := by decide +kernel
theorem d_Flare_rank_15 : decode b_Flare_rank 15 = .ok (.getfield 32, 3) := by decide +kernel
theorem d_Flare_rank_18 : decode b_Flare_rank 18 = .ok (.iconst 5, 1) := by decide +kernel
theorem d_Flare_rank_19 : decode b_Flare_rank 19 = .ok (.irem, 1) := by decide +kernel
theorem d_Flare_rank_20 : decode b_Flare_rank 20 = .ok (.iadd, 1) := by decide +kernel
theorem d_Flare_rank_21 : decode b_Flare_rank 21 = .ok (.ireturn, 1) := by decide +kernel
theorem cy_Flare_rank : zY y_Flare_rank b_Flare_rank 1 (some (FieldType.int)) 0 := ⟨kw_441, kw_11, by decide +kernel, by decide +kernel⟩
theorem d_Flare_tone_0 : decode b_Flare_tone 0 = .ok (.aload_n 0, 1) := by decide +kernel
theorem d_Flare_tone_1 : decode b_Flare_tone 1 = .ok (.getfield 9, 3) := by decide +kernel
theorem d_Flare_tone_4 : decode b_Flare_tone 4 = .ok (.bipush 7, 2) := by decide +kernel
theorem d_Flare_tone_6 : decode b_Flare_tone 6 = .ok (.bipush 6, 2) := by decide +kernel
theorem d_Flare_tone_8 : decode b_Flare_tone 8 = .ok (.invokevirtual 15, 3) := by decide +kernel
theorem d_Flare_tone_11 : decode b_Flare_tone 11 = .ok (.bipush 9, 2) := by decide +kernel
theorem d_Flare_tone_13 : decode b_Flare_tone 13 = .ok (.ireturn, 1) := by decide +kernel
theorem cy_Flare_tone : zY y_Flare_tone b_Flare_tone 1 (some (FieldType.int)) 0 := ⟨kw_498, kw_11, by decide +kernel, by decide +kernel⟩
theorem d_Gas_init_0 : decode b_Gas_init 0 = .ok (.aload_n 0, 1) := by decide +kernel
theorem d_Gas_init_1 : decode b_Gas_init 1 = .ok (.aload_n 1, 1) := by decide +kernel
theorem d_Gas_init_2 : decode b_Gas_init 2 = .ok (.iload_n 2, 1) := by decide +kernel
theorem d_Gas_init_3 : decode b_Gas_init 3 = .ok (.iload_n 3, 1) := by decide +kernel
theorem d_Gas_init_4 : decode b_Gas_init 4 = .ok (.invokespecial 3, 3) := by decide +kernel
theorem d_Gas_init_7 : decode b_Gas_init 7 = .ok (.return_, 1) := by decide +kernel
theorem cy_Gas_init : zY y_Gas_init b_Gas_init 4 none 3 := ⟨kw_203, kw_10, by decide +kernel, by decide +kernel⟩
theorem d_Gas_reach_0 : decode b_Gas_reach 0 = .ok (.aload_n 0, 1) := by decide +kernel
theorem d_Gas_reach_1 : decode b_Gas_reach 1 = .ok (.getfield 9, 3) := by decide +kernel
theorem d_Gas_reach_4 : decode b_Gas_reach 4 = .ok (.bipush 6, 2) := by decide +kernel
theorem d_Gas_reach_6 : decode b_Gas_reach 6 = .ok (.iconst 1, 1) := by decide +kernel
theorem d_Gas_reach_7 : decode b_Gas_reach 7 = .ok (.invokevirtual 15, 3) := by decide +kernel
theorem d_Gas_reach_10 : decode b_Gas_reach 10 = .ok (.aload_n 0, 1) := by decide +kernel
theorem d_Gas_reach_11 : decode b_Gas_reach 11 = .ok (.iload_n 1, 1) := by decide +kernel
theorem d_Gas_reach_12 : decode b_Gas_reach 12 = .ok (.invokespecial 21, 3) := by decide +kernel
theorem d_Gas_reach_15 : decode b_Gas_reach 15 = .ok (.aload_n 0, 1) := by decide +kernel
theorem d_Gas_reach_16 : decode b_Gas_reach 16 = .ok (.getfield 25, 3) := by decide +kernel
theorem d_Gas_reach_19 : decode b_Gas_reach 19 = .ok (.bipush 10, 2) := by decide +kernel
theorem d_Gas_reach_21 : decode b_Gas_reach 21 = .ok (.idiv, 1) := by decide +kernel
theorem d_Gas_reach_22 : decode b_Gas_reach 22 = .ok (.isub, 1) := by decide +kernel
theorem d_Gas_reach_23 : decode b_Gas_reach 23 = .ok (.ireturn, 1) := by decide +kernel
theorem cy_Gas_reach : zY y_Gas_reach b_Gas_reach 2 (some (FieldType.int)) 1 := ⟨kw_347, kw_10, by decide +kernel, by decide +kernel⟩
theorem d_Lamp_init_0 : decode b_Lamp_init 0 = .ok (.aload_n 0, 1) := by decide +kernel
theorem d_Lamp_init_1 : decode b_Lamp_init 1 = .ok (.invokespecial 3, 3) := by decide +kernel
theorem d_Lamp_init_4 : decode b_Lamp_init 4 = .ok (.aload_n 0, 1) := by decide +kernel
theorem d_Lamp_init_5 : decode b_Lamp_init 5 = .ok (.aload_n 1, 1) := by decide +kernel
theorem d_Lamp_init_6 : decode b_Lamp_init 6 = .ok (.putfield 9, 3) := by decide +kernel
theorem d_Lamp_init_9 : decode b_Lamp_init 9 = .ok (.aload_n 0, 1) := by decide +kernel
theorem d_Lamp_init_10 : decode b_Lamp_init 10 = .ok (.iload_n 2, 1) := by decide +kernel
theorem d_Lamp_init_11 : decode b_Lamp_init 11 = .ok (.putfield 15, 3) := by decide +kernel
theorem d_Lamp_init_14 : decode b_Lamp_init 14 = .ok (.aload_n 0, 1) := by decide +kernel
theorem d_Lamp_init_15 : decode b_Lamp_init 15 = .ok (.iload_n 3, 1) := by decide +kernel
theorem d_Lamp_init_16 : decode b_Lamp_init 16 = .ok (.putfield 19, 3) := by decide +kernel
theorem d_Lamp_init_19 : decode b_Lamp_init 19 = .ok (.return_, 1) := by decide +kernel
theorem cy_Lamp_init : zY y_Lamp_init b_Lamp_init 4 none 3 := ⟨kw_95, kw_4, by decide +kernel, by decide +kernel⟩
theorem d_Lamp_drain_0 : decode b_Lamp_drain 0 = .ok (.aload_n 0, 1) := by decide +kernel
theorem d_Lamp_drain_1 : decode b_Lamp_drain 1 = .ok (.getfield 22, 3) := by decide +kernel
theorem d_Lamp_drain_4 : decode b_Lamp_drain 4 = .ok (.iload_n 1, 1) := by decide +kernel
theorem d_Lamp_drain_5 : decode b_Lamp_drain 5 = .ok (.if_icmp .le 16, 3) := by decide +kernel
theorem d_Lamp_drain_8 : decode b_Lamp_drain 8 = .ok (.aload_n 0, 1) := by decide +kernel
theorem d_Lamp_drain_9 : decode b_Lamp_drain 9 = .ok (.dup, 1) := by decide +kernel
theorem d_Lamp_drain_10 : decode b_Lamp_drain 10 = .ok (.getfield 22, 3) := by decide +kernel
theorem d_Lamp_drain_13 : decode b_Lamp_drain 13 = .ok (.iload_n 1, 1) := by decide +kernel
theorem d_Lamp_drain_14 : decode b_Lamp_drain 14 = .ok (.isub, 1) := by decide +kernel
theorem d_Lamp_drain_15 : decode b_Lamp_drain 15 = .ok (.putfield 22, 3) := by decide +kernel
theorem d_Lamp_drain_18 : decode b_Lamp_drain 18 = .ok (.goto 13, 3) := by decide +kernel
theorem d_Lamp_drain_21 : decode b_Lamp_drain 21 = .ok (.aload_n 0, 1) := by decide +kernel
theorem d_Lamp_drain_22 : decode b_Lamp_drain 22 = .ok (.iconst 0, 1) := by decide +kernel
theorem d_Lamp_drain_23 : decode b_Lamp_drain 23 = .ok (.putfield 22, 3) := by decide +kernel
theorem d_Lamp_drain_26 : decode b_Lamp_drain 26 = .ok (.aload_n 0, 1) := by decide +kernel
theorem d_Lamp_drain_27 : decode b_Lamp_drain 27 = .ok (.iconst 0, 1) := by decide +kernel
theorem d_Lamp_drain_28 : decode b_Lamp_drain 28 = .ok (.putfield 25, 3) := by decide +kernel
theorem d_Lamp_drain_31 : decode b_Lamp_drain 31 = .ok (.return_, 1) := by decide +kernel
theorem cy_Lamp_drain : zY y_Lamp_drain b_Lamp_drain 2 none 1 := ⟨kw_559, kw_4, by decide +kernel, by decide +kernel⟩
theorem d_Lamp_horned_0 : decode b_Lamp_horned 0 = .ok (.iconst 0, 1) := by decide +kernel
theorem d_Lamp_horned_1 : decode b_Lamp_horned 1 = .ok (.ireturn, 1) := by decide +kernel
theorem cy_Lamp_horned : zY y_Lamp_horned b_Lamp_horned 1 (some (FieldType.boolean)) 0 := ⟨kw_284, kw_4, by decide +kernel, by decide +kernel⟩
theorem d_Lamp_burn_0 : decode b_Lamp_burn 0 = .ok (.aload_n 0, 1) := by decide +kernel
theorem d_Lamp_burn_1 : decode b_Lamp_burn 1 = .ok (.getfield 9, 3) := by decide +kernel
theorem d_Lamp_burn_4 : decode b_Lamp_burn 4 = .ok (.iconst 0, 1) := by decide +kernel
theorem d_Lamp_burn_5 : decode b_Lamp_burn 5 = .ok (.iconst 0, 1) := by decide +kernel
theorem d_Lamp_burn_6 : decode b_Lamp_burn 6 = .ok (.invokevirtual 29, 3) := by decide +kernel
theorem d_Lamp_burn_9 : decode b_Lamp_burn 9 = .ok (.aload_n 0, 1) := by decide +kernel
theorem d_Lamp_burn_10 : decode b_Lamp_burn 10 = .ok (.dup, 1) := by decide +kernel
theorem d_Lamp_burn_11 : decode b_Lamp_burn 11 = .ok (.getfield 35, 3) := by decide +kernel
theorem d_Lamp_burn_14 : decode b_Lamp_burn 14 = .ok (.iload_n 1, 1) := by decide +kernel
theorem d_Lamp_burn_15 : decode b_Lamp_burn 15 = .ok (.iadd, 1) := by decide +kernel
theorem d_Lamp_burn_16 : decode b_Lamp_burn 16 = .ok (.putfield 35, 3) := by decide +kernel
theorem d_Lamp_burn_19 : decode b_Lamp_burn 19 = .ok (.iload_n 1, 1) := by decide +kernel
theorem d_Lamp_burn_20 : decode b_Lamp_burn 20 = .ok (.aload_n 0, 1) := by decide +kernel
theorem d_Lamp_burn_21 : decode b_Lamp_burn 21 = .ok (.getfield 9, 3) := by decide +kernel
theorem d_Lamp_burn_24 : decode b_Lamp_burn 24 = .ok (.iconst 0, 1) := by decide +kernel
theorem d_Lamp_burn_25 : decode b_Lamp_burn 25 = .ok (.invokevirtual 38, 3) := by decide +kernel
theorem d_Lamp_burn_28 : decode b_Lamp_burn 28 = .ok (.imul, 1) := by decide +kernel
theorem d_Lamp_burn_29 : decode b_Lamp_burn 29 = .ok (.iconst 1, 1) := by decide +kernel
theorem d_Lamp_burn_30 : decode b_Lamp_burn 30 = .ok (.iadd, 1) := by decide +kernel
theorem d_Lamp_burn_31 : decode b_Lamp_burn 31 = .ok (.ireturn, 1) := by decide +kernel
theorem cy_Lamp_burn : zY y_Lamp_burn b_Lamp_burn 2 (some (FieldType.int)) 1 := ⟨kw_333, kw_4, by decide +kernel, by decide +kernel⟩
theorem d_Lamp_reach_0 : decode b_Lamp_reach 0 = .ok (.aload_n 0, 1) := by decide +kernel
theorem d_Lamp_reach_1 : decode b_Lamp_reach 1 = .ok (.getfield 9, 3) := by decide +kernel
theorem d_Lamp_reach_4 : decode b_Lamp_reach 4 = .ok (.iconst 0, 1) := by decide +kernel
theorem d_Lamp_reach_5 : decode b_Lamp_reach 5 = .ok (.iconst 1, 1) := by decide +kernel
theorem d_Lamp_reach_6 : decode b_Lamp_reach 6 = .ok (.invokevirtual 29, 3) := by decide +kernel
theorem d_Lamp_reach_9 : decode b_Lamp_reach 9 = .ok (.aload_n 0, 1) := by decide +kernel
theorem d_Lamp_reach_10 : decode b_Lamp_reach 10 = .ok (.getfield 19, 3) := by decide +kernel
theorem d_Lamp_reach_13 : decode b_Lamp_reach 13 = .ok (.bipush 10, 2) := by decide +kernel
theorem d_Lamp_reach_15 : decode b_Lamp_reach 15 = .ok (.idiv, 1) := by decide +kernel
theorem d_Lamp_reach_16 : decode b_Lamp_reach 16 = .ok (.bipush 30, 2) := by decide +kernel
theorem d_Lamp_reach_18 : decode b_Lamp_reach 18 = .ok (.iadd, 1) := by decide +kernel
theorem d_Lamp_reach_19 : decode b_Lamp_reach 19 = .ok (.iconst 3, 1) := by decide +kernel
theorem d_Lamp_reach_20 : decode b_Lamp_reach 20 = .ok (.iload_n 1, 1) := by decide +kernel
theorem d_Lamp_reach_21 : decode b_Lamp_reach 21 = .ok (.imul, 1) := by decide +kernel
theorem d_Lamp_reach_22 : decode b_Lamp_reach 22 = .ok (.isub, 1) := by decide +kernel
theorem d_Lamp_reach_23 : decode b_Lamp_reach 23 = .ok (.ireturn, 1) := by decide +kernel
theorem cy_Lamp_reach : zY y_Lamp_reach b_Lamp_reach 2 (some (FieldType.int)) 1 := ⟨kw_373, kw_4, by decide +kernel, by decide +kernel⟩
theorem d_Lamp_flash_0 : decode b_Lamp_flash 0 = .ok (.aload_n 0, 1) := by decide +kernel
theorem d_Lamp_flash_1 : decode b_Lamp_flash 1 = .ok (.getfield 9, 3) := by decide +kernel
theorem d_Lamp_flash_4 : decode b_Lamp_flash 4 = .ok (.iconst 0, 1) := by decide +kernel
theorem d_Lamp_flash_5 : decode b_Lamp_flash 5 = .ok (.iconst 2, 1) := by decide +kernel
theorem d_Lamp_flash_6 : decode b_Lamp_flash 6 = .ok (.invokevirtual 29, 3) := by decide +kernel
theorem d_Lamp_flash_9 : decode b_Lamp_flash 9 = .ok (.bipush 100, 2) := by decide +kernel
theorem d_Lamp_flash_11 : decode b_Lamp_flash 11 = .ok (.ireturn, 1) := by decide +kernel
theorem cy_Lamp_flash : zY y_Lamp_flash b_Lamp_flash 2 (some (FieldType.int)) 1 := ⟨kw_405, kw_4, by decide +kernel, by decide +kernel⟩
theorem d_Lamp_tend_0 : decode b_Lamp_tend 0 = .ok (.aload_n 0, 1) := by decide +kernel
theorem d_Lamp_tend_1 : decode b_Lamp_tend 1 = .ok (.getfield 9, 3) := by decide +kernel
theorem d_Lamp_tend_4 : decode b_Lamp_tend 4 = .ok (.iconst 0, 1) := by decide +kernel
theorem d_Lamp_tend_5 : decode b_Lamp_tend 5 = .ok (.iconst 3, 1) := by decide +kernel
theorem d_Lamp_tend_6 : decode b_Lamp_tend 6 = .ok (.invokevirtual 29, 3) := by decide +kernel
theorem d_Lamp_tend_9 : decode b_Lamp_tend 9 = .ok (.aload_n 0, 1) := by decide +kernel
theorem d_Lamp_tend_10 : decode b_Lamp_tend 10 = .ok (.aload_n 0, 1) := by decide +kernel
theorem d_Lamp_tend_11 : decode b_Lamp_tend 11 = .ok (.getfield 35, 3) := by decide +kernel
theorem d_Lamp_tend_14 : decode b_Lamp_tend 14 = .ok (.iload_n 1, 1) := by decide +kernel
theorem d_Lamp_tend_15 : decode b_Lamp_tend 15 = .ok (.isub, 1) := by decide +kernel
theorem d_Lamp_tend_16 : decode b_Lamp_tend 16 = .ok (.iconst 0, 1) := by decide +kernel
theorem d_Lamp_tend_17 : decode b_Lamp_tend 17 = .ok (.invokestatic 42, 3) := by decide +kernel
theorem d_Lamp_tend_20 : decode b_Lamp_tend 20 = .ok (.putfield 35, 3) := by decide +kernel
theorem d_Lamp_tend_23 : decode b_Lamp_tend 23 = .ok (.aload_n 0, 1) := by decide +kernel
theorem d_Lamp_tend_24 : decode b_Lamp_tend 24 = .ok (.getfield 35, 3) := by decide +kernel
theorem d_Lamp_tend_27 : decode b_Lamp_tend 27 = .ok (.ireturn, 1) := by decide +kernel
theorem cy_Lamp_tend : zY y_Lamp_tend b_Lamp_tend 2 (some (FieldType.int)) 1 := ⟨kw_434, kw_4, by decide +kernel, by decide +kernel⟩
theorem d_Lamp_rank_0 : decode b_Lamp_rank 0 = .ok (.aload_n 0, 1) := by decide +kernel
theorem d_Lamp_rank_1 : decode b_Lamp_rank 1 = .ok (.getfield 9, 3) := by decide +kernel
theorem d_Lamp_rank_4 : decode b_Lamp_rank 4 = .ok (.iconst 0, 1) := by decide +kernel
theorem d_Lamp_rank_5 : decode b_Lamp_rank 5 = .ok (.iconst 4, 1) := by decide +kernel
theorem d_Lamp_rank_6 : decode b_Lamp_rank 6 = .ok (.invokevirtual 29, 3) := by decide +kernel
theorem d_Lamp_rank_9 : decode b_Lamp_rank 9 = .ok (.aload_n 0, 1) := by decide +kernel
theorem d_Lamp_rank_10 : decode b_Lamp_rank 10 = .ok (.getfield 19, 3) := by decide +kernel
theorem d_Lamp_rank_13 : decode b_Lamp_rank 13 = .ok (.bipush 9, 2) := by decide +kernel
theorem d_Lamp_rank_15 : decode b_Lamp_rank 15 = .ok (.irem, 1) := by decide +kernel
theorem d_Lamp_rank_16 : decode b_Lamp_rank 16 = .ok (.ireturn, 1) := by decide +kernel
theorem cy_Lamp_rank : zY y_Lamp_rank b_Lamp_rank 1 (some (FieldType.int)) 0 := ⟨kw_466, kw_4, by decide +kernel, by decide +kernel⟩
theorem d_Lamp_horn_0 : decode b_Lamp_horn 0 = .ok (.aload_n 0, 1) := by decide +kernel
theorem d_Lamp_horn_1 : decode b_Lamp_horn 1 = .ok (.getfield 9, 3) := by decide +kernel
theorem d_Lamp_horn_4 : decode b_Lamp_horn 4 = .ok (.iconst 0, 1) := by decide +kernel
theorem d_Lamp_horn_5 : decode b_Lamp_horn 5 = .ok (.iconst 5, 1) := by decide +kernel
theorem d_Lamp_horn_6 : decode b_Lamp_horn 6 = .ok (.invokevirtual 29, 3) := by decide +kernel
theorem d_Lamp_horn_9 : decode b_Lamp_horn 9 = .ok (.aload_n 0, 1) := by decide +kernel
theorem d_Lamp_horn_10 : decode b_Lamp_horn 10 = .ok (.invokevirtual 48, 3) := by decide +kernel
theorem d_Lamp_horn_13 : decode b_Lamp_horn 13 = .ok (.iload_n 1, 1) := by decide +kernel
theorem d_Lamp_horn_14 : decode b_Lamp_horn 14 = .ok (.imul, 1) := by decide +kernel
theorem d_Lamp_horn_15 : decode b_Lamp_horn 15 = .ok (.istore_n 2, 1) := by decide +kernel
theorem d_Lamp_horn_16 : decode b_Lamp_horn 16 = .ok (.iload_n 2, 1) := by decide +kernel
theorem d_Lamp_horn_17 : decode b_Lamp_horn 17 = .ok (.aload_n 0, 1) := by decide +kernel
theorem d_Lamp_horn_18 : decode b_Lamp_horn 18 = .ok (.iconst 0, 1) := by decide +kernel
theorem d_Lamp_horn_19 : decode b_Lamp_horn 19 = .ok (.invokevirtual 52, 3) := by decide +kernel
theorem d_Lamp_horn_22 : decode b_Lamp_horn 22 = .ok (.iadd, 1) := by decide +kernel
theorem d_Lamp_horn_23 : decode b_Lamp_horn 23 = .ok (.ireturn, 1) := by decide +kernel
theorem cy_Lamp_horn : zY y_Lamp_horn b_Lamp_horn 3 (some (FieldType.int)) 1 := ⟨kw_492, kw_4, by decide +kernel, by decide +kernel⟩
theorem d_Lamp_tone_0 : decode b_Lamp_tone 0 = .ok (.iconst 0, 1) := by decide +kernel
theorem d_Lamp_tone_1 : decode b_Lamp_tone 1 = .ok (.ireturn, 1) := by decide +kernel
theorem cy_Lamp_tone : zY y_Lamp_tone b_Lamp_tone 1 (some (FieldType.int)) 0 := ⟨kw_513, kw_4, by decide +kernel, by decide +kernel⟩
theorem d_Oil_init_0 : decode b_Oil_init 0 = .ok (.aload_n 0, 1) := by decide +kernel
theorem d_Oil_init_1 : decode b_Oil_init 1 = .ok (.aload_n 1, 1) := by decide +kernel
theorem d_Oil_init_2 : decode b_Oil_init 2 = .ok (.iload_n 2, 1) := by decide +kernel
theorem d_Oil_init_3 : decode b_Oil_init 3 = .ok (.iload_n 3, 1) := by decide +kernel
theorem d_Oil_init_4 : decode b_Oil_init 4 = .ok (.invokespecial 3, 3) := by decide +kernel
theorem d_Oil_init_7 : decode b_Oil_init 7 = .ok (.return_, 1) := by decide +kernel
theorem cy_Oil_init : zY y_Oil_init b_Oil_init 4 none 3 := ⟨kw_92, kw_5, by decide +kernel, by decide +kernel⟩
theorem d_Oil_burn_0 : decode b_Oil_burn 0 = .ok (.aload_n 0, 1) := by decide +kernel
theorem d_Oil_burn_1 : decode b_Oil_burn 1 = .ok (.getfield 9, 3) := by decide +kernel
theorem d_Oil_burn_4 : decode b_Oil_burn 4 = .ok (.iconst 1, 1) := by decide +kernel
theorem d_Oil_burn_5 : decode b_Oil_burn 5 = .ok (.iconst 0, 1) := by decide +kernel
theorem d_Oil_burn_6 : decode b_Oil_burn 6 = .ok (.invokevirtual 15, 3) := by decide +kernel
theorem d_Oil_burn_9 : decode b_Oil_burn 9 = .ok (.aload_n 0, 1) := by decide +kernel
theorem d_Oil_burn_10 : decode b_Oil_burn 10 = .ok (.iload_n 1, 1) := by decide +kernel
theorem d_Oil_burn_11 : decode b_Oil_burn 11 = .ok (.invokespecial 21, 3) := by decide +kernel
theorem d_Oil_burn_14 : decode b_Oil_burn 14 = .ok (.istore_n 2, 1) := by decide +kernel
theorem d_Oil_burn_15 : decode b_Oil_burn 15 = .ok (.iload_n 2, 1) := by decide +kernel
theorem d_Oil_burn_16 : decode b_Oil_burn 16 = .ok (.aload_n 0, 1) := by decide +kernel
theorem d_Oil_burn_17 : decode b_Oil_burn 17 = .ok (.getfield 25, 3) := by decide +kernel
theorem d_Oil_burn_20 : decode b_Oil_burn 20 = .ok (.bipush 50, 2) := by decide +kernel
theorem d_Oil_burn_22 : decode b_Oil_burn 22 = .ok (.idiv, 1) := by decide +kernel
theorem d_Oil_burn_23 : decode b_Oil_burn 23 = .ok (.iadd, 1) := by decide +kernel
theorem d_Oil_burn_24 : decode b_Oil_burn 24 = .ok (.ireturn, 1) := by decide +kernel
theorem cy_Oil_burn : zY y_Oil_burn b_Oil_burn 3 (some (FieldType.int)) 1 := ⟨kw_307, kw_5, by decide +kernel, by decide +kernel⟩
theorem d_Oil_rank_0 : decode b_Oil_rank 0 = .ok (.aload_n 0, 1) := by decide +kernel
theorem d_Oil_rank_1 : decode b_Oil_rank 1 = .ok (.getfield 9, 3) := by decide +kernel
theorem d_Oil_rank_4 : decode b_Oil_rank 4 = .ok (.iconst 1, 1) := by decide +kernel
theorem d_Oil_rank_5 : decode b_Oil_rank 5 = .ok (.iconst 4, 1) := by decide +kernel
theorem d_Oil_rank_6 : decode b_Oil_rank 6 = .ok (.invokevirtual 15, 3) := by decide +kernel
theorem d_Oil_rank_9 : decode b_Oil_rank 9 = .ok (.aload_n 0, 1) := by decide +kernel
theorem d_Oil_rank_10 : decode b_Oil_rank 10 = .ok (.invokespecial 29, 3) := by decide +kernel
theorem d_Oil_rank_13 : decode b_Oil_rank 13 = .ok (.iconst 1, 1) := by decide +kernel
theorem d_Oil_rank_14 : decode b_Oil_rank 14 = .ok (.iadd, 1) := by decide +kernel
theorem d_Oil_rank_15 : decode b_Oil_rank 15 = .ok (.ireturn, 1) := by decide +kernel
theorem cy_Oil_rank : zY y_Oil_rank b_Oil_rank 1 (some (FieldType.int)) 0 := ⟨kw_452, kw_5, by decide +kernel, by decide +kernel⟩
theorem d_Oil_tone_0 : decode b_Oil_tone 0 = .ok (.aload_n 0, 1) := by decide +kernel
theorem d_Oil_tone_1 : decode b_Oil_tone 1 = .ok (.getfield 9, 3) := by decide +kernel
theorem d_Oil_tone_4 : decode b_Oil_tone 4 = .ok (.iconst 1, 1) := by decide +kernel
theorem d_Oil_tone_5 : decode b_Oil_tone 5 = .ok (.bipush 6, 2) := by decide +kernel
theorem d_Oil_tone_7 : decode b_Oil_tone 7 = .ok (.invokevirtual 15, 3) := by decide +kernel
theorem d_Oil_tone_10 : decode b_Oil_tone 10 = .ok (.bipush 7, 2) := by decide +kernel
theorem d_Oil_tone_12 : decode b_Oil_tone 12 = .ok (.ireturn, 1) := by decide +kernel
theorem cy_Oil_tone : zY y_Oil_tone b_Oil_tone 1 (some (FieldType.int)) 0 := ⟨kw_490, kw_5, by decide +kernel, by decide +kernel⟩
theorem d_Outer_init_0 : decode b_Outer_init 0 = .ok (.aload_n 0, 1) := by decide +kernel
theorem d_Outer_init_1 : decode b_Outer_init 1 = .ok (.aload_n 1, 1) := by decide +kernel
theorem d_Outer_init_2 : decode b_Outer_init 2 = .ok (.iload_n 2, 1) := by decide +kernel
theorem d_Outer_init_3 : decode b_Outer_init 3 = .ok (.iload_n 3, 1) := by decide +kernel
theorem d_Outer_init_4 : decode b_Outer_init 4 = .ok (.invokespecial 3, 3) := by decide +kernel
theorem d_Outer_init_7 : decode b_Outer_init 7 = .ok (.return_, 1) := by decide +kernel
theorem cy_Outer_init : zY y_Outer_init b_Outer_init 4 none 3 := ⟨kw_242, kw_13, by decide +kernel, by decide +kernel⟩
theorem d_Outer_burn_0 : decode b_Outer_burn 0 = .ok (.aload_n 0, 1) := by decide +kernel
theorem d_Outer_burn_1 : decode b_Outer_burn 1 = .ok (.getfield 9, 3) := by decide +kernel
theorem d_Outer_burn_4 : decode b_Outer_burn 4 = .ok (.bipush 9, 2) := by decide +kernel
theorem d_Outer_burn_6 : decode b_Outer_burn 6 = .ok (.iconst 0, 1) := by decide +kernel
theorem d_Outer_burn_7 : decode b_Outer_burn 7 = .ok (.invokevirtual 15, 3) := by decide +kernel
theorem d_Outer_burn_10 : decode b_Outer_burn 10 = .ok (.aload_n 0, 1) := by decide +kernel
theorem d_Outer_burn_11 : decode b_Outer_burn 11 = .ok (.iload_n 1, 1) := by decide +kernel
theorem d_Outer_burn_12 : decode b_Outer_burn 12 = .ok (.invokespecial 21, 3) := by decide +kernel
theorem d_Outer_burn_15 : decode b_Outer_burn 15 = .ok (.aload_n 0, 1) := by decide +kernel
theorem d_Outer_burn_16 : decode b_Outer_burn 16 = .ok (.getfield 9, 3) := by decide +kernel
theorem d_Outer_burn_19 : decode b_Outer_burn 19 = .ok (.iconst 1, 1) := by decide +kernel
theorem d_Outer_burn_20 : decode b_Outer_burn 20 = .ok (.invokevirtual 25, 3) := by decide +kernel
theorem d_Outer_burn_23 : decode b_Outer_burn 23 = .ok (.isub, 1) := by decide +kernel
theorem d_Outer_burn_24 : decode b_Outer_burn 24 = .ok (.iconst 0, 1) := by decide +kernel
theorem d_Outer_burn_25 : decode b_Outer_burn 25 = .ok (.invokestatic 28, 3) := by decide +kernel
theorem d_Outer_burn_28 : decode b_Outer_burn 28 = .ok (.ireturn, 1) := by decide +kernel
theorem cy_Outer_burn : zY y_Outer_burn b_Outer_burn 2 (some (FieldType.int)) 1 := ⟨kw_315, kw_13, by decide +kernel, by decide +kernel⟩
theorem d_Outer_flash_0 : decode b_Outer_flash 0 = .ok (.aload_n 0, 1) := by decide +kernel
theorem d_Outer_flash_1 : decode b_Outer_flash 1 = .ok (.getfield 9, 3) := by decide +kernel
theorem d_Outer_flash_4 : decode b_Outer_flash 4 = .ok (.bipush 9, 2) := by decide +kernel
theorem d_Outer_flash_6 : decode b_Outer_flash 6 = .ok (.iconst 2, 1) := by decide +kernel
theorem d_Outer_flash_7 : decode b_Outer_flash 7 = .ok (.invokevirtual 15, 3) := by decide +kernel
theorem d_Outer_flash_10 : decode b_Outer_flash 10 = .ok (.aload_n 0, 1) := by decide +kernel
theorem d_Outer_flash_11 : decode b_Outer_flash 11 = .ok (.iload_n 1, 1) := by decide +kernel
theorem d_Outer_flash_12 : decode b_Outer_flash 12 = .ok (.invokespecial 34, 3) := by decide +kernel
theorem d_Outer_flash_15 : decode b_Outer_flash 15 = .ok (.istore_n 2, 1) := by decide +kernel
theorem d_Outer_flash_16 : decode b_Outer_flash 16 = .ok (.iload_n 2, 1) := by decide +kernel
theorem d_Outer_flash_17 : decode b_Outer_flash 17 = .ok (.aload_n 0, 1) := by decide +kernel
theorem d_Outer_flash_18 : decode b_Outer_flash 18 = .ok (.iload_n 1, 1) := by decide +kernel
theorem d_Outer_flash_19 : decode b_Outer_flash 19 = .ok (.iconst 1, 1) := by decide +kernel
theorem d_Outer_flash_20 : decode b_Outer_flash 20 = .ok (.iadd, 1) := by decide +kernel
theorem d_Outer_flash_21 : decode b_Outer_flash 21 = .ok (.invokespecial 34, 3) := by decide +kernel
theorem d_Outer_flash_24 : decode b_Outer_flash 24 = .ok (.iadd, 1) := by decide +kernel
theorem d_Outer_flash_25 : decode b_Outer_flash 25 = .ok (.ireturn, 1) := by decide +kernel
theorem cy_Outer_flash : zY y_Outer_flash b_Outer_flash 3 (some (FieldType.int)) 1 := ⟨kw_393, kw_13, by decide +kernel, by decide +kernel⟩
theorem d_Outer_rank_0 : decode b_Outer_rank 0 = .ok (.aload_n 0, 1) := by decide +kernel
theorem d_Outer_rank_1 : decode b_Outer_rank 1 = .ok (.getfield 9, 3) := by decide +kernel
theorem d_Outer_rank_4 : decode b_Outer_rank 4 = .ok (.bipush 9, 2) := by decide +kernel
theorem d_Outer_rank_6 : decode b_Outer_rank 6 = .ok (.iconst 4, 1) := by decide +kernel
theorem d_Outer_rank_7 : decode b_Outer_rank 7 = .ok (.invokevirtual 15, 3) := by decide +kernel
theorem d_Outer_rank_10 : decode b_Outer_rank 10 = .ok (.aload_n 0, 1) := by decide +kernel
theorem d_Outer_rank_11 : decode b_Outer_rank 11 = .ok (.invokespecial 37, 3) := by decide +kernel
theorem d_Outer_rank_14 : decode b_Outer_rank 14 = .ok (.aload_n 0, 1) := by decide +kernel
theorem d_Outer_rank_15 : decode b_Outer_rank 15 = .ok (.getfield 41, 3) := by decide +kernel
theorem d_Outer_rank_18 : decode b_Outer_rank 18 = .ok (.iconst 3, 1) := by decide +kernel
theorem d_Outer_rank_19 : decode b_Outer_rank 19 = .ok (.irem, 1) := by decide +kernel
theorem d_Outer_rank_20 : decode b_Outer_rank 20 = .ok (.iadd, 1) := by decide +kernel
theorem d_Outer_rank_21 : decode b_Outer_rank 21 = .ok (.ireturn, 1) := by decide +kernel
theorem cy_Outer_rank : zY y_Outer_rank b_Outer_rank 1 (some (FieldType.int)) 0 := ⟨kw_459, kw_13, by decide +kernel, by decide +kernel⟩
theorem d_Outer_tone_0 : decode b_Outer_tone 0 = .ok (.aload_n 0, 1) := by decide +kernel
theorem d_Outer_tone_1 : decode b_Outer_tone 1 = .ok (.getfield 9, 3) := by decide +kernel
theorem d_Outer_tone_4 : decode b_Outer_tone 4 = .ok (.bipush 9, 2) := by decide +kernel
theorem d_Outer_tone_6 : decode b_Outer_tone 6 = .ok (.bipush 6, 2) := by decide +kernel
theorem d_Outer_tone_8 : decode b_Outer_tone 8 = .ok (.invokevirtual 15, 3) := by decide +kernel
theorem d_Outer_tone_11 : decode b_Outer_tone 11 = .ok (.aload_n 0, 1) := by decide +kernel
theorem d_Outer_tone_12 : decode b_Outer_tone 12 = .ok (.invokespecial 45, 3) := by decide +kernel
theorem d_Outer_tone_15 : decode b_Outer_tone 15 = .ok (.istore_n 1, 1) := by decide +kernel
theorem d_Outer_tone_16 : decode b_Outer_tone 16 = .ok (.iload_n 1, 1) := by decide +kernel
theorem d_Outer_tone_17 : decode b_Outer_tone 17 = .ok (.aload_n 0, 1) := by decide +kernel
theorem d_Outer_tone_18 : decode b_Outer_tone 18 = .ok (.invokevirtual 48, 3) := by decide +kernel
theorem d_Outer_tone_21 : decode b_Outer_tone 21 = .ok (.iadd, 1) := by decide +kernel
theorem d_Outer_tone_22 : decode b_Outer_tone 22 = .ok (.ireturn, 1) := by decide +kernel
theorem cy_Outer_tone : zY y_Outer_tone b_Outer_tone 2 (some (FieldType.int)) 0 := ⟨kw_505, kw_13, by decide +kernel, by decide +kernel⟩
theorem d_Round_init_0 : decode b_Round_init 0 = .ok (.aload_n 0, 1) := by decide +kernel
theorem d_Round_init_1 : decode b_Round_init 1 = .ok (.aload_n 1, 1) := by decide +kernel
theorem d_Round_init_2 : decode b_Round_init 2 = .ok (.iload_n 2, 1) := by decide +kernel
theorem d_Round_init_3 : decode b_Round_init 3 = .ok (.iload_n 3, 1) := by decide +kernel
theorem d_Round_init_4 : decode b_Round_init 4 = .ok (.invokespecial 3, 3) := by decide +kernel
theorem d_Round_init_7 : decode b_Round_init 7 = .ok (.return_, 1) := by decide +kernel
theorem cy_Round_init : zY y_Round_init b_Round_init 4 none 3 := ⟨kw_151, kw_6, by decide +kernel, by decide +kernel⟩
theorem d_Round_reach_0 : decode b_Round_reach 0 = .ok (.aload_n 0, 1) := by decide +kernel
theorem d_Round_reach_1 : decode b_Round_reach 1 = .ok (.getfield 9, 3) := by decide +kernel
theorem d_Round_reach_4 : decode b_Round_reach 4 = .ok (.iconst 2, 1) := by decide +kernel
theorem d_Round_reach_5 : decode b_Round_reach 5 = .ok (.iconst 1, 1) := by decide +kernel
theorem d_Round_reach_6 : decode b_Round_reach 6 = .ok (.invokevirtual 15, 3) := by decide +kernel
theorem d_Round_reach_9 : decode b_Round_reach 9 = .ok (.aload_n 0, 1) := by decide +kernel
theorem d_Round_reach_10 : decode b_Round_reach 10 = .ok (.iload_n 1, 1) := by decide +kernel
theorem d_Round_reach_11 : decode b_Round_reach 11 = .ok (.invokespecial 21, 3) := by decide +kernel
theorem d_Round_reach_14 : decode b_Round_reach 14 = .ok (.aload_n 0, 1) := by decide +kernel
theorem d_Round_reach_15 : decode b_Round_reach 15 = .ok (.getfield 9, 3) := by decide +kernel
theorem d_Round_reach_18 : decode b_Round_reach 18 = .ok (.iconst 2, 1) := by decide +kernel
theorem d_Round_reach_19 : decode b_Round_reach 19 = .ok (.invokevirtual 25, 3) := by decide +kernel
theorem d_Round_reach_22 : decode b_Round_reach 22 = .ok (.iadd, 1) := by decide +kernel
theorem d_Round_reach_23 : decode b_Round_reach 23 = .ok (.ireturn, 1) := by decide +kernel
theorem cy_Round_reach : zY y_Round_reach b_Round_reach 2 (some (FieldType.int)) 1 := ⟨kw_359, kw_6, by decide +kernel, by decide +kernel⟩
theorem d_Round_tend_0 : decode b_Round_tend 0 = .ok (.aload_n 0, 1) := by decide +kernel
theorem d_Round_tend_1 : decode b_Round_tend 1 = .ok (.getfield 9, 3) := by decide +kernel
theorem d_Round_tend_4 : decode b_Round_tend 4 = .ok (.iconst 2, 1) := by decide +kernel
theorem d_Round_tend_5 : decode b_Round_tend 5 = .ok (.iconst 3, 1) := by decide +kernel
theorem d_Round_tend_6 : decode b_Round_tend 6 = .ok (.invokevirtual 15, 3) := by decide +kernel
theorem d_Round_tend_9 : decode b_Round_tend 9 = .ok (.aload_n 0, 1) := by decide +kernel
theorem d_Round_tend_10 : decode b_Round_tend 10 = .ok (.iload_n 1, 1) := by decide +kernel
theorem d_Round_tend_11 : decode b_Round_tend 11 = .ok (.invokespecial 28, 3) := by decide +kernel
theorem d_Round_tend_14 : decode b_Round_tend 14 = .ok (.pop, 1) := by decide +kernel
theorem d_Round_tend_15 : decode b_Round_tend 15 = .ok (.aload_n 0, 1) := by decide +kernel
theorem d_Round_tend_16 : decode b_Round_tend 16 = .ok (.iload_n 1, 1) := by decide +kernel
theorem d_Round_tend_17 : decode b_Round_tend 17 = .ok (.iconst 2, 1) := by decide +kernel
theorem d_Round_tend_18 : decode b_Round_tend 18 = .ok (.idiv, 1) := by decide +kernel
theorem d_Round_tend_19 : decode b_Round_tend 19 = .ok (.invokespecial 28, 3) := by decide +kernel
theorem d_Round_tend_22 : decode b_Round_tend 22 = .ok (.ireturn, 1) := by decide +kernel
theorem cy_Round_tend : zY y_Round_tend b_Round_tend 2 (some (FieldType.int)) 1 := ⟨kw_424, kw_6, by decide +kernel, by decide +kernel⟩
theorem d_Swing_init_0 : decode b_Swing_init 0 = .ok (.aload_n 0, 1) := by decide +kernel
theorem d_Swing_init_1 : decode b_Swing_init 1 = .ok (.aload_n 1, 1) := by decide +kernel
theorem d_Swing_init_2 : decode b_Swing_init 2 = .ok (.iload_n 2, 1) := by decide +kernel
theorem d_Swing_init_3 : decode b_Swing_init 3 = .ok (.iload_n 3, 1) := by decide +kernel
theorem d_Swing_init_4 : decode b_Swing_init 4 = .ok (.invokespecial 3, 3) := by decide +kernel
theorem d_Swing_init_7 : decode b_Swing_init 7 = .ok (.return_, 1) := by decide +kernel
theorem cy_Swing_init : zY y_Swing_init b_Swing_init 4 none 3 := ⟨kw_190, kw_9, by decide +kernel, by decide +kernel⟩
theorem d_Swing_burn_0 : decode b_Swing_burn 0 = .ok (.aload_n 0, 1) := by decide +kernel
theorem d_Swing_burn_1 : decode b_Swing_burn 1 = .ok (.getfield 9, 3) := by decide +kernel
theorem d_Swing_burn_4 : decode b_Swing_burn 4 = .ok (.iconst 5, 1) := by decide +kernel
theorem d_Swing_burn_5 : decode b_Swing_burn 5 = .ok (.iconst 0, 1) := by decide +kernel
theorem d_Swing_burn_6 : decode b_Swing_burn 6 = .ok (.invokevirtual 15, 3) := by decide +kernel
theorem d_Swing_burn_9 : decode b_Swing_burn 9 = .ok (.aload_n 0, 1) := by decide +kernel
theorem d_Swing_burn_10 : decode b_Swing_burn 10 = .ok (.iload_n 1, 1) := by decide +kernel
theorem d_Swing_burn_11 : decode b_Swing_burn 11 = .ok (.invokespecial 21, 3) := by decide +kernel
theorem d_Swing_burn_14 : decode b_Swing_burn 14 = .ok (.iload_n 1, 1) := by decide +kernel
theorem d_Swing_burn_15 : decode b_Swing_burn 15 = .ok (.iconst 2, 1) := by decide +kernel
theorem d_Swing_burn_16 : decode b_Swing_burn 16 = .ok (.idiv, 1) := by decide +kernel
theorem d_Swing_burn_17 : decode b_Swing_burn 17 = .ok (.iadd, 1) := by decide +kernel
theorem d_Swing_burn_18 : decode b_Swing_burn 18 = .ok (.ireturn, 1) := by decide +kernel
theorem cy_Swing_burn : zY y_Swing_burn b_Swing_burn 2 (some (FieldType.int)) 1 := ⟨kw_327, kw_9, by decide +kernel, by decide +kernel⟩
theorem d_Swing_flash_0 : decode b_Swing_flash 0 = .ok (.aload_n 0, 1) := by decide +kernel
theorem d_Swing_flash_1 : decode b_Swing_flash 1 = .ok (.getfield 9, 3) := by decide +kernel
theorem d_Swing_flash_4 : decode b_Swing_flash 4 = .ok (.iconst 5, 1) := by decide +kernel
theorem d_Swing_flash_5 : decode b_Swing_flash 5 = .ok (.iconst 2, 1) := by decide +kernel
theorem d_Swing_flash_6 : decode b_Swing_flash 6 = .ok (.invokevirtual 15, 3) := by decide +kernel
theorem d_Swing_flash_9 : decode b_Swing_flash 9 = .ok (.aload_n 0, 1) := by decide +kernel
theorem d_Swing_flash_10 : decode b_Swing_flash 10 = .ok (.iload_n 1, 1) := by decide +kernel
theorem d_Swing_flash_11 : decode b_Swing_flash 11 = .ok (.iconst 3, 1) := by decide +kernel
theorem d_Swing_flash_12 : decode b_Swing_flash 12 = .ok (.idiv, 1) := by decide +kernel
theorem d_Swing_flash_13 : decode b_Swing_flash 13 = .ok (.invokespecial 25, 3) := by decide +kernel
theorem d_Swing_flash_16 : decode b_Swing_flash 16 = .ok (.ireturn, 1) := by decide +kernel
theorem cy_Swing_flash : zY y_Swing_flash b_Swing_flash 2 (some (FieldType.int)) 1 := ⟨kw_400, kw_9, by decide +kernel, by decide +kernel⟩
theorem d_Swing_horn_0 : decode b_Swing_horn 0 = .ok (.aload_n 0, 1) := by decide +kernel
theorem d_Swing_horn_1 : decode b_Swing_horn 1 = .ok (.getfield 9, 3) := by decide +kernel
theorem d_Swing_horn_4 : decode b_Swing_horn 4 = .ok (.iconst 5, 1) := by decide +kernel
theorem d_Swing_horn_5 : decode b_Swing_horn 5 = .ok (.iconst 5, 1) := by decide +kernel
theorem d_Swing_horn_6 : decode b_Swing_horn 6 = .ok (.invokevirtual 15, 3) := by decide +kernel
theorem d_Swing_horn_9 : decode b_Swing_horn 9 = .ok (.aload_n 0, 1) := by decide +kernel
theorem d_Swing_horn_10 : decode b_Swing_horn 10 = .ok (.invokevirtual 28, 3) := by decide +kernel
theorem d_Swing_horn_13 : decode b_Swing_horn 13 = .ok (.iload_n 1, 1) := by decide +kernel
theorem d_Swing_horn_14 : decode b_Swing_horn 14 = .ok (.iadd, 1) := by decide +kernel
theorem d_Swing_horn_15 : decode b_Swing_horn 15 = .ok (.ireturn, 1) := by decide +kernel
theorem cy_Swing_horn : zY y_Swing_horn b_Swing_horn 2 (some (FieldType.int)) 1 := ⟨kw_479, kw_9, by decide +kernel, by decide +kernel⟩
theorem d_Twin_init_0 : decode b_Twin_init 0 = .ok (.aload_n 0, 1) := by decide +kernel
theorem d_Twin_init_1 : decode b_Twin_init 1 = .ok (.aload_n 1, 1) := by decide +kernel
theorem d_Twin_init_2 : decode b_Twin_init 2 = .ok (.iload_n 2, 1) := by decide +kernel
theorem d_Twin_init_3 : decode b_Twin_init 3 = .ok (.iload_n 3, 1) := by decide +kernel
theorem d_Twin_init_4 : decode b_Twin_init 4 = .ok (.invokespecial 3, 3) := by decide +kernel
theorem d_Twin_init_7 : decode b_Twin_init 7 = .ok (.return_, 1) := by decide +kernel
theorem cy_Twin_init : zY y_Twin_init b_Twin_init 4 none 3 := ⟨kw_164, kw_7, by decide +kernel, by decide +kernel⟩
theorem d_Twin_horned_0 : decode b_Twin_horned 0 = .ok (.iconst 1, 1) := by decide +kernel
theorem d_Twin_horned_1 : decode b_Twin_horned 1 = .ok (.ireturn, 1) := by decide +kernel
theorem cy_Twin_horned : zY y_Twin_horned b_Twin_horned 1 (some (FieldType.boolean)) 0 := ⟨kw_276, kw_7, by decide +kernel, by decide +kernel⟩
theorem d_Twin_burn_0 : decode b_Twin_burn 0 = .ok (.aload_n 0, 1) := by decide +kernel
theorem d_Twin_burn_1 : decode b_Twin_burn 1 = .ok (.getfield 9, 3) := by decide +kernel
theorem d_Twin_burn_4 : decode b_Twin_burn 4 = .ok (.iconst 3, 1) := by decide +kernel
theorem d_Twin_burn_5 : decode b_Twin_burn 5 = .ok (.iconst 0, 1) := by decide +kernel
theorem d_Twin_burn_6 : decode b_Twin_burn 6 = .ok (.invokevirtual 15, 3) := by decide +kernel
theorem d_Twin_burn_9 : decode b_Twin_burn 9 = .ok (.aload_n 0, 1) := by decide +kernel
theorem d_Twin_burn_10 : decode b_Twin_burn 10 = .ok (.iload_n 1, 1) := by decide +kernel
theorem d_Twin_burn_11 : decode b_Twin_burn 11 = .ok (.invokespecial 21, 3) := by decide +kernel
theorem d_Twin_burn_14 : decode b_Twin_burn 14 = .ok (.istore_n 2, 1) := by decide +kernel
theorem d_Twin_burn_15 : decode b_Twin_burn 15 = .ok (.iload_n 2, 1) := by decide +kernel
theorem d_Twin_burn_16 : decode b_Twin_burn 16 = .ok (.aload_n 0, 1) := by decide +kernel
theorem d_Twin_burn_17 : decode b_Twin_burn 17 = .ok (.iload_n 1, 1) := by decide +kernel
theorem d_Twin_burn_18 : decode b_Twin_burn 18 = .ok (.invokespecial 21, 3) := by decide +kernel
theorem d_Twin_burn_21 : decode b_Twin_burn 21 = .ok (.iadd, 1) := by decide +kernel
theorem d_Twin_burn_22 : decode b_Twin_burn 22 = .ok (.ireturn, 1) := by decide +kernel
theorem cy_Twin_burn : zY y_Twin_burn b_Twin_burn 3 (some (FieldType.int)) 1 := ⟨kw_301, kw_7, by decide +kernel, by decide +kernel⟩
theorem d_Twin_reach_0 : decode b_Twin_reach 0 = .ok (.aload_n 0, 1) := by decide +kernel
theorem d_Twin_reach_1 : decode b_Twin_reach 1 = .ok (.getfield 9, 3) := by decide +kernel
theorem d_Twin_reach_4 : decode b_Twin_reach 4 = .ok (.iconst 3, 1) := by decide +kernel
theorem d_Twin_reach_5 : decode b_Twin_reach 5 = .ok (.iconst 1, 1) := by decide +kernel
theorem d_Twin_reach_6 : decode b_Twin_reach 6 = .ok (.invokevirtual 15, 3) := by decide +kernel
theorem d_Twin_reach_9 : decode b_Twin_reach 9 = .ok (.aload_n 0, 1) := by decide +kernel
theorem d_Twin_reach_10 : decode b_Twin_reach 10 = .ok (.iload_n 1, 1) := by decide +kernel
theorem d_Twin_reach_11 : decode b_Twin_reach 11 = .ok (.invokespecial 25, 3) := by decide +kernel
theorem d_Twin_reach_14 : decode b_Twin_reach 14 = .ok (.istore_n 2, 1) := by decide +kernel
theorem d_Twin_reach_15 : decode b_Twin_reach 15 = .ok (.iload_n 2, 1) := by decide +kernel
theorem d_Twin_reach_16 : decode b_Twin_reach 16 = .ok (.aload_n 0, 1) := by decide +kernel
theorem d_Twin_reach_17 : decode b_Twin_reach 17 = .ok (.iload_n 1, 1) := by decide +kernel
theorem d_Twin_reach_18 : decode b_Twin_reach 18 = .ok (.iconst 1, 1) := by decide +kernel
theorem d_Twin_reach_19 : decode b_Twin_reach 19 = .ok (.iadd, 1) := by decide +kernel
theorem d_Twin_reach_20 : decode b_Twin_reach 20 = .ok (.invokespecial 25, 3) := by decide +kernel
theorem d_Twin_reach_23 : decode b_Twin_reach 23 = .ok (.iconst 2, 1) := by decide +kernel
theorem d_Twin_reach_24 : decode b_Twin_reach 24 = .ok (.idiv, 1) := by decide +kernel
theorem d_Twin_reach_25 : decode b_Twin_reach 25 = .ok (.iadd, 1) := by decide +kernel
theorem d_Twin_reach_26 : decode b_Twin_reach 26 = .ok (.ireturn, 1) := by decide +kernel
theorem cy_Twin_reach : zY y_Twin_reach b_Twin_reach 3 (some (FieldType.int)) 1 := ⟨kw_356, kw_7, by decide +kernel, by decide +kernel⟩
theorem d_Twin_flash_0 : decode b_Twin_flash 0 = .ok (.aload_n 0, 1) := by decide +kernel
theorem d_Twin_flash_1 : decode b_Twin_flash 1 = .ok (.getfield 9, 3) := by decide +kernel
theorem d_Twin_flash_4 : decode b_Twin_flash 4 = .ok (.iconst 3, 1) := by decide +kernel
theorem d_Twin_flash_5 : decode b_Twin_flash 5 = .ok (.iconst 2, 1) := by decide +kernel
theorem d_Twin_flash_6 : decode b_Twin_flash 6 = .ok (.invokevirtual 15, 3) := by decide +kernel
theorem d_Twin_flash_9 : decode b_Twin_flash 9 = .ok (.iload_n 1, 1) := by decide +kernel
theorem d_Twin_flash_10 : decode b_Twin_flash 10 = .ok (.iconst 3, 1) := by decide +kernel
theorem d_Twin_flash_11 : decode b_Twin_flash 11 = .ok (.iand, 1) := by decide +kernel
theorem d_Twin_flash_12 : decode b_Twin_flash 12 = .ok (.ifCond .ne 7, 3) := by decide +kernel
theorem d_Twin_flash_15 : decode b_Twin_flash 15 = .ok (.iconst 0, 1) := by decide +kernel
theorem d_Twin_flash_16 : decode b_Twin_flash 16 = .ok (.goto 8, 3) := by decide +kernel
theorem d_Twin_flash_19 : decode b_Twin_flash 19 = .ok (.aload_n 0, 1) := by decide +kernel
theorem d_Twin_flash_20 : decode b_Twin_flash 20 = .ok (.iload_n 1, 1) := by decide +kernel
theorem d_Twin_flash_21 : decode b_Twin_flash 21 = .ok (.invokespecial 28, 3) := by decide +kernel
theorem d_Twin_flash_24 : decode b_Twin_flash 24 = .ok (.ireturn, 1) := by decide +kernel
theorem cy_Twin_flash : zY y_Twin_flash b_Twin_flash 2 (some (FieldType.int)) 1 := ⟨kw_385, kw_7, by decide +kernel, by decide +kernel⟩
theorem d_X_init_0 : decode b_X_init 0 = .ok (.aload_n 0, 1) := by decide +kernel
theorem d_X_init_1 : decode b_X_init 1 = .ok (.invokespecial 3, 3) := by decide +kernel
theorem d_X_init_4 : decode b_X_init 4 = .ok (.aload_n 0, 1) := by decide +kernel
theorem d_X_init_5 : decode b_X_init 5 = .ok (.new 9, 3) := by decide +kernel
theorem d_X_init_8 : decode b_X_init 8 = .ok (.dup, 1) := by decide +kernel
theorem d_X_init_9 : decode b_X_init 9 = .ok (.invokespecial 11, 3) := by decide +kernel
theorem d_X_init_12 : decode b_X_init 12 = .ok (.putfield 12, 3) := by decide +kernel
theorem d_X_init_15 : decode b_X_init 15 = .ok (.aload_n 0, 1) := by decide +kernel
theorem d_X_init_16 : decode b_X_init 16 = .ok (.bipush 60, 2) := by decide +kernel
theorem d_X_init_18 : decode b_X_init 18 = .ok (.anewarray 16, 3) := by decide +kernel
theorem d_X_init_21 : decode b_X_init 21 = .ok (.putfield 18, 3) := by decide +kernel
theorem d_X_init_24 : decode b_X_init 24 = .ok (.return_, 1) := by decide +kernel
theorem cy_X_init : zY y_X_init b_X_init 1 none 0 := ⟨kw_19, kw_1, by decide +kernel, by decide +kernel⟩
theorem d_X_dial_0 : decode b_X_dial 0 = .ok (.iload_n 1, 1) := by decide +kernel
theorem d_X_dial_1 : decode b_X_dial 1 = .ok (.iconst 0, 1) := by decide +kernel
theorem d_X_dial_2 : decode b_X_dial 2 = .ok (.bipush 7, 2) := by decide +kernel
theorem d_X_dial_4 : decode b_X_dial 4 = .ok (.invokestatic 22, 3) := by decide +kernel
theorem d_X_dial_7 : decode b_X_dial 7 = .ok (.ifCond .eq 14, 3) := by decide +kernel
theorem d_X_dial_10 : decode b_X_dial 10 = .ok (.iload_n 2, 1) := by decide +kernel
theorem d_X_dial_11 : decode b_X_dial 11 = .ok (.iconst 0, 1) := by decide +kernel
theorem d_X_dial_12 : decode b_X_dial 12 = .ok (.sipush 1000, 3) := by decide +kernel
theorem d_X_dial_15 : decode b_X_dial 15 = .ok (.invokestatic 22, 3) := by decide +kernel
theorem d_X_dial_18 : decode b_X_dial 18 = .ok (.ifCond .ne 5, 3) := by decide +kernel
theorem d_X_dial_21 : decode b_X_dial 21 = .ok (.iconst (-1), 1) := by decide +kernel
theorem d_X_dial_22 : decode b_X_dial 22 = .ok (.ireturn, 1) := by decide +kernel
theorem d_X_dial_23 : decode b_X_dial 23 = .ok (.aload_n 0, 1) := by decide +kernel
theorem d_X_dial_24 : decode b_X_dial 24 = .ok (.getfield 12, 3) := by decide +kernel
theorem d_X_dial_27 : decode b_X_dial 27 = .ok (.iload_n 1, 1) := by decide +kernel
theorem d_X_dial_28 : decode b_X_dial 28 = .ok (.invokevirtual 26, 3) := by decide +kernel
theorem d_X_dial_31 : decode b_X_dial 31 = .ok (.istore_n 3, 1) := by decide +kernel
theorem d_X_dial_32 : decode b_X_dial 32 = .ok (.aload_n 0, 1) := by decide +kernel
theorem d_X_dial_33 : decode b_X_dial 33 = .ok (.getfield 12, 3) := by decide +kernel
theorem d_X_dial_36 : decode b_X_dial 36 = .ok (.iload_n 1, 1) := by decide +kernel
theorem d_X_dial_37 : decode b_X_dial 37 = .ok (.iload_n 2, 1) := by decide +kernel
theorem d_X_dial_38 : decode b_X_dial 38 = .ok (.invokevirtual 30, 3) := by decide +kernel
theorem d_X_dial_41 : decode b_X_dial 41 = .ok (.iload_n 3, 1) := by decide +kernel
theorem d_X_dial_42 : decode b_X_dial 42 = .ok (.ireturn, 1) := by decide +kernel
theorem cy_X_dial : zY y_X_dial b_X_dial 4 (some (FieldType.int)) 2 := ⟨kw_68, kw_1, by decide +kernel, by decide +kernel⟩
theorem d_X_lamp_0 : decode b_X_lamp 0 = .ok (.iload_n 1, 1) := by decide +kernel
theorem d_X_lamp_1 : decode b_X_lamp 1 = .ok (.iconst 1, 1) := by decide +kernel
theorem d_X_lamp_2 : decode b_X_lamp 2 = .ok (.bipush 9, 2) := by decide +kernel
theorem d_X_lamp_4 : decode b_X_lamp 4 = .ok (.invokestatic 22, 3) := by decide +kernel
theorem d_X_lamp_7 : decode b_X_lamp 7 = .ok (.ifCond .eq 14, 3) := by decide +kernel
theorem d_X_lamp_10 : decode b_X_lamp 10 = .ok (.iload_n 2, 1) := by decide +kernel
theorem d_X_lamp_11 : decode b_X_lamp 11 = .ok (.iconst 0, 1) := by decide +kernel
theorem d_X_lamp_12 : decode b_X_lamp 12 = .ok (.sipush 500, 3) := by decide +kernel
theorem d_X_lamp_15 : decode b_X_lamp 15 = .ok (.invokestatic 22, 3) := by decide +kernel
theorem d_X_lamp_18 : decode b_X_lamp 18 = .ok (.ifCond .ne 5, 3) := by decide +kernel
theorem d_X_lamp_21 : decode b_X_lamp 21 = .ok (.iconst (-1), 1) := by decide +kernel
theorem d_X_lamp_22 : decode b_X_lamp 22 = .ok (.ireturn, 1) := by decide +kernel
theorem d_X_lamp_23 : decode b_X_lamp 23 = .ok (.aload_n 0, 1) := by decide +kernel
theorem d_X_lamp_24 : decode b_X_lamp 24 = .ok (.getfield 34, 3) := by decide +kernel
theorem d_X_lamp_27 : decode b_X_lamp 27 = .ok (.aload_n 0, 1) := by decide +kernel
theorem d_X_lamp_28 : decode b_X_lamp 28 = .ok (.getfield 18, 3) := by decide +kernel
theorem d_X_lamp_31 : decode b_X_lamp 31 = .ok (.arraylength, 1) := by decide +kernel
theorem d_X_lamp_32 : decode b_X_lamp 32 = .ok (.if_icmp .lt 6, 3) := by decide +kernel
theorem d_X_lamp_35 : decode b_X_lamp 35 = .ok (.bipush (-2), 2) := by decide +kernel
theorem d_X_lamp_37 : decode b_X_lamp 37 = .ok (.ireturn, 1) := by decide +kernel
theorem d_X_lamp_38 : decode b_X_lamp 38 = .ok (.aload_n 0, 1) := by decide +kernel
theorem d_X_lamp_39 : decode b_X_lamp 39 = .ok (.getfield 34, 3) := by decide +kernel
theorem d_X_lamp_42 : decode b_X_lamp 42 = .ok (.istore_n 3, 1) := by decide +kernel
theorem d_X_lamp_43 : decode b_X_lamp 43 = .ok (.aload_n 0, 1) := by decide +kernel
theorem d_X_lamp_44 : decode b_X_lamp 44 = .ok (.getfield 18, 3) := by decide +kernel
theorem d_X_lamp_47 : decode b_X_lamp 47 = .ok (.iload_n 3, 1) := by decide +kernel
theorem d_X_lamp_48 : decode b_X_lamp 48 = .ok (.aload_n 0, 1) := by decide +kernel
theorem d_X_lamp_49 : decode b_X_lamp 49 = .ok (.iload_n 1, 1) := by decide +kernel
theorem d_X_lamp_50 : decode b_X_lamp 50 = .ok (.iload_n 2, 1) := by decide +kernel
theorem d_X_lamp_51 : decode b_X_lamp 51 = .ok (.invokevirtual 38, 3) := by decide +kernel
theorem d_X_lamp_54 : decode b_X_lamp 54 = .ok (.aastore, 1) := by decide +kernel
theorem d_X_lamp_55 : decode b_X_lamp 55 = .ok (.aload_n 0, 1) := by decide +kernel
theorem d_X_lamp_56 : decode b_X_lamp 56 = .ok (.dup, 1) := by decide +kernel
theorem d_X_lamp_57 : decode b_X_lamp 57 = .ok (.getfield 34, 3) := by decide +kernel
theorem d_X_lamp_60 : decode b_X_lamp 60 = .ok (.iconst 1, 1) := by decide +kernel
theorem d_X_lamp_61 : decode b_X_lamp 61 = .ok (.iadd, 1) := by decide +kernel
theorem d_X_lamp_62 : decode b_X_lamp 62 = .ok (.putfield 34, 3) := by decide +kernel
theorem d_X_lamp_65 : decode b_X_lamp 65 = .ok (.iload_n 3, 1) := by decide +kernel
theorem d_X_lamp_66 : decode b_X_lamp 66 = .ok (.ireturn, 1) := by decide +kernel
theorem cy_X_lamp : zY y_X_lamp b_X_lamp 4 (some (FieldType.int)) 2 := ⟨kw_83, kw_1, by decide +kernel, by decide +kernel⟩
theorem d_X_ask_0 : decode b_X_ask 0 = .ok (.aload_n 0, 1) := by decide +kernel
theorem d_X_ask_1 : decode b_X_ask 1 = .ok (.iload_n 1, 1) := by decide +kernel
theorem d_X_ask_2 : decode b_X_ask 2 = .ok (.invokevirtual 42, 3) := by decide +kernel
theorem d_X_ask_5 : decode b_X_ask 5 = .ok (.astore 4, 2) := by decide +kernel
theorem d_X_ask_7 : decode b_X_ask 7 = .ok (.aload 4, 2) := by decide +kernel
theorem d_X_ask_9 : decode b_X_ask 9 = .ok (.ifnull 13, 3) := by decide +kernel
theorem d_X_ask_12 : decode b_X_ask 12 = .ok (.iload_n 2, 1) := by decide +kernel
theorem d_X_ask_13 : decode b_X_ask 13 = .ok (.iconst 0, 1) := by decide +kernel
theorem d_X_ask_14 : decode b_X_ask 14 = .ok (.bipush 6, 2) := by decide +kernel
theorem d_X_ask_16 : decode b_X_ask 16 = .ok (.invokestatic 22, 3) := by decide +kernel
theorem d_X_ask_19 : decode b_X_ask 19 = .ok (.ifCond .ne 7, 3) := by decide +kernel
theorem d_X_ask_22 : decode b_X_ask 22 = .ok (.ldc2_w 46, 3) := by decide +kernel
theorem d_X_ask_25 : decode b_X_ask 25 = .ok (.lreturn, 1) := by decide +kernel
theorem d_X_ask_26 : decode b_X_ask 26 = .ok (.aload_n 0, 1) := by decide +kernel
theorem d_X_ask_27 : decode b_X_ask 27 = .ok (.invokevirtual 48, 3) := by decide +kernel
theorem d_X_ask_30 : decode b_X_ask 30 = .ok (.iload_n 2, 1) := by decide +kernel
theorem d_X_ask_31 : decode b_X_ask 31 = .ok (.iconst 5, 1) := by decide +kernel
theorem d_X_ask_32 : decode b_X_ask 32 = .ok (.if_icmp .lt 15, 3) := by decide +kernel
theorem d_X_ask_35 : decode b_X_ask 35 = .ok (.aload 4, 2) := by decide +kernel
theorem d_X_ask_37 : decode b_X_ask 37 = .ok (.invokevirtual 51, 3) := by decide +kernel
theorem d_X_ask_40 : decode b_X_ask 40 = .ok (.ifCond .ne 7, 3) := by decide +kernel
theorem d_X_ask_43 : decode b_X_ask 43 = .ok (.ldc2_w 55, 3) := by decide +kernel
theorem d_X_ask_46 : decode b_X_ask 46 = .ok (.lreturn, 1) := by decide +kernel
theorem d_X_ask_47 : decode b_X_ask 47 = .ok (.iload_n 2, 1) := by decide +kernel
theorem d_X_ask_48 : decode b_X_ask 48 = .ok (.tableswitch 87 0 5 #[40, 48, 56, 64, 72, 79], 40) := by decide +kernel
theorem d_X_ask_88 : decode b_X_ask 88 = .ok (.aload 4, 2) := by decide +kernel
theorem d_X_ask_90 : decode b_X_ask 90 = .ok (.iload_n 3, 1) := by decide +kernel
theorem d_X_ask_91 : decode b_X_ask 91 = .ok (.invokevirtual 57, 3) := by decide +kernel
theorem d_X_ask_94 : decode b_X_ask 94 = .ok (.i2l, 1) := by decide +kernel
theorem d_X_ask_95 : decode b_X_ask 95 = .ok (.lreturn, 1) := by decide +kernel
theorem d_X_ask_96 : decode b_X_ask 96 = .ok (.aload 4, 2) := by decide +kernel
theorem d_X_ask_98 : decode b_X_ask 98 = .ok (.iload_n 3, 1) := by decide +kernel
theorem d_X_ask_99 : decode b_X_ask 99 = .ok (.invokevirtual 60, 3) := by decide +kernel
theorem d_X_ask_102 : decode b_X_ask 102 = .ok (.i2l, 1) := by decide +kernel
theorem d_X_ask_103 : decode b_X_ask 103 = .ok (.lreturn, 1) := by decide +kernel
theorem d_X_ask_104 : decode b_X_ask 104 = .ok (.aload 4, 2) := by decide +kernel
theorem d_X_ask_106 : decode b_X_ask 106 = .ok (.iload_n 3, 1) := by decide +kernel
theorem d_X_ask_107 : decode b_X_ask 107 = .ok (.invokevirtual 63, 3) := by decide +kernel
theorem d_X_ask_110 : decode b_X_ask 110 = .ok (.i2l, 1) := by decide +kernel
theorem d_X_ask_111 : decode b_X_ask 111 = .ok (.lreturn, 1) := by decide +kernel
theorem d_X_ask_112 : decode b_X_ask 112 = .ok (.aload 4, 2) := by decide +kernel
theorem d_X_ask_114 : decode b_X_ask 114 = .ok (.iload_n 3, 1) := by decide +kernel
theorem d_X_ask_115 : decode b_X_ask 115 = .ok (.invokevirtual 66, 3) := by decide +kernel
theorem d_X_ask_118 : decode b_X_ask 118 = .ok (.i2l, 1) := by decide +kernel
theorem d_X_ask_119 : decode b_X_ask 119 = .ok (.lreturn, 1) := by decide +kernel
theorem d_X_ask_120 : decode b_X_ask 120 = .ok (.aload 4, 2) := by decide +kernel
theorem d_X_ask_122 : decode b_X_ask 122 = .ok (.invokevirtual 69, 3) := by decide +kernel
theorem d_X_ask_125 : decode b_X_ask 125 = .ok (.i2l, 1) := by decide +kernel
theorem d_X_ask_126 : decode b_X_ask 126 = .ok (.lreturn, 1) := by decide +kernel
theorem d_X_ask_127 : decode b_X_ask 127 = .ok (.aload 4, 2) := by decide +kernel
theorem d_X_ask_129 : decode b_X_ask 129 = .ok (.iload_n 3, 1) := by decide +kernel
theorem d_X_ask_130 : decode b_X_ask 130 = .ok (.invokevirtual 73, 3) := by decide +kernel
theorem d_X_ask_133 : decode b_X_ask 133 = .ok (.i2l, 1) := by decide +kernel
theorem d_X_ask_134 : decode b_X_ask 134 = .ok (.lreturn, 1) := by decide +kernel
theorem d_X_ask_135 : decode b_X_ask 135 = .ok (.aload 4, 2) := by decide +kernel
theorem d_X_ask_137 : decode b_X_ask 137 = .ok (.invokevirtual 76, 3) := by decide +kernel
theorem d_X_ask_140 : decode b_X_ask 140 = .ok (.i2l, 1) := by decide +kernel
theorem d_X_ask_141 : decode b_X_ask 141 = .ok (.lreturn, 1) := by decide +kernel
theorem cy_X_ask : zY y_X_ask b_X_ask 5 (some (FieldType.long)) 3 := ⟨kw_254, kw_1, by decide +kernel, by decide +kernel⟩
theorem d_X_trace_0 : decode b_X_trace 0 = .ok (.iload_n 1, 1) := by decide +kernel
theorem d_X_trace_1 : decode b_X_trace 1 = .ok (.iconst 0, 1) := by decide +kernel
theorem d_X_trace_2 : decode b_X_trace 2 = .ok (.aload_n 0, 1) := by decide +kernel
theorem d_X_trace_3 : decode b_X_trace 3 = .ok (.getfield 12, 3) := by decide +kernel
theorem d_X_trace_6 : decode b_X_trace 6 = .ok (.getfield 79, 3) := by decide +kernel
theorem d_X_trace_9 : decode b_X_trace 9 = .ok (.iconst 1, 1) := by decide +kernel
theorem d_X_trace_10 : decode b_X_trace 10 = .ok (.isub, 1) := by decide +kernel
theorem d_X_trace_11 : decode b_X_trace 11 = .ok (.invokestatic 22, 3) := by decide +kernel
theorem d_X_trace_14 : decode b_X_trace 14 = .ok (.ifCond .eq 14, 3) := by decide +kernel
theorem d_X_trace_17 : decode b_X_trace 17 = .ok (.aload_n 0, 1) := by decide +kernel
theorem d_X_trace_18 : decode b_X_trace 18 = .ok (.getfield 12, 3) := by decide +kernel
theorem d_X_trace_21 : decode b_X_trace 21 = .ok (.iload_n 1, 1) := by decide +kernel
theorem d_X_trace_22 : decode b_X_trace 22 = .ok (.invokevirtual 82, 3) := by decide +kernel
theorem d_X_trace_25 : decode b_X_trace 25 = .ok (.goto 4, 3) := by decide +kernel
theorem d_X_trace_28 : decode b_X_trace 28 = .ok (.iconst (-1), 1) := by decide +kernel
theorem d_X_trace_29 : decode b_X_trace 29 = .ok (.ireturn, 1) := by decide +kernel
theorem cy_X_trace : zY y_X_trace b_X_trace 2 (some (FieldType.int)) 1 := ⟨kw_519, kw_1, by decide +kernel, by decide +kernel⟩
theorem d_X_haul_0 : decode b_X_haul 0 = .ok (.iload_n 1, 1) := by decide +kernel
theorem d_X_haul_1 : decode b_X_haul 1 = .ok (.iconst 1, 1) := by decide +kernel
theorem d_X_haul_2 : decode b_X_haul 2 = .ok (.ldc 85, 2) := by decide +kernel
theorem d_X_haul_4 : decode b_X_haul 4 = .ok (.invokestatic 22, 3) := by decide +kernel
theorem d_X_haul_7 : decode b_X_haul 7 = .ok (.ifCond .ne 7, 3) := by decide +kernel
theorem d_X_haul_10 : decode b_X_haul 10 = .ok (.ldc2_w 46, 3) := by decide +kernel
theorem d_X_haul_13 : decode b_X_haul 13 = .ok (.lreturn, 1) := by decide +kernel
theorem d_X_haul_14 : decode b_X_haul 14 = .ok (.aload_n 0, 1) := by decide +kernel
theorem d_X_haul_15 : decode b_X_haul 15 = .ok (.dup, 1) := by decide +kernel
theorem d_X_haul_16 : decode b_X_haul 16 = .ok (.getfield 86, 3) := by decide +kernel
theorem d_X_haul_19 : decode b_X_haul 19 = .ok (.iload_n 1, 1) := by decide +kernel
theorem d_X_haul_20 : decode b_X_haul 20 = .ok (.i2l, 1) := by decide +kernel
theorem d_X_haul_21 : decode b_X_haul 21 = .ok (.ladd, 1) := by decide +kernel
theorem d_X_haul_22 : decode b_X_haul 22 = .ok (.putfield 86, 3) := by decide +kernel
theorem d_X_haul_25 : decode b_X_haul 25 = .ok (.aload_n 0, 1) := by decide +kernel
theorem d_X_haul_26 : decode b_X_haul 26 = .ok (.getfield 86, 3) := by decide +kernel
theorem d_X_haul_29 : decode b_X_haul 29 = .ok (.lreturn, 1) := by decide +kernel
theorem cy_X_haul : zY y_X_haul b_X_haul 2 (some (FieldType.long)) 1 := ⟨kw_527, kw_1, by decide +kernel, by decide +kernel⟩
theorem d_X_fill_0 : decode b_X_fill 0 = .ok (.aload_n 0, 1) := by decide +kernel
theorem d_X_fill_1 : decode b_X_fill 1 = .ok (.iload_n 1, 1) := by decide +kernel
theorem d_X_fill_2 : decode b_X_fill 2 = .ok (.invokevirtual 42, 3) := by decide +kernel
theorem d_X_fill_5 : decode b_X_fill 5 = .ok (.astore_n 3, 1) := by decide +kernel
theorem d_X_fill_6 : decode b_X_fill 6 = .ok (.aload_n 3, 1) := by decide +kernel
theorem d_X_fill_7 : decode b_X_fill 7 = .ok (.ifnull 13, 3) := by decide +kernel
theorem d_X_fill_10 : decode b_X_fill 10 = .ok (.iload_n 2, 1) := by decide +kernel
theorem d_X_fill_11 : decode b_X_fill 11 = .ok (.iconst 1, 1) := by decide +kernel
theorem d_X_fill_12 : decode b_X_fill 12 = .ok (.ldc 85, 2) := by decide +kernel
theorem d_X_fill_14 : decode b_X_fill 14 = .ok (.invokestatic 22, 3) := by decide +kernel
theorem d_X_fill_17 : decode b_X_fill 17 = .ok (.ifCond .ne 5, 3) := by decide +kernel
theorem d_X_fill_20 : decode b_X_fill 20 = .ok (.iconst (-1), 1) := by decide +kernel
theorem d_X_fill_21 : decode b_X_fill 21 = .ok (.ireturn, 1) := by decide +kernel
theorem d_X_fill_22 : decode b_X_fill 22 = .ok (.aload_n 0, 1) := by decide +kernel
theorem d_X_fill_23 : decode b_X_fill 23 = .ok (.getfield 86, 3) := by decide +kernel
theorem d_X_fill_26 : decode b_X_fill 26 = .ok (.iload_n 2, 1) := by decide +kernel
theorem d_X_fill_27 : decode b_X_fill 27 = .ok (.i2l, 1) := by decide +kernel
theorem d_X_fill_28 : decode b_X_fill 28 = .ok (.lcmp, 1) := by decide +kernel
theorem d_X_fill_29 : decode b_X_fill 29 = .ok (.ifCond .ge 6, 3) := by decide +kernel
theorem d_X_fill_32 : decode b_X_fill 32 = .ok (.bipush (-3), 2) := by decide +kernel
theorem d_X_fill_34 : decode b_X_fill 34 = .ok (.ireturn, 1) := by decide +kernel
theorem d_X_fill_35 : decode b_X_fill 35 = .ok (.aload_n 3, 1) := by decide +kernel
theorem d_X_fill_36 : decode b_X_fill 36 = .ok (.getfield 90, 3) := by decide +kernel
theorem d_X_fill_39 : decode b_X_fill 39 = .ok (.iload_n 2, 1) := by decide +kernel
theorem d_X_fill_40 : decode b_X_fill 40 = .ok (.iadd, 1) := by decide +kernel
theorem d_X_fill_41 : decode b_X_fill 41 = .ok (.ldc 93, 2) := by decide +kernel
theorem d_X_fill_43 : decode b_X_fill 43 = .ok (.if_icmp .le 6, 3) := by decide +kernel
theorem d_X_fill_46 : decode b_X_fill 46 = .ok (.bipush (-2), 2) := by decide +kernel
theorem d_X_fill_48 : decode b_X_fill 48 = .ok (.ireturn, 1) := by decide +kernel
theorem d_X_fill_49 : decode b_X_fill 49 = .ok (.aload_n 0, 1) := by decide +kernel
theorem d_X_fill_50 : decode b_X_fill 50 = .ok (.dup, 1) := by decide +kernel
theorem d_X_fill_51 : decode b_X_fill 51 = .ok (.getfield 86, 3) := by decide +kernel
theorem d_X_fill_54 : decode b_X_fill 54 = .ok (.iload_n 2, 1) := by decide +kernel
theorem d_X_fill_55 : decode b_X_fill 55 = .ok (.i2l, 1) := by decide +kernel
theorem d_X_fill_56 : decode b_X_fill 56 = .ok (.lsub, 1) := by decide +kernel
theorem d_X_fill_57 : decode b_X_fill 57 = .ok (.putfield 86, 3) := by decide +kernel
theorem d_X_fill_60 : decode b_X_fill 60 = .ok (.aload_n 3, 1) := by decide +kernel
theorem d_X_fill_61 : decode b_X_fill 61 = .ok (.dup, 1) := by decide +kernel
theorem d_X_fill_62 : decode b_X_fill 62 = .ok (.getfield 90, 3) := by decide +kernel
theorem d_X_fill_65 : decode b_X_fill 65 = .ok (.iload_n 2, 1) := by decide +kernel
theorem d_X_fill_66 : decode b_X_fill 66 = .ok (.iadd, 1) := by decide +kernel
theorem d_X_fill_67 : decode b_X_fill 67 = .ok (.putfield 90, 3) := by decide +kernel
theorem d_X_fill_70 : decode b_X_fill 70 = .ok (.aload_n 3, 1) := by decide +kernel
theorem d_X_fill_71 : decode b_X_fill 71 = .ok (.getfield 90, 3) := by decide +kernel
theorem d_X_fill_74 : decode b_X_fill 74 = .ok (.ireturn, 1) := by decide +kernel
theorem cy_X_fill : zY y_X_fill b_X_fill 4 (some (FieldType.int)) 2 := ⟨kw_532, kw_1, by decide +kernel, by decide +kernel⟩
theorem d_X_light_0 : decode b_X_light 0 = .ok (.aload_n 0, 1) := by decide +kernel
theorem d_X_light_1 : decode b_X_light 1 = .ok (.iload_n 1, 1) := by decide +kernel
theorem d_X_light_2 : decode b_X_light 2 = .ok (.invokevirtual 42, 3) := by decide +kernel
theorem d_X_light_5 : decode b_X_light 5 = .ok (.astore_n 3, 1) := by decide +kernel
theorem d_X_light_6 : decode b_X_light 6 = .ok (.aload_n 3, 1) := by decide +kernel
theorem d_X_light_7 : decode b_X_light 7 = .ok (.ifnonnull 5, 3) := by decide +kernel
theorem d_X_light_10 : decode b_X_light 10 = .ok (.iconst (-1), 1) := by decide +kernel
theorem d_X_light_11 : decode b_X_light 11 = .ok (.ireturn, 1) := by decide +kernel
theorem d_X_light_12 : decode b_X_light 12 = .ok (.aload_n 3, 1) := by decide +kernel
theorem d_X_light_13 : decode b_X_light 13 = .ok (.getfield 94, 3) := by decide +kernel
theorem d_X_light_16 : decode b_X_light 16 = .ok (.iload_n 2, 1) := by decide +kernel
theorem d_X_light_17 : decode b_X_light 17 = .ok (.if_icmp .ne 5, 3) := by decide +kernel
theorem d_X_light_20 : decode b_X_light 20 = .ok (.iconst 0, 1) := by decide +kernel
theorem d_X_light_21 : decode b_X_light 21 = .ok (.ireturn, 1) := by decide +kernel
theorem d_X_light_22 : decode b_X_light 22 = .ok (.iload_n 2, 1) := by decide +kernel
theorem d_X_light_23 : decode b_X_light 23 = .ok (.ifCond .eq 13, 3) := by decide +kernel
theorem d_X_light_26 : decode b_X_light 26 = .ok (.aload_n 3, 1) := by decide +kernel
theorem d_X_light_27 : decode b_X_light 27 = .ok (.getfield 90, 3) := by decide +kernel
theorem d_X_light_30 : decode b_X_light 30 = .ok (.ifCond .ne 6, 3) := by decide +kernel
theorem d_X_light_33 : decode b_X_light 33 = .ok (.bipush (-3), 2) := by decide +kernel
theorem d_X_light_35 : decode b_X_light 35 = .ok (.ireturn, 1) := by decide +kernel
theorem d_X_light_36 : decode b_X_light 36 = .ok (.aload_n 3, 1) := by decide +kernel
theorem d_X_light_37 : decode b_X_light 37 = .ok (.iload_n 2, 1) := by decide +kernel
theorem d_X_light_38 : decode b_X_light 38 = .ok (.putfield 94, 3) := by decide +kernel
theorem d_X_light_41 : decode b_X_light 41 = .ok (.iconst 1, 1) := by decide +kernel
theorem d_X_light_42 : decode b_X_light 42 = .ok (.ireturn, 1) := by decide +kernel
theorem cy_X_light : zY y_X_light b_X_light 4 (some (FieldType.int)) 2 := ⟨kw_537, kw_1, by decide +kernel, by decide +kernel⟩
theorem d_X_night_0 : decode b_X_night 0 = .ok (.iload_n 1, 1) := by decide +kernel
theorem d_X_night_1 : decode b_X_night 1 = .ok (.iconst 1, 1) := by decide +kernel
theorem d_X_night_2 : decode b_X_night 2 = .ok (.bipush 14, 2) := by decide +kernel
theorem d_X_night_4 : decode b_X_night 4 = .ok (.invokestatic 22, 3) := by decide +kernel
theorem d_X_night_7 : decode b_X_night 7 = .ok (.ifCond .ne 5, 3) := by decide +kernel
theorem d_X_night_10 : decode b_X_night 10 = .ok (.iconst (-1), 1) := by decide +kernel
theorem d_X_night_11 : decode b_X_night 11 = .ok (.ireturn, 1) := by decide +kernel
theorem d_X_night_12 : decode b_X_night 12 = .ok (.aload_n 0, 1) := by decide +kernel
theorem d_X_night_13 : decode b_X_night 13 = .ok (.dup, 1) := by decide +kernel
theorem d_X_night_14 : decode b_X_night 14 = .ok (.getfield 98, 3) := by decide +kernel
theorem d_X_night_17 : decode b_X_night 17 = .ok (.iconst 1, 1) := by decide +kernel
theorem d_X_night_18 : decode b_X_night 18 = .ok (.iadd, 1) := by decide +kernel
theorem d_X_night_19 : decode b_X_night 19 = .ok (.putfield 98, 3) := by decide +kernel
theorem d_X_night_22 : decode b_X_night 22 = .ok (.aload_n 0, 1) := by decide +kernel
theorem d_X_night_23 : decode b_X_night 23 = .ok (.invokevirtual 101, 3) := by decide +kernel
theorem d_X_night_26 : decode b_X_night 26 = .ok (.ifCond .ne 5, 3) := by decide +kernel
theorem d_X_night_29 : decode b_X_night 29 = .ok (.iconst 0, 1) := by decide +kernel
theorem d_X_night_30 : decode b_X_night 30 = .ok (.ireturn, 1) := by decide +kernel
theorem d_X_night_31 : decode b_X_night 31 = .ok (.aload_n 0, 1) := by decide +kernel
theorem d_X_night_32 : decode b_X_night 32 = .ok (.invokevirtual 48, 3) := by decide +kernel
theorem d_X_night_35 : decode b_X_night 35 = .ok (.iconst 0, 1) := by decide +kernel
theorem d_X_night_36 : decode b_X_night 36 = .ok (.istore_n 2, 1) := by decide +kernel
theorem d_X_night_37 : decode b_X_night 37 = .ok (.iconst 0, 1) := by decide +kernel
theorem d_X_night_38 : decode b_X_night 38 = .ok (.istore_n 3, 1) := by decide +kernel
theorem d_X_night_39 : decode b_X_night 39 = .ok (.iload_n 3, 1) := by decide +kernel
theorem d_X_night_40 : decode b_X_night 40 = .ok (.aload_n 0, 1) := by decide +kernel
theorem d_X_night_41 : decode b_X_night 41 = .ok (.getfield 34, 3) := by decide +kernel
theorem d_X_night_44 : decode b_X_night 44 = .ok (.if_icmp .ge 60, 3) := by decide +kernel
theorem d_X_night_47 : decode b_X_night 47 = .ok (.aload_n 0, 1) := by decide +kernel
theorem d_X_night_48 : decode b_X_night 48 = .ok (.iload_n 3, 1) := by decide +kernel
theorem d_X_night_49 : decode b_X_night 49 = .ok (.invokevirtual 42, 3) := by decide +kernel
theorem d_X_night_52 : decode b_X_night 52 = .ok (.astore 4, 2) := by decide +kernel
theorem d_X_night_54 : decode b_X_night 54 = .ok (.aload 4, 2) := by decide +kernel
theorem d_X_night_56 : decode b_X_night 56 = .ok (.ifnull 42, 3) := by decide +kernel
theorem d_X_night_59 : decode b_X_night 59 = .ok (.aload 4, 2) := by decide +kernel
theorem d_X_night_61 : decode b_X_night 61 = .ok (.getfield 94, 3) := by decide +kernel
theorem d_X_night_64 : decode b_X_night 64 = .ok (.ifCond .eq 34, 3) := by decide +kernel
theorem d_X_night_67 : decode b_X_night 67 = .ok (.aload 4, 2) := by decide +kernel
theorem d_X_night_69 : decode b_X_night 69 = .ok (.aload 4, 2) := by decide +kernel
theorem d_X_night_71 : decode b_X_night 71 = .ok (.iload_n 1, 1) := by decide +kernel
theorem d_X_night_72 : decode b_X_night 72 = .ok (.invokevirtual 57, 3) := by decide +kernel
theorem d_X_night_75 : decode b_X_night 75 = .ok (.iconst 0, 1) := by decide +kernel
theorem d_X_night_76 : decode b_X_night 76 = .ok (.invokestatic 104, 3) := by decide +kernel
theorem d_X_night_79 : decode b_X_night 79 = .ok (.invokevirtual 110, 3) := by decide +kernel
theorem d_X_night_82 : decode b_X_night 82 = .ok (.iload_n 2, 1) := by decide +kernel
theorem d_X_night_83 : decode b_X_night 83 = .ok (.aload 4, 2) := by decide +kernel
theorem d_X_night_85 : decode b_X_night 85 = .ok (.getfield 94, 3) := by decide +kernel
theorem d_X_night_88 : decode b_X_night 88 = .ok (.ifCond .eq 7, 3) := by decide +kernel
theorem d_X_night_91 : decode b_X_night 91 = .ok (.iconst 0, 1) := by decide +kernel
theorem d_X_night_92 : decode b_X_night 92 = .ok (.goto 4, 3) := by decide +kernel
theorem d_X_night_95 : decode b_X_night 95 = .ok (.iconst 1, 1) := by decide +kernel
theorem d_X_night_96 : decode b_X_night 96 = .ok (.iadd, 1) := by decide +kernel
theorem d_X_night_97 : decode b_X_night 97 = .ok (.istore_n 2, 1) := by decide +kernel
theorem d_X_night_98 : decode b_X_night 98 = .ok (.iinc 3 1, 3) := by decide +kernel
theorem d_X_night_101 : decode b_X_night 101 = .ok (.goto (-62), 3) := by decide +kernel
theorem d_X_night_104 : decode b_X_night 104 = .ok (.iload_n 2, 1) := by decide +kernel
theorem d_X_night_105 : decode b_X_night 105 = .ok (.ireturn, 1) := by decide +kernel
theorem cy_X_night : zY y_X_night b_X_night 5 (some (FieldType.int)) 1 := ⟨kw_541, kw_1, by decide +kernel, by decide +kernel⟩
theorem d_X_seen_0 : decode b_X_seen 0 = .ok (.iload_n 1, 1) := by decide +kernel
theorem d_X_seen_1 : decode b_X_seen 1 = .ok (.iconst 0, 1) := by decide +kernel
theorem d_X_seen_2 : decode b_X_seen 2 = .ok (.bipush 9, 2) := by decide +kernel
theorem d_X_seen_4 : decode b_X_seen 4 = .ok (.invokestatic 22, 3) := by decide +kernel
theorem d_X_seen_7 : decode b_X_seen 7 = .ok (.ifCond .ne 5, 3) := by decide +kernel
theorem d_X_seen_10 : decode b_X_seen 10 = .ok (.iconst (-1), 1) := by decide +kernel
theorem d_X_seen_11 : decode b_X_seen 11 = .ok (.ireturn, 1) := by decide +kernel
theorem d_X_seen_12 : decode b_X_seen 12 = .ok (.aload_n 0, 1) := by decide +kernel
theorem d_X_seen_13 : decode b_X_seen 13 = .ok (.invokevirtual 101, 3) := by decide +kernel
theorem d_X_seen_16 : decode b_X_seen 16 = .ok (.ifCond .ne 6, 3) := by decide +kernel
theorem d_X_seen_19 : decode b_X_seen 19 = .ok (.bipush (-3), 2) := by decide +kernel
theorem d_X_seen_21 : decode b_X_seen 21 = .ok (.ireturn, 1) := by decide +kernel
theorem d_X_seen_22 : decode b_X_seen 22 = .ok (.aload_n 0, 1) := by decide +kernel
theorem d_X_seen_23 : decode b_X_seen 23 = .ok (.invokevirtual 48, 3) := by decide +kernel
theorem d_X_seen_26 : decode b_X_seen 26 = .ok (.bipush (-3), 2) := by decide +kernel
theorem d_X_seen_28 : decode b_X_seen 28 = .ok (.istore_n 2, 1) := by decide +kernel
theorem d_X_seen_29 : decode b_X_seen 29 = .ok (.iconst 0, 1) := by decide +kernel
theorem d_X_seen_30 : decode b_X_seen 30 = .ok (.istore_n 3, 1) := by decide +kernel
theorem d_X_seen_31 : decode b_X_seen 31 = .ok (.iconst 0, 1) := by decide +kernel
theorem d_X_seen_32 : decode b_X_seen 32 = .ok (.istore 4, 2) := by decide +kernel
theorem d_X_seen_34 : decode b_X_seen 34 = .ok (.iload 4, 2) := by decide +kernel
theorem d_X_seen_36 : decode b_X_seen 36 = .ok (.aload_n 0, 1) := by decide +kernel
theorem d_X_seen_37 : decode b_X_seen 37 = .ok (.getfield 34, 3) := by decide +kernel
theorem d_X_seen_40 : decode b_X_seen 40 = .ok (.if_icmp .ge 56, 3) := by decide +kernel
theorem d_X_seen_43 : decode b_X_seen 43 = .ok (.aload_n 0, 1) := by decide +kernel
theorem d_X_seen_44 : decode b_X_seen 44 = .ok (.iload 4, 2) := by decide +kernel
theorem d_X_seen_46 : decode b_X_seen 46 = .ok (.invokevirtual 42, 3) := by decide +kernel
theorem d_X_seen_49 : decode b_X_seen 49 = .ok (.astore 5, 2) := by decide +kernel
theorem d_X_seen_51 : decode b_X_seen 51 = .ok (.aload 5, 2) := by decide +kernel
theorem d_X_seen_53 : decode b_X_seen 53 = .ok (.ifnull 37, 3) := by decide +kernel
theorem d_X_seen_56 : decode b_X_seen 56 = .ok (.aload 5, 2) := by decide +kernel
theorem d_X_seen_58 : decode b_X_seen 58 = .ok (.getfield 94, 3) := by decide +kernel
theorem d_X_seen_61 : decode b_X_seen 61 = .ok (.ifCond .eq 29, 3) := by decide +kernel
theorem d_X_seen_64 : decode b_X_seen 64 = .ok (.aload 5, 2) := by decide +kernel
theorem d_X_seen_66 : decode b_X_seen 66 = .ok (.iload_n 1, 1) := by decide +kernel
theorem d_X_seen_67 : decode b_X_seen 67 = .ok (.invokevirtual 60, 3) := by decide +kernel
theorem d_X_seen_70 : decode b_X_seen 70 = .ok (.istore 6, 2) := by decide +kernel
theorem d_X_seen_72 : decode b_X_seen 72 = .ok (.iload_n 2, 1) := by decide +kernel
theorem d_X_seen_73 : decode b_X_seen 73 = .ok (.bipush (-3), 2) := by decide +kernel
theorem d_X_seen_75 : decode b_X_seen 75 = .ok (.if_icmp .eq 9, 3) := by decide +kernel
theorem d_X_seen_78 : decode b_X_seen 78 = .ok (.iload 6, 2) := by decide +kernel
theorem d_X_seen_80 : decode b_X_seen 80 = .ok (.iload_n 3, 1) := by decide +kernel
theorem d_X_seen_81 : decode b_X_seen 81 = .ok (.if_icmp .le 9, 3) := by decide +kernel
theorem d_X_seen_84 : decode b_X_seen 84 = .ok (.iload 4, 2) := by decide +kernel
theorem d_X_seen_86 : decode b_X_seen 86 = .ok (.istore_n 2, 1) := by decide +kernel
theorem d_X_seen_87 : decode b_X_seen 87 = .ok (.iload 6, 2) := by decide +kernel
theorem d_X_seen_89 : decode b_X_seen 89 = .ok (.istore_n 3, 1) := by decide +kernel
theorem d_X_seen_90 : decode b_X_seen 90 = .ok (.iinc 4 1, 3) := by decide +kernel
theorem d_X_seen_93 : decode b_X_seen 93 = .ok (.goto (-59), 3) := by decide +kernel
theorem d_X_seen_96 : decode b_X_seen 96 = .ok (.iload_n 2, 1) := by decide +kernel
theorem d_X_seen_97 : decode b_X_seen 97 = .ok (.ireturn, 1) := by decide +kernel
theorem cy_X_seen : zY y_X_seen b_X_seen 7 (some (FieldType.int)) 1 := ⟨kw_563, kw_1, by decide +kernel, by decide +kernel⟩
theorem d_X_blow_0 : decode b_X_blow 0 = .ok (.aload_n 0, 1) := by decide +kernel
theorem d_X_blow_1 : decode b_X_blow 1 = .ok (.iload_n 1, 1) := by decide +kernel
theorem d_X_blow_2 : decode b_X_blow 2 = .ok (.invokevirtual 42, 3) := by decide +kernel
theorem d_X_blow_5 : decode b_X_blow 5 = .ok (.astore_n 3, 1) := by decide +kernel
theorem d_X_blow_6 : decode b_X_blow 6 = .ok (.aload_n 3, 1) := by decide +kernel
theorem d_X_blow_7 : decode b_X_blow 7 = .ok (.ifnonnull 5, 3) := by decide +kernel
theorem d_X_blow_10 : decode b_X_blow 10 = .ok (.iconst (-1), 1) := by decide +kernel
theorem d_X_blow_11 : decode b_X_blow 11 = .ok (.ireturn, 1) := by decide +kernel
theorem d_X_blow_12 : decode b_X_blow 12 = .ok (.aload_n 0, 1) := by decide +kernel
theorem d_X_blow_13 : decode b_X_blow 13 = .ok (.invokevirtual 48, 3) := by decide +kernel
theorem d_X_blow_16 : decode b_X_blow 16 = .ok (.aload_n 3, 1) := by decide +kernel
theorem d_X_blow_17 : decode b_X_blow 17 = .ok (.invokevirtual 51, 3) := by decide +kernel
theorem d_X_blow_20 : decode b_X_blow 20 = .ok (.ifCond .ne 6, 3) := by decide +kernel
theorem d_X_blow_23 : decode b_X_blow 23 = .ok (.bipush (-4), 2) := by decide +kernel
theorem d_X_blow_25 : decode b_X_blow 25 = .ok (.ireturn, 1) := by decide +kernel
theorem d_X_blow_26 : decode b_X_blow 26 = .ok (.aload_n 0, 1) := by decide +kernel
theorem d_X_blow_27 : decode b_X_blow 27 = .ok (.aload_n 3, 1) := by decide +kernel
theorem d_X_blow_28 : decode b_X_blow 28 = .ok (.iload_n 2, 1) := by decide +kernel
theorem d_X_blow_29 : decode b_X_blow 29 = .ok (.invokevirtual 73, 3) := by decide +kernel
theorem d_X_blow_32 : decode b_X_blow 32 = .ok (.putfield 114, 3) := by decide +kernel
theorem d_X_blow_35 : decode b_X_blow 35 = .ok (.iconst 1, 1) := by decide +kernel
theorem d_X_blow_36 : decode b_X_blow 36 = .ok (.ireturn, 1) := by decide +kernel
theorem cy_X_blow : zY y_X_blow b_X_blow 4 (some (FieldType.int)) 2 := ⟨kw_567, kw_1, by decide +kernel, by decide +kernel⟩
theorem d_X_blown_0 : decode b_X_blown 0 = .ok (.aload_n 0, 1) := by decide +kernel
theorem d_X_blown_1 : decode b_X_blown 1 = .ok (.getfield 114, 3) := by decide +kernel
theorem d_X_blown_4 : decode b_X_blown 4 = .ok (.ireturn, 1) := by decide +kernel
theorem cy_X_blown : zY y_X_blown b_X_blown 1 (some (FieldType.int)) 0 := ⟨kw_571, kw_1, by decide +kernel, by decide +kernel⟩
theorem d_X_told_0 : decode b_X_told 0 = .ok (.aload_n 0, 1) := by decide +kernel
theorem d_X_told_1 : decode b_X_told 1 = .ok (.iload_n 1, 1) := by decide +kernel
theorem d_X_told_2 : decode b_X_told 2 = .ok (.invokevirtual 42, 3) := by decide +kernel
theorem d_X_told_5 : decode b_X_told 5 = .ok (.astore_n 3, 1) := by decide +kernel
theorem d_X_told_6 : decode b_X_told 6 = .ok (.aload_n 3, 1) := by decide +kernel
theorem d_X_told_7 : decode b_X_told 7 = .ok (.ifnonnull 7, 3) := by decide +kernel
theorem d_X_told_10 : decode b_X_told 10 = .ok (.ldc2_w 46, 3) := by decide +kernel
theorem d_X_told_13 : decode b_X_told 13 = .ok (.lreturn, 1) := by decide +kernel
theorem d_X_told_14 : decode b_X_told 14 = .ok (.iload_n 2, 1) := by decide +kernel
theorem d_X_told_15 : decode b_X_told 15 = .ok (.tableswitch 87 0 5 #[37, 43, 49, 55, 61, 74], 37) := by decide +kernel
theorem d_X_told_52 : decode b_X_told 52 = .ok (.aload_n 3, 1) := by decide +kernel
theorem d_X_told_53 : decode b_X_told 53 = .ok (.getfield 117, 3) := by decide +kernel
theorem d_X_told_56 : decode b_X_told 56 = .ok (.i2l, 1) := by decide +kernel
theorem d_X_told_57 : decode b_X_told 57 = .ok (.lreturn, 1) := by decide +kernel
theorem d_X_told_58 : decode b_X_told 58 = .ok (.aload_n 3, 1) := by decide +kernel
theorem d_X_told_59 : decode b_X_told 59 = .ok (.getfield 120, 3) := by decide +kernel
theorem d_X_told_62 : decode b_X_told 62 = .ok (.i2l, 1) := by decide +kernel
theorem d_X_told_63 : decode b_X_told 63 = .ok (.lreturn, 1) := by decide +kernel
theorem d_X_told_64 : decode b_X_told 64 = .ok (.aload_n 3, 1) := by decide +kernel
theorem d_X_told_65 : decode b_X_told 65 = .ok (.getfield 90, 3) := by decide +kernel
theorem d_X_told_68 : decode b_X_told 68 = .ok (.i2l, 1) := by decide +kernel
theorem d_X_told_69 : decode b_X_told 69 = .ok (.lreturn, 1) := by decide +kernel
theorem d_X_told_70 : decode b_X_told 70 = .ok (.aload_n 3, 1) := by decide +kernel
theorem d_X_told_71 : decode b_X_told 71 = .ok (.getfield 123, 3) := by decide +kernel
theorem d_X_told_74 : decode b_X_told 74 = .ok (.i2l, 1) := by decide +kernel
theorem d_X_told_75 : decode b_X_told 75 = .ok (.lreturn, 1) := by decide +kernel
theorem d_X_told_76 : decode b_X_told 76 = .ok (.aload_n 3, 1) := by decide +kernel
theorem d_X_told_77 : decode b_X_told 77 = .ok (.getfield 94, 3) := by decide +kernel
theorem d_X_told_80 : decode b_X_told 80 = .ok (.ifCond .eq 7, 3) := by decide +kernel
theorem d_X_told_83 : decode b_X_told 83 = .ok (.lconst 1, 1) := by decide +kernel
theorem d_X_told_84 : decode b_X_told 84 = .ok (.goto 4, 3) := by decide +kernel
theorem d_X_told_87 : decode b_X_told 87 = .ok (.lconst 0, 1) := by decide +kernel
theorem d_X_told_88 : decode b_X_told 88 = .ok (.lreturn, 1) := by decide +kernel
theorem d_X_told_89 : decode b_X_told 89 = .ok (.aload_n 3, 1) := by decide +kernel
theorem d_X_told_90 : decode b_X_told 90 = .ok (.invokevirtual 51, 3) := by decide +kernel
theorem d_X_told_93 : decode b_X_told 93 = .ok (.ifCond .eq 7, 3) := by decide +kernel
theorem d_X_told_96 : decode b_X_told 96 = .ok (.lconst 1, 1) := by decide +kernel
theorem d_X_told_97 : decode b_X_told 97 = .ok (.goto 4, 3) := by decide +kernel
theorem d_X_told_100 : decode b_X_told 100 = .ok (.lconst 0, 1) := by decide +kernel
theorem d_X_told_101 : decode b_X_told 101 = .ok (.lreturn, 1) := by decide +kernel
theorem d_X_told_102 : decode b_X_told 102 = .ok (.ldc2_w 46, 3) := by decide +kernel
theorem d_X_told_105 : decode b_X_told 105 = .ok (.lreturn, 1) := by decide +kernel
theorem cy_X_told : zY y_X_told b_X_told 4 (some (FieldType.long)) 2 := ⟨kw_575, kw_1, by decide +kernel, by decide +kernel⟩
theorem d_X_count_0 : decode b_X_count 0 = .ok (.iload_n 1, 1) := by decide +kernel
theorem d_X_count_1 : decode b_X_count 1 = .ok (.tableswitch 54 0 3 #[31, 36, 41, 49], 31) := by decide +kernel
theorem d_X_count_32 : decode b_X_count 32 = .ok (.aload_n 0, 1) := by decide +kernel
theorem d_X_count_33 : decode b_X_count 33 = .ok (.getfield 34, 3) := by decide +kernel
theorem d_X_count_36 : decode b_X_count 36 = .ok (.ireturn, 1) := by decide +kernel
theorem d_X_count_37 : decode b_X_count 37 = .ok (.aload_n 0, 1) := by decide +kernel
theorem d_X_count_38 : decode b_X_count 38 = .ok (.getfield 98, 3) := by decide +kernel
theorem d_X_count_41 : decode b_X_count 41 = .ok (.ireturn, 1) := by decide +kernel
theorem d_X_count_42 : decode b_X_count 42 = .ok (.aload_n 0, 1) := by decide +kernel
theorem d_X_count_43 : decode b_X_count 43 = .ok (.getfield 12, 3) := by decide +kernel
theorem d_X_count_46 : decode b_X_count 46 = .ok (.getfield 79, 3) := by decide +kernel
theorem d_X_count_49 : decode b_X_count 49 = .ok (.ireturn, 1) := by decide +kernel
theorem d_X_count_50 : decode b_X_count 50 = .ok (.aload_n 0, 1) := by decide +kernel
theorem d_X_count_51 : decode b_X_count 51 = .ok (.getfield 126, 3) := by decide +kernel
theorem d_X_count_54 : decode b_X_count 54 = .ok (.ireturn, 1) := by decide +kernel
theorem d_X_count_55 : decode b_X_count 55 = .ok (.iconst (-1), 1) := by decide +kernel
theorem d_X_count_56 : decode b_X_count 56 = .ok (.ireturn, 1) := by decide +kernel
theorem cy_X_count : zY y_X_count b_X_count 2 (some (FieldType.int)) 1 := ⟨kw_579, kw_1, by decide +kernel, by decide +kernel⟩
theorem d_X_store_0 : decode b_X_store 0 = .ok (.aload_n 0, 1) := by decide +kernel
theorem d_X_store_1 : decode b_X_store 1 = .ok (.getfield 86, 3) := by decide +kernel
theorem d_X_store_4 : decode b_X_store 4 = .ok (.lreturn, 1) := by decide +kernel
theorem cy_X_store : zY y_X_store b_X_store 1 (some (FieldType.long)) 0 := ⟨kw_583, kw_1, by decide +kernel, by decide +kernel⟩
theorem d_X_within_0 : decode b_X_within 0 = .ok (.iload_n 0, 1) := by decide +kernel
theorem d_X_within_1 : decode b_X_within 1 = .ok (.iload_n 1, 1) := by decide +kernel
theorem d_X_within_2 : decode b_X_within 2 = .ok (.if_icmp .lt 12, 3) := by decide +kernel
theorem d_X_within_5 : decode b_X_within 5 = .ok (.iload_n 0, 1) := by decide +kernel
theorem d_X_within_6 : decode b_X_within 6 = .ok (.iload_n 2, 1) := by decide +kernel
theorem d_X_within_7 : decode b_X_within 7 = .ok (.if_icmp .gt 7, 3) := by decide +kernel
theorem d_X_within_10 : decode b_X_within 10 = .ok (.iconst 1, 1) := by decide +kernel
theorem d_X_within_11 : decode b_X_within 11 = .ok (.goto 4, 3) := by decide +kernel
theorem d_X_within_14 : decode b_X_within 14 = .ok (.iconst 0, 1) := by decide +kernel
theorem d_X_within_15 : decode b_X_within 15 = .ok (.ireturn, 1) := by decide +kernel
theorem cy_X_within : zY y_X_within b_X_within 3 (some (FieldType.boolean)) 3 := ⟨kw_71, kw_1, by decide +kernel, by decide +kernel⟩
theorem d_X_lampAt_0 : decode b_X_lampAt 0 = .ok (.iload_n 1, 1) := by decide +kernel
theorem d_X_lampAt_1 : decode b_X_lampAt 1 = .ok (.iconst 0, 1) := by decide +kernel
theorem d_X_lampAt_2 : decode b_X_lampAt 2 = .ok (.aload_n 0, 1) := by decide +kernel
theorem d_X_lampAt_3 : decode b_X_lampAt 3 = .ok (.getfield 34, 3) := by decide +kernel
theorem d_X_lampAt_6 : decode b_X_lampAt 6 = .ok (.iconst 1, 1) := by decide +kernel
theorem d_X_lampAt_7 : decode b_X_lampAt 7 = .ok (.isub, 1) := by decide +kernel
theorem d_X_lampAt_8 : decode b_X_lampAt 8 = .ok (.invokestatic 22, 3) := by decide +kernel
theorem d_X_lampAt_11 : decode b_X_lampAt 11 = .ok (.ifCond .eq 21, 3) := by decide +kernel
theorem d_X_lampAt_14 : decode b_X_lampAt 14 = .ok (.iload_n 1, 1) := by decide +kernel
theorem d_X_lampAt_15 : decode b_X_lampAt 15 = .ok (.aload_n 0, 1) := by decide +kernel
theorem d_X_lampAt_16 : decode b_X_lampAt 16 = .ok (.getfield 18, 3) := by decide +kernel
theorem d_X_lampAt_19 : decode b_X_lampAt 19 = .ok (.arraylength, 1) := by decide +kernel
theorem d_X_lampAt_20 : decode b_X_lampAt 20 = .ok (.if_icmp .ge 12, 3) := by decide +kernel
theorem d_X_lampAt_23 : decode b_X_lampAt 23 = .ok (.aload_n 0, 1) := by decide +kernel
theorem d_X_lampAt_24 : decode b_X_lampAt 24 = .ok (.getfield 18, 3) := by decide +kernel
theorem d_X_lampAt_27 : decode b_X_lampAt 27 = .ok (.iload_n 1, 1) := by decide +kernel
theorem d_X_lampAt_28 : decode b_X_lampAt 28 = .ok (.aaload, 1) := by decide +kernel
theorem d_X_lampAt_29 : decode b_X_lampAt 29 = .ok (.goto 4, 3) := by decide +kernel
theorem d_X_lampAt_32 : decode b_X_lampAt 32 = .ok (.aconst_null, 1) := by decide +kernel
theorem d_X_lampAt_33 : decode b_X_lampAt 33 = .ok (.areturn, 1) := by decide +kernel
theorem cy_X_lampAt : zY y_X_lampAt b_X_lampAt 2 (some (FieldType.object "CoastLamps$Lamp")) 1 := ⟨kw_258, kw_1, by decide +kernel, by decide +kernel⟩
theorem d_X_anyLit_0 : decode b_X_anyLit 0 = .ok (.iconst 0, 1) := by decide +kernel
theorem d_X_anyLit_1 : decode b_X_anyLit 1 = .ok (.istore_n 1, 1) := by decide +kernel
theorem d_X_anyLit_2 : decode b_X_anyLit 2 = .ok (.iload_n 1, 1) := by decide +kernel
theorem d_X_anyLit_3 : decode b_X_anyLit 3 = .ok (.aload_n 0, 1) := by decide +kernel
theorem d_X_anyLit_4 : decode b_X_anyLit 4 = .ok (.getfield 34, 3) := by decide +kernel
theorem d_X_anyLit_7 : decode b_X_anyLit 7 = .ok (.if_icmp .ge 28, 3) := by decide +kernel
theorem d_X_anyLit_10 : decode b_X_anyLit 10 = .ok (.aload_n 0, 1) := by decide +kernel
theorem d_X_anyLit_11 : decode b_X_anyLit 11 = .ok (.iload_n 1, 1) := by decide +kernel
theorem d_X_anyLit_12 : decode b_X_anyLit 12 = .ok (.invokevirtual 42, 3) := by decide +kernel
theorem d_X_anyLit_15 : decode b_X_anyLit 15 = .ok (.astore_n 2, 1) := by decide +kernel
theorem d_X_anyLit_16 : decode b_X_anyLit 16 = .ok (.aload_n 2, 1) := by decide +kernel
theorem d_X_anyLit_17 : decode b_X_anyLit 17 = .ok (.ifnull 12, 3) := by decide +kernel
theorem d_X_anyLit_20 : decode b_X_anyLit 20 = .ok (.aload_n 2, 1) := by decide +kernel
theorem d_X_anyLit_21 : decode b_X_anyLit 21 = .ok (.getfield 94, 3) := by decide +kernel
theorem d_X_anyLit_24 : decode b_X_anyLit 24 = .ok (.ifCond .eq 5, 3) := by decide +kernel
theorem d_X_anyLit_27 : decode b_X_anyLit 27 = .ok (.iconst 1, 1) := by decide +kernel
theorem d_X_anyLit_28 : decode b_X_anyLit 28 = .ok (.ireturn, 1) := by decide +kernel
theorem d_X_anyLit_29 : decode b_X_anyLit 29 = .ok (.iinc 1 1, 3) := by decide +kernel
theorem d_X_anyLit_32 : decode b_X_anyLit 32 = .ok (.goto (-30), 3) := by decide +kernel
theorem d_X_anyLit_35 : decode b_X_anyLit 35 = .ok (.iconst 0, 1) := by decide +kernel
theorem d_X_anyLit_36 : decode b_X_anyLit 36 = .ok (.ireturn, 1) := by decide +kernel
theorem cy_X_anyLit : zY y_X_anyLit b_X_anyLit 3 (some (FieldType.boolean)) 0 := ⟨kw_545, kw_1, by decide +kernel, by decide +kernel⟩
theorem d_X_beginAct_0 : decode b_X_beginAct 0 = .ok (.aload_n 0, 1) := by decide +kernel
theorem d_X_beginAct_1 : decode b_X_beginAct 1 = .ok (.dup, 1) := by decide +kernel
theorem d_X_beginAct_2 : decode b_X_beginAct 2 = .ok (.getfield 126, 3) := by decide +kernel
theorem d_X_beginAct_5 : decode b_X_beginAct 5 = .ok (.iconst 1, 1) := by decide +kernel
theorem d_X_beginAct_6 : decode b_X_beginAct 6 = .ok (.iadd, 1) := by decide +kernel
theorem d_X_beginAct_7 : decode b_X_beginAct 7 = .ok (.putfield 126, 3) := by decide +kernel
theorem d_X_beginAct_10 : decode b_X_beginAct 10 = .ok (.aload_n 0, 1) := by decide +kernel
theorem d_X_beginAct_11 : decode b_X_beginAct 11 = .ok (.getfield 12, 3) := by decide +kernel
theorem d_X_beginAct_14 : decode b_X_beginAct 14 = .ok (.invokevirtual 129, 3) := by decide +kernel
theorem d_X_beginAct_17 : decode b_X_beginAct 17 = .ok (.return_, 1) := by decide +kernel
theorem cy_X_beginAct : zY y_X_beginAct b_X_beginAct 1 none 0 := ⟨kw_263, kw_1, by decide +kernel, by decide +kernel⟩
theorem d_X_made_0 : decode b_X_made 0 = .ok (.iload_n 1, 1) := by decide +kernel
theorem d_X_made_1 : decode b_X_made 1 = .ok (.tableswitch 159 1 8 #[47, 61, 75, 89, 103, 117, 131, 145], 47) := by decide +kernel
theorem d_X_made_48 : decode b_X_made 48 = .ok (.new 132, 3) := by decide +kernel
theorem d_X_made_51 : decode b_X_made 51 = .ok (.dup, 1) := by decide +kernel
theorem d_X_made_52 : decode b_X_made 52 = .ok (.aload_n 0, 1) := by decide +kernel
theorem d_X_made_53 : decode b_X_made 53 = .ok (.getfield 12, 3) := by decide +kernel
theorem d_X_made_56 : decode b_X_made 56 = .ok (.iload_n 1, 1) := by decide +kernel
theorem d_X_made_57 : decode b_X_made 57 = .ok (.iload_n 2, 1) := by decide +kernel
theorem d_X_made_58 : decode b_X_made 58 = .ok (.invokespecial 134, 3) := by decide +kernel
theorem d_X_made_61 : decode b_X_made 61 = .ok (.areturn, 1) := by decide +kernel
theorem d_X_made_62 : decode b_X_made 62 = .ok (.new 137, 3) := by decide +kernel
theorem d_X_made_65 : decode b_X_made 65 = .ok (.dup, 1) := by decide +kernel
theorem d_X_made_66 : decode b_X_made 66 = .ok (.aload_n 0, 1) := by decide +kernel
theorem d_X_made_67 : decode b_X_made 67 = .ok (.getfield 12, 3) := by decide +kernel
theorem d_X_made_70 : decode b_X_made 70 = .ok (.iload_n 1, 1) := by decide +kernel
theorem d_X_made_71 : decode b_X_made 71 = .ok (.iload_n 2, 1) := by decide +kernel
theorem d_X_made_72 : decode b_X_made 72 = .ok (.invokespecial 139, 3) := by decide +kernel
theorem d_X_made_75 : decode b_X_made 75 = .ok (.areturn, 1) := by decide +kernel
theorem d_X_made_76 : decode b_X_made 76 = .ok (.new 140, 3) := by decide +kernel
theorem d_X_made_79 : decode b_X_made 79 = .ok (.dup, 1) := by decide +kernel
theorem d_X_made_80 : decode b_X_made 80 = .ok (.aload_n 0, 1) := by decide +kernel
theorem d_X_made_81 : decode b_X_made 81 = .ok (.getfield 12, 3) := by decide +kernel
theorem d_X_made_84 : decode b_X_made 84 = .ok (.iload_n 1, 1) := by decide +kernel
theorem d_X_made_85 : decode b_X_made 85 = .ok (.iload_n 2, 1) := by decide +kernel
theorem d_X_made_86 : decode b_X_made 86 = .ok (.invokespecial 142, 3) := by decide +kernel
theorem d_X_made_89 : decode b_X_made 89 = .ok (.areturn, 1) := by decide +kernel
theorem d_X_made_90 : decode b_X_made 90 = .ok (.new 143, 3) := by decide +kernel
theorem d_X_made_93 : decode b_X_made 93 = .ok (.dup, 1) := by decide +kernel
theorem d_X_made_94 : decode b_X_made 94 = .ok (.aload_n 0, 1) := by decide +kernel
theorem d_X_made_95 : decode b_X_made 95 = .ok (.getfield 12, 3) := by decide +kernel
theorem d_X_made_98 : decode b_X_made 98 = .ok (.iload_n 1, 1) := by decide +kernel
theorem d_X_made_99 : decode b_X_made 99 = .ok (.iload_n 2, 1) := by decide +kernel
theorem d_X_made_100 : decode b_X_made 100 = .ok (.invokespecial 145, 3) := by decide +kernel
theorem d_X_made_103 : decode b_X_made 103 = .ok (.areturn, 1) := by decide +kernel
theorem d_X_made_104 : decode b_X_made 104 = .ok (.new 146, 3) := by decide +kernel
theorem d_X_made_107 : decode b_X_made 107 = .ok (.dup, 1) := by decide +kernel
theorem d_X_made_108 : decode b_X_made 108 = .ok (.aload_n 0, 1) := by decide +kernel
theorem d_X_made_109 : decode b_X_made 109 = .ok (.getfield 12, 3) := by decide +kernel
theorem d_X_made_112 : decode b_X_made 112 = .ok (.iload_n 1, 1) := by decide +kernel
theorem d_X_made_113 : decode b_X_made 113 = .ok (.iload_n 2, 1) := by decide +kernel
theorem d_X_made_114 : decode b_X_made 114 = .ok (.invokespecial 148, 3) := by decide +kernel
theorem d_X_made_117 : decode b_X_made 117 = .ok (.areturn, 1) := by decide +kernel
theorem d_X_made_118 : decode b_X_made 118 = .ok (.new 149, 3) := by decide +kernel
theorem d_X_made_121 : decode b_X_made 121 = .ok (.dup, 1) := by decide +kernel
theorem d_X_made_122 : decode b_X_made 122 = .ok (.aload_n 0, 1) := by decide +kernel
theorem d_X_made_123 : decode b_X_made 123 = .ok (.getfield 12, 3) := by decide +kernel
theorem d_X_made_126 : decode b_X_made 126 = .ok (.iload_n 1, 1) := by decide +kernel
theorem d_X_made_127 : decode b_X_made 127 = .ok (.iload_n 2, 1) := by decide +kernel
theorem d_X_made_128 : decode b_X_made 128 = .ok (.invokespecial 151, 3) := by decide +kernel
theorem d_X_made_131 : decode b_X_made 131 = .ok (.areturn, 1) := by decide +kernel
theorem d_X_made_132 : decode b_X_made 132 = .ok (.new 152, 3) := by decide +kernel
theorem d_X_made_135 : decode b_X_made 135 = .ok (.dup, 1) := by decide +kernel
theorem d_X_made_136 : decode b_X_made 136 = .ok (.aload_n 0, 1) := by decide +kernel
theorem d_X_made_137 : decode b_X_made 137 = .ok (.getfield 12, 3) := by decide +kernel
theorem d_X_made_140 : decode b_X_made 140 = .ok (.iload_n 1, 1) := by decide +kernel
theorem d_X_made_141 : decode b_X_made 141 = .ok (.iload_n 2, 1) := by decide +kernel
theorem d_X_made_142 : decode b_X_made 142 = .ok (.invokespecial 154, 3) := by decide +kernel
theorem d_X_made_145 : decode b_X_made 145 = .ok (.areturn, 1) := by decide +kernel
theorem d_X_made_146 : decode b_X_made 146 = .ok (.new 155, 3) := by decide +kernel
theorem d_X_made_149 : decode b_X_made 149 = .ok (.dup, 1) := by decide +kernel
theorem d_X_made_150 : decode b_X_made 150 = .ok (.aload_n 0, 1) := by decide +kernel
theorem d_X_made_151 : decode b_X_made 151 = .ok (.getfield 12, 3) := by decide +kernel
theorem d_X_made_154 : decode b_X_made 154 = .ok (.iload_n 1, 1) := by decide +kernel
theorem d_X_made_155 : decode b_X_made 155 = .ok (.iload_n 2, 1) := by decide +kernel
theorem d_X_made_156 : decode b_X_made 156 = .ok (.invokespecial 157, 3) := by decide +kernel
theorem d_X_made_159 : decode b_X_made 159 = .ok (.areturn, 1) := by decide +kernel
theorem d_X_made_160 : decode b_X_made 160 = .ok (.new 158, 3) := by decide +kernel
theorem d_X_made_163 : decode b_X_made 163 = .ok (.dup, 1) := by decide +kernel
theorem d_X_made_164 : decode b_X_made 164 = .ok (.aload_n 0, 1) := by decide +kernel
theorem d_X_made_165 : decode b_X_made 165 = .ok (.getfield 12, 3) := by decide +kernel
theorem d_X_made_168 : decode b_X_made 168 = .ok (.iload_n 1, 1) := by decide +kernel
theorem d_X_made_169 : decode b_X_made 169 = .ok (.iload_n 2, 1) := by decide +kernel
theorem d_X_made_170 : decode b_X_made 170 = .ok (.invokespecial 160, 3) := by decide +kernel
theorem d_X_made_173 : decode b_X_made 173 = .ok (.areturn, 1) := by decide +kernel
theorem cy_X_made : zY y_X_made b_X_made 3 (some (FieldType.object "CoastLamps$Lamp")) 2 := ⟨kw_87, kw_1, by decide +kernel, by decide +kernel⟩
