theorem d_L_cell_0 : decode mb_L_cell 0 = .ok (.iload_n 1, 1) := by decide +kernel
theorem d_L_cell_1 : decode mb_L_cell 1 = .ok (.aload_n 0, 1) := by decide +kernel
theorem d_L_cell_2 : decode mb_L_cell 2 = .ok (.arraylength, 1) := by decide +kernel
theorem d_L_cell_3 : decode mb_L_cell 3 = .ok (.if_icmp .ge 9, 3) := by decide +kernel
theorem d_L_cell_6 : decode mb_L_cell 6 = .ok (.aload_n 0, 1) := by decide +kernel
theorem d_L_cell_7 : decode mb_L_cell 7 = .ok (.iload_n 1, 1) := by decide +kernel
theorem d_L_cell_8 : decode mb_L_cell 8 = .ok (.iaload, 1) := by decide +kernel
theorem d_L_cell_9 : decode mb_L_cell 9 = .ok (.goto 4, 3) := by decide +kernel
theorem d_L_cell_12 : decode mb_L_cell 12 = .ok (.iconst 0, 1) := by decide +kernel
theorem d_L_cell_13 : decode mb_L_cell 13 = .ok (.ireturn, 1) := by decide +kernel
theorem d_L_rule_0 : decode mb_L_rule 0 = .ok (.aload 7, 2) := by decide +kernel
theorem d_L_rule_2 : decode mb_L_rule 2 = .ok (.iconst 0, 1) := by decide +kernel
theorem d_L_rule_3 : decode mb_L_rule 3 = .ok (.aload_n 0, 1) := by decide +kernel
theorem d_L_rule_4 : decode mb_L_rule 4 = .ok (.iload_n 1, 1) := by decide +kernel
theorem d_L_rule_5 : decode mb_L_rule 5 = .ok (.iload_n 2, 1) := by decide +kernel
theorem d_L_rule_6 : decode mb_L_rule 6 = .ok (.iload_n 3, 1) := by decide +kernel
theorem d_L_rule_7 : decode mb_L_rule 7 = .ok (.iload 4, 2) := by decide +kernel
theorem d_L_rule_9 : decode mb_L_rule 9 = .ok (.lload 5, 2) := by decide +kernel
theorem d_L_rule_11 : decode mb_L_rule 11 = .ok (.invokevirtual 7, 3) := by decide +kernel
theorem d_L_rule_14 : decode mb_L_rule 14 = .ok (.i2l, 1) := by decide +kernel
theorem d_L_rule_15 : decode mb_L_rule 15 = .ok (.lastore, 1) := by decide +kernel
theorem d_L_rule_16 : decode mb_L_rule 16 = .ok (.goto 11, 3) := by decide +kernel
theorem d_L_rule_19 : decode mb_L_rule 19 = .ok (.astore 8, 2) := by decide +kernel
theorem d_L_rule_21 : decode mb_L_rule 21 = .ok (.iconst 1, 1) := by decide +kernel
theorem d_L_rule_22 : decode mb_L_rule 22 = .ok (.ireturn, 1) := by decide +kernel
theorem d_L_rule_23 : decode mb_L_rule 23 = .ok (.astore 8, 2) := by decide +kernel
theorem d_L_rule_25 : decode mb_L_rule 25 = .ok (.iconst 2, 1) := by decide +kernel
theorem d_L_rule_26 : decode mb_L_rule 26 = .ok (.ireturn, 1) := by decide +kernel
theorem d_L_rule_27 : decode mb_L_rule 27 = .ok (.iconst 0, 1) := by decide +kernel
theorem d_L_rule_28 : decode mb_L_rule 28 = .ok (.ireturn, 1) := by decide +kernel
theorem d_L_rank_0 : decode mb_L_rank 0 = .ok (.aload_n 3, 1) := by decide +kernel
theorem d_L_rank_1 : decode mb_L_rank 1 = .ok (.iconst 0, 1) := by decide +kernel
theorem d_L_rank_2 : decode mb_L_rank 2 = .ok (.aload_n 0, 1) := by decide +kernel
theorem d_L_rank_3 : decode mb_L_rank 3 = .ok (.iload_n 1, 1) := by decide +kernel
theorem d_L_rank_4 : decode mb_L_rank 4 = .ok (.iload_n 2, 1) := by decide +kernel
theorem d_L_rank_5 : decode mb_L_rank 5 = .ok (.invokevirtual 17, 3) := by decide +kernel
theorem d_L_rank_8 : decode mb_L_rank 8 = .ok (.ifCond .eq 7, 3) := by decide +kernel
theorem d_L_rank_11 : decode mb_L_rank 11 = .ok (.lconst 1, 1) := by decide +kernel
theorem d_L_rank_12 : decode mb_L_rank 12 = .ok (.goto 4, 3) := by decide +kernel
theorem d_L_rank_15 : decode mb_L_rank 15 = .ok (.lconst 0, 1) := by decide +kernel
theorem d_L_rank_16 : decode mb_L_rank 16 = .ok (.lastore, 1) := by decide +kernel
theorem d_L_rank_17 : decode mb_L_rank 17 = .ok (.goto 11, 3) := by decide +kernel
theorem d_L_rank_20 : decode mb_L_rank 20 = .ok (.astore 4, 2) := by decide +kernel
theorem d_L_rank_22 : decode mb_L_rank 22 = .ok (.iconst 1, 1) := by decide +kernel
theorem d_L_rank_23 : decode mb_L_rank 23 = .ok (.ireturn, 1) := by decide +kernel
theorem d_L_rank_24 : decode mb_L_rank 24 = .ok (.astore 4, 2) := by decide +kernel
theorem d_L_rank_26 : decode mb_L_rank 26 = .ok (.iconst 2, 1) := by decide +kernel
theorem d_L_rank_27 : decode mb_L_rank 27 = .ok (.ireturn, 1) := by decide +kernel
theorem d_L_rank_28 : decode mb_L_rank 28 = .ok (.iconst 0, 1) := by decide +kernel
theorem d_L_rank_29 : decode mb_L_rank 29 = .ok (.ireturn, 1) := by decide +kernel
theorem d_L_area_0 : decode mb_L_area 0 = .ok (.aload 9, 2) := by decide +kernel
theorem d_L_area_2 : decode mb_L_area 2 = .ok (.iconst 0, 1) := by decide +kernel
theorem d_L_area_3 : decode mb_L_area 3 = .ok (.aload_n 0, 1) := by decide +kernel
theorem d_L_area_4 : decode mb_L_area 4 = .ok (.lload_n 1, 1) := by decide +kernel
theorem d_L_area_5 : decode mb_L_area 5 = .ok (.lload_n 3, 1) := by decide +kernel
theorem d_L_area_6 : decode mb_L_area 6 = .ok (.lload 5, 2) := by decide +kernel
theorem d_L_area_8 : decode mb_L_area 8 = .ok (.lload 7, 2) := by decide +kernel
theorem d_L_area_10 : decode mb_L_area 10 = .ok (.invokevirtual 21, 3) := by decide +kernel
theorem d_L_area_13 : decode mb_L_area 13 = .ok (.i2l, 1) := by decide +kernel
theorem d_L_area_14 : decode mb_L_area 14 = .ok (.lastore, 1) := by decide +kernel
theorem d_L_area_15 : decode mb_L_area 15 = .ok (.goto 7, 3) := by decide +kernel
theorem d_L_area_18 : decode mb_L_area 18 = .ok (.astore 10, 2) := by decide +kernel
theorem d_L_area_20 : decode mb_L_area 20 = .ok (.iconst 1, 1) := by decide +kernel
theorem d_L_area_21 : decode mb_L_area 21 = .ok (.ireturn, 1) := by decide +kernel
theorem d_L_area_22 : decode mb_L_area 22 = .ok (.iconst 0, 1) := by decide +kernel
theorem d_L_area_23 : decode mb_L_area 23 = .ok (.ireturn, 1) := by decide +kernel
theorem d_L_inArea_0 : decode mb_L_inArea 0 = .ok (.aload_n 3, 1) := by decide +kernel
theorem d_L_inArea_1 : decode mb_L_inArea 1 = .ok (.iconst 0, 1) := by decide +kernel
theorem d_L_inArea_2 : decode mb_L_inArea 2 = .ok (.aload_n 0, 1) := by decide +kernel
theorem d_L_inArea_3 : decode mb_L_inArea 3 = .ok (.iload_n 1, 1) := by decide +kernel
theorem d_L_inArea_4 : decode mb_L_inArea 4 = .ok (.iload_n 2, 1) := by decide +kernel
theorem d_L_inArea_5 : decode mb_L_inArea 5 = .ok (.invokevirtual 25, 3) := by decide +kernel
theorem d_L_inArea_8 : decode mb_L_inArea 8 = .ok (.ifCond .eq 7, 3) := by decide +kernel
theorem d_L_inArea_11 : decode mb_L_inArea 11 = .ok (.lconst 1, 1) := by decide +kernel
theorem d_L_inArea_12 : decode mb_L_inArea 12 = .ok (.goto 4, 3) := by decide +kernel
theorem d_L_inArea_15 : decode mb_L_inArea 15 = .ok (.lconst 0, 1) := by decide +kernel
theorem d_L_inArea_16 : decode mb_L_inArea 16 = .ok (.lastore, 1) := by decide +kernel
theorem d_L_inArea_17 : decode mb_L_inArea 17 = .ok (.goto 7, 3) := by decide +kernel
theorem d_L_inArea_20 : decode mb_L_inArea 20 = .ok (.astore 4, 2) := by decide +kernel
theorem d_L_inArea_22 : decode mb_L_inArea 22 = .ok (.iconst 1, 1) := by decide +kernel
theorem d_L_inArea_23 : decode mb_L_inArea 23 = .ok (.ireturn, 1) := by decide +kernel
theorem d_L_inArea_24 : decode mb_L_inArea 24 = .ok (.iconst 0, 1) := by decide +kernel
theorem d_L_inArea_25 : decode mb_L_inArea 25 = .ok (.ireturn, 1) := by decide +kernel
theorem d_L_thing_0 : decode mb_L_thing 0 = .ok (.aload 7, 2) := by decide +kernel
theorem d_L_thing_2 : decode mb_L_thing 2 = .ok (.iconst 0, 1) := by decide +kernel
theorem d_L_thing_3 : decode mb_L_thing 3 = .ok (.aload_n 0, 1) := by decide +kernel
theorem d_L_thing_4 : decode mb_L_thing 4 = .ok (.iload_n 1, 1) := by decide +kernel
theorem d_L_thing_5 : decode mb_L_thing 5 = .ok (.iload_n 2, 1) := by decide +kernel
theorem d_L_thing_6 : decode mb_L_thing 6 = .ok (.lload_n 3, 1) := by decide +kernel
theorem d_L_thing_7 : decode mb_L_thing 7 = .ok (.lload 5, 2) := by decide +kernel
theorem d_L_thing_9 : decode mb_L_thing 9 = .ok (.invokevirtual 28, 3) := by decide +kernel
theorem d_L_thing_12 : decode mb_L_thing 12 = .ok (.i2l, 1) := by decide +kernel
theorem d_L_thing_13 : decode mb_L_thing 13 = .ok (.lastore, 1) := by decide +kernel
theorem d_L_thing_14 : decode mb_L_thing 14 = .ok (.goto 11, 3) := by decide +kernel
theorem d_L_thing_17 : decode mb_L_thing 17 = .ok (.astore 8, 2) := by decide +kernel
theorem d_L_thing_19 : decode mb_L_thing 19 = .ok (.iconst 1, 1) := by decide +kernel
theorem d_L_thing_20 : decode mb_L_thing 20 = .ok (.ireturn, 1) := by decide +kernel
theorem d_L_thing_21 : decode mb_L_thing 21 = .ok (.astore 8, 2) := by decide +kernel
theorem d_L_thing_23 : decode mb_L_thing 23 = .ok (.iconst 2, 1) := by decide +kernel
theorem d_L_thing_24 : decode mb_L_thing 24 = .ok (.ireturn, 1) := by decide +kernel
theorem d_L_thing_25 : decode mb_L_thing 25 = .ok (.iconst 0, 1) := by decide +kernel
theorem d_L_thing_26 : decode mb_L_thing 26 = .ok (.ireturn, 1) := by decide +kernel
theorem d_L_make_0 : decode mb_L_make 0 = .ok (.aload 4, 2) := by decide +kernel
theorem d_L_make_2 : decode mb_L_make 2 = .ok (.iconst 0, 1) := by decide +kernel
theorem d_L_make_3 : decode mb_L_make 3 = .ok (.aload_n 0, 1) := by decide +kernel
theorem d_L_make_4 : decode mb_L_make 4 = .ok (.iload_n 1, 1) := by decide +kernel
theorem d_L_make_5 : decode mb_L_make 5 = .ok (.iload_n 2, 1) := by decide +kernel
theorem d_L_make_6 : decode mb_L_make 6 = .ok (.iload_n 3, 1) := by decide +kernel
theorem d_L_make_7 : decode mb_L_make 7 = .ok (.invokevirtual 32, 3) := by decide +kernel
theorem d_L_make_10 : decode mb_L_make 10 = .ok (.ifCond .eq 7, 3) := by decide +kernel
theorem d_L_make_13 : decode mb_L_make 13 = .ok (.lconst 1, 1) := by decide +kernel
theorem d_L_make_14 : decode mb_L_make 14 = .ok (.goto 4, 3) := by decide +kernel
theorem d_L_make_17 : decode mb_L_make 17 = .ok (.lconst 0, 1) := by decide +kernel
theorem d_L_make_18 : decode mb_L_make 18 = .ok (.lastore, 1) := by decide +kernel
theorem d_L_make_19 : decode mb_L_make 19 = .ok (.goto 7, 3) := by decide +kernel
theorem d_L_make_22 : decode mb_L_make 22 = .ok (.astore 5, 2) := by decide +kernel
theorem d_L_make_24 : decode mb_L_make 24 = .ok (.iconst 1, 1) := by decide +kernel
theorem d_L_make_25 : decode mb_L_make 25 = .ok (.ireturn, 1) := by decide +kernel
theorem d_L_make_26 : decode mb_L_make 26 = .ok (.iconst 0, 1) := by decide +kernel
theorem d_L_make_27 : decode mb_L_make 27 = .ok (.ireturn, 1) := by decide +kernel
theorem d_L_move_0 : decode mb_L_move 0 = .ok (.aload 6, 2) := by decide +kernel
theorem d_L_move_2 : decode mb_L_move 2 = .ok (.iconst 0, 1) := by decide +kernel
theorem d_L_move_3 : decode mb_L_move 3 = .ok (.aload_n 0, 1) := by decide +kernel
theorem d_L_move_4 : decode mb_L_move 4 = .ok (.iload_n 1, 1) := by decide +kernel
theorem d_L_move_5 : decode mb_L_move 5 = .ok (.lload_n 2, 1) := by decide +kernel
theorem d_L_move_6 : decode mb_L_move 6 = .ok (.lload 4, 2) := by decide +kernel
theorem d_L_move_8 : decode mb_L_move 8 = .ok (.invokevirtual 36, 3) := by decide +kernel
theorem d_L_move_11 : decode mb_L_move 11 = .ok (.ifCond .eq 7, 3) := by decide +kernel
theorem d_L_move_14 : decode mb_L_move 14 = .ok (.lconst 1, 1) := by decide +kernel
theorem d_L_move_15 : decode mb_L_move 15 = .ok (.goto 4, 3) := by decide +kernel
theorem d_L_move_18 : decode mb_L_move 18 = .ok (.lconst 0, 1) := by decide +kernel
theorem d_L_move_19 : decode mb_L_move 19 = .ok (.lastore, 1) := by decide +kernel
theorem d_L_move_20 : decode mb_L_move 20 = .ok (.goto 11, 3) := by decide +kernel
theorem d_L_move_23 : decode mb_L_move 23 = .ok (.astore 7, 2) := by decide +kernel
theorem d_L_move_25 : decode mb_L_move 25 = .ok (.iconst 1, 1) := by decide +kernel
theorem d_L_move_26 : decode mb_L_move 26 = .ok (.ireturn, 1) := by decide +kernel
theorem d_L_move_27 : decode mb_L_move 27 = .ok (.astore 7, 2) := by decide +kernel
theorem d_L_move_29 : decode mb_L_move 29 = .ok (.iconst 2, 1) := by decide +kernel
theorem d_L_move_30 : decode mb_L_move 30 = .ok (.ireturn, 1) := by decide +kernel
theorem d_L_move_31 : decode mb_L_move 31 = .ok (.iconst 0, 1) := by decide +kernel
theorem d_L_move_32 : decode mb_L_move 32 = .ok (.ireturn, 1) := by decide +kernel
theorem d_L_winner_0 : decode mb_L_winner 0 = .ok (.aload 4, 2) := by decide +kernel
theorem d_L_winner_2 : decode mb_L_winner 2 = .ok (.iconst 0, 1) := by decide +kernel
theorem d_L_winner_3 : decode mb_L_winner 3 = .ok (.aload_n 0, 1) := by decide +kernel
theorem d_L_winner_4 : decode mb_L_winner 4 = .ok (.iload_n 1, 1) := by decide +kernel
theorem d_L_winner_5 : decode mb_L_winner 5 = .ok (.iload_n 2, 1) := by decide +kernel
theorem d_L_winner_6 : decode mb_L_winner 6 = .ok (.iload_n 3, 1) := by decide +kernel
theorem d_L_winner_7 : decode mb_L_winner 7 = .ok (.invokevirtual 40, 3) := by decide +kernel
theorem d_L_winner_10 : decode mb_L_winner 10 = .ok (.i2l, 1) := by decide +kernel
theorem d_L_winner_11 : decode mb_L_winner 11 = .ok (.lastore, 1) := by decide +kernel
theorem d_L_winner_12 : decode mb_L_winner 12 = .ok (.goto 7, 3) := by decide +kernel
theorem d_L_winner_15 : decode mb_L_winner 15 = .ok (.astore 5, 2) := by decide +kernel
theorem d_L_winner_17 : decode mb_L_winner 17 = .ok (.iconst 1, 1) := by decide +kernel
theorem d_L_winner_18 : decode mb_L_winner 18 = .ok (.ireturn, 1) := by decide +kernel
theorem d_L_winner_19 : decode mb_L_winner 19 = .ok (.iconst 0, 1) := by decide +kernel
theorem d_L_winner_20 : decode mb_L_winner 20 = .ok (.ireturn, 1) := by decide +kernel
theorem d_L_value_0 : decode mb_L_value 0 = .ok (.aload 4, 2) := by decide +kernel
theorem d_L_value_2 : decode mb_L_value 2 = .ok (.iconst 0, 1) := by decide +kernel
theorem d_L_value_3 : decode mb_L_value 3 = .ok (.aload_n 0, 1) := by decide +kernel
theorem d_L_value_4 : decode mb_L_value 4 = .ok (.iload_n 1, 1) := by decide +kernel
theorem d_L_value_5 : decode mb_L_value 5 = .ok (.iload_n 2, 1) := by decide +kernel
theorem d_L_value_6 : decode mb_L_value 6 = .ok (.iload_n 3, 1) := by decide +kernel
theorem d_L_value_7 : decode mb_L_value 7 = .ok (.invokevirtual 44, 3) := by decide +kernel
theorem d_L_value_10 : decode mb_L_value 10 = .ok (.lastore, 1) := by decide +kernel
theorem d_L_value_11 : decode mb_L_value 11 = .ok (.goto 7, 3) := by decide +kernel
theorem d_L_value_14 : decode mb_L_value 14 = .ok (.astore 5, 2) := by decide +kernel
theorem d_L_value_16 : decode mb_L_value 16 = .ok (.iconst 1, 1) := by decide +kernel
theorem d_L_value_17 : decode mb_L_value 17 = .ok (.ireturn, 1) := by decide +kernel
theorem d_L_value_18 : decode mb_L_value 18 = .ok (.iconst 0, 1) := by decide +kernel
theorem d_L_value_19 : decode mb_L_value 19 = .ok (.ireturn, 1) := by decide +kernel
theorem d_L_listed_0 : decode mb_L_listed 0 = .ok (.aload 5, 2) := by decide +kernel
theorem d_L_listed_2 : decode mb_L_listed 2 = .ok (.iconst 0, 1) := by decide +kernel
theorem d_L_listed_3 : decode mb_L_listed 3 = .ok (.aload_n 0, 1) := by decide +kernel
theorem d_L_listed_4 : decode mb_L_listed 4 = .ok (.iload_n 1, 1) := by decide +kernel
theorem d_L_listed_5 : decode mb_L_listed 5 = .ok (.iload_n 2, 1) := by decide +kernel
theorem d_L_listed_6 : decode mb_L_listed 6 = .ok (.iload_n 3, 1) := by decide +kernel
theorem d_L_listed_7 : decode mb_L_listed 7 = .ok (.iload 4, 2) := by decide +kernel
theorem d_L_listed_9 : decode mb_L_listed 9 = .ok (.invokevirtual 48, 3) := by decide +kernel
theorem d_L_listed_12 : decode mb_L_listed 12 = .ok (.i2l, 1) := by decide +kernel
theorem d_L_listed_13 : decode mb_L_listed 13 = .ok (.lastore, 1) := by decide +kernel
theorem d_L_listed_14 : decode mb_L_listed 14 = .ok (.goto 7, 3) := by decide +kernel
theorem d_L_listed_17 : decode mb_L_listed 17 = .ok (.astore 6, 2) := by decide +kernel
theorem d_L_listed_19 : decode mb_L_listed 19 = .ok (.iconst 1, 1) := by decide +kernel
theorem d_L_listed_20 : decode mb_L_listed 20 = .ok (.ireturn, 1) := by decide +kernel
theorem d_L_listed_21 : decode mb_L_listed 21 = .ok (.iconst 0, 1) := by decide +kernel
theorem d_L_listed_22 : decode mb_L_listed 22 = .ok (.ireturn, 1) := by decide +kernel
theorem d_L_why_0 : decode mb_L_why 0 = .ok (.aload 5, 2) := by decide +kernel
theorem d_L_why_2 : decode mb_L_why 2 = .ok (.iconst 0, 1) := by decide +kernel
theorem d_L_why_3 : decode mb_L_why 3 = .ok (.aload_n 0, 1) := by decide +kernel
theorem d_L_why_4 : decode mb_L_why 4 = .ok (.iload_n 1, 1) := by decide +kernel
theorem d_L_why_5 : decode mb_L_why 5 = .ok (.iload_n 2, 1) := by decide +kernel
theorem d_L_why_6 : decode mb_L_why 6 = .ok (.iload_n 3, 1) := by decide +kernel
theorem d_L_why_7 : decode mb_L_why 7 = .ok (.iload 4, 2) := by decide +kernel
theorem d_L_why_9 : decode mb_L_why 9 = .ok (.invokevirtual 52, 3) := by decide +kernel
theorem d_L_why_12 : decode mb_L_why 12 = .ok (.i2l, 1) := by decide +kernel
theorem d_L_why_13 : decode mb_L_why 13 = .ok (.lastore, 1) := by decide +kernel
theorem d_L_why_14 : decode mb_L_why 14 = .ok (.goto 7, 3) := by decide +kernel
theorem d_L_why_17 : decode mb_L_why 17 = .ok (.astore 6, 2) := by decide +kernel
theorem d_L_why_19 : decode mb_L_why 19 = .ok (.iconst 1, 1) := by decide +kernel
theorem d_L_why_20 : decode mb_L_why 20 = .ok (.ireturn, 1) := by decide +kernel
theorem d_L_why_21 : decode mb_L_why 21 = .ok (.iconst 0, 1) := by decide +kernel
theorem d_L_why_22 : decode mb_L_why 22 = .ok (.ireturn, 1) := by decide +kernel
theorem d_L_greatest_0 : decode mb_L_greatest 0 = .ok (.aload_n 3, 1) := by decide +kernel
theorem d_L_greatest_1 : decode mb_L_greatest 1 = .ok (.iconst 0, 1) := by decide +kernel
theorem d_L_greatest_2 : decode mb_L_greatest 2 = .ok (.aload_n 0, 1) := by decide +kernel
theorem d_L_greatest_3 : decode mb_L_greatest 3 = .ok (.iload_n 1, 1) := by decide +kernel
theorem d_L_greatest_4 : decode mb_L_greatest 4 = .ok (.iload_n 2, 1) := by decide +kernel
theorem d_L_greatest_5 : decode mb_L_greatest 5 = .ok (.invokevirtual 55, 3) := by decide +kernel
theorem d_L_greatest_8 : decode mb_L_greatest 8 = .ok (.lastore, 1) := by decide +kernel
theorem d_L_greatest_9 : decode mb_L_greatest 9 = .ok (.goto 7, 3) := by decide +kernel
theorem d_L_greatest_12 : decode mb_L_greatest 12 = .ok (.astore 4, 2) := by decide +kernel
theorem d_L_greatest_14 : decode mb_L_greatest 14 = .ok (.iconst 1, 1) := by decide +kernel
theorem d_L_greatest_15 : decode mb_L_greatest 15 = .ok (.ireturn, 1) := by decide +kernel
theorem d_L_greatest_16 : decode mb_L_greatest 16 = .ok (.iconst 0, 1) := by decide +kernel
theorem d_L_greatest_17 : decode mb_L_greatest 17 = .ok (.ireturn, 1) := by decide +kernel
theorem d_L_close_0 : decode mb_L_close 0 = .ok (.aload_n 2, 1) := by decide +kernel
theorem d_L_close_1 : decode mb_L_close 1 = .ok (.iconst 0, 1) := by decide +kernel
theorem d_L_close_2 : decode mb_L_close 2 = .ok (.aload_n 0, 1) := by decide +kernel
theorem d_L_close_3 : decode mb_L_close 3 = .ok (.iload_n 1, 1) := by decide +kernel
theorem d_L_close_4 : decode mb_L_close 4 = .ok (.invokevirtual 59, 3) := by decide +kernel
theorem d_L_close_7 : decode mb_L_close 7 = .ok (.i2l, 1) := by decide +kernel
theorem d_L_close_8 : decode mb_L_close 8 = .ok (.lastore, 1) := by decide +kernel
theorem d_L_close_9 : decode mb_L_close 9 = .ok (.goto 6, 3) := by decide +kernel
theorem d_L_close_12 : decode mb_L_close 12 = .ok (.astore_n 3, 1) := by decide +kernel
theorem d_L_close_13 : decode mb_L_close 13 = .ok (.iconst 1, 1) := by decide +kernel
theorem d_L_close_14 : decode mb_L_close 14 = .ok (.ireturn, 1) := by decide +kernel
theorem d_L_close_15 : decode mb_L_close 15 = .ok (.iconst 0, 1) := by decide +kernel
theorem d_L_close_16 : decode mb_L_close 16 = .ok (.ireturn, 1) := by decide +kernel
theorem d_L_pair_0 : decode mb_L_pair 0 = .ok (.aload_n 3, 1) := by decide +kernel
theorem d_L_pair_1 : decode mb_L_pair 1 = .ok (.iconst 0, 1) := by decide +kernel
theorem d_L_pair_2 : decode mb_L_pair 2 = .ok (.aload_n 0, 1) := by decide +kernel
theorem d_L_pair_3 : decode mb_L_pair 3 = .ok (.iload_n 1, 1) := by decide +kernel
theorem d_L_pair_4 : decode mb_L_pair 4 = .ok (.iload_n 2, 1) := by decide +kernel
theorem d_L_pair_5 : decode mb_L_pair 5 = .ok (.invokevirtual 63, 3) := by decide +kernel
theorem d_L_pair_8 : decode mb_L_pair 8 = .ok (.i2l, 1) := by decide +kernel
theorem d_L_pair_9 : decode mb_L_pair 9 = .ok (.lastore, 1) := by decide +kernel
theorem d_L_pair_10 : decode mb_L_pair 10 = .ok (.goto 7, 3) := by decide +kernel
theorem d_L_pair_13 : decode mb_L_pair 13 = .ok (.astore 4, 2) := by decide +kernel
theorem d_L_pair_15 : decode mb_L_pair 15 = .ok (.iconst 1, 1) := by decide +kernel
theorem d_L_pair_16 : decode mb_L_pair 16 = .ok (.ireturn, 1) := by decide +kernel
theorem d_L_pair_17 : decode mb_L_pair 17 = .ok (.iconst 0, 1) := by decide +kernel
theorem d_L_pair_18 : decode mb_L_pair 18 = .ok (.ireturn, 1) := by decide +kernel
