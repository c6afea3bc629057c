theorem dX6_putBack_5 : decode cX6_putBack 5 = .ok (.invokevirtual 146, 3) := by decide +kernel
theorem dX6_putBack_8 : decode cX6_putBack 8 = .ok (.ifCond .eq 14, 3) := by decide +kernel
theorem dX6_putBack_11 : decode cX6_putBack 11 = .ok (.aload_n 0, 1) := by decide +kernel
theorem dX6_putBack_12 : decode cX6_putBack 12 = .ok (.getfield 10, 3) := by decide +kernel
theorem dX6_putBack_15 : decode cX6_putBack 15 = .ok (.iload_n 1, 1) := by decide +kernel
theorem dX6_putBack_16 : decode cX6_putBack 16 = .ok (.invokevirtual 247, 3) := by decide +kernel
theorem dX6_putBack_19 : decode cX6_putBack 19 = .ok (.goto 9, 3) := by decide +kernel
theorem dX6_putBack_22 : decode cX6_putBack 22 = .ok (.aload_n 0, 1) := by decide +kernel
theorem dX6_putBack_23 : decode cX6_putBack 23 = .ok (.bipush (-2), 2) := by decide +kernel
theorem dX6_putBack_25 : decode cX6_putBack 25 = .ok (.invokevirtual 59, 3) := by decide +kernel
theorem dX6_putBack_28 : decode cX6_putBack 28 = .ok (.ireturn, 1) := by decide +kernel
theorem dX6_parishes_0 : decode cX6_parishes 0 = .ok (.iload_n 1, 1) := by decide +kernel
theorem dX6_parishes_1 : decode cX6_parishes 1 = .ok (.iconst 5, 1) := by decide +kernel
theorem dX6_parishes_2 : decode cX6_parishes 2 = .ok (.invokestatic 55, 3) := by decide +kernel
theorem dX6_parishes_5 : decode cX6_parishes 5 = .ok (.ifCond .eq 11, 3) := by decide +kernel
theorem dX6_parishes_8 : decode cX6_parishes 8 = .ok (.iload_n 2, 1) := by decide +kernel
theorem dX6_parishes_9 : decode cX6_parishes 9 = .ok (.iconst 1, 1) := by decide +kernel
theorem dX6_parishes_10 : decode cX6_parishes 10 = .ok (.invokestatic 55, 3) := by decide +kernel
theorem dX6_parishes_13 : decode cX6_parishes 13 = .ok (.ifCond .ne 10, 3) := by decide +kernel
theorem dX6_parishes_16 : decode cX6_parishes 16 = .ok (.aload_n 0, 1) := by decide +kernel
theorem dX6_parishes_17 : decode cX6_parishes 17 = .ok (.bipush (-2), 2) := by decide +kernel
theorem dX6_parishes_19 : decode cX6_parishes 19 = .ok (.invokevirtual 59, 3) := by decide +kernel
theorem dX6_parishes_22 : decode cX6_parishes 22 = .ok (.ireturn, 1) := by decide +kernel
theorem dX6_parishes_23 : decode cX6_parishes 23 = .ok (.iload_n 2, 1) := by decide +kernel
theorem dX6_parishes_24 : decode cX6_parishes 24 = .ok (.ifCond .ne 14, 3) := by decide +kernel
theorem dX6_parishes_27 : decode cX6_parishes 27 = .ok (.aload_n 0, 1) := by decide +kernel
theorem dX6_parishes_28 : decode cX6_parishes 28 = .ok (.getfield 10, 3) := by decide +kernel
theorem dX6_parishes_31 : decode cX6_parishes 31 = .ok (.iload_n 1, 1) := by decide +kernel
theorem dX6_parishes_32 : decode cX6_parishes 32 = .ok (.invokestatic 250, 3) := by decide +kernel
theorem dX6_parishes_35 : decode cX6_parishes 35 = .ok (.goto 11, 3) := by decide +kernel
theorem dX6_parishes_38 : decode cX6_parishes 38 = .ok (.aload_n 0, 1) := by decide +kernel
theorem dX6_parishes_39 : decode cX6_parishes 39 = .ok (.getfield 10, 3) := by decide +kernel
theorem dX6_parishes_42 : decode cX6_parishes 42 = .ok (.iload_n 1, 1) := by decide +kernel
theorem dX6_parishes_43 : decode cX6_parishes 43 = .ok (.invokestatic 253, 3) := by decide +kernel
theorem dX6_parishes_46 : decode cX6_parishes 46 = .ok (.ireturn, 1) := by decide +kernel
theorem dX6_deaf_0 : decode cX6_deaf 0 = .ok (.aload_n 0, 1) := by decide +kernel
theorem dX6_deaf_1 : decode cX6_deaf 1 = .ok (.getfield 10, 3) := by decide +kernel
theorem dX6_deaf_4 : decode cX6_deaf 4 = .ok (.iload_n 1, 1) := by decide +kernel
theorem dX6_deaf_5 : decode cX6_deaf 5 = .ok (.invokevirtual 223, 3) := by decide +kernel
theorem dX6_deaf_8 : decode cX6_deaf 8 = .ok (.ifCond .eq 11, 3) := by decide +kernel
theorem dX6_deaf_11 : decode cX6_deaf 11 = .ok (.iload_n 2, 1) := by decide +kernel
theorem dX6_deaf_12 : decode cX6_deaf 12 = .ok (.iconst 1, 1) := by decide +kernel
theorem dX6_deaf_13 : decode cX6_deaf 13 = .ok (.invokestatic 55, 3) := by decide +kernel
theorem dX6_deaf_16 : decode cX6_deaf 16 = .ok (.ifCond .ne 10, 3) := by decide +kernel
theorem dX6_deaf_19 : decode cX6_deaf 19 = .ok (.aload_n 0, 1) := by decide +kernel
theorem dX6_deaf_20 : decode cX6_deaf 20 = .ok (.bipush (-2), 2) := by decide +kernel
theorem dX6_deaf_22 : decode cX6_deaf 22 = .ok (.invokevirtual 59, 3) := by decide +kernel
theorem dX6_deaf_25 : decode cX6_deaf 25 = .ok (.ireturn, 1) := by decide +kernel
theorem dX6_deaf_26 : decode cX6_deaf 26 = .ok (.iload_n 2, 1) := by decide +kernel
theorem dX6_deaf_27 : decode cX6_deaf 27 = .ok (.ifCond .ne 14, 3) := by decide +kernel
theorem dX6_deaf_30 : decode cX6_deaf 30 = .ok (.aload_n 0, 1) := by decide +kernel
theorem dX6_deaf_31 : decode cX6_deaf 31 = .ok (.getfield 10, 3) := by decide +kernel
theorem dX6_deaf_34 : decode cX6_deaf 34 = .ok (.iload_n 1, 1) := by decide +kernel
theorem dX6_deaf_35 : decode cX6_deaf 35 = .ok (.invokestatic 256, 3) := by decide +kernel
theorem dX6_deaf_38 : decode cX6_deaf 38 = .ok (.goto 11, 3) := by decide +kernel
theorem dX6_deaf_41 : decode cX6_deaf 41 = .ok (.aload_n 0, 1) := by decide +kernel
theorem dX6_deaf_42 : decode cX6_deaf 42 = .ok (.getfield 10, 3) := by decide +kernel
theorem dX6_deaf_45 : decode cX6_deaf 45 = .ok (.iload_n 1, 1) := by decide +kernel
theorem dX6_deaf_46 : decode cX6_deaf 46 = .ok (.invokestatic 259, 3) := by decide +kernel
theorem dX6_deaf_49 : decode cX6_deaf 49 = .ok (.ireturn, 1) := by decide +kernel
theorem dX6_kinds_0 : decode cX6_kinds 0 = .ok (.aload_n 0, 1) := by decide +kernel
theorem dX6_kinds_1 : decode cX6_kinds 1 = .ok (.getfield 10, 3) := by decide +kernel
theorem dX6_kinds_4 : decode cX6_kinds 4 = .ok (.getfield 98, 3) := by decide +kernel
theorem dX6_kinds_7 : decode cX6_kinds 7 = .ok (.iload_n 1, 1) := by decide +kernel
theorem dX6_kinds_8 : decode cX6_kinds 8 = .ok (.invokevirtual 102, 3) := by decide +kernel
theorem dX6_kinds_11 : decode cX6_kinds 11 = .ok (.ifCond .eq 12, 3) := by decide +kernel
theorem dX6_kinds_14 : decode cX6_kinds 14 = .ok (.iload_n 2, 1) := by decide +kernel
theorem dX6_kinds_15 : decode cX6_kinds 15 = .ok (.bipush 99, 2) := by decide +kernel
theorem dX6_kinds_17 : decode cX6_kinds 17 = .ok (.invokestatic 55, 3) := by decide +kernel
theorem dX6_kinds_20 : decode cX6_kinds 20 = .ok (.ifCond .ne 10, 3) := by decide +kernel
theorem dX6_kinds_23 : decode cX6_kinds 23 = .ok (.aload_n 0, 1) := by decide +kernel
theorem dX6_kinds_24 : decode cX6_kinds 24 = .ok (.bipush (-2), 2) := by decide +kernel
theorem dX6_kinds_26 : decode cX6_kinds 26 = .ok (.invokevirtual 59, 3) := by decide +kernel
theorem dX6_kinds_29 : decode cX6_kinds 29 = .ok (.ireturn, 1) := by decide +kernel
theorem dX6_kinds_30 : decode cX6_kinds 30 = .ok (.aload_n 0, 1) := by decide +kernel
theorem dX6_kinds_31 : decode cX6_kinds 31 = .ok (.getfield 10, 3) := by decide +kernel
theorem dX6_kinds_34 : decode cX6_kinds 34 = .ok (.getfield 98, 3) := by decide +kernel
theorem dX6_kinds_37 : decode cX6_kinds 37 = .ok (.iload_n 1, 1) := by decide +kernel
theorem dX6_kinds_38 : decode cX6_kinds 38 = .ok (.iload_n 2, 1) := by decide +kernel
theorem dX6_kinds_39 : decode cX6_kinds 39 = .ok (.aload_n 0, 1) := by decide +kernel
theorem dX6_kinds_40 : decode cX6_kinds 40 = .ok (.getfield 10, 3) := by decide +kernel
theorem dX6_kinds_43 : decode cX6_kinds 43 = .ok (.getfield 123, 3) := by decide +kernel
theorem dX6_kinds_46 : decode cX6_kinds 46 = .ok (.invokevirtual 262, 3) := by decide +kernel
theorem dX6_kinds_49 : decode cX6_kinds 49 = .ok (.ireturn, 1) := by decide +kernel
theorem dX6_worst_0 : decode cX6_worst 0 = .ok (.iload_n 1, 1) := by decide +kernel
theorem dX6_worst_1 : decode cX6_worst 1 = .ok (.iconst 1, 1) := by decide +kernel
theorem dX6_worst_2 : decode cX6_worst 2 = .ok (.invokestatic 55, 3) := by decide +kernel
theorem dX6_worst_5 : decode cX6_worst 5 = .ok (.ifCond .ne 10, 3) := by decide +kernel
theorem dX6_worst_8 : decode cX6_worst 8 = .ok (.aload_n 0, 1) := by decide +kernel
theorem dX6_worst_9 : decode cX6_worst 9 = .ok (.bipush (-2), 2) := by decide +kernel
theorem dX6_worst_11 : decode cX6_worst 11 = .ok (.invokevirtual 59, 3) := by decide +kernel
theorem dX6_worst_14 : decode cX6_worst 14 = .ok (.ireturn, 1) := by decide +kernel
theorem dX6_worst_15 : decode cX6_worst 15 = .ok (.aload_n 0, 1) := by decide +kernel
theorem dX6_worst_16 : decode cX6_worst 16 = .ok (.getfield 10, 3) := by decide +kernel
theorem dX6_worst_19 : decode cX6_worst 19 = .ok (.aload_n 0, 1) := by decide +kernel
theorem dX6_worst_20 : decode cX6_worst 20 = .ok (.getfield 10, 3) := by decide +kernel
theorem dX6_worst_23 : decode cX6_worst 23 = .ok (.getfield 202, 3) := by decide +kernel
theorem dX6_worst_26 : decode cX6_worst 26 = .ok (.invokestatic 265, 3) := by decide +kernel
theorem dX6_worst_29 : decode cX6_worst 29 = .ok (.istore_n 2, 1) := by decide +kernel
theorem dX6_worst_30 : decode cX6_worst 30 = .ok (.iload_n 1, 1) := by decide +kernel
theorem dX6_worst_31 : decode cX6_worst 31 = .ok (.ifCond .eq 8, 3) := by decide +kernel
theorem dX6_worst_34 : decode cX6_worst 34 = .ok (.iload_n 2, 1) := by decide +kernel
theorem dX6_worst_35 : decode cX6_worst 35 = .ok (.iconst (-1), 1) := by decide +kernel
theorem dX6_worst_36 : decode cX6_worst 36 = .ok (.if_icmp .ne 7, 3) := by decide +kernel
theorem dX6_worst_39 : decode cX6_worst 39 = .ok (.iload_n 2, 1) := by decide +kernel
theorem dX6_worst_40 : decode cX6_worst 40 = .ok (.goto 23, 3) := by decide +kernel
theorem dX6_worst_43 : decode cX6_worst 43 = .ok (.aload_n 0, 1) := by decide +kernel
theorem dX6_worst_44 : decode cX6_worst 44 = .ok (.getfield 10, 3) := by decide +kernel
theorem dX6_worst_47 : decode cX6_worst 47 = .ok (.aload_n 0, 1) := by decide +kernel
theorem dX6_worst_48 : decode cX6_worst 48 = .ok (.getfield 10, 3) := by decide +kernel
theorem dX6_worst_51 : decode cX6_worst 51 = .ok (.getfield 202, 3) := by decide +kernel
theorem dX6_worst_54 : decode cX6_worst 54 = .ok (.iconst 1, 1) := by decide +kernel
theorem dX6_worst_55 : decode cX6_worst 55 = .ok (.iload_n 2, 1) := by decide +kernel
theorem dX6_worst_56 : decode cX6_worst 56 = .ok (.ishl, 1) := by decide +kernel
theorem dX6_worst_57 : decode cX6_worst 57 = .ok (.iconst (-1), 1) := by decide +kernel
theorem dX6_worst_58 : decode cX6_worst 58 = .ok (.ixor, 1) := by decide +kernel
theorem dX6_worst_59 : decode cX6_worst 59 = .ok (.iand, 1) := by decide +kernel
theorem dX6_worst_60 : decode cX6_worst 60 = .ok (.invokevirtual 268, 3) := by decide +kernel
theorem dX6_worst_63 : decode cX6_worst 63 = .ok (.ireturn, 1) := by decide +kernel
theorem dX6_best_0 : decode cX6_best 0 = .ok (.iload_n 1, 1) := by decide +kernel
theorem dX6_best_1 : decode cX6_best 1 = .ok (.iconst 1, 1) := by decide +kernel
theorem dX6_best_2 : decode cX6_best 2 = .ok (.invokestatic 55, 3) := by decide +kernel
theorem dX6_best_5 : decode cX6_best 5 = .ok (.ifCond .ne 10, 3) := by decide +kernel
theorem dX6_best_8 : decode cX6_best 8 = .ok (.aload_n 0, 1) := by decide +kernel
theorem dX6_best_9 : decode cX6_best 9 = .ok (.bipush (-2), 2) := by decide +kernel
theorem dX6_best_11 : decode cX6_best 11 = .ok (.invokevirtual 59, 3) := by decide +kernel
theorem dX6_best_14 : decode cX6_best 14 = .ok (.ireturn, 1) := by decide +kernel
theorem dX6_best_15 : decode cX6_best 15 = .ok (.aload_n 0, 1) := by decide +kernel
theorem dX6_best_16 : decode cX6_best 16 = .ok (.getfield 10, 3) := by decide +kernel
theorem dX6_best_19 : decode cX6_best 19 = .ok (.invokestatic 271, 3) := by decide +kernel
theorem dX6_best_22 : decode cX6_best 22 = .ok (.istore_n 2, 1) := by decide +kernel
theorem dX6_best_23 : decode cX6_best 23 = .ok (.iload_n 1, 1) := by decide +kernel
theorem dX6_best_24 : decode cX6_best 24 = .ok (.ifCond .eq 8, 3) := by decide +kernel
theorem dX6_best_27 : decode cX6_best 27 = .ok (.iload_n 2, 1) := by decide +kernel
theorem dX6_best_28 : decode cX6_best 28 = .ok (.iconst (-1), 1) := by decide +kernel
theorem dX6_best_29 : decode cX6_best 29 = .ok (.if_icmp .ne 7, 3) := by decide +kernel
theorem dX6_best_32 : decode cX6_best 32 = .ok (.iload_n 2, 1) := by decide +kernel
theorem dX6_best_33 : decode cX6_best 33 = .ok (.goto 21, 3) := by decide +kernel
theorem dX6_best_36 : decode cX6_best 36 = .ok (.aload_n 0, 1) := by decide +kernel
theorem dX6_best_37 : decode cX6_best 37 = .ok (.getfield 10, 3) := by decide +kernel
theorem dX6_best_40 : decode cX6_best 40 = .ok (.aload_n 0, 1) := by decide +kernel
theorem dX6_best_41 : decode cX6_best 41 = .ok (.getfield 10, 3) := by decide +kernel
theorem dX6_best_44 : decode cX6_best 44 = .ok (.getfield 202, 3) := by decide +kernel
theorem dX6_best_47 : decode cX6_best 47 = .ok (.iconst 1, 1) := by decide +kernel
theorem dX6_best_48 : decode cX6_best 48 = .ok (.iload_n 2, 1) := by decide +kernel
theorem dX6_best_49 : decode cX6_best 49 = .ok (.ishl, 1) := by decide +kernel
theorem dX6_best_50 : decode cX6_best 50 = .ok (.ior, 1) := by decide +kernel
theorem dX6_best_51 : decode cX6_best 51 = .ok (.invokevirtual 268, 3) := by decide +kernel
theorem dX6_best_54 : decode cX6_best 54 = .ok (.ireturn, 1) := by decide +kernel
theorem dX6_depth_0 : decode cX6_depth 0 = .ok (.aload_n 0, 1) := by decide +kernel
theorem dX6_depth_1 : decode cX6_depth 1 = .ok (.getfield 10, 3) := by decide +kernel
theorem dX6_depth_4 : decode cX6_depth 4 = .ok (.iload_n 1, 1) := by decide +kernel
theorem dX6_depth_5 : decode cX6_depth 5 = .ok (.invokevirtual 146, 3) := by decide +kernel
theorem dX6_depth_8 : decode cX6_depth 8 = .ok (.ifCond .eq 14, 3) := by decide +kernel
theorem dX6_depth_11 : decode cX6_depth 11 = .ok (.aload_n 0, 1) := by decide +kernel
theorem dX6_depth_12 : decode cX6_depth 12 = .ok (.getfield 10, 3) := by decide +kernel
theorem dX6_depth_15 : decode cX6_depth 15 = .ok (.iload_n 1, 1) := by decide +kernel
theorem dX6_depth_16 : decode cX6_depth 16 = .ok (.invokevirtual 275, 3) := by decide +kernel
theorem dX6_depth_19 : decode cX6_depth 19 = .ok (.goto 9, 3) := by decide +kernel
theorem dX6_depth_22 : decode cX6_depth 22 = .ok (.aload_n 0, 1) := by decide +kernel
theorem dX6_depth_23 : decode cX6_depth 23 = .ok (.bipush (-2), 2) := by decide +kernel
theorem dX6_depth_25 : decode cX6_depth 25 = .ok (.invokevirtual 59, 3) := by decide +kernel
theorem dX6_depth_28 : decode cX6_depth 28 = .ok (.ireturn, 1) := by decide +kernel
theorem dX6_ends_0 : decode cX6_ends 0 = .ok (.iload_n 1, 1) := by decide +kernel
theorem dX6_ends_1 : decode cX6_ends 1 = .ok (.iconst 1, 1) := by decide +kernel
theorem dX6_ends_2 : decode cX6_ends 2 = .ok (.invokestatic 55, 3) := by decide +kernel
theorem dX6_ends_5 : decode cX6_ends 5 = .ok (.ifCond .ne 10, 3) := by decide +kernel
theorem dX6_ends_8 : decode cX6_ends 8 = .ok (.aload_n 0, 1) := by decide +kernel
theorem dX6_ends_9 : decode cX6_ends 9 = .ok (.bipush (-2), 2) := by decide +kernel
theorem dX6_ends_11 : decode cX6_ends 11 = .ok (.invokevirtual 59, 3) := by decide +kernel
theorem dX6_ends_14 : decode cX6_ends 14 = .ok (.ireturn, 1) := by decide +kernel
theorem dX6_ends_15 : decode cX6_ends 15 = .ok (.iload_n 1, 1) := by decide +kernel
theorem dX6_ends_16 : decode cX6_ends 16 = .ok (.ifCond .ne 13, 3) := by decide +kernel
theorem dX6_ends_19 : decode cX6_ends 19 = .ok (.aload_n 0, 1) := by decide +kernel
theorem dX6_ends_20 : decode cX6_ends 20 = .ok (.getfield 10, 3) := by decide +kernel
theorem dX6_ends_23 : decode cX6_ends 23 = .ok (.invokevirtual 278, 3) := by decide +kernel
theorem dX6_ends_26 : decode cX6_ends 26 = .ok (.goto 10, 3) := by decide +kernel
theorem dX6_ends_29 : decode cX6_ends 29 = .ok (.aload_n 0, 1) := by decide +kernel
theorem dX6_ends_30 : decode cX6_ends 30 = .ok (.getfield 10, 3) := by decide +kernel
theorem dX6_ends_33 : decode cX6_ends 33 = .ok (.invokevirtual 281, 3) := by decide +kernel
theorem dX6_ends_36 : decode cX6_ends 36 = .ok (.ireturn, 1) := by decide +kernel
theorem dX6_common_0 : decode cX6_common 0 = .ok (.aload_n 0, 1) := by decide +kernel
theorem dX6_common_1 : decode cX6_common 1 = .ok (.getfield 10, 3) := by decide +kernel
theorem dX6_common_4 : decode cX6_common 4 = .ok (.iload_n 1, 1) := by decide +kernel
theorem dX6_common_5 : decode cX6_common 5 = .ok (.invokevirtual 146, 3) := by decide +kernel
theorem dX6_common_8 : decode cX6_common 8 = .ok (.ifCond .eq 14, 3) := by decide +kernel
theorem dX6_common_11 : decode cX6_common 11 = .ok (.aload_n 0, 1) := by decide +kernel
theorem dX6_common_12 : decode cX6_common 12 = .ok (.getfield 10, 3) := by decide +kernel
theorem dX6_common_15 : decode cX6_common 15 = .ok (.iload_n 2, 1) := by decide +kernel
theorem dX6_common_16 : decode cX6_common 16 = .ok (.invokevirtual 146, 3) := by decide +kernel
theorem dX6_common_19 : decode cX6_common 19 = .ok (.ifCond .ne 10, 3) := by decide +kernel
theorem dX6_common_22 : decode cX6_common 22 = .ok (.aload_n 0, 1) := by decide +kernel
theorem dX6_common_23 : decode cX6_common 23 = .ok (.bipush (-2), 2) := by decide +kernel
theorem dX6_common_25 : decode cX6_common 25 = .ok (.invokevirtual 59, 3) := by decide +kernel
theorem dX6_common_28 : decode cX6_common 28 = .ok (.ireturn, 1) := by decide +kernel
theorem dX6_common_29 : decode cX6_common 29 = .ok (.aload_n 0, 1) := by decide +kernel
theorem dX6_common_30 : decode cX6_common 30 = .ok (.getfield 10, 3) := by decide +kernel
theorem dX6_common_33 : decode cX6_common 33 = .ok (.iload_n 1, 1) := by decide +kernel
theorem dX6_common_34 : decode cX6_common 34 = .ok (.invokevirtual 217, 3) := by decide +kernel
theorem dX6_common_37 : decode cX6_common 37 = .ok (.aload_n 0, 1) := by decide +kernel
theorem dX6_common_38 : decode cX6_common 38 = .ok (.getfield 10, 3) := by decide +kernel
theorem dX6_common_41 : decode cX6_common 41 = .ok (.iload_n 2, 1) := by decide +kernel
theorem dX6_common_42 : decode cX6_common 42 = .ok (.invokevirtual 217, 3) := by decide +kernel
theorem dX6_common_45 : decode cX6_common 45 = .ok (.iand, 1) := by decide +kernel
theorem dX6_common_46 : decode cX6_common 46 = .ok (.ireturn, 1) := by decide +kernel
theorem dX6_weatherFor_0 : decode cX6_weatherFor 0 = .ok (.iload_n 1, 1) := by decide +kernel
theorem dX6_weatherFor_1 : decode cX6_weatherFor 1 = .ok (.iconst 1, 1) := by decide +kernel
theorem dX6_weatherFor_2 : decode cX6_weatherFor 2 = .ok (.invokestatic 55, 3) := by decide +kernel
theorem dX6_weatherFor_5 : decode cX6_weatherFor 5 = .ok (.ifCond .ne 10, 3) := by decide +kernel
theorem dX6_weatherFor_8 : decode cX6_weatherFor 8 = .ok (.aload_n 0, 1) := by decide +kernel
theorem dX6_weatherFor_9 : decode cX6_weatherFor 9 = .ok (.bipush (-2), 2) := by decide +kernel
theorem dX6_weatherFor_11 : decode cX6_weatherFor 11 = .ok (.invokevirtual 59, 3) := by decide +kernel
theorem dX6_weatherFor_14 : decode cX6_weatherFor 14 = .ok (.ireturn, 1) := by decide +kernel
theorem dX6_weatherFor_15 : decode cX6_weatherFor 15 = .ok (.aload_n 0, 1) := by decide +kernel
theorem dX6_weatherFor_16 : decode cX6_weatherFor 16 = .ok (.getfield 10, 3) := by decide +kernel
theorem dX6_weatherFor_19 : decode cX6_weatherFor 19 = .ok (.invokevirtual 284, 3) := by decide +kernel
theorem dX6_weatherFor_22 : decode cX6_weatherFor 22 = .ok (.istore_n 2, 1) := by decide +kernel
theorem dX6_weatherFor_23 : decode cX6_weatherFor 23 = .ok (.iload_n 1, 1) := by decide +kernel
theorem dX6_weatherFor_24 : decode cX6_weatherFor 24 = .ok (.ifCond .ne 7, 3) := by decide +kernel
theorem dX6_weatherFor_27 : decode cX6_weatherFor 27 = .ok (.iload_n 2, 1) := by decide +kernel
theorem dX6_weatherFor_28 : decode cX6_weatherFor 28 = .ok (.goto 11, 3) := by decide +kernel
theorem dX6_weatherFor_31 : decode cX6_weatherFor 31 = .ok (.aload_n 0, 1) := by decide +kernel
theorem dX6_weatherFor_32 : decode cX6_weatherFor 32 = .ok (.getfield 10, 3) := by decide +kernel
theorem dX6_weatherFor_35 : decode cX6_weatherFor 35 = .ok (.iload_n 2, 1) := by decide +kernel
theorem dX6_weatherFor_36 : decode cX6_weatherFor 36 = .ok (.invokevirtual 287, 3) := by decide +kernel
theorem dX6_weatherFor_39 : decode cX6_weatherFor 39 = .ok (.ireturn, 1) := by decide +kernel
theorem dX6_bell_0 : decode cX6_bell 0 = .ok (.iload_n 1, 1) := by decide +kernel
theorem dX6_bell_1 : decode cX6_bell 1 = .ok (.iconst 1, 1) := by decide +kernel
theorem dX6_bell_2 : decode cX6_bell 2 = .ok (.invokestatic 55, 3) := by decide +kernel
theorem dX6_bell_5 : decode cX6_bell 5 = .ok (.ifCond .ne 10, 3) := by decide +kernel
theorem dX6_bell_8 : decode cX6_bell 8 = .ok (.aload_n 0, 1) := by decide +kernel
theorem dX6_bell_9 : decode cX6_bell 9 = .ok (.bipush (-2), 2) := by decide +kernel
theorem dX6_bell_11 : decode cX6_bell 11 = .ok (.invokevirtual 59, 3) := by decide +kernel
theorem dX6_bell_14 : decode cX6_bell 14 = .ok (.ireturn, 1) := by decide +kernel
theorem dX6_bell_15 : decode cX6_bell 15 = .ok (.aload_n 0, 1) := by decide +kernel
theorem dX6_bell_16 : decode cX6_bell 16 = .ok (.getfield 10, 3) := by decide +kernel
theorem dX6_bell_19 : decode cX6_bell 19 = .ok (.invokevirtual 290, 3) := by decide +kernel
theorem dX6_bell_22 : decode cX6_bell 22 = .ok (.istore_n 2, 1) := by decide +kernel
theorem dX6_bell_23 : decode cX6_bell 23 = .ok (.iload_n 1, 1) := by decide +kernel
theorem dX6_bell_24 : decode cX6_bell 24 = .ok (.ifCond .ne 7, 3) := by decide +kernel
theorem dX6_bell_27 : decode cX6_bell 27 = .ok (.iload_n 2, 1) := by decide +kernel
theorem dX6_bell_28 : decode cX6_bell 28 = .ok (.goto 11, 3) := by decide +kernel
theorem dX6_bell_31 : decode cX6_bell 31 = .ok (.aload_n 0, 1) := by decide +kernel
theorem dX6_bell_32 : decode cX6_bell 32 = .ok (.getfield 10, 3) := by decide +kernel
theorem dX6_bell_35 : decode cX6_bell 35 = .ok (.iload_n 2, 1) := by decide +kernel
theorem dX6_bell_36 : decode cX6_bell 36 = .ok (.invokevirtual 293, 3) := by decide +kernel
theorem dX6_bell_39 : decode cX6_bell 39 = .ok (.ireturn, 1) := by decide +kernel
theorem dX6_pair_0 : decode cX6_pair 0 = .ok (.iload_n 1, 1) := by decide +kernel
theorem dX6_pair_1 : decode cX6_pair 1 = .ok (.iconst 1, 1) := by decide +kernel
theorem dX6_pair_2 : decode cX6_pair 2 = .ok (.invokestatic 55, 3) := by decide +kernel
theorem dX6_pair_5 : decode cX6_pair 5 = .ok (.ifCond .ne 10, 3) := by decide +kernel
theorem dX6_pair_8 : decode cX6_pair 8 = .ok (.aload_n 0, 1) := by decide +kernel
theorem dX6_pair_9 : decode cX6_pair 9 = .ok (.bipush (-2), 2) := by decide +kernel
theorem dX6_pair_11 : decode cX6_pair 11 = .ok (.invokevirtual 59, 3) := by decide +kernel
theorem dX6_pair_14 : decode cX6_pair 14 = .ok (.ireturn, 1) := by decide +kernel
theorem dX6_pair_15 : decode cX6_pair 15 = .ok (.aload_n 0, 1) := by decide +kernel
theorem dX6_pair_16 : decode cX6_pair 16 = .ok (.getfield 10, 3) := by decide +kernel
theorem dX6_pair_19 : decode cX6_pair 19 = .ok (.invokestatic 296, 3) := by decide +kernel
theorem dX6_pair_22 : decode cX6_pair 22 = .ok (.istore_n 2, 1) := by decide +kernel
theorem dX6_pair_23 : decode cX6_pair 23 = .ok (.iload_n 1, 1) := by decide +kernel
theorem dX6_pair_24 : decode cX6_pair 24 = .ok (.ifCond .eq 8, 3) := by decide +kernel
theorem dX6_pair_27 : decode cX6_pair 27 = .ok (.iload_n 2, 1) := by decide +kernel
theorem dX6_pair_28 : decode cX6_pair 28 = .ok (.iconst (-1), 1) := by decide +kernel
theorem dX6_pair_29 : decode cX6_pair 29 = .ok (.if_icmp .ne 7, 3) := by decide +kernel
theorem dX6_pair_32 : decode cX6_pair 32 = .ok (.iload_n 2, 1) := by decide +kernel
theorem dX6_pair_33 : decode cX6_pair 33 = .ok (.goto 33, 3) := by decide +kernel
theorem dX6_pair_36 : decode cX6_pair 36 = .ok (.aload_n 0, 1) := by decide +kernel
theorem dX6_pair_37 : decode cX6_pair 37 = .ok (.getfield 10, 3) := by decide +kernel
theorem dX6_pair_40 : decode cX6_pair 40 = .ok (.aload_n 0, 1) := by decide +kernel
theorem dX6_pair_41 : decode cX6_pair 41 = .ok (.getfield 10, 3) := by decide +kernel
theorem dX6_pair_44 : decode cX6_pair 44 = .ok (.getfield 202, 3) := by decide +kernel
theorem dX6_pair_47 : decode cX6_pair 47 = .ok (.iconst 1, 1) := by decide +kernel
theorem dX6_pair_48 : decode cX6_pair 48 = .ok (.iload_n 2, 1) := by decide +kernel
theorem dX6_pair_49 : decode cX6_pair 49 = .ok (.bipush 10, 2) := by decide +kernel
theorem dX6_pair_51 : decode cX6_pair 51 = .ok (.idiv, 1) := by decide +kernel
theorem dX6_pair_52 : decode cX6_pair 52 = .ok (.ishl, 1) := by decide +kernel
theorem dX6_pair_53 : decode cX6_pair 53 = .ok (.iconst 1, 1) := by decide +kernel
theorem dX6_pair_54 : decode cX6_pair 54 = .ok (.iload_n 2, 1) := by decide +kernel
theorem dX6_pair_55 : decode cX6_pair 55 = .ok (.bipush 10, 2) := by decide +kernel
theorem dX6_pair_57 : decode cX6_pair 57 = .ok (.irem, 1) := by decide +kernel
theorem dX6_pair_58 : decode cX6_pair 58 = .ok (.ishl, 1) := by decide +kernel
theorem dX6_pair_59 : decode cX6_pair 59 = .ok (.ior, 1) := by decide +kernel
theorem dX6_pair_60 : decode cX6_pair 60 = .ok (.iconst (-1), 1) := by decide +kernel
theorem dX6_pair_61 : decode cX6_pair 61 = .ok (.ixor, 1) := by decide +kernel
theorem dX6_pair_62 : decode cX6_pair 62 = .ok (.iand, 1) := by decide +kernel
theorem dX6_pair_63 : decode cX6_pair 63 = .ok (.invokevirtual 268, 3) := by decide +kernel
theorem dX6_pair_66 : decode cX6_pair 66 = .ok (.ireturn, 1) := by decide +kernel
theorem dX6_under_0 : decode cX6_under 0 = .ok (.iload_n 1, 1) := by decide +kernel
theorem dX6_under_1 : decode cX6_under 1 = .ok (.sipush 999, 3) := by decide +kernel
theorem dX6_under_4 : decode cX6_under 4 = .ok (.invokestatic 55, 3) := by decide +kernel
theorem dX6_under_7 : decode cX6_under 7 = .ok (.ifCond .eq 14, 3) := by decide +kernel
theorem dX6_under_10 : decode cX6_under 10 = .ok (.aload_n 0, 1) := by decide +kernel
theorem dX6_under_11 : decode cX6_under 11 = .ok (.getfield 10, 3) := by decide +kernel
theorem dX6_under_14 : decode cX6_under 14 = .ok (.iload_n 1, 1) := by decide +kernel
theorem dX6_under_15 : decode cX6_under 15 = .ok (.invokestatic 299, 3) := by decide +kernel
theorem dX6_under_18 : decode cX6_under 18 = .ok (.goto 9, 3) := by decide +kernel
theorem dX6_under_21 : decode cX6_under 21 = .ok (.aload_n 0, 1) := by decide +kernel
theorem dX6_under_22 : decode cX6_under 22 = .ok (.bipush (-2), 2) := by decide +kernel
theorem dX6_under_24 : decode cX6_under 24 = .ok (.invokevirtual 59, 3) := by decide +kernel
theorem dX6_under_27 : decode cX6_under 27 = .ok (.ireturn, 1) := by decide +kernel
theorem dX6_pillar_0 : decode cX6_pillar 0 = .ok (.aload_n 0, 1) := by decide +kernel
theorem dX6_pillar_1 : decode cX6_pillar 1 = .ok (.getfield 10, 3) := by decide +kernel
theorem dX6_pillar_4 : decode cX6_pillar 4 = .ok (.aload_n 0, 1) := by decide +kernel
theorem dX6_pillar_5 : decode cX6_pillar 5 = .ok (.getfield 10, 3) := by decide +kernel
theorem dX6_pillar_8 : decode cX6_pillar 8 = .ok (.aload_n 0, 1) := by decide +kernel
theorem dX6_pillar_9 : decode cX6_pillar 9 = .ok (.getfield 10, 3) := by decide +kernel
theorem dX6_pillar_12 : decode cX6_pillar 12 = .ok (.getfield 202, 3) := by decide +kernel
theorem dX6_pillar_15 : decode cX6_pillar 15 = .ok (.invokevirtual 205, 3) := by decide +kernel
theorem dX6_pillar_18 : decode cX6_pillar 18 = .ok (.invokestatic 265, 3) := by decide +kernel
theorem dX6_pillar_21 : decode cX6_pillar 21 = .ok (.ireturn, 1) := by decide +kernel
theorem dX6_ways_0 : decode cX6_ways 0 = .ok (.aload_n 0, 1) := by decide +kernel
theorem dX6_ways_1 : decode cX6_ways 1 = .ok (.getfield 10, 3) := by decide +kernel
theorem dX6_ways_4 : decode cX6_ways 4 = .ok (.iload_n 1, 1) := by decide +kernel
theorem dX6_ways_5 : decode cX6_ways 5 = .ok (.invokevirtual 223, 3) := by decide +kernel
theorem dX6_ways_8 : decode cX6_ways 8 = .ok (.ifCond .eq 14, 3) := by decide +kernel
theorem dX6_ways_11 : decode cX6_ways 11 = .ok (.aload_n 0, 1) := by decide +kernel
theorem dX6_ways_12 : decode cX6_ways 12 = .ok (.getfield 10, 3) := by decide +kernel
theorem dX6_ways_15 : decode cX6_ways 15 = .ok (.iload_n 1, 1) := by decide +kernel
theorem dX6_ways_16 : decode cX6_ways 16 = .ok (.invokestatic 302, 3) := by decide +kernel
theorem dX6_ways_19 : decode cX6_ways 19 = .ok (.goto 9, 3) := by decide +kernel
theorem dX6_ways_22 : decode cX6_ways 22 = .ok (.aload_n 0, 1) := by decide +kernel
theorem dX6_ways_23 : decode cX6_ways 23 = .ok (.bipush (-2), 2) := by decide +kernel
theorem dX6_ways_25 : decode cX6_ways 25 = .ok (.invokevirtual 59, 3) := by decide +kernel
theorem dX6_ways_28 : decode cX6_ways 28 = .ok (.ireturn, 1) := by decide +kernel
theorem dX6_oldest_0 : decode cX6_oldest 0 = .ok (.iload_n 1, 1) := by decide +kernel
theorem dX6_oldest_1 : decode cX6_oldest 1 = .ok (.iconst 1, 1) := by decide +kernel
theorem dX6_oldest_2 : decode cX6_oldest 2 = .ok (.invokestatic 55, 3) := by decide +kernel
theorem dX6_oldest_5 : decode cX6_oldest 5 = .ok (.ifCond .eq 22, 3) := by decide +kernel
theorem dX6_oldest_8 : decode cX6_oldest 8 = .ok (.aload_n 0, 1) := by decide +kernel
theorem dX6_oldest_9 : decode cX6_oldest 9 = .ok (.getfield 10, 3) := by decide +kernel
theorem dX6_oldest_12 : decode cX6_oldest 12 = .ok (.iload_n 1, 1) := by decide +kernel
theorem dX6_oldest_13 : decode cX6_oldest 13 = .ok (.ifCond .ne 7, 3) := by decide +kernel
theorem dX6_oldest_16 : decode cX6_oldest 16 = .ok (.iconst 1, 1) := by decide +kernel
theorem dX6_oldest_17 : decode cX6_oldest 17 = .ok (.goto 4, 3) := by decide +kernel
theorem dX6_oldest_20 : decode cX6_oldest 20 = .ok (.iconst 0, 1) := by decide +kernel
theorem dX6_oldest_21 : decode cX6_oldest 21 = .ok (.invokevirtual 305, 3) := by decide +kernel
theorem dX6_oldest_24 : decode cX6_oldest 24 = .ok (.goto 9, 3) := by decide +kernel
theorem dX6_oldest_27 : decode cX6_oldest 27 = .ok (.aload_n 0, 1) := by decide +kernel
theorem dX6_oldest_28 : decode cX6_oldest 28 = .ok (.bipush (-2), 2) := by decide +kernel
theorem dX6_oldest_30 : decode cX6_oldest 30 = .ok (.invokevirtual 59, 3) := by decide +kernel
theorem dX6_oldest_33 : decode cX6_oldest 33 = .ok (.ireturn, 1) := by decide +kernel
theorem dX6_free_0 : decode cX6_free 0 = .ok (.aload_n 0, 1) := by decide +kernel
theorem dX6_free_1 : decode cX6_free 1 = .ok (.getfield 10, 3) := by decide +kernel
theorem dX6_free_4 : decode cX6_free 4 = .ok (.iload_n 1, 1) := by decide +kernel
theorem dX6_free_5 : decode cX6_free 5 = .ok (.invokevirtual 146, 3) := by decide +kernel
theorem dX6_free_8 : decode cX6_free 8 = .ok (.ifCond .ne 10, 3) := by decide +kernel
theorem dX6_free_11 : decode cX6_free 11 = .ok (.aload_n 0, 1) := by decide +kernel
theorem dX6_free_12 : decode cX6_free 12 = .ok (.bipush (-2), 2) := by decide +kernel
theorem dX6_free_14 : decode cX6_free 14 = .ok (.invokevirtual 59, 3) := by decide +kernel
theorem dX6_free_17 : decode cX6_free 17 = .ok (.ireturn, 1) := by decide +kernel
theorem dX6_free_18 : decode cX6_free 18 = .ok (.aload_n 0, 1) := by decide +kernel
theorem dX6_free_19 : decode cX6_free 19 = .ok (.getfield 10, 3) := by decide +kernel
theorem dX6_free_22 : decode cX6_free 22 = .ok (.iload_n 1, 1) := by decide +kernel
theorem dX6_free_23 : decode cX6_free 23 = .ok (.invokevirtual 149, 3) := by decide +kernel
theorem dX6_free_26 : decode cX6_free 26 = .ok (.istore_n 2, 1) := by decide +kernel
theorem dX6_free_27 : decode cX6_free 27 = .ok (.aload_n 0, 1) := by decide +kernel
theorem dX6_free_28 : decode cX6_free 28 = .ok (.getfield 10, 3) := by decide +kernel
theorem dX6_free_31 : decode cX6_free 31 = .ok (.iload_n 1, 1) := by decide +kernel
theorem dX6_free_32 : decode cX6_free 32 = .ok (.invokevirtual 309, 3) := by decide +kernel
theorem dX6_free_35 : decode cX6_free 35 = .ok (.iload_n 2, 1) := by decide +kernel
theorem dX6_free_36 : decode cX6_free 36 = .ok (.ireturn, 1) := by decide +kernel
theorem dX6_once_0 : decode cX6_once 0 = .ok (.aload_n 0, 1) := by decide +kernel
theorem dX6_once_1 : decode cX6_once 1 = .ok (.getfield 10, 3) := by decide +kernel
theorem dX6_once_4 : decode cX6_once 4 = .ok (.getfield 98, 3) := by decide +kernel
theorem dX6_once_7 : decode cX6_once 7 = .ok (.iload_n 1, 1) := by decide +kernel
theorem dX6_once_8 : decode cX6_once 8 = .ok (.invokevirtual 196, 3) := by decide +kernel
theorem dX6_once_11 : decode cX6_once 11 = .ok (.ifCond .ne 10, 3) := by decide +kernel
theorem dX6_once_14 : decode cX6_once 14 = .ok (.aload_n 0, 1) := by decide +kernel
theorem dX6_once_15 : decode cX6_once 15 = .ok (.bipush (-2), 2) := by decide +kernel
theorem dX6_once_17 : decode cX6_once 17 = .ok (.invokevirtual 59, 3) := by decide +kernel
theorem dX6_once_20 : decode cX6_once 20 = .ok (.ireturn, 1) := by decide +kernel
theorem dX6_once_21 : decode cX6_once 21 = .ok (.aload_n 0, 1) := by decide +kernel
theorem dX6_once_22 : decode cX6_once 22 = .ok (.getfield 10, 3) := by decide +kernel
theorem dX6_once_25 : decode cX6_once 25 = .ok (.getfield 98, 3) := by decide +kernel
theorem dX6_once_28 : decode cX6_once 28 = .ok (.iload_n 1, 1) := by decide +kernel
theorem dX6_once_29 : decode cX6_once 29 = .ok (.aload_n 0, 1) := by decide +kernel
theorem dX6_once_30 : decode cX6_once 30 = .ok (.getfield 10, 3) := by decide +kernel
theorem dX6_once_33 : decode cX6_once 33 = .ok (.getfield 123, 3) := by decide +kernel
theorem dX6_once_36 : decode cX6_once 36 = .ok (.invokevirtual 313, 3) := by decide +kernel
theorem dX6_once_39 : decode cX6_once 39 = .ok (.ireturn, 1) := by decide +kernel
theorem dX6_soon_0 : decode cX6_soon 0 = .ok (.aload_n 0, 1) := by decide +kernel
theorem dX6_soon_1 : decode cX6_soon 1 = .ok (.getfield 10, 3) := by decide +kernel
theorem dX6_soon_4 : decode cX6_soon 4 = .ok (.iload_n 1, 1) := by decide +kernel
theorem dX6_soon_5 : decode cX6_soon 5 = .ok (.invokevirtual 146, 3) := by decide +kernel
theorem dX6_soon_8 : decode cX6_soon 8 = .ok (.ifCond .eq 16, 3) := by decide +kernel
theorem dX6_soon_11 : decode cX6_soon 11 = .ok (.aload_n 0, 1) := by decide +kernel
theorem dX6_soon_12 : decode cX6_soon 12 = .ok (.getfield 10, 3) := by decide +kernel
theorem dX6_soon_15 : decode cX6_soon 15 = .ok (.iconst 1, 1) := by decide +kernel
theorem dX6_soon_16 : decode cX6_soon 16 = .ok (.iload_n 1, 1) := by decide +kernel
theorem dX6_soon_17 : decode cX6_soon 17 = .ok (.ishl, 1) := by decide +kernel
theorem dX6_soon_18 : decode cX6_soon 18 = .ok (.invokevirtual 235, 3) := by decide +kernel
theorem dX6_soon_21 : decode cX6_soon 21 = .ok (.goto 9, 3) := by decide +kernel
theorem dX6_soon_24 : decode cX6_soon 24 = .ok (.aload_n 0, 1) := by decide +kernel
theorem dX6_soon_25 : decode cX6_soon 25 = .ok (.bipush (-2), 2) := by decide +kernel
theorem dX6_soon_27 : decode cX6_soon 27 = .ok (.invokevirtual 59, 3) := by decide +kernel
theorem dX6_soon_30 : decode cX6_soon 30 = .ok (.ireturn, 1) := by decide +kernel
theorem dX6_inWeather_0 : decode cX6_inWeather 0 = .ok (.iload_n 1, 1) := by decide +kernel
theorem dX6_inWeather_1 : decode cX6_inWeather 1 = .ok (.iconst 3, 1) := by decide +kernel
theorem dX6_inWeather_2 : decode cX6_inWeather 2 = .ok (.invokestatic 55, 3) := by decide +kernel
theorem dX6_inWeather_5 : decode cX6_inWeather 5 = .ok (.ifCond .eq 14, 3) := by decide +kernel
theorem dX6_inWeather_8 : decode cX6_inWeather 8 = .ok (.aload_n 0, 1) := by decide +kernel
theorem dX6_inWeather_9 : decode cX6_inWeather 9 = .ok (.getfield 10, 3) := by decide +kernel
theorem dX6_inWeather_12 : decode cX6_inWeather 12 = .ok (.iload_n 1, 1) := by decide +kernel
theorem dX6_inWeather_13 : decode cX6_inWeather 13 = .ok (.invokevirtual 316, 3) := by decide +kernel
theorem dX6_inWeather_16 : decode cX6_inWeather 16 = .ok (.goto 9, 3) := by decide +kernel
theorem dX6_inWeather_19 : decode cX6_inWeather 19 = .ok (.aload_n 0, 1) := by decide +kernel
theorem dX6_inWeather_20 : decode cX6_inWeather 20 = .ok (.bipush (-2), 2) := by decide +kernel
theorem dX6_inWeather_22 : decode cX6_inWeather 22 = .ok (.invokevirtual 59, 3) := by decide +kernel
theorem dX6_inWeather_25 : decode cX6_inWeather 25 = .ok (.ireturn, 1) := by decide +kernel
theorem dX6_chain_0 : decode cX6_chain 0 = .ok (.aload_n 0, 1) := by decide +kernel
theorem dX6_chain_1 : decode cX6_chain 1 = .ok (.getfield 10, 3) := by decide +kernel
theorem dX6_chain_4 : decode cX6_chain 4 = .ok (.iload_n 1, 1) := by decide +kernel
theorem dX6_chain_5 : decode cX6_chain 5 = .ok (.invokevirtual 146, 3) := by decide +kernel
theorem dX6_chain_8 : decode cX6_chain 8 = .ok (.ifCond .eq 14, 3) := by decide +kernel
theorem dX6_chain_11 : decode cX6_chain 11 = .ok (.aload_n 0, 1) := by decide +kernel
theorem dX6_chain_12 : decode cX6_chain 12 = .ok (.getfield 10, 3) := by decide +kernel
theorem dX6_chain_15 : decode cX6_chain 15 = .ok (.iload_n 1, 1) := by decide +kernel
theorem dX6_chain_16 : decode cX6_chain 16 = .ok (.invokevirtual 319, 3) := by decide +kernel
theorem dX6_chain_19 : decode cX6_chain 19 = .ok (.goto 9, 3) := by decide +kernel
theorem dX6_chain_22 : decode cX6_chain 22 = .ok (.aload_n 0, 1) := by decide +kernel
theorem dX6_chain_23 : decode cX6_chain 23 = .ok (.bipush (-2), 2) := by decide +kernel
theorem dX6_chain_25 : decode cX6_chain 25 = .ok (.invokevirtual 59, 3) := by decide +kernel
theorem dX6_chain_28 : decode cX6_chain 28 = .ok (.ireturn, 1) := by decide +kernel
theorem dX6_alone_0 : decode cX6_alone 0 = .ok (.aload_n 0, 1) := by decide +kernel
theorem dX6_alone_1 : decode cX6_alone 1 = .ok (.getfield 10, 3) := by decide +kernel
theorem dX6_alone_4 : decode cX6_alone 4 = .ok (.iload_n 1, 1) := by decide +kernel
theorem dX6_alone_5 : decode cX6_alone 5 = .ok (.invokevirtual 146, 3) := by decide +kernel
theorem dX6_alone_8 : decode cX6_alone 8 = .ok (.ifCond .ne 10, 3) := by decide +kernel
theorem dX6_alone_11 : decode cX6_alone 11 = .ok (.aload_n 0, 1) := by decide +kernel
theorem dX6_alone_12 : decode cX6_alone 12 = .ok (.bipush (-2), 2) := by decide +kernel
theorem dX6_alone_14 : decode cX6_alone 14 = .ok (.invokevirtual 59, 3) := by decide +kernel
theorem dX6_alone_17 : decode cX6_alone 17 = .ok (.ireturn, 1) := by decide +kernel
theorem dX6_alone_18 : decode cX6_alone 18 = .ok (.aload_n 0, 1) := by decide +kernel
theorem dX6_alone_19 : decode cX6_alone 19 = .ok (.getfield 10, 3) := by decide +kernel
theorem dX6_alone_22 : decode cX6_alone 22 = .ok (.iload_n 1, 1) := by decide +kernel
theorem dX6_alone_23 : decode cX6_alone 23 = .ok (.invokevirtual 214, 3) := by decide +kernel
theorem dX6_alone_26 : decode cX6_alone 26 = .ok (.iconst 1, 1) := by decide +kernel
theorem dX6_alone_27 : decode cX6_alone 27 = .ok (.iload_n 1, 1) := by decide +kernel
theorem dX6_alone_28 : decode cX6_alone 28 = .ok (.ishl, 1) := by decide +kernel
theorem dX6_alone_29 : decode cX6_alone 29 = .ok (.iconst (-1), 1) := by decide +kernel
theorem dX6_alone_30 : decode cX6_alone 30 = .ok (.ixor, 1) := by decide +kernel
theorem dX6_alone_31 : decode cX6_alone 31 = .ok (.iand, 1) := by decide +kernel
theorem dX6_alone_32 : decode cX6_alone 32 = .ok (.ifCond .ne 7, 3) := by decide +kernel
theorem dX6_alone_35 : decode cX6_alone 35 = .ok (.iconst 1, 1) := by decide +kernel
theorem dX6_alone_36 : decode cX6_alone 36 = .ok (.goto 4, 3) := by decide +kernel
theorem dX6_alone_39 : decode cX6_alone 39 = .ok (.iconst 0, 1) := by decide +kernel
theorem dX6_alone_40 : decode cX6_alone 40 = .ok (.ireturn, 1) := by decide +kernel
theorem dX6_ofKind_0 : decode cX6_ofKind 0 = .ok (.iload_n 1, 1) := by decide +kernel
theorem dX6_ofKind_1 : decode cX6_ofKind 1 = .ok (.iconst 5, 1) := by decide +kernel
theorem dX6_ofKind_2 : decode cX6_ofKind 2 = .ok (.invokestatic 55, 3) := by decide +kernel
theorem dX6_ofKind_5 : decode cX6_ofKind 5 = .ok (.ifCond .eq 17, 3) := by decide +kernel
theorem dX6_ofKind_8 : decode cX6_ofKind 8 = .ok (.aload_n 0, 1) := by decide +kernel
theorem dX6_ofKind_9 : decode cX6_ofKind 9 = .ok (.getfield 10, 3) := by decide +kernel
theorem dX6_ofKind_12 : decode cX6_ofKind 12 = .ok (.getfield 98, 3) := by decide +kernel
theorem dX6_ofKind_15 : decode cX6_ofKind 15 = .ok (.iload_n 1, 1) := by decide +kernel
theorem dX6_ofKind_16 : decode cX6_ofKind 16 = .ok (.invokevirtual 322, 3) := by decide +kernel
theorem dX6_ofKind_19 : decode cX6_ofKind 19 = .ok (.goto 9, 3) := by decide +kernel
theorem dX6_ofKind_22 : decode cX6_ofKind 22 = .ok (.aload_n 0, 1) := by decide +kernel
theorem dX6_ofKind_23 : decode cX6_ofKind 23 = .ok (.bipush (-2), 2) := by decide +kernel
theorem dX6_ofKind_25 : decode cX6_ofKind 25 = .ok (.invokevirtual 59, 3) := by decide +kernel
theorem dX6_ofKind_28 : decode cX6_ofKind 28 = .ok (.ireturn, 1) := by decide +kernel
theorem dX6_judge_0 : decode cX6_judge 0 = .ok (.aload_n 0, 1) := by decide +kernel
theorem dX6_judge_1 : decode cX6_judge 1 = .ok (.iload_n 1, 1) := by decide +kernel
theorem dX6_judge_2 : decode cX6_judge 2 = .ok (.iload_n 2, 1) := by decide +kernel
theorem dX6_judge_3 : decode cX6_judge 3 = .ok (.invokevirtual 325, 3) := by decide +kernel
theorem dX6_judge_6 : decode cX6_judge 6 = .ok (.istore_n 3, 1) := by decide +kernel
theorem dX6_judge_7 : decode cX6_judge 7 = .ok (.iload_n 3, 1) := by decide +kernel
theorem dX6_judge_8 : decode cX6_judge 8 = .ok (.ifCond .eq 11, 3) := by decide +kernel
theorem dX6_judge_11 : decode cX6_judge 11 = .ok (.aload_n 0, 1) := by decide +kernel
theorem dX6_judge_12 : decode cX6_judge 12 = .ok (.iload_n 3, 1) := by decide +kernel
theorem dX6_judge_13 : decode cX6_judge 13 = .ok (.invokevirtual 59, 3) := by decide +kernel
theorem dX6_judge_16 : decode cX6_judge 16 = .ok (.goto 9, 3) := by decide +kernel
theorem dX6_judge_19 : decode cX6_judge 19 = .ok (.aload_n 0, 1) := by decide +kernel
theorem dX6_judge_20 : decode cX6_judge 20 = .ok (.iload_n 1, 1) := by decide +kernel
theorem dX6_judge_21 : decode cX6_judge 21 = .ok (.iload_n 2, 1) := by decide +kernel
theorem dX6_judge_22 : decode cX6_judge 22 = .ok (.invokevirtual 328, 3) := by decide +kernel
theorem dX6_judge_25 : decode cX6_judge 25 = .ok (.ireturn, 1) := by decide +kernel
theorem dX6_behind_0 : decode cX6_behind 0 = .ok (.iload_n 3, 1) := by decide +kernel
theorem dX6_behind_1 : decode cX6_behind 1 = .ok (.iconst 1, 1) := by decide +kernel
theorem dX6_behind_2 : decode cX6_behind 2 = .ok (.invokestatic 55, 3) := by decide +kernel
theorem dX6_behind_5 : decode cX6_behind 5 = .ok (.ifCond .eq 12, 3) := by decide +kernel
theorem dX6_behind_8 : decode cX6_behind 8 = .ok (.aload_n 0, 1) := by decide +kernel
theorem dX6_behind_9 : decode cX6_behind 9 = .ok (.iload_n 1, 1) := by decide +kernel
theorem dX6_behind_10 : decode cX6_behind 10 = .ok (.iload_n 2, 1) := by decide +kernel
theorem dX6_behind_11 : decode cX6_behind 11 = .ok (.invokevirtual 325, 3) := by decide +kernel
theorem dX6_behind_14 : decode cX6_behind 14 = .ok (.goto 5, 3) := by decide +kernel
theorem dX6_behind_17 : decode cX6_behind 17 = .ok (.bipush (-2), 2) := by decide +kernel
theorem dX6_behind_19 : decode cX6_behind 19 = .ok (.istore 4, 2) := by decide +kernel
theorem dX6_behind_21 : decode cX6_behind 21 = .ok (.iload 4, 2) := by decide +kernel
theorem dX6_behind_23 : decode cX6_behind 23 = .ok (.ifCond .eq 10, 3) := by decide +kernel
theorem dX6_behind_26 : decode cX6_behind 26 = .ok (.aload_n 0, 1) := by decide +kernel
theorem dX6_behind_27 : decode cX6_behind 27 = .ok (.iload 4, 2) := by decide +kernel
theorem dX6_behind_29 : decode cX6_behind 29 = .ok (.invokevirtual 59, 3) := by decide +kernel
theorem dX6_behind_32 : decode cX6_behind 32 = .ok (.ireturn, 1) := by decide +kernel
theorem dX6_behind_33 : decode cX6_behind 33 = .ok (.aload_n 0, 1) := by decide +kernel
theorem dX6_behind_34 : decode cX6_behind 34 = .ok (.iload_n 1, 1) := by decide +kernel
theorem dX6_behind_35 : decode cX6_behind 35 = .ok (.iload_n 2, 1) := by decide +kernel
theorem dX6_behind_36 : decode cX6_behind 36 = .ok (.invokevirtual 328, 3) := by decide +kernel
theorem dX6_behind_39 : decode cX6_behind 39 = .ok (.iconst (-1), 1) := by decide +kernel
theorem dX6_behind_40 : decode cX6_behind 40 = .ok (.if_icmp .eq 10, 3) := by decide +kernel
theorem dX6_behind_43 : decode cX6_behind 43 = .ok (.aload_n 0, 1) := by decide +kernel
theorem dX6_behind_44 : decode cX6_behind 44 = .ok (.bipush (-5), 2) := by decide +kernel
theorem dX6_behind_46 : decode cX6_behind 46 = .ok (.invokevirtual 59, 3) := by decide +kernel
theorem dX6_behind_49 : decode cX6_behind 49 = .ok (.ireturn, 1) := by decide +kernel
theorem dX6_behind_50 : decode cX6_behind 50 = .ok (.iload_n 3, 1) := by decide +kernel
theorem dX6_behind_51 : decode cX6_behind 51 = .ok (.ifCond .ne 20, 3) := by decide +kernel
theorem dX6_behind_54 : decode cX6_behind 54 = .ok (.aload_n 0, 1) := by decide +kernel
theorem dX6_behind_55 : decode cX6_behind 55 = .ok (.getfield 19, 3) := by decide +kernel
theorem dX6_behind_58 : decode cX6_behind 58 = .ok (.aload_n 0, 1) := by decide +kernel
theorem dX6_behind_59 : decode cX6_behind 59 = .ok (.getfield 19, 3) := by decide +kernel
theorem dX6_behind_62 : decode cX6_behind 62 = .ok (.getfield 202, 3) := by decide +kernel
theorem dX6_behind_65 : decode cX6_behind 65 = .ok (.invokevirtual 205, 3) := by decide +kernel
theorem dX6_behind_68 : decode cX6_behind 68 = .ok (.goto 10, 3) := by decide +kernel
theorem dX6_behind_71 : decode cX6_behind 71 = .ok (.aload_n 0, 1) := by decide +kernel
theorem dX6_behind_72 : decode cX6_behind 72 = .ok (.getfield 19, 3) := by decide +kernel
theorem dX6_behind_75 : decode cX6_behind 75 = .ok (.invokevirtual 208, 3) := by decide +kernel
theorem dX6_behind_78 : decode cX6_behind 78 = .ok (.ireturn, 1) := by decide +kernel
theorem dX6_ring_0 : decode cX6_ring 0 = .ok (.aload_n 0, 1) := by decide +kernel
theorem dX6_ring_1 : decode cX6_ring 1 = .ok (.getfield 10, 3) := by decide +kernel
theorem dX6_ring_4 : decode cX6_ring 4 = .ok (.iload_n 1, 1) := by decide +kernel
theorem dX6_ring_5 : decode cX6_ring 5 = .ok (.invokevirtual 146, 3) := by decide +kernel
theorem dX6_ring_8 : decode cX6_ring 8 = .ok (.ifCond .ne 10, 3) := by decide +kernel
theorem dX6_ring_11 : decode cX6_ring 11 = .ok (.aload_n 0, 1) := by decide +kernel
theorem dX6_ring_12 : decode cX6_ring 12 = .ok (.bipush (-2), 2) := by decide +kernel
theorem dX6_ring_14 : decode cX6_ring 14 = .ok (.invokevirtual 59, 3) := by decide +kernel
theorem dX6_ring_17 : decode cX6_ring 17 = .ok (.ireturn, 1) := by decide +kernel
theorem dX6_ring_18 : decode cX6_ring 18 = .ok (.aload_n 0, 1) := by decide +kernel
theorem dX6_ring_19 : decode cX6_ring 19 = .ok (.getfield 10, 3) := by decide +kernel
theorem dX6_ring_22 : decode cX6_ring 22 = .ok (.iload_n 1, 1) := by decide +kernel
theorem dX6_ring_23 : decode cX6_ring 23 = .ok (.invokevirtual 331, 3) := by decide +kernel
theorem dX6_ring_26 : decode cX6_ring 26 = .ok (.ifCond .ne 10, 3) := by decide +kernel
theorem dX6_ring_29 : decode cX6_ring 29 = .ok (.aload_n 0, 1) := by decide +kernel
theorem dX6_ring_30 : decode cX6_ring 30 = .ok (.bipush (-5), 2) := by decide +kernel
theorem dX6_ring_32 : decode cX6_ring 32 = .ok (.invokevirtual 59, 3) := by decide +kernel
theorem dX6_ring_35 : decode cX6_ring 35 = .ok (.ireturn, 1) := by decide +kernel
theorem dX6_ring_36 : decode cX6_ring 36 = .ok (.aload_n 0, 1) := by decide +kernel
theorem dX6_ring_37 : decode cX6_ring 37 = .ok (.getfield 10, 3) := by decide +kernel
theorem dX6_ring_40 : decode cX6_ring 40 = .ok (.iload_n 1, 1) := by decide +kernel
theorem dX6_ring_41 : decode cX6_ring 41 = .ok (.invokevirtual 334, 3) := by decide +kernel
theorem dX6_ring_44 : decode cX6_ring 44 = .ok (.aload_n 0, 1) := by decide +kernel
theorem dX6_ring_45 : decode cX6_ring 45 = .ok (.getfield 10, 3) := by decide +kernel
theorem dX6_ring_48 : decode cX6_ring 48 = .ok (.invokevirtual 208, 3) := by decide +kernel
theorem dX6_ring_51 : decode cX6_ring 51 = .ok (.ireturn, 1) := by decide +kernel
theorem dX6_day_0 : decode cX6_day 0 = .ok (.aload_n 0, 1) := by decide +kernel
theorem dX6_day_1 : decode cX6_day 1 = .ok (.getfield 10, 3) := by decide +kernel
theorem dX6_day_4 : decode cX6_day 4 = .ok (.invokevirtual 337, 3) := by decide +kernel
theorem dX6_day_7 : decode cX6_day 7 = .ok (.aload_n 0, 1) := by decide +kernel
theorem dX6_day_8 : decode cX6_day 8 = .ok (.getfield 10, 3) := by decide +kernel
theorem dX6_day_11 : decode cX6_day 11 = .ok (.getfield 340, 3) := by decide +kernel
theorem dX6_day_14 : decode cX6_day 14 = .ok (.ireturn, 1) := by decide +kernel
theorem dX6_years_0 : decode cX6_years 0 = .ok (.iload_n 1, 1) := by decide +kernel
theorem dX6_years_1 : decode cX6_years 1 = .ok (.iconst 1, 1) := by decide +kernel
theorem dX6_years_2 : decode cX6_years 2 = .ok (.if_icmp .lt 9, 3) := by decide +kernel
theorem dX6_years_5 : decode cX6_years 5 = .ok (.iload_n 1, 1) := by decide +kernel
theorem dX6_years_6 : decode cX6_years 6 = .ok (.bipush 60, 2) := by decide +kernel
theorem dX6_years_8 : decode cX6_years 8 = .ok (.if_icmp .le 10, 3) := by decide +kernel
theorem dX6_years_11 : decode cX6_years 11 = .ok (.aload_n 0, 1) := by decide +kernel
theorem dX6_years_12 : decode cX6_years 12 = .ok (.bipush (-2), 2) := by decide +kernel
theorem dX6_years_14 : decode cX6_years 14 = .ok (.invokevirtual 59, 3) := by decide +kernel
theorem dX6_years_17 : decode cX6_years 17 = .ok (.ireturn, 1) := by decide +kernel
theorem dX6_years_18 : decode cX6_years 18 = .ok (.aload_n 0, 1) := by decide +kernel
theorem dX6_years_19 : decode cX6_years 19 = .ok (.getfield 10, 3) := by decide +kernel
theorem dX6_years_22 : decode cX6_years 22 = .ok (.getfield 343, 3) := by decide +kernel
theorem dX6_years_25 : decode cX6_years 25 = .ok (.ifCond .ne 10, 3) := by decide +kernel
theorem dX6_years_28 : decode cX6_years 28 = .ok (.aload_n 0, 1) := by decide +kernel
theorem dX6_years_29 : decode cX6_years 29 = .ok (.bipush (-5), 2) := by decide +kernel
theorem dX6_years_31 : decode cX6_years 31 = .ok (.invokevirtual 59, 3) := by decide +kernel
theorem dX6_years_34 : decode cX6_years 34 = .ok (.ireturn, 1) := by decide +kernel
theorem dX6_years_35 : decode cX6_years 35 = .ok (.iconst 0, 1) := by decide +kernel
theorem dX6_years_36 : decode cX6_years 36 = .ok (.istore_n 2, 1) := by decide +kernel
theorem dX6_years_37 : decode cX6_years 37 = .ok (.iconst 0, 1) := by decide +kernel
theorem dX6_years_38 : decode cX6_years 38 = .ok (.istore_n 3, 1) := by decide +kernel
theorem dX6_years_39 : decode cX6_years 39 = .ok (.iload_n 3, 1) := by decide +kernel
theorem dX6_years_40 : decode cX6_years 40 = .ok (.iload_n 1, 1) := by decide +kernel
theorem dX6_years_41 : decode cX6_years 41 = .ok (.if_icmp .ge 19, 3) := by decide +kernel
theorem dX6_years_44 : decode cX6_years 44 = .ok (.iload_n 2, 1) := by decide +kernel
theorem dX6_years_45 : decode cX6_years 45 = .ok (.aload_n 0, 1) := by decide +kernel
theorem dX6_years_46 : decode cX6_years 46 = .ok (.getfield 10, 3) := by decide +kernel
theorem dX6_years_49 : decode cX6_years 49 = .ok (.invokevirtual 346, 3) := by decide +kernel
theorem dX6_years_52 : decode cX6_years 52 = .ok (.iadd, 1) := by decide +kernel
theorem dX6_years_53 : decode cX6_years 53 = .ok (.istore_n 2, 1) := by decide +kernel
theorem dX6_years_54 : decode cX6_years 54 = .ok (.iinc 3 1, 3) := by decide +kernel
theorem dX6_years_57 : decode cX6_years 57 = .ok (.goto (-18), 3) := by decide +kernel
theorem dX6_years_60 : decode cX6_years 60 = .ok (.iload_n 2, 1) := by decide +kernel
theorem dX6_years_61 : decode cX6_years 61 = .ok (.ireturn, 1) := by decide +kernel
theorem dX6_seed_0 : decode cX6_seed 0 = .ok (.aload_n 0, 1) := by decide +kernel
theorem dX6_seed_1 : decode cX6_seed 1 = .ok (.getfield 10, 3) := by decide +kernel
theorem dX6_seed_4 : decode cX6_seed 4 = .ok (.getfield 349, 3) := by decide +kernel
theorem dX6_seed_7 : decode cX6_seed 7 = .ok (.istore_n 2, 1) := by decide +kernel
theorem dX6_seed_8 : decode cX6_seed 8 = .ok (.aload_n 0, 1) := by decide +kernel
theorem dX6_seed_9 : decode cX6_seed 9 = .ok (.getfield 10, 3) := by decide +kernel
theorem dX6_seed_12 : decode cX6_seed 12 = .ok (.iload_n 1, 1) := by decide +kernel
theorem dX6_seed_13 : decode cX6_seed 13 = .ok (.putfield 349, 3) := by decide +kernel
theorem dX6_seed_16 : decode cX6_seed 16 = .ok (.iload_n 2, 1) := by decide +kernel
theorem dX6_seed_17 : decode cX6_seed 17 = .ok (.ireturn, 1) := by decide +kernel
theorem dX6_image_0 : decode cX6_image 0 = .ok (.aload_n 0, 1) := by decide +kernel
theorem dX6_image_1 : decode cX6_image 1 = .ok (.getfield 16, 3) := by decide +kernel
theorem dX6_image_4 : decode cX6_image 4 = .ok (.aload_n 0, 1) := by decide +kernel
theorem dX6_image_5 : decode cX6_image 5 = .ok (.getfield 10, 3) := by decide +kernel
theorem dX6_image_8 : decode cX6_image 8 = .ok (.invokevirtual 182, 3) := by decide +kernel
theorem dX6_image_11 : decode cX6_image 11 = .ok (.aload_n 0, 1) := by decide +kernel
theorem dX6_image_12 : decode cX6_image 12 = .ok (.iconst 1, 1) := by decide +kernel
theorem dX6_image_13 : decode cX6_image 13 = .ok (.putfield 47, 3) := by decide +kernel
theorem dX6_image_16 : decode cX6_image 16 = .ok (.iconst 1, 1) := by decide +kernel
theorem dX6_image_17 : decode cX6_image 17 = .ok (.ireturn, 1) := by decide +kernel
theorem dX6_back_0 : decode cX6_back 0 = .ok (.aload_n 0, 1) := by decide +kernel
theorem dX6_back_1 : decode cX6_back 1 = .ok (.getfield 47, 3) := by decide +kernel
theorem dX6_back_4 : decode cX6_back 4 = .ok (.ifCond .ne 10, 3) := by decide +kernel
theorem dX6_back_7 : decode cX6_back 7 = .ok (.aload_n 0, 1) := by decide +kernel
theorem dX6_back_8 : decode cX6_back 8 = .ok (.bipush (-5), 2) := by decide +kernel
theorem dX6_back_10 : decode cX6_back 10 = .ok (.invokevirtual 59, 3) := by decide +kernel
theorem dX6_back_13 : decode cX6_back 13 = .ok (.ireturn, 1) := by decide +kernel
theorem dX6_back_14 : decode cX6_back 14 = .ok (.aload_n 0, 1) := by decide +kernel
theorem dX6_back_15 : decode cX6_back 15 = .ok (.getfield 10, 3) := by decide +kernel
theorem dX6_back_18 : decode cX6_back 18 = .ok (.aload_n 0, 1) := by decide +kernel
theorem dX6_back_19 : decode cX6_back 19 = .ok (.getfield 16, 3) := by decide +kernel
theorem dX6_back_22 : decode cX6_back 22 = .ok (.invokevirtual 182, 3) := by decide +kernel
theorem dX6_back_25 : decode cX6_back 25 = .ok (.aload_n 0, 1) := by decide +kernel
theorem dX6_back_26 : decode cX6_back 26 = .ok (.getfield 25, 3) := by decide +kernel
theorem dX6_back_29 : decode cX6_back 29 = .ok (.aload_n 0, 1) := by decide +kernel
theorem dX6_back_30 : decode cX6_back 30 = .ok (.getfield 10, 3) := by decide +kernel
theorem dX6_back_33 : decode cX6_back 33 = .ok (.getfield 98, 3) := by decide +kernel
theorem dX6_back_36 : decode cX6_back 36 = .ok (.getfield 352, 3) := by decide +kernel
theorem dX6_back_39 : decode cX6_back 39 = .ok (.invokevirtual 355, 3) := by decide +kernel
theorem dX6_back_42 : decode cX6_back 42 = .ok (.iconst 1, 1) := by decide +kernel
theorem dX6_back_43 : decode cX6_back 43 = .ok (.ireturn, 1) := by decide +kernel
theorem dX6_status_0 : decode cX6_status 0 = .ok (.iload_n 1, 1) := by decide +kernel
theorem dX6_status_1 : decode cX6_status 1 = .ok (.tableswitch 126 0 8 #[51, 59, 70, 78, 86, 94, 102, 110, 118], 51) := by decide +kernel
theorem dX6_status_52 : decode cX6_status 52 = .ok (.aload_n 0, 1) := by decide +kernel
theorem dX6_status_53 : decode cX6_status 53 = .ok (.getfield 10, 3) := by decide +kernel
theorem dX6_status_56 : decode cX6_status 56 = .ok (.getfield 343, 3) := by decide +kernel
theorem dX6_status_59 : decode cX6_status 59 = .ok (.ireturn, 1) := by decide +kernel
theorem dX6_status_60 : decode cX6_status 60 = .ok (.aload_n 0, 1) := by decide +kernel
theorem dX6_status_61 : decode cX6_status 61 = .ok (.getfield 10, 3) := by decide +kernel
theorem dX6_status_64 : decode cX6_status 64 = .ok (.getfield 98, 3) := by decide +kernel
theorem dX6_status_67 : decode cX6_status 67 = .ok (.getfield 352, 3) := by decide +kernel
theorem dX6_status_70 : decode cX6_status 70 = .ok (.ireturn, 1) := by decide +kernel
theorem dX6_status_71 : decode cX6_status 71 = .ok (.aload_n 0, 1) := by decide +kernel
theorem dX6_status_72 : decode cX6_status 72 = .ok (.getfield 10, 3) := by decide +kernel
theorem dX6_status_75 : decode cX6_status 75 = .ok (.getfield 340, 3) := by decide +kernel
theorem dX6_status_78 : decode cX6_status 78 = .ok (.ireturn, 1) := by decide +kernel
theorem dX6_status_79 : decode cX6_status 79 = .ok (.aload_n 0, 1) := by decide +kernel
theorem dX6_status_80 : decode cX6_status 80 = .ok (.getfield 10, 3) := by decide +kernel
theorem dX6_status_83 : decode cX6_status 83 = .ok (.getfield 358, 3) := by decide +kernel
theorem dX6_status_86 : decode cX6_status 86 = .ok (.ireturn, 1) := by decide +kernel
theorem dX6_status_87 : decode cX6_status 87 = .ok (.aload_n 0, 1) := by decide +kernel
theorem dX6_status_88 : decode cX6_status 88 = .ok (.getfield 10, 3) := by decide +kernel
theorem dX6_status_91 : decode cX6_status 91 = .ok (.getfield 123, 3) := by decide +kernel
theorem dX6_status_94 : decode cX6_status 94 = .ok (.ireturn, 1) := by decide +kernel
theorem dX6_status_95 : decode cX6_status 95 = .ok (.aload_n 0, 1) := by decide +kernel
theorem dX6_status_96 : decode cX6_status 96 = .ok (.getfield 10, 3) := by decide +kernel
theorem dX6_status_99 : decode cX6_status 99 = .ok (.invokevirtual 208, 3) := by decide +kernel
theorem dX6_status_102 : decode cX6_status 102 = .ok (.ireturn, 1) := by decide +kernel
theorem dX6_status_103 : decode cX6_status 103 = .ok (.aload_n 0, 1) := by decide +kernel
theorem dX6_status_104 : decode cX6_status 104 = .ok (.getfield 32, 3) := by decide +kernel
theorem dX6_status_107 : decode cX6_status 107 = .ok (.getfield 361, 3) := by decide +kernel
theorem dX6_status_110 : decode cX6_status 110 = .ok (.ireturn, 1) := by decide +kernel
theorem dX6_status_111 : decode cX6_status 111 = .ok (.aload_n 0, 1) := by decide +kernel
theorem dX6_status_112 : decode cX6_status 112 = .ok (.getfield 10, 3) := by decide +kernel
theorem dX6_status_115 : decode cX6_status 115 = .ok (.getfield 349, 3) := by decide +kernel
theorem dX6_status_118 : decode cX6_status 118 = .ok (.ireturn, 1) := by decide +kernel
theorem dX6_status_119 : decode cX6_status 119 = .ok (.aload_n 0, 1) := by decide +kernel
theorem dX6_status_120 : decode cX6_status 120 = .ok (.getfield 25, 3) := by decide +kernel
theorem dX6_status_123 : decode cX6_status 123 = .ok (.invokevirtual 364, 3) := by decide +kernel
theorem dX6_status_126 : decode cX6_status 126 = .ok (.ireturn, 1) := by decide +kernel
theorem dX6_status_127 : decode cX6_status 127 = .ok (.iload_n 1, 1) := by decide +kernel
theorem dX6_status_128 : decode cX6_status 128 = .ok (.bipush 12, 2) := by decide +kernel
theorem dX6_status_130 : decode cX6_status 130 = .ok (.if_icmp .lt 23, 3) := by decide +kernel
theorem dX6_status_133 : decode cX6_status 133 = .ok (.iload_n 1, 1) := by decide +kernel
theorem dX6_status_134 : decode cX6_status 134 = .ok (.bipush 16, 2) := by decide +kernel
theorem dX6_status_136 : decode cX6_status 136 = .ok (.if_icmp .gt 17, 3) := by decide +kernel
theorem dX6_status_139 : decode cX6_status 139 = .ok (.aload_n 0, 1) := by decide +kernel
theorem dX6_status_140 : decode cX6_status 140 = .ok (.getfield 43, 3) := by decide +kernel
theorem dX6_status_143 : decode cX6_status 143 = .ok (.iload_n 1, 1) := by decide +kernel
theorem dX6_status_144 : decode cX6_status 144 = .ok (.bipush 12, 2) := by decide +kernel
theorem dX6_status_146 : decode cX6_status 146 = .ok (.isub, 1) := by decide +kernel
theorem dX6_status_147 : decode cX6_status 147 = .ok (.invokestatic 367, 3) := by decide +kernel
theorem dX6_status_150 : decode cX6_status 150 = .ok (.goto 4, 3) := by decide +kernel
theorem dX6_status_153 : decode cX6_status 153 = .ok (.iconst (-1), 1) := by decide +kernel
theorem dX6_status_154 : decode cX6_status 154 = .ok (.ireturn, 1) := by decide +kernel
theorem dX6_refuse_0 : decode cX6_refuse 0 = .ok (.bipush (-2), 2) := by decide +kernel
theorem dX6_refuse_2 : decode cX6_refuse 2 = .ok (.iload_n 1, 1) := by decide +kernel
theorem dX6_refuse_3 : decode cX6_refuse 3 = .ok (.isub, 1) := by decide +kernel
theorem dX6_refuse_4 : decode cX6_refuse 4 = .ok (.istore_n 2, 1) := by decide +kernel
theorem dX6_refuse_5 : decode cX6_refuse 5 = .ok (.aload_n 0, 1) := by decide +kernel
theorem dX6_refuse_6 : decode cX6_refuse 6 = .ok (.getfield 43, 3) := by decide +kernel
theorem dX6_refuse_9 : decode cX6_refuse 9 = .ok (.iload_n 2, 1) := by decide +kernel
theorem dX6_refuse_10 : decode cX6_refuse 10 = .ok (.aload_n 0, 1) := by decide +kernel
theorem dX6_refuse_11 : decode cX6_refuse 11 = .ok (.getfield 43, 3) := by decide +kernel
theorem dX6_refuse_14 : decode cX6_refuse 14 = .ok (.iload_n 2, 1) := by decide +kernel
theorem dX6_refuse_15 : decode cX6_refuse 15 = .ok (.invokestatic 367, 3) := by decide +kernel
theorem dX6_refuse_18 : decode cX6_refuse 18 = .ok (.iconst 1, 1) := by decide +kernel
theorem dX6_refuse_19 : decode cX6_refuse 19 = .ok (.iadd, 1) := by decide +kernel
theorem dX6_refuse_20 : decode cX6_refuse 20 = .ok (.invokestatic 371, 3) := by decide +kernel
theorem dX6_refuse_23 : decode cX6_refuse 23 = .ok (.iload_n 1, 1) := by decide +kernel
theorem dX6_refuse_24 : decode cX6_refuse 24 = .ok (.ireturn, 1) := by decide +kernel
theorem dX6_refusalOfRow_0 : decode cX6_refusalOfRow 0 = .ok (.iload_n 1, 1) := by decide +kernel
theorem dX6_refusalOfRow_1 : decode cX6_refusalOfRow 1 = .ok (.invokestatic 51, 3) := by decide +kernel
theorem dX6_refusalOfRow_4 : decode cX6_refusalOfRow 4 = .ok (.ifCond .ne 6, 3) := by decide +kernel
theorem dX6_refusalOfRow_7 : decode cX6_refusalOfRow 7 = .ok (.bipush (-2), 2) := by decide +kernel
theorem dX6_refusalOfRow_9 : decode cX6_refusalOfRow 9 = .ok (.ireturn, 1) := by decide +kernel
theorem dX6_refusalOfRow_10 : decode cX6_refusalOfRow 10 = .ok (.aload_n 0, 1) := by decide +kernel
theorem dX6_refusalOfRow_11 : decode cX6_refusalOfRow 11 = .ok (.getfield 25, 3) := by decide +kernel
theorem dX6_refusalOfRow_14 : decode cX6_refusalOfRow 14 = .ok (.iload_n 1, 1) := by decide +kernel
theorem dX6_refusalOfRow_15 : decode cX6_refusalOfRow 15 = .ok (.invokevirtual 77, 3) := by decide +kernel
theorem dX6_refusalOfRow_18 : decode cX6_refusalOfRow 18 = .ok (.ifCond .eq 6, 3) := by decide +kernel
theorem dX6_refusalOfRow_21 : decode cX6_refusalOfRow 21 = .ok (.bipush (-3), 2) := by decide +kernel
theorem dX6_refusalOfRow_23 : decode cX6_refusalOfRow 23 = .ok (.ireturn, 1) := by decide +kernel
theorem dX6_refusalOfRow_24 : decode cX6_refusalOfRow 24 = .ok (.aload_n 0, 1) := by decide +kernel
theorem dX6_refusalOfRow_25 : decode cX6_refusalOfRow 25 = .ok (.getfield 25, 3) := by decide +kernel
theorem dX6_refusalOfRow_28 : decode cX6_refusalOfRow 28 = .ok (.iload_n 1, 1) := by decide +kernel
theorem dX6_refusalOfRow_29 : decode cX6_refusalOfRow 29 = .ok (.invokevirtual 80, 3) := by decide +kernel
theorem dX6_refusalOfRow_32 : decode cX6_refusalOfRow 32 = .ok (.ifCond .eq 7, 3) := by decide +kernel
theorem dX6_refusalOfRow_35 : decode cX6_refusalOfRow 35 = .ok (.iconst 0, 1) := by decide +kernel
theorem dX6_refusalOfRow_36 : decode cX6_refusalOfRow 36 = .ok (.goto 5, 3) := by decide +kernel
theorem dX6_refusalOfRow_39 : decode cX6_refusalOfRow 39 = .ok (.bipush (-4), 2) := by decide +kernel
theorem dX6_refusalOfRow_41 : decode cX6_refusalOfRow 41 = .ok (.ireturn, 1) := by decide +kernel
theorem dX6_refusalOfPeal_0 : decode cX6_refusalOfPeal 0 = .ok (.iload_n 1, 1) := by decide +kernel
theorem dX6_refusalOfPeal_1 : decode cX6_refusalOfPeal 1 = .ok (.invokestatic 51, 3) := by decide +kernel
theorem dX6_refusalOfPeal_4 : decode cX6_refusalOfPeal 4 = .ok (.ifCond .eq 12, 3) := by decide +kernel
theorem dX6_refusalOfPeal_7 : decode cX6_refusalOfPeal 7 = .ok (.iload_n 2, 1) := by decide +kernel
theorem dX6_refusalOfPeal_8 : decode cX6_refusalOfPeal 8 = .ok (.bipush 40, 2) := by decide +kernel
theorem dX6_refusalOfPeal_10 : decode cX6_refusalOfPeal 10 = .ok (.invokestatic 55, 3) := by decide +kernel
theorem dX6_refusalOfPeal_13 : decode cX6_refusalOfPeal 13 = .ok (.ifCond .ne 6, 3) := by decide +kernel
theorem dX6_refusalOfPeal_16 : decode cX6_refusalOfPeal 16 = .ok (.bipush (-2), 2) := by decide +kernel
theorem dX6_refusalOfPeal_18 : decode cX6_refusalOfPeal 18 = .ok (.ireturn, 1) := by decide +kernel
theorem dX6_refusalOfPeal_19 : decode cX6_refusalOfPeal 19 = .ok (.aload_n 0, 1) := by decide +kernel
theorem dX6_refusalOfPeal_20 : decode cX6_refusalOfPeal 20 = .ok (.iload_n 1, 1) := by decide +kernel
theorem dX6_refusalOfPeal_21 : decode cX6_refusalOfPeal 21 = .ok (.invokevirtual 67, 3) := by decide +kernel
theorem dX6_refusalOfPeal_24 : decode cX6_refusalOfPeal 24 = .ok (.istore_n 3, 1) := by decide +kernel
theorem dX6_refusalOfPeal_25 : decode cX6_refusalOfPeal 25 = .ok (.iload_n 3, 1) := by decide +kernel
theorem dX6_refusalOfPeal_26 : decode cX6_refusalOfPeal 26 = .ok (.ifCond .eq 5, 3) := by decide +kernel
theorem dX6_refusalOfPeal_29 : decode cX6_refusalOfPeal 29 = .ok (.iload_n 3, 1) := by decide +kernel
theorem dX6_refusalOfPeal_30 : decode cX6_refusalOfPeal 30 = .ok (.ireturn, 1) := by decide +kernel
theorem dX6_refusalOfPeal_31 : decode cX6_refusalOfPeal 31 = .ok (.iload_n 2, 1) := by decide +kernel
theorem dX6_refusalOfPeal_32 : decode cX6_refusalOfPeal 32 = .ok (.aload_n 0, 1) := by decide +kernel
theorem dX6_refusalOfPeal_33 : decode cX6_refusalOfPeal 33 = .ok (.getfield 25, 3) := by decide +kernel
theorem dX6_refusalOfPeal_36 : decode cX6_refusalOfPeal 36 = .ok (.iload_n 1, 1) := by decide +kernel
theorem dX6_refusalOfPeal_37 : decode cX6_refusalOfPeal 37 = .ok (.invokevirtual 70, 3) := by decide +kernel
theorem dX6_refusalOfPeal_40 : decode cX6_refusalOfPeal 40 = .ok (.if_icmp .le 8, 3) := by decide +kernel
theorem dX6_refusalOfPeal_43 : decode cX6_refusalOfPeal 43 = .ok (.bipush (-2), 2) := by decide +kernel
theorem dX6_refusalOfPeal_45 : decode cX6_refusalOfPeal 45 = .ok (.goto 4, 3) := by decide +kernel
theorem dX6_refusalOfPeal_48 : decode cX6_refusalOfPeal 48 = .ok (.iconst 0, 1) := by decide +kernel
theorem dX6_refusalOfPeal_49 : decode cX6_refusalOfPeal 49 = .ok (.ireturn, 1) := by decide +kernel
theorem dX6_wrongPlace_0 : decode cX6_wrongPlace 0 = .ok (.aload_n 0, 1) := by decide +kernel
theorem dX6_wrongPlace_1 : decode cX6_wrongPlace 1 = .ok (.getfield 19, 3) := by decide +kernel
theorem dX6_wrongPlace_4 : decode cX6_wrongPlace 4 = .ok (.aload_n 0, 1) := by decide +kernel
theorem dX6_wrongPlace_5 : decode cX6_wrongPlace 5 = .ok (.getfield 10, 3) := by decide +kernel
theorem dX6_wrongPlace_8 : decode cX6_wrongPlace 8 = .ok (.invokevirtual 182, 3) := by decide +kernel
theorem dX6_wrongPlace_11 : decode cX6_wrongPlace 11 = .ok (.iconst 0, 1) := by decide +kernel
theorem dX6_wrongPlace_12 : decode cX6_wrongPlace 12 = .ok (.istore_n 3, 1) := by decide +kernel
theorem dX6_wrongPlace_13 : decode cX6_wrongPlace 13 = .ok (.iload_n 3, 1) := by decide +kernel
theorem dX6_wrongPlace_14 : decode cX6_wrongPlace 14 = .ok (.iload_n 2, 1) := by decide +kernel
theorem dX6_wrongPlace_15 : decode cX6_wrongPlace 15 = .ok (.if_icmp .ge 66, 3) := by decide +kernel
theorem dX6_wrongPlace_18 : decode cX6_wrongPlace 18 = .ok (.aload_n 0, 1) := by decide +kernel
theorem dX6_wrongPlace_19 : decode cX6_wrongPlace 19 = .ok (.getfield 25, 3) := by decide +kernel
theorem dX6_wrongPlace_22 : decode cX6_wrongPlace 22 = .ok (.iload_n 1, 1) := by decide +kernel
theorem dX6_wrongPlace_23 : decode cX6_wrongPlace 23 = .ok (.iload_n 3, 1) := by decide +kernel
theorem dX6_wrongPlace_24 : decode cX6_wrongPlace 24 = .ok (.invokevirtual 94, 3) := by decide +kernel
theorem dX6_wrongPlace_27 : decode cX6_wrongPlace 27 = .ok (.lstore 4, 2) := by decide +kernel
theorem dX6_wrongPlace_29 : decode cX6_wrongPlace 29 = .ok (.lload 4, 2) := by decide +kernel
theorem dX6_wrongPlace_31 : decode cX6_wrongPlace 31 = .ok (.lconst 0, 1) := by decide +kernel
theorem dX6_wrongPlace_32 : decode cX6_wrongPlace 32 = .ok (.lcmp, 1) := by decide +kernel
theorem dX6_wrongPlace_33 : decode cX6_wrongPlace 33 = .ok (.ifCond .lt 30, 3) := by decide +kernel
theorem dX6_wrongPlace_36 : decode cX6_wrongPlace 36 = .ok (.lload 4, 2) := by decide +kernel
theorem dX6_wrongPlace_38 : decode cX6_wrongPlace 38 = .ok (.aload_n 0, 1) := by decide +kernel
theorem dX6_wrongPlace_39 : decode cX6_wrongPlace 39 = .ok (.getfield 19, 3) := by decide +kernel
theorem dX6_wrongPlace_42 : decode cX6_wrongPlace 42 = .ok (.getfield 343, 3) := by decide +kernel
theorem dX6_wrongPlace_45 : decode cX6_wrongPlace 45 = .ok (.i2l, 1) := by decide +kernel
theorem dX6_wrongPlace_46 : decode cX6_wrongPlace 46 = .ok (.lcmp, 1) := by decide +kernel
theorem dX6_wrongPlace_47 : decode cX6_wrongPlace 47 = .ok (.ifCond .ge 16, 3) := by decide +kernel
theorem dX6_wrongPlace_50 : decode cX6_wrongPlace 50 = .ok (.aload_n 0, 1) := by decide +kernel
theorem dX6_wrongPlace_51 : decode cX6_wrongPlace 51 = .ok (.getfield 19, 3) := by decide +kernel
theorem dX6_wrongPlace_54 : decode cX6_wrongPlace 54 = .ok (.lload 4, 2) := by decide +kernel
theorem dX6_wrongPlace_56 : decode cX6_wrongPlace 56 = .ok (.l2i, 1) := by decide +kernel
theorem dX6_wrongPlace_57 : decode cX6_wrongPlace 57 = .ok (.invokevirtual 331, 3) := by decide +kernel
theorem dX6_wrongPlace_60 : decode cX6_wrongPlace 60 = .ok (.ifCond .ne 5, 3) := by decide +kernel
theorem dX6_wrongPlace_63 : decode cX6_wrongPlace 63 = .ok (.iload_n 3, 1) := by decide +kernel
theorem dX6_wrongPlace_64 : decode cX6_wrongPlace 64 = .ok (.ireturn, 1) := by decide +kernel
theorem dX6_wrongPlace_65 : decode cX6_wrongPlace 65 = .ok (.aload_n 0, 1) := by decide +kernel
theorem dX6_wrongPlace_66 : decode cX6_wrongPlace 66 = .ok (.getfield 19, 3) := by decide +kernel
theorem dX6_wrongPlace_69 : decode cX6_wrongPlace 69 = .ok (.lload 4, 2) := by decide +kernel
theorem dX6_wrongPlace_71 : decode cX6_wrongPlace 71 = .ok (.l2i, 1) := by decide +kernel
theorem dX6_wrongPlace_72 : decode cX6_wrongPlace 72 = .ok (.invokevirtual 334, 3) := by decide +kernel
theorem dX6_wrongPlace_75 : decode cX6_wrongPlace 75 = .ok (.iinc 3 1, 3) := by decide +kernel
theorem dX6_wrongPlace_78 : decode cX6_wrongPlace 78 = .ok (.goto (-65), 3) := by decide +kernel
theorem dX6_wrongPlace_81 : decode cX6_wrongPlace 81 = .ok (.iconst (-1), 1) := by decide +kernel
theorem dX6_wrongPlace_82 : decode cX6_wrongPlace 82 = .ok (.ireturn, 1) := by decide +kernel
theorem dX6_upTo_0 : decode cX6_upTo 0 = .ok (.iload_n 0, 1) := by decide +kernel
theorem dX6_upTo_1 : decode cX6_upTo 1 = .ok (.ifCond .lt 12, 3) := by decide +kernel
theorem dX6_upTo_4 : decode cX6_upTo 4 = .ok (.iload_n 0, 1) := by decide +kernel
theorem dX6_upTo_5 : decode cX6_upTo 5 = .ok (.iload_n 1, 1) := by decide +kernel
theorem dX6_upTo_6 : decode cX6_upTo 6 = .ok (.if_icmp .gt 7, 3) := by decide +kernel
theorem dX6_upTo_9 : decode cX6_upTo 9 = .ok (.iconst 1, 1) := by decide +kernel
theorem dX6_upTo_10 : decode cX6_upTo 10 = .ok (.goto 4, 3) := by decide +kernel
theorem dX6_upTo_13 : decode cX6_upTo 13 = .ok (.iconst 0, 1) := by decide +kernel
theorem dX6_upTo_14 : decode cX6_upTo 14 = .ok (.ireturn, 1) := by decide +kernel
theorem dX6_bitOf_0 : decode cX6_bitOf 0 = .ok (.iload_n 0, 1) := by decide +kernel
theorem dX6_bitOf_1 : decode cX6_bitOf 1 = .ok (.iload_n 1, 1) := by decide +kernel
theorem dX6_bitOf_2 : decode cX6_bitOf 2 = .ok (.ishr, 1) := by decide +kernel
theorem dX6_bitOf_3 : decode cX6_bitOf 3 = .ok (.iconst 1, 1) := by decide +kernel
theorem dX6_bitOf_4 : decode cX6_bitOf 4 = .ok (.iand, 1) := by decide +kernel
theorem dX6_bitOf_5 : decode cX6_bitOf 5 = .ok (.ireturn, 1) := by decide +kernel
theorem dX6_isIn_0 : decode cX6_isIn 0 = .ok (.iload_n 0, 1) := by decide +kernel
theorem dX6_isIn_1 : decode cX6_isIn 1 = .ok (.iload_n 1, 1) := by decide +kernel
theorem dX6_isIn_2 : decode cX6_isIn 2 = .ok (.ishr, 1) := by decide +kernel
theorem dX6_isIn_3 : decode cX6_isIn 3 = .ok (.iconst 1, 1) := by decide +kernel
theorem dX6_isIn_4 : decode cX6_isIn 4 = .ok (.iand, 1) := by decide +kernel
theorem dX6_isIn_5 : decode cX6_isIn 5 = .ok (.iconst 1, 1) := by decide +kernel
theorem dX6_isIn_6 : decode cX6_isIn 6 = .ok (.if_icmp .ne 7, 3) := by decide +kernel
theorem dX6_isIn_9 : decode cX6_isIn 9 = .ok (.iconst 1, 1) := by decide +kernel
theorem dX6_isIn_10 : decode cX6_isIn 10 = .ok (.goto 4, 3) := by decide +kernel
theorem dX6_isIn_13 : decode cX6_isIn 13 = .ok (.iconst 0, 1) := by decide +kernel
theorem dX6_isIn_14 : decode cX6_isIn 14 = .ok (.ireturn, 1) := by decide +kernel
theorem dX6_at_0 : decode cX6_at 0 = .ok (.iload_n 1, 1) := by decide +kernel
theorem dX6_at_1 : decode cX6_at 1 = .ok (.ifCond .lt 15, 3) := by decide +kernel
theorem dX6_at_4 : decode cX6_at 4 = .ok (.iload_n 1, 1) := by decide +kernel
theorem dX6_at_5 : decode cX6_at 5 = .ok (.aload_n 0, 1) := by decide +kernel
theorem dX6_at_6 : decode cX6_at 6 = .ok (.arraylength, 1) := by decide +kernel
theorem dX6_at_7 : decode cX6_at 7 = .ok (.if_icmp .ge 9, 3) := by decide +kernel
theorem dX6_at_10 : decode cX6_at 10 = .ok (.aload_n 0, 1) := by decide +kernel
theorem dX6_at_11 : decode cX6_at 11 = .ok (.iload_n 1, 1) := by decide +kernel
theorem dX6_at_12 : decode cX6_at 12 = .ok (.iaload, 1) := by decide +kernel
theorem dX6_at_13 : decode cX6_at 13 = .ok (.goto 4, 3) := by decide +kernel
theorem dX6_at_16 : decode cX6_at 16 = .ok (.iconst 0, 1) := by decide +kernel
theorem dX6_at_17 : decode cX6_at 17 = .ok (.ireturn, 1) := by decide +kernel
theorem dX6_put_0 : decode cX6_put 0 = .ok (.iload_n 1, 1) := by decide +kernel
theorem dX6_put_1 : decode cX6_put 1 = .ok (.ifCond .lt 13, 3) := by decide +kernel
theorem dX6_put_4 : decode cX6_put 4 = .ok (.iload_n 1, 1) := by decide +kernel
theorem dX6_put_5 : decode cX6_put 5 = .ok (.aload_n 0, 1) := by decide +kernel
theorem dX6_put_6 : decode cX6_put 6 = .ok (.arraylength, 1) := by decide +kernel
theorem dX6_put_7 : decode cX6_put 7 = .ok (.if_icmp .ge 7, 3) := by decide +kernel
theorem dX6_put_10 : decode cX6_put 10 = .ok (.aload_n 0, 1) := by decide +kernel
theorem dX6_put_11 : decode cX6_put 11 = .ok (.iload_n 1, 1) := by decide +kernel
theorem dX6_put_12 : decode cX6_put 12 = .ok (.iload_n 2, 1) := by decide +kernel
theorem dX6_put_13 : decode cX6_put 13 = .ok (.iastore, 1) := by decide +kernel
theorem dX6_put_14 : decode cX6_put 14 = .ok (.return_, 1) := by decide +kernel
theorem dX7_init_0 : decode cX7_init 0 = .ok (.aload_n 0, 1) := by decide +kernel
theorem dX7_init_1 : decode cX7_init 1 = .ok (.invokespecial 1, 3) := by decide +kernel
theorem dX7_init_4 : decode cX7_init 4 = .ok (.aload_n 0, 1) := by decide +kernel
theorem dX7_init_5 : decode cX7_init 5 = .ok (.invokestatic 7, 3) := by decide +kernel
theorem dX7_init_8 : decode cX7_init 8 = .ok (.putfield 13, 3) := by decide +kernel
theorem dX7_init_11 : decode cX7_init 11 = .ok (.aload_n 0, 1) := by decide +kernel
theorem dX7_init_12 : decode cX7_init 12 = .ok (.bipush 74, 2) := by decide +kernel
theorem dX7_init_14 : decode cX7_init 14 = .ok (.newarray .int, 2) := by decide +kernel
theorem dX7_init_16 : decode cX7_init 16 = .ok (.putfield 17, 3) := by decide +kernel
theorem dX7_init_19 : decode cX7_init 19 = .ok (.aload_n 0, 1) := by decide +kernel
theorem dX7_init_20 : decode cX7_init 20 = .ok (.bipush 74, 2) := by decide +kernel
theorem dX7_init_22 : decode cX7_init 22 = .ok (.newarray .int, 2) := by decide +kernel
theorem dX7_init_24 : decode cX7_init 24 = .ok (.putfield 20, 3) := by decide +kernel
theorem dX7_init_27 : decode cX7_init 27 = .ok (.aload_n 0, 1) := by decide +kernel
theorem dX7_init_28 : decode cX7_init 28 = .ok (.bipush 7, 2) := by decide +kernel
theorem dX7_init_30 : decode cX7_init 30 = .ok (.newarray .int, 2) := by decide +kernel
theorem dX7_init_32 : decode cX7_init 32 = .ok (.putfield 23, 3) := by decide +kernel
theorem dX7_init_35 : decode cX7_init 35 = .ok (.aload_n 0, 1) := by decide +kernel
theorem dX7_init_36 : decode cX7_init 36 = .ok (.sipush 250, 3) := by decide +kernel
theorem dX7_init_39 : decode cX7_init 39 = .ok (.newarray .int, 2) := by decide +kernel
theorem dX7_init_41 : decode cX7_init 41 = .ok (.putfield 26, 3) := by decide +kernel
theorem dX7_init_44 : decode cX7_init 44 = .ok (.aload_n 0, 1) := by decide +kernel
theorem dX7_init_45 : decode cX7_init 45 = .ok (.bipush 70, 2) := by decide +kernel
theorem dX7_init_47 : decode cX7_init 47 = .ok (.newarray .char, 2) := by decide +kernel
theorem dX7_init_49 : decode cX7_init 49 = .ok (.dup, 1) := by decide +kernel
theorem dX7_init_50 : decode cX7_init 50 = .ok (.iconst 0, 1) := by decide +kernel
theorem dX7_init_51 : decode cX7_init 51 = .ok (.bipush 116, 2) := by decide +kernel
theorem dX7_init_53 : decode cX7_init 53 = .ok (.castore, 1) := by decide +kernel
theorem dX7_init_54 : decode cX7_init 54 = .ok (.dup, 1) := by decide +kernel
theorem dX7_init_55 : decode cX7_init 55 = .ok (.iconst 1, 1) := by decide +kernel
theorem dX7_init_56 : decode cX7_init 56 = .ok (.bipush 104, 2) := by decide +kernel
theorem dX7_init_58 : decode cX7_init 58 = .ok (.castore, 1) := by decide +kernel
theorem dX7_init_59 : decode cX7_init 59 = .ok (.dup, 1) := by decide +kernel
theorem dX7_init_60 : decode cX7_init 60 = .ok (.iconst 2, 1) := by decide +kernel
theorem dX7_init_61 : decode cX7_init 61 = .ok (.bipush 105, 2) := by decide +kernel
theorem dX7_init_63 : decode cX7_init 63 = .ok (.castore, 1) := by decide +kernel
theorem dX7_init_64 : decode cX7_init 64 = .ok (.dup, 1) := by decide +kernel
theorem dX7_init_65 : decode cX7_init 65 = .ok (.iconst 3, 1) := by decide +kernel
theorem dX7_init_66 : decode cX7_init 66 = .ok (.bipush 110, 2) := by decide +kernel
theorem dX7_init_68 : decode cX7_init 68 = .ok (.castore, 1) := by decide +kernel
theorem dX7_init_69 : decode cX7_init 69 = .ok (.dup, 1) := by decide +kernel
theorem dX7_init_70 : decode cX7_init 70 = .ok (.iconst 4, 1) := by decide +kernel
theorem dX7_init_71 : decode cX7_init 71 = .ok (.bipush 103, 2) := by decide +kernel
theorem dX7_init_73 : decode cX7_init 73 = .ok (.castore, 1) := by decide +kernel
theorem dX7_init_74 : decode cX7_init 74 = .ok (.dup, 1) := by decide +kernel
theorem dX7_init_75 : decode cX7_init 75 = .ok (.iconst 5, 1) := by decide +kernel
theorem dX7_init_76 : decode cX7_init 76 = .ok (.iconst 0, 1) := by decide +kernel
theorem dX7_init_77 : decode cX7_init 77 = .ok (.castore, 1) := by decide +kernel
theorem dX7_init_78 : decode cX7_init 78 = .ok (.dup, 1) := by decide +kernel
theorem dX7_init_79 : decode cX7_init 79 = .ok (.bipush 6, 2) := by decide +kernel
theorem dX7_init_81 : decode cX7_init 81 = .ok (.iconst 0, 1) := by decide +kernel
theorem dX7_init_82 : decode cX7_init 82 = .ok (.castore, 1) := by decide +kernel
theorem dX7_init_83 : decode cX7_init 83 = .ok (.dup, 1) := by decide +kernel
theorem dX7_init_84 : decode cX7_init 84 = .ok (.bipush 7, 2) := by decide +kernel
theorem dX7_init_86 : decode cX7_init 86 = .ok (.bipush 104, 2) := by decide +kernel
theorem dX7_init_88 : decode cX7_init 88 = .ok (.castore, 1) := by decide +kernel
theorem dX7_init_89 : decode cX7_init 89 = .ok (.dup, 1) := by decide +kernel
theorem dX7_init_90 : decode cX7_init 90 = .ok (.bipush 8, 2) := by decide +kernel
theorem dX7_init_92 : decode cX7_init 92 = .ok (.bipush 97, 2) := by decide +kernel
theorem dX7_init_94 : decode cX7_init 94 = .ok (.castore, 1) := by decide +kernel
theorem dX7_init_95 : decode cX7_init 95 = .ok (.dup, 1) := by decide +kernel
theorem dX7_init_96 : decode cX7_init 96 = .ok (.bipush 9, 2) := by decide +kernel
theorem dX7_init_98 : decode cX7_init 98 = .ok (.bipush 110, 2) := by decide +kernel
theorem dX7_init_100 : decode cX7_init 100 = .ok (.castore, 1) := by decide +kernel
theorem dX7_init_101 : decode cX7_init 101 = .ok (.dup, 1) := by decide +kernel
theorem dX7_init_102 : decode cX7_init 102 = .ok (.bipush 10, 2) := by decide +kernel
theorem dX7_init_104 : decode cX7_init 104 = .ok (.bipush 103, 2) := by decide +kernel
theorem dX7_init_106 : decode cX7_init 106 = .ok (.castore, 1) := by decide +kernel
theorem dX7_init_107 : decode cX7_init 107 = .ok (.dup, 1) := by decide +kernel
theorem dX7_init_108 : decode cX7_init 108 = .ok (.bipush 11, 2) := by decide +kernel
theorem dX7_init_110 : decode cX7_init 110 = .ok (.bipush 115, 2) := by decide +kernel
theorem dX7_init_112 : decode cX7_init 112 = .ok (.castore, 1) := by decide +kernel
theorem dX7_init_113 : decode cX7_init 113 = .ok (.dup, 1) := by decide +kernel
theorem dX7_init_114 : decode cX7_init 114 = .ok (.bipush 12, 2) := by decide +kernel
theorem dX7_init_116 : decode cX7_init 116 = .ok (.iconst 0, 1) := by decide +kernel
theorem dX7_init_117 : decode cX7_init 117 = .ok (.castore, 1) := by decide +kernel
theorem dX7_init_118 : decode cX7_init 118 = .ok (.dup, 1) := by decide +kernel
theorem dX7_init_119 : decode cX7_init 119 = .ok (.bipush 13, 2) := by decide +kernel
theorem dX7_init_121 : decode cX7_init 121 = .ok (.iconst 0, 1) := by decide +kernel
theorem dX7_init_122 : decode cX7_init 122 = .ok (.castore, 1) := by decide +kernel
theorem dX7_init_123 : decode cX7_init 123 = .ok (.dup, 1) := by decide +kernel
theorem dX7_init_124 : decode cX7_init 124 = .ok (.bipush 14, 2) := by decide +kernel
theorem dX7_init_126 : decode cX7_init 126 = .ok (.bipush 102, 2) := by decide +kernel
theorem dX7_init_128 : decode cX7_init 128 = .ok (.castore, 1) := by decide +kernel
theorem dX7_init_129 : decode cX7_init 129 = .ok (.dup, 1) := by decide +kernel
theorem dX7_init_130 : decode cX7_init 130 = .ok (.bipush 15, 2) := by decide +kernel
theorem dX7_init_132 : decode cX7_init 132 = .ok (.bipush 114, 2) := by decide +kernel
theorem dX7_init_134 : decode cX7_init 134 = .ok (.castore, 1) := by decide +kernel
theorem dX7_init_135 : decode cX7_init 135 = .ok (.dup, 1) := by decide +kernel
theorem dX7_init_136 : decode cX7_init 136 = .ok (.bipush 16, 2) := by decide +kernel
theorem dX7_init_138 : decode cX7_init 138 = .ok (.bipush 101, 2) := by decide +kernel
theorem dX7_init_140 : decode cX7_init 140 = .ok (.castore, 1) := by decide +kernel
theorem dX7_init_141 : decode cX7_init 141 = .ok (.dup, 1) := by decide +kernel
theorem dX7_init_142 : decode cX7_init 142 = .ok (.bipush 17, 2) := by decide +kernel
theorem dX7_init_144 : decode cX7_init 144 = .ok (.bipush 101, 2) := by decide +kernel
theorem dX7_init_146 : decode cX7_init 146 = .ok (.castore, 1) := by decide +kernel
theorem dX7_init_147 : decode cX7_init 147 = .ok (.dup, 1) := by decide +kernel
theorem dX7_init_148 : decode cX7_init 148 = .ok (.bipush 18, 2) := by decide +kernel
theorem dX7_init_150 : decode cX7_init 150 = .ok (.iconst 0, 1) := by decide +kernel
theorem dX7_init_151 : decode cX7_init 151 = .ok (.castore, 1) := by decide +kernel
theorem dX7_init_152 : decode cX7_init 152 = .ok (.dup, 1) := by decide +kernel
theorem dX7_init_153 : decode cX7_init 153 = .ok (.bipush 19, 2) := by decide +kernel
theorem dX7_init_155 : decode cX7_init 155 = .ok (.iconst 0, 1) := by decide +kernel
theorem dX7_init_156 : decode cX7_init 156 = .ok (.castore, 1) := by decide +kernel
theorem dX7_init_157 : decode cX7_init 157 = .ok (.dup, 1) := by decide +kernel
theorem dX7_init_158 : decode cX7_init 158 = .ok (.bipush 20, 2) := by decide +kernel
theorem dX7_init_160 : decode cX7_init 160 = .ok (.iconst 0, 1) := by decide +kernel
theorem dX7_init_161 : decode cX7_init 161 = .ok (.castore, 1) := by decide +kernel
theorem dX7_init_162 : decode cX7_init 162 = .ok (.dup, 1) := by decide +kernel
theorem dX7_init_163 : decode cX7_init 163 = .ok (.bipush 21, 2) := by decide +kernel
theorem dX7_init_165 : decode cX7_init 165 = .ok (.bipush 117, 2) := by decide +kernel
theorem dX7_init_167 : decode cX7_init 167 = .ok (.castore, 1) := by decide +kernel
theorem dX7_init_168 : decode cX7_init 168 = .ok (.dup, 1) := by decide +kernel
theorem dX7_init_169 : decode cX7_init 169 = .ok (.bipush 22, 2) := by decide +kernel
theorem dX7_init_171 : decode cX7_init 171 = .ok (.bipush 110, 2) := by decide +kernel
theorem dX7_init_173 : decode cX7_init 173 = .ok (.castore, 1) := by decide +kernel
theorem dX7_init_174 : decode cX7_init 174 = .ok (.dup, 1) := by decide +kernel
theorem dX7_init_175 : decode cX7_init 175 = .ok (.bipush 23, 2) := by decide +kernel
theorem dX7_init_177 : decode cX7_init 177 = .ok (.bipush 115, 2) := by decide +kernel
theorem dX7_init_179 : decode cX7_init 179 = .ok (.castore, 1) := by decide +kernel
theorem dX7_init_180 : decode cX7_init 180 = .ok (.dup, 1) := by decide +kernel
theorem dX7_init_181 : decode cX7_init 181 = .ok (.bipush 24, 2) := by decide +kernel
theorem dX7_init_183 : decode cX7_init 183 = .ok (.bipush 97, 2) := by decide +kernel
theorem dX7_init_185 : decode cX7_init 185 = .ok (.castore, 1) := by decide +kernel
theorem dX7_init_186 : decode cX7_init 186 = .ok (.dup, 1) := by decide +kernel
theorem dX7_init_187 : decode cX7_init 187 = .ok (.bipush 25, 2) := by decide +kernel
theorem dX7_init_189 : decode cX7_init 189 = .ok (.bipush 105, 2) := by decide +kernel
theorem dX7_init_191 : decode cX7_init 191 = .ok (.castore, 1) := by decide +kernel
theorem dX7_init_192 : decode cX7_init 192 = .ok (.dup, 1) := by decide +kernel
theorem dX7_init_193 : decode cX7_init 193 = .ok (.bipush 26, 2) := by decide +kernel
theorem dX7_init_195 : decode cX7_init 195 = .ok (.bipush 100, 2) := by decide +kernel
theorem dX7_init_197 : decode cX7_init 197 = .ok (.castore, 1) := by decide +kernel
theorem dX7_init_198 : decode cX7_init 198 = .ok (.dup, 1) := by decide +kernel
theorem dX7_init_199 : decode cX7_init 199 = .ok (.bipush 27, 2) := by decide +kernel
theorem dX7_init_201 : decode cX7_init 201 = .ok (.iconst 0, 1) := by decide +kernel
theorem dX7_init_202 : decode cX7_init 202 = .ok (.castore, 1) := by decide +kernel
theorem dX7_init_203 : decode cX7_init 203 = .ok (.dup, 1) := by decide +kernel
theorem dX7_init_204 : decode cX7_init 204 = .ok (.bipush 28, 2) := by decide +kernel
theorem dX7_init_206 : decode cX7_init 206 = .ok (.bipush 115, 2) := by decide +kernel
theorem dX7_init_208 : decode cX7_init 208 = .ok (.castore, 1) := by decide +kernel
theorem dX7_init_209 : decode cX7_init 209 = .ok (.dup, 1) := by decide +kernel
theorem dX7_init_210 : decode cX7_init 210 = .ok (.bipush 29, 2) := by decide +kernel
theorem dX7_init_212 : decode cX7_init 212 = .ok (.bipush 97, 2) := by decide +kernel
theorem dX7_init_214 : decode cX7_init 214 = .ok (.castore, 1) := by decide +kernel
theorem dX7_init_215 : decode cX7_init 215 = .ok (.dup, 1) := by decide +kernel
theorem dX7_init_216 : decode cX7_init 216 = .ok (.bipush 30, 2) := by decide +kernel
theorem dX7_init_218 : decode cX7_init 218 = .ok (.bipush 105, 2) := by decide +kernel
theorem dX7_init_220 : decode cX7_init 220 = .ok (.castore, 1) := by decide +kernel
theorem dX7_init_221 : decode cX7_init 221 = .ok (.dup, 1) := by decide +kernel
theorem dX7_init_222 : decode cX7_init 222 = .ok (.bipush 31, 2) := by decide +kernel
theorem dX7_init_224 : decode cX7_init 224 = .ok (.bipush 100, 2) := by decide +kernel
theorem dX7_init_226 : decode cX7_init 226 = .ok (.castore, 1) := by decide +kernel
theorem dX7_init_227 : decode cX7_init 227 = .ok (.dup, 1) := by decide +kernel
theorem dX7_init_228 : decode cX7_init 228 = .ok (.bipush 32, 2) := by decide +kernel
theorem dX7_init_230 : decode cX7_init 230 = .ok (.iconst 0, 1) := by decide +kernel
theorem dX7_init_231 : decode cX7_init 231 = .ok (.castore, 1) := by decide +kernel
theorem dX7_init_232 : decode cX7_init 232 = .ok (.dup, 1) := by decide +kernel
theorem dX7_init_233 : decode cX7_init 233 = .ok (.bipush 33, 2) := by decide +kernel
theorem dX7_init_235 : decode cX7_init 235 = .ok (.iconst 0, 1) := by decide +kernel
theorem dX7_init_236 : decode cX7_init 236 = .ok (.castore, 1) := by decide +kernel
theorem dX7_init_237 : decode cX7_init 237 = .ok (.dup, 1) := by decide +kernel
theorem dX7_init_238 : decode cX7_init 238 = .ok (.bipush 34, 2) := by decide +kernel
theorem dX7_init_240 : decode cX7_init 240 = .ok (.iconst 0, 1) := by decide +kernel
theorem dX7_init_241 : decode cX7_init 241 = .ok (.castore, 1) := by decide +kernel
theorem dX7_init_242 : decode cX7_init 242 = .ok (.dup, 1) := by decide +kernel
theorem dX7_init_243 : decode cX7_init 243 = .ok (.bipush 35, 2) := by decide +kernel
theorem dX7_init_245 : decode cX7_init 245 = .ok (.bipush 114, 2) := by decide +kernel
theorem dX7_init_247 : decode cX7_init 247 = .ok (.castore, 1) := by decide +kernel
theorem dX7_init_248 : decode cX7_init 248 = .ok (.dup, 1) := by decide +kernel
theorem dX7_init_249 : decode cX7_init 249 = .ok (.bipush 36, 2) := by decide +kernel
theorem dX7_init_251 : decode cX7_init 251 = .ok (.bipush 105, 2) := by decide +kernel
theorem dX7_init_253 : decode cX7_init 253 = .ok (.castore, 1) := by decide +kernel
theorem dX7_init_254 : decode cX7_init 254 = .ok (.dup, 1) := by decide +kernel
theorem dX7_init_255 : decode cX7_init 255 = .ok (.bipush 37, 2) := by decide +kernel
theorem dX7_init_257 : decode cX7_init 257 = .ok (.bipush 110, 2) := by decide +kernel
theorem dX7_init_259 : decode cX7_init 259 = .ok (.castore, 1) := by decide +kernel
theorem dX7_init_260 : decode cX7_init 260 = .ok (.dup, 1) := by decide +kernel
theorem dX7_init_261 : decode cX7_init 261 = .ok (.bipush 38, 2) := by decide +kernel
theorem dX7_init_263 : decode cX7_init 263 = .ok (.bipush 103, 2) := by decide +kernel
theorem dX7_init_265 : decode cX7_init 265 = .ok (.castore, 1) := by decide +kernel
theorem dX7_init_266 : decode cX7_init 266 = .ok (.dup, 1) := by decide +kernel
theorem dX7_init_267 : decode cX7_init 267 = .ok (.bipush 39, 2) := by decide +kernel
theorem dX7_init_269 : decode cX7_init 269 = .ok (.bipush 101, 2) := by decide +kernel
theorem dX7_init_271 : decode cX7_init 271 = .ok (.castore, 1) := by decide +kernel
theorem dX7_init_272 : decode cX7_init 272 = .ok (.dup, 1) := by decide +kernel
theorem dX7_init_273 : decode cX7_init 273 = .ok (.bipush 40, 2) := by decide +kernel
theorem dX7_init_275 : decode cX7_init 275 = .ok (.bipush 114, 2) := by decide +kernel
theorem dX7_init_277 : decode cX7_init 277 = .ok (.castore, 1) := by decide +kernel
theorem dX7_init_278 : decode cX7_init 278 = .ok (.dup, 1) := by decide +kernel
theorem dX7_init_279 : decode cX7_init 279 = .ok (.bipush 41, 2) := by decide +kernel
theorem dX7_init_281 : decode cX7_init 281 = .ok (.iconst 0, 1) := by decide +kernel
theorem dX7_init_282 : decode cX7_init 282 = .ok (.castore, 1) := by decide +kernel
theorem dX7_init_283 : decode cX7_init 283 = .ok (.dup, 1) := by decide +kernel
theorem dX7_init_284 : decode cX7_init 284 = .ok (.bipush 42, 2) := by decide +kernel
theorem dX7_init_286 : decode cX7_init 286 = .ok (.bipush 119, 2) := by decide +kernel
theorem dX7_init_288 : decode cX7_init 288 = .ok (.castore, 1) := by decide +kernel
theorem dX7_init_289 : decode cX7_init 289 = .ok (.dup, 1) := by decide +kernel
theorem dX7_init_290 : decode cX7_init 290 = .ok (.bipush 43, 2) := by decide +kernel
theorem dX7_init_292 : decode cX7_init 292 = .ok (.bipush 101, 2) := by decide +kernel
theorem dX7_init_294 : decode cX7_init 294 = .ok (.castore, 1) := by decide +kernel
theorem dX7_init_295 : decode cX7_init 295 = .ok (.dup, 1) := by decide +kernel
theorem dX7_init_296 : decode cX7_init 296 = .ok (.bipush 44, 2) := by decide +kernel
theorem dX7_init_298 : decode cX7_init 298 = .ok (.bipush 97, 2) := by decide +kernel
theorem dX7_init_300 : decode cX7_init 300 = .ok (.castore, 1) := by decide +kernel
theorem dX7_init_301 : decode cX7_init 301 = .ok (.dup, 1) := by decide +kernel
theorem dX7_init_302 : decode cX7_init 302 = .ok (.bipush 45, 2) := by decide +kernel
theorem dX7_init_304 : decode cX7_init 304 = .ok (.bipush 116, 2) := by decide +kernel
theorem dX7_init_306 : decode cX7_init 306 = .ok (.castore, 1) := by decide +kernel
theorem dX7_init_307 : decode cX7_init 307 = .ok (.dup, 1) := by decide +kernel
theorem dX7_init_308 : decode cX7_init 308 = .ok (.bipush 46, 2) := by decide +kernel
theorem dX7_init_310 : decode cX7_init 310 = .ok (.bipush 104, 2) := by decide +kernel
theorem dX7_init_312 : decode cX7_init 312 = .ok (.castore, 1) := by decide +kernel
theorem dX7_init_313 : decode cX7_init 313 = .ok (.dup, 1) := by decide +kernel
theorem dX7_init_314 : decode cX7_init 314 = .ok (.bipush 47, 2) := by decide +kernel
theorem dX7_init_316 : decode cX7_init 316 = .ok (.bipush 101, 2) := by decide +kernel
theorem dX7_init_318 : decode cX7_init 318 = .ok (.castore, 1) := by decide +kernel
theorem dX7_init_319 : decode cX7_init 319 = .ok (.dup, 1) := by decide +kernel
theorem dX7_init_320 : decode cX7_init 320 = .ok (.bipush 48, 2) := by decide +kernel
theorem dX7_init_322 : decode cX7_init 322 = .ok (.bipush 114, 2) := by decide +kernel
theorem dX7_init_324 : decode cX7_init 324 = .ok (.castore, 1) := by decide +kernel
theorem dX7_init_325 : decode cX7_init 325 = .ok (.dup, 1) := by decide +kernel
theorem dX7_init_326 : decode cX7_init 326 = .ok (.bipush 49, 2) := by decide +kernel
theorem dX7_init_328 : decode cX7_init 328 = .ok (.bipush 99, 2) := by decide +kernel
theorem dX7_init_330 : decode cX7_init 330 = .ok (.castore, 1) := by decide +kernel
theorem dX7_init_331 : decode cX7_init 331 = .ok (.dup, 1) := by decide +kernel
theorem dX7_init_332 : decode cX7_init 332 = .ok (.bipush 50, 2) := by decide +kernel
theorem dX7_init_334 : decode cX7_init 334 = .ok (.bipush 114, 2) := by decide +kernel
theorem dX7_init_336 : decode cX7_init 336 = .ok (.castore, 1) := by decide +kernel
theorem dX7_init_337 : decode cX7_init 337 = .ok (.dup, 1) := by decide +kernel
theorem dX7_init_338 : decode cX7_init 338 = .ok (.bipush 51, 2) := by decide +kernel
theorem dX7_init_340 : decode cX7_init 340 = .ok (.bipush 97, 2) := by decide +kernel
theorem dX7_init_342 : decode cX7_init 342 = .ok (.castore, 1) := by decide +kernel
theorem dX7_init_343 : decode cX7_init 343 = .ok (.dup, 1) := by decide +kernel
theorem dX7_init_344 : decode cX7_init 344 = .ok (.bipush 52, 2) := by decide +kernel
theorem dX7_init_346 : decode cX7_init 346 = .ok (.bipush 99, 2) := by decide +kernel
theorem dX7_init_348 : decode cX7_init 348 = .ok (.castore, 1) := by decide +kernel
theorem dX7_init_349 : decode cX7_init 349 = .ok (.dup, 1) := by decide +kernel
theorem dX7_init_350 : decode cX7_init 350 = .ok (.bipush 53, 2) := by decide +kernel
theorem dX7_init_352 : decode cX7_init 352 = .ok (.bipush 107, 2) := by decide +kernel
theorem dX7_init_354 : decode cX7_init 354 = .ok (.castore, 1) := by decide +kernel
theorem dX7_init_355 : decode cX7_init 355 = .ok (.dup, 1) := by decide +kernel
theorem dX7_init_356 : decode cX7_init 356 = .ok (.bipush 54, 2) := by decide +kernel
theorem dX7_init_358 : decode cX7_init 358 = .ok (.iconst 0, 1) := by decide +kernel
theorem dX7_init_359 : decode cX7_init 359 = .ok (.castore, 1) := by decide +kernel
theorem dX7_init_360 : decode cX7_init 360 = .ok (.dup, 1) := by decide +kernel
theorem dX7_init_361 : decode cX7_init 361 = .ok (.bipush 55, 2) := by decide +kernel
theorem dX7_init_363 : decode cX7_init 363 = .ok (.iconst 0, 1) := by decide +kernel
theorem dX7_init_364 : decode cX7_init 364 = .ok (.castore, 1) := by decide +kernel
theorem dX7_init_365 : decode cX7_init 365 = .ok (.dup, 1) := by decide +kernel
theorem dX7_init_366 : decode cX7_init 366 = .ok (.bipush 56, 2) := by decide +kernel
theorem dX7_init_368 : decode cX7_init 368 = .ok (.bipush 109, 2) := by decide +kernel
theorem dX7_init_370 : decode cX7_init 370 = .ok (.castore, 1) := by decide +kernel
theorem dX7_init_371 : decode cX7_init 371 = .ok (.dup, 1) := by decide +kernel
theorem dX7_init_372 : decode cX7_init 372 = .ok (.bipush 57, 2) := by decide +kernel
theorem dX7_init_374 : decode cX7_init 374 = .ok (.bipush 101, 2) := by decide +kernel
theorem dX7_init_376 : decode cX7_init 376 = .ok (.castore, 1) := by decide +kernel
theorem dX7_init_377 : decode cX7_init 377 = .ok (.dup, 1) := by decide +kernel
theorem dX7_init_378 : decode cX7_init 378 = .ok (.bipush 58, 2) := by decide +kernel
theorem dX7_init_380 : decode cX7_init 380 = .ok (.bipush 110, 2) := by decide +kernel
theorem dX7_init_382 : decode cX7_init 382 = .ok (.castore, 1) := by decide +kernel
theorem dX7_init_383 : decode cX7_init 383 = .ok (.dup, 1) := by decide +kernel
theorem dX7_init_384 : decode cX7_init 384 = .ok (.bipush 59, 2) := by decide +kernel
theorem dX7_init_386 : decode cX7_init 386 = .ok (.bipush 100, 2) := by decide +kernel
theorem dX7_init_388 : decode cX7_init 388 = .ok (.castore, 1) := by decide +kernel
theorem dX7_init_389 : decode cX7_init 389 = .ok (.dup, 1) := by decide +kernel
theorem dX7_init_390 : decode cX7_init 390 = .ok (.bipush 60, 2) := by decide +kernel
theorem dX7_init_392 : decode cX7_init 392 = .ok (.iconst 0, 1) := by decide +kernel
theorem dX7_init_393 : decode cX7_init 393 = .ok (.castore, 1) := by decide +kernel
theorem dX7_init_394 : decode cX7_init 394 = .ok (.dup, 1) := by decide +kernel
theorem dX7_init_395 : decode cX7_init 395 = .ok (.bipush 61, 2) := by decide +kernel
theorem dX7_init_397 : decode cX7_init 397 = .ok (.iconst 0, 1) := by decide +kernel
theorem dX7_init_398 : decode cX7_init 398 = .ok (.castore, 1) := by decide +kernel
theorem dX7_init_399 : decode cX7_init 399 = .ok (.dup, 1) := by decide +kernel
theorem dX7_init_400 : decode cX7_init 400 = .ok (.bipush 62, 2) := by decide +kernel
theorem dX7_init_402 : decode cX7_init 402 = .ok (.iconst 0, 1) := by decide +kernel
theorem dX7_init_403 : decode cX7_init 403 = .ok (.castore, 1) := by decide +kernel
theorem dX7_init_404 : decode cX7_init 404 = .ok (.dup, 1) := by decide +kernel
theorem dX7_init_405 : decode cX7_init 405 = .ok (.bipush 63, 2) := by decide +kernel
theorem dX7_init_407 : decode cX7_init 407 = .ok (.bipush 121, 2) := by decide +kernel
theorem dX7_init_409 : decode cX7_init 409 = .ok (.castore, 1) := by decide +kernel
theorem dX7_init_410 : decode cX7_init 410 = .ok (.dup, 1) := by decide +kernel
theorem dX7_init_411 : decode cX7_init 411 = .ok (.bipush 64, 2) := by decide +kernel
theorem dX7_init_413 : decode cX7_init 413 = .ok (.bipush 101, 2) := by decide +kernel
theorem dX7_init_415 : decode cX7_init 415 = .ok (.castore, 1) := by decide +kernel
theorem dX7_init_416 : decode cX7_init 416 = .ok (.dup, 1) := by decide +kernel
theorem dX7_init_417 : decode cX7_init 417 = .ok (.bipush 65, 2) := by decide +kernel
theorem dX7_init_419 : decode cX7_init 419 = .ok (.bipush 97, 2) := by decide +kernel
theorem dX7_init_421 : decode cX7_init 421 = .ok (.castore, 1) := by decide +kernel
theorem dX7_init_422 : decode cX7_init 422 = .ok (.dup, 1) := by decide +kernel
theorem dX7_init_423 : decode cX7_init 423 = .ok (.bipush 66, 2) := by decide +kernel
theorem dX7_init_425 : decode cX7_init 425 = .ok (.bipush 114, 2) := by decide +kernel
theorem dX7_init_427 : decode cX7_init 427 = .ok (.castore, 1) := by decide +kernel
theorem dX7_init_428 : decode cX7_init 428 = .ok (.dup, 1) := by decide +kernel
theorem dX7_init_429 : decode cX7_init 429 = .ok (.bipush 67, 2) := by decide +kernel
theorem dX7_init_431 : decode cX7_init 431 = .ok (.iconst 0, 1) := by decide +kernel
theorem dX7_init_432 : decode cX7_init 432 = .ok (.castore, 1) := by decide +kernel
theorem dX7_init_433 : decode cX7_init 433 = .ok (.dup, 1) := by decide +kernel
theorem dX7_init_434 : decode cX7_init 434 = .ok (.bipush 68, 2) := by decide +kernel
theorem dX7_init_436 : decode cX7_init 436 = .ok (.iconst 0, 1) := by decide +kernel
theorem dX7_init_437 : decode cX7_init 437 = .ok (.castore, 1) := by decide +kernel
theorem dX7_init_438 : decode cX7_init 438 = .ok (.dup, 1) := by decide +kernel
theorem dX7_init_439 : decode cX7_init 439 = .ok (.bipush 69, 2) := by decide +kernel
theorem dX7_init_441 : decode cX7_init 441 = .ok (.iconst 0, 1) := by decide +kernel
theorem dX7_init_442 : decode cX7_init 442 = .ok (.castore, 1) := by decide +kernel
theorem dX7_init_443 : decode cX7_init 443 = .ok (.putfield 29, 3) := by decide +kernel
theorem dX7_init_446 : decode cX7_init 446 = .ok (.aload_n 0, 1) := by decide +kernel
theorem dX7_init_447 : decode cX7_init 447 = .ok (.bipush 8, 2) := by decide +kernel
theorem dX7_init_449 : decode cX7_init 449 = .ok (.newarray .int, 2) := by decide +kernel
theorem dX7_init_451 : decode cX7_init 451 = .ok (.dup, 1) := by decide +kernel
theorem dX7_init_452 : decode cX7_init 452 = .ok (.iconst 0, 1) := by decide +kernel
theorem dX7_init_453 : decode cX7_init 453 = .ok (.iconst (-1), 1) := by decide +kernel
theorem dX7_init_454 : decode cX7_init 454 = .ok (.iastore, 1) := by decide +kernel
theorem dX7_init_455 : decode cX7_init 455 = .ok (.dup, 1) := by decide +kernel
theorem dX7_init_456 : decode cX7_init 456 = .ok (.iconst 1, 1) := by decide +kernel
theorem dX7_init_457 : decode cX7_init 457 = .ok (.iconst (-1), 1) := by decide +kernel
theorem dX7_init_458 : decode cX7_init 458 = .ok (.iastore, 1) := by decide +kernel
theorem dX7_init_459 : decode cX7_init 459 = .ok (.dup, 1) := by decide +kernel
theorem dX7_init_460 : decode cX7_init 460 = .ok (.iconst 2, 1) := by decide +kernel
theorem dX7_init_461 : decode cX7_init 461 = .ok (.iconst (-1), 1) := by decide +kernel
theorem dX7_init_462 : decode cX7_init 462 = .ok (.iastore, 1) := by decide +kernel
theorem dX7_init_463 : decode cX7_init 463 = .ok (.dup, 1) := by decide +kernel
theorem dX7_init_464 : decode cX7_init 464 = .ok (.iconst 3, 1) := by decide +kernel
theorem dX7_init_465 : decode cX7_init 465 = .ok (.iconst (-1), 1) := by decide +kernel
theorem dX7_init_466 : decode cX7_init 466 = .ok (.iastore, 1) := by decide +kernel
theorem dX7_init_467 : decode cX7_init 467 = .ok (.dup, 1) := by decide +kernel
theorem dX7_init_468 : decode cX7_init 468 = .ok (.iconst 4, 1) := by decide +kernel
theorem dX7_init_469 : decode cX7_init 469 = .ok (.iconst (-1), 1) := by decide +kernel
theorem dX7_init_470 : decode cX7_init 470 = .ok (.iastore, 1) := by decide +kernel
theorem dX7_init_471 : decode cX7_init 471 = .ok (.dup, 1) := by decide +kernel
theorem dX7_init_472 : decode cX7_init 472 = .ok (.iconst 5, 1) := by decide +kernel
theorem dX7_init_473 : decode cX7_init 473 = .ok (.iconst (-1), 1) := by decide +kernel
theorem dX7_init_474 : decode cX7_init 474 = .ok (.iastore, 1) := by decide +kernel
theorem dX7_init_475 : decode cX7_init 475 = .ok (.dup, 1) := by decide +kernel
theorem dX7_init_476 : decode cX7_init 476 = .ok (.bipush 6, 2) := by decide +kernel
theorem dX7_init_478 : decode cX7_init 478 = .ok (.iconst (-1), 1) := by decide +kernel
theorem dX7_init_479 : decode cX7_init 479 = .ok (.iastore, 1) := by decide +kernel
theorem dX7_init_480 : decode cX7_init 480 = .ok (.dup, 1) := by decide +kernel
theorem dX7_init_481 : decode cX7_init 481 = .ok (.bipush 7, 2) := by decide +kernel
theorem dX7_init_483 : decode cX7_init 483 = .ok (.iconst (-1), 1) := by decide +kernel
theorem dX7_init_484 : decode cX7_init 484 = .ok (.iastore, 1) := by decide +kernel
theorem dX7_init_485 : decode cX7_init 485 = .ok (.putfield 33, 3) := by decide +kernel
theorem dX7_init_488 : decode cX7_init 488 = .ok (.aload_n 0, 1) := by decide +kernel
theorem dX7_init_489 : decode cX7_init 489 = .ok (.bipush 8, 2) := by decide +kernel
theorem dX7_init_491 : decode cX7_init 491 = .ok (.newarray .int, 2) := by decide +kernel
theorem dX7_init_493 : decode cX7_init 493 = .ok (.putfield 36, 3) := by decide +kernel
theorem dX7_init_496 : decode cX7_init 496 = .ok (.aload_n 0, 1) := by decide +kernel
theorem dX7_init_497 : decode cX7_init 497 = .ok (.sipush 320, 3) := by decide +kernel
theorem dX7_init_500 : decode cX7_init 500 = .ok (.newarray .long, 2) := by decide +kernel
theorem dX7_init_502 : decode cX7_init 502 = .ok (.putfield 39, 3) := by decide +kernel
theorem dX7_init_505 : decode cX7_init 505 = .ok (.aload_n 0, 1) := by decide +kernel
theorem dX7_init_506 : decode cX7_init 506 = .ok (.bipush 40, 2) := by decide +kernel
theorem dX7_init_508 : decode cX7_init 508 = .ok (.newarray .long, 2) := by decide +kernel
theorem dX7_init_510 : decode cX7_init 510 = .ok (.putfield 43, 3) := by decide +kernel
theorem dX7_init_513 : decode cX7_init 513 = .ok (.aload_n 0, 1) := by decide +kernel
theorem dX7_init_514 : decode cX7_init 514 = .ok (.bipush 6, 2) := by decide +kernel
theorem dX7_init_516 : decode cX7_init 516 = .ok (.newarray .int, 2) := by decide +kernel
theorem dX7_init_518 : decode cX7_init 518 = .ok (.dup, 1) := by decide +kernel
theorem dX7_init_519 : decode cX7_init 519 = .ok (.iconst 0, 1) := by decide +kernel
theorem dX7_init_520 : decode cX7_init 520 = .ok (.iconst (-1), 1) := by decide +kernel
theorem dX7_init_521 : decode cX7_init 521 = .ok (.iastore, 1) := by decide +kernel
theorem dX7_init_522 : decode cX7_init 522 = .ok (.dup, 1) := by decide +kernel
theorem dX7_init_523 : decode cX7_init 523 = .ok (.iconst 1, 1) := by decide +kernel
theorem dX7_init_524 : decode cX7_init 524 = .ok (.iconst 0, 1) := by decide +kernel
theorem dX7_init_525 : decode cX7_init 525 = .ok (.iastore, 1) := by decide +kernel
theorem dX7_init_526 : decode cX7_init 526 = .ok (.dup, 1) := by decide +kernel
theorem dX7_init_527 : decode cX7_init 527 = .ok (.iconst 2, 1) := by decide +kernel
theorem dX7_init_528 : decode cX7_init 528 = .ok (.iconst 0, 1) := by decide +kernel
theorem dX7_init_529 : decode cX7_init 529 = .ok (.iastore, 1) := by decide +kernel
theorem dX7_init_530 : decode cX7_init 530 = .ok (.dup, 1) := by decide +kernel
theorem dX7_init_531 : decode cX7_init 531 = .ok (.iconst 3, 1) := by decide +kernel
theorem dX7_init_532 : decode cX7_init 532 = .ok (.iconst 1, 1) := by decide +kernel
theorem dX7_init_533 : decode cX7_init 533 = .ok (.iastore, 1) := by decide +kernel
theorem dX7_init_534 : decode cX7_init 534 = .ok (.dup, 1) := by decide +kernel
theorem dX7_init_535 : decode cX7_init 535 = .ok (.iconst 4, 1) := by decide +kernel
theorem dX7_init_536 : decode cX7_init 536 = .ok (.iconst 2, 1) := by decide +kernel
theorem dX7_init_537 : decode cX7_init 537 = .ok (.iastore, 1) := by decide +kernel
theorem dX7_init_538 : decode cX7_init 538 = .ok (.dup, 1) := by decide +kernel
theorem dX7_init_539 : decode cX7_init 539 = .ok (.iconst 5, 1) := by decide +kernel
theorem dX7_init_540 : decode cX7_init 540 = .ok (.iconst 0, 1) := by decide +kernel
theorem dX7_init_541 : decode cX7_init 541 = .ok (.iastore, 1) := by decide +kernel
theorem dX7_init_542 : decode cX7_init 542 = .ok (.putfield 46, 3) := by decide +kernel
theorem dX7_init_545 : decode cX7_init 545 = .ok (.return_, 1) := by decide +kernel
theorem dX7_isIn_0 : decode cX7_isIn 0 = .ok (.iload_n 0, 1) := by decide +kernel
theorem dX7_isIn_1 : decode cX7_isIn 1 = .ok (.iload_n 1, 1) := by decide +kernel
theorem dX7_isIn_2 : decode cX7_isIn 2 = .ok (.if_icmp .lt 12, 3) := by decide +kernel
theorem dX7_isIn_5 : decode cX7_isIn 5 = .ok (.iload_n 0, 1) := by decide +kernel
theorem dX7_isIn_6 : decode cX7_isIn 6 = .ok (.iload_n 2, 1) := by decide +kernel
theorem dX7_isIn_7 : decode cX7_isIn 7 = .ok (.if_icmp .gt 7, 3) := by decide +kernel
theorem dX7_isIn_10 : decode cX7_isIn 10 = .ok (.iconst 1, 1) := by decide +kernel
theorem dX7_isIn_11 : decode cX7_isIn 11 = .ok (.goto 4, 3) := by decide +kernel
theorem dX7_isIn_14 : decode cX7_isIn 14 = .ok (.iconst 0, 1) := by decide +kernel
theorem dX7_isIn_15 : decode cX7_isIn 15 = .ok (.ireturn, 1) := by decide +kernel
theorem dX7_fresh_0 : decode cX7_fresh 0 = .ok (.bipush 74, 2) := by decide +kernel
theorem dX7_fresh_2 : decode cX7_fresh 2 = .ok (.newarray .int, 2) := by decide +kernel
theorem dX7_fresh_4 : decode cX7_fresh 4 = .ok (.astore_n 0, 1) := by decide +kernel
theorem dX7_fresh_5 : decode cX7_fresh 5 = .ok (.aload_n 0, 1) := by decide +kernel
theorem dX7_fresh_6 : decode cX7_fresh 6 = .ok (.bipush 73, 2) := by decide +kernel
theorem dX7_fresh_8 : decode cX7_fresh 8 = .ok (.iconst 1, 1) := by decide +kernel
theorem dX7_fresh_9 : decode cX7_fresh 9 = .ok (.iastore, 1) := by decide +kernel
theorem dX7_fresh_10 : decode cX7_fresh 10 = .ok (.aload_n 0, 1) := by decide +kernel
theorem dX7_fresh_11 : decode cX7_fresh 11 = .ok (.areturn, 1) := by decide +kernel
theorem dX7_move_0 : decode cX7_move 0 = .ok (.iconst 0, 1) := by decide +kernel
theorem dX7_move_1 : decode cX7_move 1 = .ok (.istore_n 2, 1) := by decide +kernel
theorem dX7_move_2 : decode cX7_move 2 = .ok (.iload_n 2, 1) := by decide +kernel
theorem dX7_move_3 : decode cX7_move 3 = .ok (.bipush 74, 2) := by decide +kernel
theorem dX7_move_5 : decode cX7_move 5 = .ok (.if_icmp .ge 15, 3) := by decide +kernel
theorem dX7_move_8 : decode cX7_move 8 = .ok (.aload_n 1, 1) := by decide +kernel
theorem dX7_move_9 : decode cX7_move 9 = .ok (.iload_n 2, 1) := by decide +kernel
theorem dX7_move_10 : decode cX7_move 10 = .ok (.aload_n 0, 1) := by decide +kernel
theorem dX7_move_11 : decode cX7_move 11 = .ok (.iload_n 2, 1) := by decide +kernel
theorem dX7_move_12 : decode cX7_move 12 = .ok (.iaload, 1) := by decide +kernel
theorem dX7_move_13 : decode cX7_move 13 = .ok (.iastore, 1) := by decide +kernel
theorem dX7_move_14 : decode cX7_move 14 = .ok (.iinc 2 1, 3) := by decide +kernel
theorem dX7_move_17 : decode cX7_move 17 = .ok (.goto (-15), 3) := by decide +kernel
theorem dX7_move_20 : decode cX7_move 20 = .ok (.return_, 1) := by decide +kernel
theorem dX7_no_0 : decode cX7_no 0 = .ok (.aload_n 0, 1) := by decide +kernel
theorem dX7_no_1 : decode cX7_no 1 = .ok (.getfield 23, 3) := by decide +kernel
theorem dX7_no_4 : decode cX7_no 4 = .ok (.iload_n 1, 1) := by decide +kernel
theorem dX7_no_5 : decode cX7_no 5 = .ok (.ineg, 1) := by decide +kernel
theorem dX7_no_6 : decode cX7_no 6 = .ok (.dup2, 1) := by decide +kernel
theorem dX7_no_7 : decode cX7_no 7 = .ok (.iaload, 1) := by decide +kernel
theorem dX7_no_8 : decode cX7_no 8 = .ok (.iconst 1, 1) := by decide +kernel
theorem dX7_no_9 : decode cX7_no 9 = .ok (.iadd, 1) := by decide +kernel
theorem dX7_no_10 : decode cX7_no 10 = .ok (.iastore, 1) := by decide +kernel
theorem dX7_no_11 : decode cX7_no 11 = .ok (.iload_n 1, 1) := by decide +kernel
theorem dX7_no_12 : decode cX7_no 12 = .ok (.ireturn, 1) := by decide +kernel
theorem dX7_many_0 : decode cX7_many 0 = .ok (.aload_n 0, 1) := by decide +kernel
theorem dX7_many_1 : decode cX7_many 1 = .ok (.getfield 13, 3) := by decide +kernel
theorem dX7_many_4 : decode cX7_many 4 = .ok (.bipush 68, 2) := by decide +kernel
theorem dX7_many_6 : decode cX7_many 6 = .ok (.iaload, 1) := by decide +kernel
theorem dX7_many_7 : decode cX7_many 7 = .ok (.ireturn, 1) := by decide +kernel
theorem dX7_isThing_0 : decode cX7_isThing 0 = .ok (.iload_n 1, 1) := by decide +kernel
theorem dX7_isThing_1 : decode cX7_isThing 1 = .ok (.iconst 0, 1) := by decide +kernel
theorem dX7_isThing_2 : decode cX7_isThing 2 = .ok (.aload_n 0, 1) := by decide +kernel
theorem dX7_isThing_3 : decode cX7_isThing 3 = .ok (.getfield 13, 3) := by decide +kernel
theorem dX7_isThing_6 : decode cX7_isThing 6 = .ok (.bipush 68, 2) := by decide +kernel
theorem dX7_isThing_8 : decode cX7_isThing 8 = .ok (.iaload, 1) := by decide +kernel
theorem dX7_isThing_9 : decode cX7_isThing 9 = .ok (.iconst 1, 1) := by decide +kernel
theorem dX7_isThing_10 : decode cX7_isThing 10 = .ok (.isub, 1) := by decide +kernel
theorem dX7_isThing_11 : decode cX7_isThing 11 = .ok (.invokestatic 49, 3) := by decide +kernel
theorem dX7_isThing_14 : decode cX7_isThing 14 = .ok (.ireturn, 1) := by decide +kernel
theorem dX7_isRinger_0 : decode cX7_isRinger 0 = .ok (.iload_n 1, 1) := by decide +kernel
theorem dX7_isRinger_1 : decode cX7_isRinger 1 = .ok (.iconst 0, 1) := by decide +kernel
theorem dX7_isRinger_2 : decode cX7_isRinger 2 = .ok (.aload_n 0, 1) := by decide +kernel
theorem dX7_isRinger_3 : decode cX7_isRinger 3 = .ok (.getfield 13, 3) := by decide +kernel
theorem dX7_isRinger_6 : decode cX7_isRinger 6 = .ok (.bipush 69, 2) := by decide +kernel
theorem dX7_isRinger_8 : decode cX7_isRinger 8 = .ok (.iaload, 1) := by decide +kernel
theorem dX7_isRinger_9 : decode cX7_isRinger 9 = .ok (.iconst 1, 1) := by decide +kernel
theorem dX7_isRinger_10 : decode cX7_isRinger 10 = .ok (.isub, 1) := by decide +kernel
theorem dX7_isRinger_11 : decode cX7_isRinger 11 = .ok (.invokestatic 49, 3) := by decide +kernel
theorem dX7_isRinger_14 : decode cX7_isRinger 14 = .ok (.ireturn, 1) := by decide +kernel
theorem dX7_areThings_0 : decode cX7_areThings 0 = .ok (.iload_n 1, 1) := by decide +kernel
theorem dX7_areThings_1 : decode cX7_areThings 1 = .ok (.ifCond .lt 20, 3) := by decide +kernel
theorem dX7_areThings_4 : decode cX7_areThings 4 = .ok (.iload_n 1, 1) := by decide +kernel
theorem dX7_areThings_5 : decode cX7_areThings 5 = .ok (.iconst 1, 1) := by decide +kernel
theorem dX7_areThings_6 : decode cX7_areThings 6 = .ok (.aload_n 0, 1) := by decide +kernel
theorem dX7_areThings_7 : decode cX7_areThings 7 = .ok (.getfield 13, 3) := by decide +kernel
theorem dX7_areThings_10 : decode cX7_areThings 10 = .ok (.bipush 68, 2) := by decide +kernel
theorem dX7_areThings_12 : decode cX7_areThings 12 = .ok (.iaload, 1) := by decide +kernel
theorem dX7_areThings_13 : decode cX7_areThings 13 = .ok (.ishl, 1) := by decide +kernel
theorem dX7_areThings_14 : decode cX7_areThings 14 = .ok (.if_icmp .ge 7, 3) := by decide +kernel
theorem dX7_areThings_17 : decode cX7_areThings 17 = .ok (.iconst 1, 1) := by decide +kernel
theorem dX7_areThings_18 : decode cX7_areThings 18 = .ok (.goto 4, 3) := by decide +kernel
theorem dX7_areThings_21 : decode cX7_areThings 21 = .ok (.iconst 0, 1) := by decide +kernel
theorem dX7_areThings_22 : decode cX7_areThings 22 = .ok (.ireturn, 1) := by decide +kernel
theorem dX7_of_0 : decode cX7_of 0 = .ok (.aload_n 0, 1) := by decide +kernel
theorem dX7_of_1 : decode cX7_of 1 = .ok (.getfield 13, 3) := by decide +kernel
theorem dX7_of_4 : decode cX7_of 4 = .ok (.iconst 5, 1) := by decide +kernel
theorem dX7_of_5 : decode cX7_of 5 = .ok (.iload_n 1, 1) := by decide +kernel
theorem dX7_of_6 : decode cX7_of 6 = .ok (.imul, 1) := by decide +kernel
theorem dX7_of_7 : decode cX7_of 7 = .ok (.iload_n 2, 1) := by decide +kernel
theorem dX7_of_8 : decode cX7_of 8 = .ok (.iadd, 1) := by decide +kernel
theorem dX7_of_9 : decode cX7_of 9 = .ok (.iaload, 1) := by decide +kernel
theorem dX7_of_10 : decode cX7_of 10 = .ok (.ireturn, 1) := by decide +kernel
theorem dX7_becomes_0 : decode cX7_becomes 0 = .ok (.aload_n 0, 1) := by decide +kernel
theorem dX7_becomes_1 : decode cX7_becomes 1 = .ok (.iload_n 1, 1) := by decide +kernel
theorem dX7_becomes_2 : decode cX7_becomes 2 = .ok (.iload_n 2, 1) := by decide +kernel
theorem dX7_becomes_3 : decode cX7_becomes 3 = .ok (.invokevirtual 53, 3) := by decide +kernel
theorem dX7_becomes_6 : decode cX7_becomes 6 = .ok (.istore 4, 2) := by decide +kernel
theorem dX7_becomes_8 : decode cX7_becomes 8 = .ok (.aload_n 0, 1) := by decide +kernel
theorem dX7_becomes_9 : decode cX7_becomes 9 = .ok (.getfield 13, 3) := by decide +kernel
theorem dX7_becomes_12 : decode cX7_becomes 12 = .ok (.iconst 5, 1) := by decide +kernel
theorem dX7_becomes_13 : decode cX7_becomes 13 = .ok (.iload_n 1, 1) := by decide +kernel
theorem dX7_becomes_14 : decode cX7_becomes 14 = .ok (.imul, 1) := by decide +kernel
theorem dX7_becomes_15 : decode cX7_becomes 15 = .ok (.iload_n 2, 1) := by decide +kernel
theorem dX7_becomes_16 : decode cX7_becomes 16 = .ok (.iadd, 1) := by decide +kernel
theorem dX7_becomes_17 : decode cX7_becomes 17 = .ok (.iload_n 3, 1) := by decide +kernel
theorem dX7_becomes_18 : decode cX7_becomes 18 = .ok (.iastore, 1) := by decide +kernel
theorem dX7_becomes_19 : decode cX7_becomes 19 = .ok (.iload 4, 2) := by decide +kernel
theorem dX7_becomes_21 : decode cX7_becomes 21 = .ok (.ireturn, 1) := by decide +kernel
theorem dX7_been_0 : decode cX7_been 0 = .ok (.iconst 0, 1) := by decide +kernel
theorem dX7_been_1 : decode cX7_been 1 = .ok (.istore_n 1, 1) := by decide +kernel
theorem dX7_been_2 : decode cX7_been 2 = .ok (.iconst 0, 1) := by decide +kernel
theorem dX7_been_3 : decode cX7_been 3 = .ok (.istore_n 2, 1) := by decide +kernel
theorem dX7_been_4 : decode cX7_been 4 = .ok (.iload_n 2, 1) := by decide +kernel
theorem dX7_been_5 : decode cX7_been 5 = .ok (.aload_n 0, 1) := by decide +kernel
theorem dX7_been_6 : decode cX7_been 6 = .ok (.invokevirtual 57, 3) := by decide +kernel
theorem dX7_been_9 : decode cX7_been 9 = .ok (.if_icmp .ge 20, 3) := by decide +kernel
theorem dX7_been_12 : decode cX7_been 12 = .ok (.iload_n 1, 1) := by decide +kernel
theorem dX7_been_13 : decode cX7_been 13 = .ok (.aload_n 0, 1) := by decide +kernel
theorem dX7_been_14 : decode cX7_been 14 = .ok (.iload_n 2, 1) := by decide +kernel
theorem dX7_been_15 : decode cX7_been 15 = .ok (.iconst 3, 1) := by decide +kernel
theorem dX7_been_16 : decode cX7_been 16 = .ok (.invokevirtual 53, 3) := by decide +kernel
theorem dX7_been_19 : decode cX7_been 19 = .ok (.iload_n 2, 1) := by decide +kernel
theorem dX7_been_20 : decode cX7_been 20 = .ok (.ishl, 1) := by decide +kernel
theorem dX7_been_21 : decode cX7_been 21 = .ok (.ior, 1) := by decide +kernel
theorem dX7_been_22 : decode cX7_been 22 = .ok (.istore_n 1, 1) := by decide +kernel
theorem dX7_been_23 : decode cX7_been 23 = .ok (.iinc 2 1, 3) := by decide +kernel
theorem dX7_been_26 : decode cX7_been 26 = .ok (.goto (-22), 3) := by decide +kernel
theorem dX7_been_29 : decode cX7_been 29 = .ok (.iload_n 1, 1) := by decide +kernel
theorem dX7_been_30 : decode cX7_been 30 = .ok (.ireturn, 1) := by decide +kernel
theorem dX7_isOpen_0 : decode cX7_isOpen 0 = .ok (.aload_n 0, 1) := by decide +kernel
theorem dX7_isOpen_1 : decode cX7_isOpen 1 = .ok (.getfield 13, 3) := by decide +kernel
theorem dX7_isOpen_4 : decode cX7_isOpen 4 = .ok (.bipush 72, 2) := by decide +kernel
theorem dX7_isOpen_6 : decode cX7_isOpen 6 = .ok (.iaload, 1) := by decide +kernel
theorem dX7_isOpen_7 : decode cX7_isOpen 7 = .ok (.iload_n 1, 1) := by decide +kernel
theorem dX7_isOpen_8 : decode cX7_isOpen 8 = .ok (.bipush 8, 2) := by decide +kernel
theorem dX7_isOpen_10 : decode cX7_isOpen 10 = .ok (.irem, 1) := by decide +kernel
theorem dX7_isOpen_11 : decode cX7_isOpen 11 = .ok (.ishr, 1) := by decide +kernel
theorem dX7_isOpen_12 : decode cX7_isOpen 12 = .ok (.iconst 1, 1) := by decide +kernel
theorem dX7_isOpen_13 : decode cX7_isOpen 13 = .ok (.iand, 1) := by decide +kernel
theorem dX7_isOpen_14 : decode cX7_isOpen 14 = .ok (.ifCond .ne 7, 3) := by decide +kernel
theorem dX7_isOpen_17 : decode cX7_isOpen 17 = .ok (.iconst 1, 1) := by decide +kernel
theorem dX7_isOpen_18 : decode cX7_isOpen 18 = .ok (.goto 4, 3) := by decide +kernel
theorem dX7_isOpen_21 : decode cX7_isOpen 21 = .ok (.iconst 0, 1) := by decide +kernel
theorem dX7_isOpen_22 : decode cX7_isOpen 22 = .ok (.ireturn, 1) := by decide +kernel
theorem dX7_may_0 : decode cX7_may 0 = .ok (.aload_n 0, 1) := by decide +kernel
theorem dX7_may_1 : decode cX7_may 1 = .ok (.iload_n 1, 1) := by decide +kernel
theorem dX7_may_2 : decode cX7_may 2 = .ok (.invokevirtual 61, 3) := by decide +kernel
theorem dX7_may_5 : decode cX7_may 5 = .ok (.ifCond .ne 7, 3) := by decide +kernel
theorem dX7_may_8 : decode cX7_may 8 = .ok (.iconst 0, 1) := by decide +kernel
theorem dX7_may_9 : decode cX7_may 9 = .ok (.goto 37, 3) := by decide +kernel
theorem dX7_may_12 : decode cX7_may 12 = .ok (.aload_n 0, 1) := by decide +kernel
theorem dX7_may_13 : decode cX7_may 13 = .ok (.iload_n 1, 1) := by decide +kernel
theorem dX7_may_14 : decode cX7_may 14 = .ok (.iconst 3, 1) := by decide +kernel
theorem dX7_may_15 : decode cX7_may 15 = .ok (.invokevirtual 53, 3) := by decide +kernel
theorem dX7_may_18 : decode cX7_may 18 = .ok (.ifCond .ne 7, 3) := by decide +kernel
theorem dX7_may_21 : decode cX7_may 21 = .ok (.iconst 2, 1) := by decide +kernel
theorem dX7_may_22 : decode cX7_may 22 = .ok (.goto 24, 3) := by decide +kernel
theorem dX7_may_25 : decode cX7_may 25 = .ok (.aload_n 0, 1) := by decide +kernel
theorem dX7_may_26 : decode cX7_may 26 = .ok (.iload_n 1, 1) := by decide +kernel
theorem dX7_may_27 : decode cX7_may 27 = .ok (.iconst 1, 1) := by decide +kernel
theorem dX7_may_28 : decode cX7_may 28 = .ok (.invokevirtual 53, 3) := by decide +kernel
theorem dX7_may_31 : decode cX7_may 31 = .ok (.aload_n 0, 1) := by decide +kernel
theorem dX7_may_32 : decode cX7_may 32 = .ok (.getfield 13, 3) := by decide +kernel
theorem dX7_may_35 : decode cX7_may 35 = .ok (.bipush 70, 2) := by decide +kernel
theorem dX7_may_37 : decode cX7_may 37 = .ok (.iaload, 1) := by decide +kernel
theorem dX7_may_38 : decode cX7_may 38 = .ok (.if_icmp .ne 7, 3) := by decide +kernel
theorem dX7_may_41 : decode cX7_may 41 = .ok (.iconst 1, 1) := by decide +kernel
theorem dX7_may_42 : decode cX7_may 42 = .ok (.goto 4, 3) := by decide +kernel
theorem dX7_may_45 : decode cX7_may 45 = .ok (.iconst 0, 1) := by decide +kernel
theorem dX7_may_46 : decode cX7_may 46 = .ok (.ireturn, 1) := by decide +kernel
theorem dX7_standsBy_0 : decode cX7_standsBy 0 = .ok (.iconst 0, 1) := by decide +kernel
theorem dX7_standsBy_1 : decode cX7_standsBy 1 = .ok (.istore_n 2, 1) := by decide +kernel
theorem dX7_standsBy_2 : decode cX7_standsBy 2 = .ok (.iconst 0, 1) := by decide +kernel
theorem dX7_standsBy_3 : decode cX7_standsBy 3 = .ok (.istore_n 3, 1) := by decide +kernel
theorem dX7_standsBy_4 : decode cX7_standsBy 4 = .ok (.iload_n 3, 1) := by decide +kernel
theorem dX7_standsBy_5 : decode cX7_standsBy 5 = .ok (.aload_n 0, 1) := by decide +kernel
theorem dX7_standsBy_6 : decode cX7_standsBy 6 = .ok (.invokevirtual 57, 3) := by decide +kernel
theorem dX7_standsBy_9 : decode cX7_standsBy 9 = .ok (.if_icmp .ge 41, 3) := by decide +kernel
theorem dX7_standsBy_12 : decode cX7_standsBy 12 = .ok (.iload_n 2, 1) := by decide +kernel
theorem dX7_standsBy_13 : decode cX7_standsBy 13 = .ok (.iload_n 1, 1) := by decide +kernel
theorem dX7_standsBy_14 : decode cX7_standsBy 14 = .ok (.iload_n 3, 1) := by decide +kernel
theorem dX7_standsBy_15 : decode cX7_standsBy 15 = .ok (.ishr, 1) := by decide +kernel
theorem dX7_standsBy_16 : decode cX7_standsBy 16 = .ok (.iconst 1, 1) := by decide +kernel
theorem dX7_standsBy_17 : decode cX7_standsBy 17 = .ok (.iand, 1) := by decide +kernel
theorem dX7_standsBy_18 : decode cX7_standsBy 18 = .ok (.iconst 1, 1) := by decide +kernel
theorem dX7_standsBy_19 : decode cX7_standsBy 19 = .ok (.if_icmp .ne 22, 3) := by decide +kernel
theorem dX7_standsBy_22 : decode cX7_standsBy 22 = .ok (.aload_n 0, 1) := by decide +kernel
theorem dX7_standsBy_23 : decode cX7_standsBy 23 = .ok (.iload_n 3, 1) := by decide +kernel
theorem dX7_standsBy_24 : decode cX7_standsBy 24 = .ok (.iconst 2, 1) := by decide +kernel
theorem dX7_standsBy_25 : decode cX7_standsBy 25 = .ok (.invokevirtual 53, 3) := by decide +kernel
theorem dX7_standsBy_28 : decode cX7_standsBy 28 = .ok (.iload_n 2, 1) := by decide +kernel
theorem dX7_standsBy_29 : decode cX7_standsBy 29 = .ok (.iconst (-1), 1) := by decide +kernel
theorem dX7_standsBy_30 : decode cX7_standsBy 30 = .ok (.ixor, 1) := by decide +kernel
theorem dX7_standsBy_31 : decode cX7_standsBy 31 = .ok (.iand, 1) := by decide +kernel
theorem dX7_standsBy_32 : decode cX7_standsBy 32 = .ok (.ifCond .ne 9, 3) := by decide +kernel
theorem dX7_standsBy_35 : decode cX7_standsBy 35 = .ok (.iconst 1, 1) := by decide +kernel
theorem dX7_standsBy_36 : decode cX7_standsBy 36 = .ok (.iload_n 3, 1) := by decide +kernel
theorem dX7_standsBy_37 : decode cX7_standsBy 37 = .ok (.ishl, 1) := by decide +kernel
theorem dX7_standsBy_38 : decode cX7_standsBy 38 = .ok (.goto 4, 3) := by decide +kernel
theorem dX7_standsBy_41 : decode cX7_standsBy 41 = .ok (.iconst 0, 1) := by decide +kernel
theorem dX7_standsBy_42 : decode cX7_standsBy 42 = .ok (.ior, 1) := by decide +kernel
theorem dX7_standsBy_43 : decode cX7_standsBy 43 = .ok (.istore_n 2, 1) := by decide +kernel
theorem dX7_standsBy_44 : decode cX7_standsBy 44 = .ok (.iinc 3 1, 3) := by decide +kernel
theorem dX7_standsBy_47 : decode cX7_standsBy 47 = .ok (.goto (-43), 3) := by decide +kernel
theorem dX7_standsBy_50 : decode cX7_standsBy 50 = .ok (.iload_n 2, 1) := by decide +kernel
theorem dX7_standsBy_51 : decode cX7_standsBy 51 = .ok (.ireturn, 1) := by decide +kernel
theorem dX7_worthOf_0 : decode cX7_worthOf 0 = .ok (.iconst 0, 1) := by decide +kernel
theorem dX7_worthOf_1 : decode cX7_worthOf 1 = .ok (.istore_n 2, 1) := by decide +kernel
theorem dX7_worthOf_2 : decode cX7_worthOf 2 = .ok (.iconst 0, 1) := by decide +kernel
theorem dX7_worthOf_3 : decode cX7_worthOf 3 = .ok (.istore_n 3, 1) := by decide +kernel
theorem dX7_worthOf_4 : decode cX7_worthOf 4 = .ok (.iload_n 3, 1) := by decide +kernel
theorem dX7_worthOf_5 : decode cX7_worthOf 5 = .ok (.aload_n 0, 1) := by decide +kernel
theorem dX7_worthOf_6 : decode cX7_worthOf 6 = .ok (.invokevirtual 57, 3) := by decide +kernel
theorem dX7_worthOf_9 : decode cX7_worthOf 9 = .ok (.if_icmp .ge 24, 3) := by decide +kernel
theorem dX7_worthOf_12 : decode cX7_worthOf 12 = .ok (.iload_n 2, 1) := by decide +kernel
theorem dX7_worthOf_13 : decode cX7_worthOf 13 = .ok (.iload_n 1, 1) := by decide +kernel
theorem dX7_worthOf_14 : decode cX7_worthOf 14 = .ok (.iload_n 3, 1) := by decide +kernel
theorem dX7_worthOf_15 : decode cX7_worthOf 15 = .ok (.ishr, 1) := by decide +kernel
theorem dX7_worthOf_16 : decode cX7_worthOf 16 = .ok (.iconst 1, 1) := by decide +kernel
theorem dX7_worthOf_17 : decode cX7_worthOf 17 = .ok (.iand, 1) := by decide +kernel
theorem dX7_worthOf_18 : decode cX7_worthOf 18 = .ok (.aload_n 0, 1) := by decide +kernel
theorem dX7_worthOf_19 : decode cX7_worthOf 19 = .ok (.iload_n 3, 1) := by decide +kernel
theorem dX7_worthOf_20 : decode cX7_worthOf 20 = .ok (.iconst 0, 1) := by decide +kernel
theorem dX7_worthOf_21 : decode cX7_worthOf 21 = .ok (.invokevirtual 53, 3) := by decide +kernel
theorem dX7_worthOf_24 : decode cX7_worthOf 24 = .ok (.imul, 1) := by decide +kernel
theorem dX7_worthOf_25 : decode cX7_worthOf 25 = .ok (.iadd, 1) := by decide +kernel
theorem dX7_worthOf_26 : decode cX7_worthOf 26 = .ok (.istore_n 2, 1) := by decide +kernel
theorem dX7_worthOf_27 : decode cX7_worthOf 27 = .ok (.iinc 3 1, 3) := by decide +kernel
theorem dX7_worthOf_30 : decode cX7_worthOf 30 = .ok (.goto (-26), 3) := by decide +kernel
theorem dX7_worthOf_33 : decode cX7_worthOf 33 = .ok (.iload_n 2, 1) := by decide +kernel
theorem dX7_worthOf_34 : decode cX7_worthOf 34 = .ok (.ireturn, 1) := by decide +kernel
theorem dX7_valueBy_0 : decode cX7_valueBy 0 = .ok (.aload_n 0, 1) := by decide +kernel
theorem dX7_valueBy_1 : decode cX7_valueBy 1 = .ok (.aload_n 0, 1) := by decide +kernel
theorem dX7_valueBy_2 : decode cX7_valueBy 2 = .ok (.iload_n 1, 1) := by decide +kernel
theorem dX7_valueBy_3 : decode cX7_valueBy 3 = .ok (.invokevirtual 65, 3) := by decide +kernel
theorem dX7_valueBy_6 : decode cX7_valueBy 6 = .ok (.invokevirtual 69, 3) := by decide +kernel
theorem dX7_valueBy_9 : decode cX7_valueBy 9 = .ok (.ireturn, 1) := by decide +kernel
theorem dX7_isFewer_0 : decode cX7_isFewer 0 = .ok (.iload_n 1, 1) := by decide +kernel
theorem dX7_isFewer_1 : decode cX7_isFewer 1 = .ok (.iconst (-1), 1) := by decide +kernel
theorem dX7_isFewer_2 : decode cX7_isFewer 2 = .ok (.if_icmp .eq 14, 3) := by decide +kernel
theorem dX7_isFewer_5 : decode cX7_isFewer 5 = .ok (.iload_n 0, 1) := by decide +kernel
theorem dX7_isFewer_6 : decode cX7_isFewer 6 = .ok (.invokestatic 72, 3) := by decide +kernel
theorem dX7_isFewer_9 : decode cX7_isFewer 9 = .ok (.iload_n 1, 1) := by decide +kernel
theorem dX7_isFewer_10 : decode cX7_isFewer 10 = .ok (.invokestatic 72, 3) := by decide +kernel
theorem dX7_isFewer_13 : decode cX7_isFewer 13 = .ok (.if_icmp .ge 7, 3) := by decide +kernel
theorem dX7_isFewer_16 : decode cX7_isFewer 16 = .ok (.iconst 1, 1) := by decide +kernel
theorem dX7_isFewer_17 : decode cX7_isFewer 17 = .ok (.goto 4, 3) := by decide +kernel
theorem dX7_isFewer_20 : decode cX7_isFewer 20 = .ok (.iconst 0, 1) := by decide +kernel
theorem dX7_isFewer_21 : decode cX7_isFewer 21 = .ok (.ireturn, 1) := by decide +kernel
theorem dX7_addThing_0 : decode cX7_addThing 0 = .ok (.aload_n 0, 1) := by decide +kernel
theorem dX7_addThing_1 : decode cX7_addThing 1 = .ok (.invokevirtual 57, 3) := by decide +kernel
theorem dX7_addThing_4 : decode cX7_addThing 4 = .ok (.istore_n 3, 1) := by decide +kernel
theorem dX7_addThing_5 : decode cX7_addThing 5 = .ok (.aload_n 0, 1) := by decide +kernel
theorem dX7_addThing_6 : decode cX7_addThing 6 = .ok (.iload_n 3, 1) := by decide +kernel
theorem dX7_addThing_7 : decode cX7_addThing 7 = .ok (.iconst 0, 1) := by decide +kernel
theorem dX7_addThing_8 : decode cX7_addThing 8 = .ok (.iload_n 1, 1) := by decide +kernel
theorem dX7_addThing_9 : decode cX7_addThing 9 = .ok (.invokevirtual 77, 3) := by decide +kernel
theorem dX7_addThing_12 : decode cX7_addThing 12 = .ok (.pop, 1) := by decide +kernel
theorem dX7_addThing_13 : decode cX7_addThing 13 = .ok (.aload_n 0, 1) := by decide +kernel
theorem dX7_addThing_14 : decode cX7_addThing 14 = .ok (.iload_n 3, 1) := by decide +kernel
theorem dX7_addThing_15 : decode cX7_addThing 15 = .ok (.iconst 1, 1) := by decide +kernel
theorem dX7_addThing_16 : decode cX7_addThing 16 = .ok (.iload_n 2, 1) := by decide +kernel
theorem dX7_addThing_17 : decode cX7_addThing 17 = .ok (.invokevirtual 77, 3) := by decide +kernel
theorem dX7_addThing_20 : decode cX7_addThing 20 = .ok (.pop, 1) := by decide +kernel
theorem dX7_addThing_21 : decode cX7_addThing 21 = .ok (.aload_n 0, 1) := by decide +kernel
theorem dX7_addThing_22 : decode cX7_addThing 22 = .ok (.iload_n 3, 1) := by decide +kernel
theorem dX7_addThing_23 : decode cX7_addThing 23 = .ok (.iconst 2, 1) := by decide +kernel
theorem dX7_addThing_24 : decode cX7_addThing 24 = .ok (.iconst 0, 1) := by decide +kernel
theorem dX7_addThing_25 : decode cX7_addThing 25 = .ok (.invokevirtual 77, 3) := by decide +kernel
theorem dX7_addThing_28 : decode cX7_addThing 28 = .ok (.pop, 1) := by decide +kernel
theorem dX7_addThing_29 : decode cX7_addThing 29 = .ok (.aload_n 0, 1) := by decide +kernel
theorem dX7_addThing_30 : decode cX7_addThing 30 = .ok (.iload_n 3, 1) := by decide +kernel
theorem dX7_addThing_31 : decode cX7_addThing 31 = .ok (.iconst 3, 1) := by decide +kernel
theorem dX7_addThing_32 : decode cX7_addThing 32 = .ok (.iconst 1, 1) := by decide +kernel
theorem dX7_addThing_33 : decode cX7_addThing 33 = .ok (.invokevirtual 77, 3) := by decide +kernel
theorem dX7_addThing_36 : decode cX7_addThing 36 = .ok (.pop, 1) := by decide +kernel
theorem dX7_addThing_37 : decode cX7_addThing 37 = .ok (.aload_n 0, 1) := by decide +kernel
theorem dX7_addThing_38 : decode cX7_addThing 38 = .ok (.iload_n 3, 1) := by decide +kernel
theorem dX7_addThing_39 : decode cX7_addThing 39 = .ok (.iconst 4, 1) := by decide +kernel
theorem dX7_addThing_40 : decode cX7_addThing 40 = .ok (.iconst 0, 1) := by decide +kernel
theorem dX7_addThing_41 : decode cX7_addThing 41 = .ok (.invokevirtual 77, 3) := by decide +kernel
theorem dX7_addThing_44 : decode cX7_addThing 44 = .ok (.pop, 1) := by decide +kernel
theorem dX7_addThing_45 : decode cX7_addThing 45 = .ok (.aload_n 0, 1) := by decide +kernel
theorem dX7_addThing_46 : decode cX7_addThing 46 = .ok (.getfield 13, 3) := by decide +kernel
theorem dX7_addThing_49 : decode cX7_addThing 49 = .ok (.bipush 68, 2) := by decide +kernel
theorem dX7_addThing_51 : decode cX7_addThing 51 = .ok (.dup2, 1) := by decide +kernel
theorem dX7_addThing_52 : decode cX7_addThing 52 = .ok (.iaload, 1) := by decide +kernel
theorem dX7_addThing_53 : decode cX7_addThing 53 = .ok (.iconst 1, 1) := by decide +kernel
theorem dX7_addThing_54 : decode cX7_addThing 54 = .ok (.iadd, 1) := by decide +kernel
theorem dX7_addThing_55 : decode cX7_addThing 55 = .ok (.iastore, 1) := by decide +kernel
theorem dX7_addThing_56 : decode cX7_addThing 56 = .ok (.iload_n 3, 1) := by decide +kernel
theorem dX7_addThing_57 : decode cX7_addThing 57 = .ok (.ireturn, 1) := by decide +kernel
theorem dX7_addRinger_0 : decode cX7_addRinger 0 = .ok (.aload_n 0, 1) := by decide +kernel
theorem dX7_addRinger_1 : decode cX7_addRinger 1 = .ok (.getfield 13, 3) := by decide +kernel
theorem dX7_addRinger_4 : decode cX7_addRinger 4 = .ok (.bipush 69, 2) := by decide +kernel
theorem dX7_addRinger_6 : decode cX7_addRinger 6 = .ok (.iaload, 1) := by decide +kernel
theorem dX7_addRinger_7 : decode cX7_addRinger 7 = .ok (.istore 4, 2) := by decide +kernel
theorem dX7_addRinger_9 : decode cX7_addRinger 9 = .ok (.aload_n 0, 1) := by decide +kernel
theorem dX7_addRinger_10 : decode cX7_addRinger 10 = .ok (.getfield 13, 3) := by decide +kernel
theorem dX7_addRinger_13 : decode cX7_addRinger 13 = .ok (.bipush 50, 2) := by decide +kernel
theorem dX7_addRinger_15 : decode cX7_addRinger 15 = .ok (.iconst 3, 1) := by decide +kernel
theorem dX7_addRinger_16 : decode cX7_addRinger 16 = .ok (.iload 4, 2) := by decide +kernel
theorem dX7_addRinger_18 : decode cX7_addRinger 18 = .ok (.imul, 1) := by decide +kernel
theorem dX7_addRinger_19 : decode cX7_addRinger 19 = .ok (.iadd, 1) := by decide +kernel
theorem dX7_addRinger_20 : decode cX7_addRinger 20 = .ok (.iload_n 1, 1) := by decide +kernel
theorem dX7_addRinger_21 : decode cX7_addRinger 21 = .ok (.iastore, 1) := by decide +kernel
theorem dX7_addRinger_22 : decode cX7_addRinger 22 = .ok (.aload_n 0, 1) := by decide +kernel
theorem dX7_addRinger_23 : decode cX7_addRinger 23 = .ok (.getfield 13, 3) := by decide +kernel
theorem dX7_addRinger_26 : decode cX7_addRinger 26 = .ok (.bipush 50, 2) := by decide +kernel
theorem dX7_addRinger_28 : decode cX7_addRinger 28 = .ok (.iconst 3, 1) := by decide +kernel
theorem dX7_addRinger_29 : decode cX7_addRinger 29 = .ok (.iload 4, 2) := by decide +kernel
theorem dX7_addRinger_31 : decode cX7_addRinger 31 = .ok (.imul, 1) := by decide +kernel
theorem dX7_addRinger_32 : decode cX7_addRinger 32 = .ok (.iadd, 1) := by decide +kernel
theorem dX7_addRinger_33 : decode cX7_addRinger 33 = .ok (.iconst 1, 1) := by decide +kernel
theorem dX7_addRinger_34 : decode cX7_addRinger 34 = .ok (.iadd, 1) := by decide +kernel
theorem dX7_addRinger_35 : decode cX7_addRinger 35 = .ok (.iload_n 2, 1) := by decide +kernel
theorem dX7_addRinger_36 : decode cX7_addRinger 36 = .ok (.iastore, 1) := by decide +kernel
theorem dX7_addRinger_37 : decode cX7_addRinger 37 = .ok (.aload_n 0, 1) := by decide +kernel
theorem dX7_addRinger_38 : decode cX7_addRinger 38 = .ok (.getfield 13, 3) := by decide +kernel
theorem dX7_addRinger_41 : decode cX7_addRinger 41 = .ok (.bipush 50, 2) := by decide +kernel
theorem dX7_addRinger_43 : decode cX7_addRinger 43 = .ok (.iconst 3, 1) := by decide +kernel
theorem dX7_addRinger_44 : decode cX7_addRinger 44 = .ok (.iload 4, 2) := by decide +kernel
theorem dX7_addRinger_46 : decode cX7_addRinger 46 = .ok (.imul, 1) := by decide +kernel
theorem dX7_addRinger_47 : decode cX7_addRinger 47 = .ok (.iadd, 1) := by decide +kernel
theorem dX7_addRinger_48 : decode cX7_addRinger 48 = .ok (.iconst 2, 1) := by decide +kernel
theorem dX7_addRinger_49 : decode cX7_addRinger 49 = .ok (.iadd, 1) := by decide +kernel
theorem dX7_addRinger_50 : decode cX7_addRinger 50 = .ok (.iload_n 3, 1) := by decide +kernel
theorem dX7_addRinger_51 : decode cX7_addRinger 51 = .ok (.iastore, 1) := by decide +kernel
theorem dX7_addRinger_52 : decode cX7_addRinger 52 = .ok (.aload_n 0, 1) := by decide +kernel
theorem dX7_addRinger_53 : decode cX7_addRinger 53 = .ok (.getfield 13, 3) := by decide +kernel
theorem dX7_addRinger_56 : decode cX7_addRinger 56 = .ok (.bipush 69, 2) := by decide +kernel
theorem dX7_addRinger_58 : decode cX7_addRinger 58 = .ok (.dup2, 1) := by decide +kernel
theorem dX7_addRinger_59 : decode cX7_addRinger 59 = .ok (.iaload, 1) := by decide +kernel
theorem dX7_addRinger_60 : decode cX7_addRinger 60 = .ok (.iconst 1, 1) := by decide +kernel
theorem dX7_addRinger_61 : decode cX7_addRinger 61 = .ok (.iadd, 1) := by decide +kernel
theorem dX7_addRinger_62 : decode cX7_addRinger 62 = .ok (.iastore, 1) := by decide +kernel
theorem dX7_addRinger_63 : decode cX7_addRinger 63 = .ok (.iload 4, 2) := by decide +kernel
theorem dX7_addRinger_65 : decode cX7_addRinger 65 = .ok (.ireturn, 1) := by decide +kernel
theorem dX7_thing_0 : decode cX7_thing 0 = .ok (.iload_n 1, 1) := by decide +kernel
theorem dX7_thing_1 : decode cX7_thing 1 = .ok (.iconst 0, 1) := by decide +kernel
theorem dX7_thing_2 : decode cX7_thing 2 = .ok (.bipush 99, 2) := by decide +kernel
theorem dX7_thing_4 : decode cX7_thing 4 = .ok (.invokestatic 49, 3) := by decide +kernel
theorem dX7_thing_7 : decode cX7_thing 7 = .ok (.ifCond .eq 12, 3) := by decide +kernel
theorem dX7_thing_10 : decode cX7_thing 10 = .ok (.iload_n 2, 1) := by decide +kernel
theorem dX7_thing_11 : decode cX7_thing 11 = .ok (.iconst 0, 1) := by decide +kernel
theorem dX7_thing_12 : decode cX7_thing 12 = .ok (.iconst 3, 1) := by decide +kernel
theorem dX7_thing_13 : decode cX7_thing 13 = .ok (.invokestatic 49, 3) := by decide +kernel
theorem dX7_thing_16 : decode cX7_thing 16 = .ok (.ifCond .ne 10, 3) := by decide +kernel
theorem dX7_thing_19 : decode cX7_thing 19 = .ok (.aload_n 0, 1) := by decide +kernel
theorem dX7_thing_20 : decode cX7_thing 20 = .ok (.bipush (-2), 2) := by decide +kernel
theorem dX7_thing_22 : decode cX7_thing 22 = .ok (.invokevirtual 81, 3) := by decide +kernel
theorem dX7_thing_25 : decode cX7_thing 25 = .ok (.ireturn, 1) := by decide +kernel
theorem dX7_thing_26 : decode cX7_thing 26 = .ok (.aload_n 0, 1) := by decide +kernel
theorem dX7_thing_27 : decode cX7_thing 27 = .ok (.invokevirtual 57, 3) := by decide +kernel
theorem dX7_thing_30 : decode cX7_thing 30 = .ok (.bipush 10, 2) := by decide +kernel
theorem dX7_thing_32 : decode cX7_thing 32 = .ok (.if_icmp .ne 12, 3) := by decide +kernel
theorem dX7_thing_35 : decode cX7_thing 35 = .ok (.aload_n 0, 1) := by decide +kernel
theorem dX7_thing_36 : decode cX7_thing 36 = .ok (.bipush (-6), 2) := by decide +kernel
theorem dX7_thing_38 : decode cX7_thing 38 = .ok (.invokevirtual 81, 3) := by decide +kernel
theorem dX7_thing_41 : decode cX7_thing 41 = .ok (.goto 9, 3) := by decide +kernel
theorem dX7_thing_44 : decode cX7_thing 44 = .ok (.aload_n 0, 1) := by decide +kernel
theorem dX7_thing_45 : decode cX7_thing 45 = .ok (.iload_n 1, 1) := by decide +kernel
theorem dX7_thing_46 : decode cX7_thing 46 = .ok (.iload_n 2, 1) := by decide +kernel
theorem dX7_thing_47 : decode cX7_thing 47 = .ok (.invokevirtual 84, 3) := by decide +kernel
theorem dX7_thing_50 : decode cX7_thing 50 = .ok (.ireturn, 1) := by decide +kernel
theorem dX7_ringer_0 : decode cX7_ringer 0 = .ok (.iload_n 1, 1) := by decide +kernel
theorem dX7_ringer_1 : decode cX7_ringer 1 = .ok (.iconst 0, 1) := by decide +kernel
theorem dX7_ringer_2 : decode cX7_ringer 2 = .ok (.iconst 5, 1) := by decide +kernel
theorem dX7_ringer_3 : decode cX7_ringer 3 = .ok (.invokestatic 49, 3) := by decide +kernel
theorem dX7_ringer_6 : decode cX7_ringer 6 = .ok (.ifCond .eq 23, 3) := by decide +kernel
theorem dX7_ringer_9 : decode cX7_ringer 9 = .ok (.iload_n 2, 1) := by decide +kernel
theorem dX7_ringer_10 : decode cX7_ringer 10 = .ok (.iconst 0, 1) := by decide +kernel
theorem dX7_ringer_11 : decode cX7_ringer 11 = .ok (.bipush 9, 2) := by decide +kernel
theorem dX7_ringer_13 : decode cX7_ringer 13 = .ok (.invokestatic 49, 3) := by decide +kernel
theorem dX7_ringer_16 : decode cX7_ringer 16 = .ok (.ifCond .eq 13, 3) := by decide +kernel
theorem dX7_ringer_19 : decode cX7_ringer 19 = .ok (.iload_n 3, 1) := by decide +kernel
theorem dX7_ringer_20 : decode cX7_ringer 20 = .ok (.iconst 0, 1) := by decide +kernel
theorem dX7_ringer_21 : decode cX7_ringer 21 = .ok (.bipush 7, 2) := by decide +kernel
theorem dX7_ringer_23 : decode cX7_ringer 23 = .ok (.invokestatic 49, 3) := by decide +kernel
theorem dX7_ringer_26 : decode cX7_ringer 26 = .ok (.ifCond .ne 10, 3) := by decide +kernel
theorem dX7_ringer_29 : decode cX7_ringer 29 = .ok (.aload_n 0, 1) := by decide +kernel
theorem dX7_ringer_30 : decode cX7_ringer 30 = .ok (.bipush (-2), 2) := by decide +kernel
theorem dX7_ringer_32 : decode cX7_ringer 32 = .ok (.invokevirtual 81, 3) := by decide +kernel
theorem dX7_ringer_35 : decode cX7_ringer 35 = .ok (.ireturn, 1) := by decide +kernel
theorem dX7_ringer_36 : decode cX7_ringer 36 = .ok (.aload_n 0, 1) := by decide +kernel
theorem dX7_ringer_37 : decode cX7_ringer 37 = .ok (.getfield 13, 3) := by decide +kernel
theorem dX7_ringer_40 : decode cX7_ringer 40 = .ok (.bipush 69, 2) := by decide +kernel
theorem dX7_ringer_42 : decode cX7_ringer 42 = .ok (.iaload, 1) := by decide +kernel
theorem dX7_ringer_43 : decode cX7_ringer 43 = .ok (.bipush 6, 2) := by decide +kernel
theorem dX7_ringer_45 : decode cX7_ringer 45 = .ok (.if_icmp .ne 12, 3) := by decide +kernel
theorem dX7_ringer_48 : decode cX7_ringer 48 = .ok (.aload_n 0, 1) := by decide +kernel
theorem dX7_ringer_49 : decode cX7_ringer 49 = .ok (.bipush (-6), 2) := by decide +kernel
theorem dX7_ringer_51 : decode cX7_ringer 51 = .ok (.invokevirtual 81, 3) := by decide +kernel
theorem dX7_ringer_54 : decode cX7_ringer 54 = .ok (.goto 10, 3) := by decide +kernel
theorem dX7_ringer_57 : decode cX7_ringer 57 = .ok (.aload_n 0, 1) := by decide +kernel
theorem dX7_ringer_58 : decode cX7_ringer 58 = .ok (.iload_n 1, 1) := by decide +kernel
theorem dX7_ringer_59 : decode cX7_ringer 59 = .ok (.iload_n 2, 1) := by decide +kernel
theorem dX7_ringer_60 : decode cX7_ringer 60 = .ok (.iload_n 3, 1) := by decide +kernel
theorem dX7_ringer_61 : decode cX7_ringer 61 = .ok (.invokevirtual 87, 3) := by decide +kernel
theorem dX7_ringer_64 : decode cX7_ringer 64 = .ok (.ireturn, 1) := by decide +kernel
theorem dX7_hang_0 : decode cX7_hang 0 = .ok (.aload_n 0, 1) := by decide +kernel
theorem dX7_hang_1 : decode cX7_hang 1 = .ok (.iload_n 1, 1) := by decide +kernel
theorem dX7_hang_2 : decode cX7_hang 2 = .ok (.invokevirtual 90, 3) := by decide +kernel
theorem dX7_hang_5 : decode cX7_hang 5 = .ok (.ifCond .eq 23, 3) := by decide +kernel
theorem dX7_hang_8 : decode cX7_hang 8 = .ok (.iload_n 2, 1) := by decide +kernel
theorem dX7_hang_9 : decode cX7_hang 9 = .ok (.iconst 0, 1) := by decide +kernel
theorem dX7_hang_10 : decode cX7_hang 10 = .ok (.iload_n 1, 1) := by decide +kernel
theorem dX7_hang_11 : decode cX7_hang 11 = .ok (.iconst 1, 1) := by decide +kernel
theorem dX7_hang_12 : decode cX7_hang 12 = .ok (.isub, 1) := by decide +kernel
theorem dX7_hang_13 : decode cX7_hang 13 = .ok (.invokestatic 49, 3) := by decide +kernel
theorem dX7_hang_16 : decode cX7_hang 16 = .ok (.ifCond .eq 12, 3) := by decide +kernel
theorem dX7_hang_19 : decode cX7_hang 19 = .ok (.iload_n 3, 1) := by decide +kernel
theorem dX7_hang_20 : decode cX7_hang 20 = .ok (.iconst 0, 1) := by decide +kernel
theorem dX7_hang_21 : decode cX7_hang 21 = .ok (.iconst 1, 1) := by decide +kernel
theorem dX7_hang_22 : decode cX7_hang 22 = .ok (.invokestatic 49, 3) := by decide +kernel
theorem dX7_hang_25 : decode cX7_hang 25 = .ok (.ifCond .ne 10, 3) := by decide +kernel
theorem dX7_hang_28 : decode cX7_hang 28 = .ok (.aload_n 0, 1) := by decide +kernel
theorem dX7_hang_29 : decode cX7_hang 29 = .ok (.bipush (-2), 2) := by decide +kernel
theorem dX7_hang_31 : decode cX7_hang 31 = .ok (.invokevirtual 81, 3) := by decide +kernel
theorem dX7_hang_34 : decode cX7_hang 34 = .ok (.ireturn, 1) := by decide +kernel
theorem dX7_hang_35 : decode cX7_hang 35 = .ok (.aload_n 0, 1) := by decide +kernel
theorem dX7_hang_36 : decode cX7_hang 36 = .ok (.iload_n 1, 1) := by decide +kernel
theorem dX7_hang_37 : decode cX7_hang 37 = .ok (.iconst 2, 1) := by decide +kernel
theorem dX7_hang_38 : decode cX7_hang 38 = .ok (.invokevirtual 53, 3) := by decide +kernel
theorem dX7_hang_41 : decode cX7_hang 41 = .ok (.iload_n 2, 1) := by decide +kernel
theorem dX7_hang_42 : decode cX7_hang 42 = .ok (.ishr, 1) := by decide +kernel
theorem dX7_hang_43 : decode cX7_hang 43 = .ok (.iconst 1, 1) := by decide +kernel
theorem dX7_hang_44 : decode cX7_hang 44 = .ok (.iand, 1) := by decide +kernel
theorem dX7_hang_45 : decode cX7_hang 45 = .ok (.istore 4, 2) := by decide +kernel
theorem dX7_hang_47 : decode cX7_hang 47 = .ok (.aload_n 0, 1) := by decide +kernel
theorem dX7_hang_48 : decode cX7_hang 48 = .ok (.iload_n 1, 1) := by decide +kernel
theorem dX7_hang_49 : decode cX7_hang 49 = .ok (.iconst 2, 1) := by decide +kernel
theorem dX7_hang_50 : decode cX7_hang 50 = .ok (.aload_n 0, 1) := by decide +kernel
theorem dX7_hang_51 : decode cX7_hang 51 = .ok (.iload_n 1, 1) := by decide +kernel
theorem dX7_hang_52 : decode cX7_hang 52 = .ok (.iconst 2, 1) := by decide +kernel
theorem dX7_hang_53 : decode cX7_hang 53 = .ok (.invokevirtual 53, 3) := by decide +kernel
theorem dX7_hang_56 : decode cX7_hang 56 = .ok (.iconst 1, 1) := by decide +kernel
theorem dX7_hang_57 : decode cX7_hang 57 = .ok (.iload_n 2, 1) := by decide +kernel
theorem dX7_hang_58 : decode cX7_hang 58 = .ok (.ishl, 1) := by decide +kernel
theorem dX7_hang_59 : decode cX7_hang 59 = .ok (.iconst (-1), 1) := by decide +kernel
theorem dX7_hang_60 : decode cX7_hang 60 = .ok (.ixor, 1) := by decide +kernel
theorem dX7_hang_61 : decode cX7_hang 61 = .ok (.iand, 1) := by decide +kernel
theorem dX7_hang_62 : decode cX7_hang 62 = .ok (.iload_n 3, 1) := by decide +kernel
theorem dX7_hang_63 : decode cX7_hang 63 = .ok (.iload_n 2, 1) := by decide +kernel
theorem dX7_hang_64 : decode cX7_hang 64 = .ok (.ishl, 1) := by decide +kernel
theorem dX7_hang_65 : decode cX7_hang 65 = .ok (.ior, 1) := by decide +kernel
theorem dX7_hang_66 : decode cX7_hang 66 = .ok (.invokevirtual 77, 3) := by decide +kernel
theorem dX7_hang_69 : decode cX7_hang 69 = .ok (.pop, 1) := by decide +kernel
theorem dX7_hang_70 : decode cX7_hang 70 = .ok (.iload 4, 2) := by decide +kernel
theorem dX7_hang_72 : decode cX7_hang 72 = .ok (.ireturn, 1) := by decide +kernel
theorem dX7_give_0 : decode cX7_give 0 = .ok (.aload_n 0, 1) := by decide +kernel
theorem dX7_give_1 : decode cX7_give 1 = .ok (.iload_n 1, 1) := by decide +kernel
theorem dX7_give_2 : decode cX7_give 2 = .ok (.invokevirtual 90, 3) := by decide +kernel
theorem dX7_give_5 : decode cX7_give 5 = .ok (.ifCond .eq 40, 3) := by decide +kernel
theorem dX7_give_8 : decode cX7_give 8 = .ok (.iload_n 2, 1) := by decide +kernel
theorem dX7_give_9 : decode cX7_give 9 = .ok (.iconst 0, 1) := by decide +kernel
theorem dX7_give_10 : decode cX7_give 10 = .ok (.iconst 3, 1) := by decide +kernel
theorem dX7_give_11 : decode cX7_give 11 = .ok (.invokestatic 49, 3) := by decide +kernel
theorem dX7_give_14 : decode cX7_give 14 = .ok (.ifCond .eq 31, 3) := by decide +kernel
theorem dX7_give_17 : decode cX7_give 17 = .ok (.iload_n 3, 1) := by decide +kernel
theorem dX7_give_18 : decode cX7_give 18 = .ok (.iconst 0, 1) := by decide +kernel
theorem dX7_give_19 : decode cX7_give 19 = .ok (.iload_n 2, 1) := by decide +kernel
theorem dX7_give_20 : decode cX7_give 20 = .ok (.iconst 1, 1) := by decide +kernel
theorem dX7_give_21 : decode cX7_give 21 = .ok (.if_icmp .ne 7, 3) := by decide +kernel
theorem dX7_give_24 : decode cX7_give 24 = .ok (.iconst 3, 1) := by decide +kernel
theorem dX7_give_25 : decode cX7_give 25 = .ok (.goto 14, 3) := by decide +kernel
theorem dX7_give_28 : decode cX7_give 28 = .ok (.iload_n 2, 1) := by decide +kernel
theorem dX7_give_29 : decode cX7_give 29 = .ok (.iconst 3, 1) := by decide +kernel
theorem dX7_give_30 : decode cX7_give 30 = .ok (.if_icmp .ne 7, 3) := by decide +kernel
theorem dX7_give_33 : decode cX7_give 33 = .ok (.iconst 1, 1) := by decide +kernel
theorem dX7_give_34 : decode cX7_give 34 = .ok (.goto 5, 3) := by decide +kernel
theorem dX7_give_37 : decode cX7_give 37 = .ok (.bipush 99, 2) := by decide +kernel
theorem dX7_give_39 : decode cX7_give 39 = .ok (.invokestatic 49, 3) := by decide +kernel
theorem dX7_give_42 : decode cX7_give 42 = .ok (.ifCond .ne 10, 3) := by decide +kernel
theorem dX7_give_45 : decode cX7_give 45 = .ok (.aload_n 0, 1) := by decide +kernel
theorem dX7_give_46 : decode cX7_give 46 = .ok (.bipush (-2), 2) := by decide +kernel
theorem dX7_give_48 : decode cX7_give 48 = .ok (.invokevirtual 81, 3) := by decide +kernel
theorem dX7_give_51 : decode cX7_give 51 = .ok (.ireturn, 1) := by decide +kernel
theorem dX7_give_52 : decode cX7_give 52 = .ok (.aload_n 0, 1) := by decide +kernel
theorem dX7_give_53 : decode cX7_give 53 = .ok (.iload_n 1, 1) := by decide +kernel
theorem dX7_give_54 : decode cX7_give 54 = .ok (.iload_n 2, 1) := by decide +kernel
theorem dX7_give_55 : decode cX7_give 55 = .ok (.ifCond .ne 7, 3) := by decide +kernel
theorem dX7_give_58 : decode cX7_give 58 = .ok (.iconst 0, 1) := by decide +kernel
theorem dX7_give_59 : decode cX7_give 59 = .ok (.goto 22, 3) := by decide +kernel
theorem dX7_give_62 : decode cX7_give 62 = .ok (.iload_n 2, 1) := by decide +kernel
theorem dX7_give_63 : decode cX7_give 63 = .ok (.iconst 1, 1) := by decide +kernel
theorem dX7_give_64 : decode cX7_give 64 = .ok (.if_icmp .ne 7, 3) := by decide +kernel
theorem dX7_give_67 : decode cX7_give 67 = .ok (.iconst 1, 1) := by decide +kernel
theorem dX7_give_68 : decode cX7_give 68 = .ok (.goto 13, 3) := by decide +kernel
theorem dX7_give_71 : decode cX7_give 71 = .ok (.iload_n 2, 1) := by decide +kernel
theorem dX7_give_72 : decode cX7_give 72 = .ok (.iconst 2, 1) := by decide +kernel
theorem dX7_give_73 : decode cX7_give 73 = .ok (.if_icmp .ne 7, 3) := by decide +kernel
theorem dX7_give_76 : decode cX7_give 76 = .ok (.iconst 4, 1) := by decide +kernel
theorem dX7_give_77 : decode cX7_give 77 = .ok (.goto 4, 3) := by decide +kernel
theorem dX7_give_80 : decode cX7_give 80 = .ok (.iconst 3, 1) := by decide +kernel
theorem dX7_give_81 : decode cX7_give 81 = .ok (.iload_n 3, 1) := by decide +kernel
theorem dX7_give_82 : decode cX7_give 82 = .ok (.invokevirtual 77, 3) := by decide +kernel
theorem dX7_give_85 : decode cX7_give 85 = .ok (.ireturn, 1) := by decide +kernel
theorem dX7_tell_0 : decode cX7_tell 0 = .ok (.iload_n 1, 1) := by decide +kernel
theorem dX7_tell_1 : decode cX7_tell 1 = .ok (.iconst 0, 1) := by decide +kernel
theorem dX7_tell_2 : decode cX7_tell 2 = .ok (.iconst 2, 1) := by decide +kernel
theorem dX7_tell_3 : decode cX7_tell 3 = .ok (.invokestatic 49, 3) := by decide +kernel
theorem dX7_tell_6 : decode cX7_tell 6 = .ok (.ifCond .eq 33, 3) := by decide +kernel
theorem dX7_tell_9 : decode cX7_tell 9 = .ok (.iload_n 2, 1) := by decide +kernel
theorem dX7_tell_10 : decode cX7_tell 10 = .ok (.iconst 0, 1) := by decide +kernel
theorem dX7_tell_11 : decode cX7_tell 11 = .ok (.iload_n 1, 1) := by decide +kernel
theorem dX7_tell_12 : decode cX7_tell 12 = .ok (.ifCond .ne 7, 3) := by decide +kernel
theorem dX7_tell_15 : decode cX7_tell 15 = .ok (.iconst 3, 1) := by decide +kernel
theorem dX7_tell_16 : decode cX7_tell 16 = .ok (.goto 17, 3) := by decide +kernel
theorem dX7_tell_19 : decode cX7_tell 19 = .ok (.iload_n 1, 1) := by decide +kernel
theorem dX7_tell_20 : decode cX7_tell 20 = .ok (.iconst 1, 1) := by decide +kernel
theorem dX7_tell_21 : decode cX7_tell 21 = .ok (.if_icmp .ne 9, 3) := by decide +kernel
theorem dX7_tell_24 : decode cX7_tell 24 = .ok (.sipush 999, 3) := by decide +kernel
theorem dX7_tell_27 : decode cX7_tell 27 = .ok (.goto 6, 3) := by decide +kernel
theorem dX7_tell_30 : decode cX7_tell 30 = .ok (.sipush 255, 3) := by decide +kernel
theorem dX7_tell_33 : decode cX7_tell 33 = .ok (.invokestatic 49, 3) := by decide +kernel
theorem dX7_tell_36 : decode cX7_tell 36 = .ok (.ifCond .ne 10, 3) := by decide +kernel
theorem dX7_tell_39 : decode cX7_tell 39 = .ok (.aload_n 0, 1) := by decide +kernel
theorem dX7_tell_40 : decode cX7_tell 40 = .ok (.bipush (-2), 2) := by decide +kernel
theorem dX7_tell_42 : decode cX7_tell 42 = .ok (.invokevirtual 81, 3) := by decide +kernel
theorem dX7_tell_45 : decode cX7_tell 45 = .ok (.ireturn, 1) := by decide +kernel
theorem dX7_tell_46 : decode cX7_tell 46 = .ok (.aload_n 0, 1) := by decide +kernel
theorem dX7_tell_47 : decode cX7_tell 47 = .ok (.getfield 13, 3) := by decide +kernel
theorem dX7_tell_50 : decode cX7_tell 50 = .ok (.bipush 70, 2) := by decide +kernel
theorem dX7_tell_52 : decode cX7_tell 52 = .ok (.iload_n 1, 1) := by decide +kernel
theorem dX7_tell_53 : decode cX7_tell 53 = .ok (.iadd, 1) := by decide +kernel
theorem dX7_tell_54 : decode cX7_tell 54 = .ok (.iaload, 1) := by decide +kernel
theorem dX7_tell_55 : decode cX7_tell 55 = .ok (.istore_n 3, 1) := by decide +kernel
theorem dX7_tell_56 : decode cX7_tell 56 = .ok (.aload_n 0, 1) := by decide +kernel
theorem dX7_tell_57 : decode cX7_tell 57 = .ok (.getfield 13, 3) := by decide +kernel
theorem dX7_tell_60 : decode cX7_tell 60 = .ok (.bipush 70, 2) := by decide +kernel
theorem dX7_tell_62 : decode cX7_tell 62 = .ok (.iload_n 1, 1) := by decide +kernel
theorem dX7_tell_63 : decode cX7_tell 63 = .ok (.iadd, 1) := by decide +kernel
theorem dX7_tell_64 : decode cX7_tell 64 = .ok (.iload_n 2, 1) := by decide +kernel
theorem dX7_tell_65 : decode cX7_tell 65 = .ok (.iastore, 1) := by decide +kernel
theorem dX7_tell_66 : decode cX7_tell 66 = .ok (.iload_n 3, 1) := by decide +kernel
theorem dX7_tell_67 : decode cX7_tell 67 = .ok (.ireturn, 1) := by decide +kernel
theorem dX7_feed_0 : decode cX7_feed 0 = .ok (.iload_n 1, 1) := by decide +kernel
theorem dX7_feed_1 : decode cX7_feed 1 = .ok (.iconst 0, 1) := by decide +kernel
theorem dX7_feed_2 : decode cX7_feed 2 = .ok (.sipush 255, 3) := by decide +kernel
theorem dX7_feed_5 : decode cX7_feed 5 = .ok (.invokestatic 49, 3) := by decide +kernel
theorem dX7_feed_8 : decode cX7_feed 8 = .ok (.ifCond .ne 10, 3) := by decide +kernel
theorem dX7_feed_11 : decode cX7_feed 11 = .ok (.aload_n 0, 1) := by decide +kernel
theorem dX7_feed_12 : decode cX7_feed 12 = .ok (.bipush (-2), 2) := by decide +kernel
theorem dX7_feed_14 : decode cX7_feed 14 = .ok (.invokevirtual 81, 3) := by decide +kernel
theorem dX7_feed_17 : decode cX7_feed 17 = .ok (.ireturn, 1) := by decide +kernel
theorem dX7_feed_18 : decode cX7_feed 18 = .ok (.aload_n 0, 1) := by decide +kernel
theorem dX7_feed_19 : decode cX7_feed 19 = .ok (.getfield 93, 3) := by decide +kernel
theorem dX7_feed_22 : decode cX7_feed 22 = .ok (.sipush 250, 3) := by decide +kernel
theorem dX7_feed_25 : decode cX7_feed 25 = .ok (.if_icmp .ne 10, 3) := by decide +kernel
theorem dX7_feed_28 : decode cX7_feed 28 = .ok (.aload_n 0, 1) := by decide +kernel
theorem dX7_feed_29 : decode cX7_feed 29 = .ok (.bipush (-6), 2) := by decide +kernel
theorem dX7_feed_31 : decode cX7_feed 31 = .ok (.invokevirtual 81, 3) := by decide +kernel
theorem dX7_feed_34 : decode cX7_feed 34 = .ok (.ireturn, 1) := by decide +kernel
theorem dX7_feed_35 : decode cX7_feed 35 = .ok (.aload_n 0, 1) := by decide +kernel
theorem dX7_feed_36 : decode cX7_feed 36 = .ok (.getfield 26, 3) := by decide +kernel
theorem dX7_feed_39 : decode cX7_feed 39 = .ok (.aload_n 0, 1) := by decide +kernel
theorem dX7_feed_40 : decode cX7_feed 40 = .ok (.getfield 93, 3) := by decide +kernel
theorem dX7_feed_43 : decode cX7_feed 43 = .ok (.iload_n 1, 1) := by decide +kernel
theorem dX7_feed_44 : decode cX7_feed 44 = .ok (.iastore, 1) := by decide +kernel
theorem dX7_feed_45 : decode cX7_feed 45 = .ok (.aload_n 0, 1) := by decide +kernel
theorem dX7_feed_46 : decode cX7_feed 46 = .ok (.dup, 1) := by decide +kernel
theorem dX7_feed_47 : decode cX7_feed 47 = .ok (.getfield 93, 3) := by decide +kernel
theorem dX7_feed_50 : decode cX7_feed 50 = .ok (.iconst 1, 1) := by decide +kernel
theorem dX7_feed_51 : decode cX7_feed 51 = .ok (.iadd, 1) := by decide +kernel
theorem dX7_feed_52 : decode cX7_feed 52 = .ok (.putfield 93, 3) := by decide +kernel
theorem dX7_feed_55 : decode cX7_feed 55 = .ok (.aload_n 0, 1) := by decide +kernel
theorem dX7_feed_56 : decode cX7_feed 56 = .ok (.getfield 93, 3) := by decide +kernel
theorem dX7_feed_59 : decode cX7_feed 59 = .ok (.ireturn, 1) := by decide +kernel
theorem dX7_wipe_0 : decode cX7_wipe 0 = .ok (.aload_n 0, 1) := by decide +kernel
theorem dX7_wipe_1 : decode cX7_wipe 1 = .ok (.getfield 93, 3) := by decide +kernel
theorem dX7_wipe_4 : decode cX7_wipe 4 = .ok (.istore_n 1, 1) := by decide +kernel
theorem dX7_wipe_5 : decode cX7_wipe 5 = .ok (.aload_n 0, 1) := by decide +kernel
theorem dX7_wipe_6 : decode cX7_wipe 6 = .ok (.iconst 0, 1) := by decide +kernel
theorem dX7_wipe_7 : decode cX7_wipe 7 = .ok (.putfield 93, 3) := by decide +kernel
theorem dX7_wipe_10 : decode cX7_wipe 10 = .ok (.iload_n 1, 1) := by decide +kernel
theorem dX7_wipe_11 : decode cX7_wipe 11 = .ok (.ireturn, 1) := by decide +kernel
theorem dX7_isLetter_0 : decode cX7_isLetter 0 = .ok (.iload_n 1, 1) := by decide +kernel
theorem dX7_isLetter_1 : decode cX7_isLetter 1 = .ok (.aload_n 0, 1) := by decide +kernel
theorem dX7_isLetter_2 : decode cX7_isLetter 2 = .ok (.getfield 93, 3) := by decide +kernel
theorem dX7_isLetter_5 : decode cX7_isLetter 5 = .ok (.if_icmp .ge 23, 3) := by decide +kernel
theorem dX7_isLetter_8 : decode cX7_isLetter 8 = .ok (.aload_n 0, 1) := by decide +kernel
theorem dX7_isLetter_9 : decode cX7_isLetter 9 = .ok (.getfield 26, 3) := by decide +kernel
theorem dX7_isLetter_12 : decode cX7_isLetter 12 = .ok (.iload_n 1, 1) := by decide +kernel
theorem dX7_isLetter_13 : decode cX7_isLetter 13 = .ok (.iaload, 1) := by decide +kernel
theorem dX7_isLetter_14 : decode cX7_isLetter 14 = .ok (.bipush 97, 2) := by decide +kernel
theorem dX7_isLetter_16 : decode cX7_isLetter 16 = .ok (.bipush 122, 2) := by decide +kernel
theorem dX7_isLetter_18 : decode cX7_isLetter 18 = .ok (.invokestatic 49, 3) := by decide +kernel
theorem dX7_isLetter_21 : decode cX7_isLetter 21 = .ok (.ifCond .eq 7, 3) := by decide +kernel
theorem dX7_isLetter_24 : decode cX7_isLetter 24 = .ok (.iconst 1, 1) := by decide +kernel
theorem dX7_isLetter_25 : decode cX7_isLetter 25 = .ok (.goto 4, 3) := by decide +kernel
theorem dX7_isLetter_28 : decode cX7_isLetter 28 = .ok (.iconst 0, 1) := by decide +kernel
theorem dX7_isLetter_29 : decode cX7_isLetter 29 = .ok (.ireturn, 1) := by decide +kernel
theorem dX7_isDigit_0 : decode cX7_isDigit 0 = .ok (.iload_n 1, 1) := by decide +kernel
theorem dX7_isDigit_1 : decode cX7_isDigit 1 = .ok (.aload_n 0, 1) := by decide +kernel
theorem dX7_isDigit_2 : decode cX7_isDigit 2 = .ok (.getfield 93, 3) := by decide +kernel
theorem dX7_isDigit_5 : decode cX7_isDigit 5 = .ok (.if_icmp .ge 23, 3) := by decide +kernel
theorem dX7_isDigit_8 : decode cX7_isDigit 8 = .ok (.aload_n 0, 1) := by decide +kernel
theorem dX7_isDigit_9 : decode cX7_isDigit 9 = .ok (.getfield 26, 3) := by decide +kernel
theorem dX7_isDigit_12 : decode cX7_isDigit 12 = .ok (.iload_n 1, 1) := by decide +kernel
theorem dX7_isDigit_13 : decode cX7_isDigit 13 = .ok (.iaload, 1) := by decide +kernel
theorem dX7_isDigit_14 : decode cX7_isDigit 14 = .ok (.bipush 48, 2) := by decide +kernel
theorem dX7_isDigit_16 : decode cX7_isDigit 16 = .ok (.bipush 57, 2) := by decide +kernel
theorem dX7_isDigit_18 : decode cX7_isDigit 18 = .ok (.invokestatic 49, 3) := by decide +kernel
theorem dX7_isDigit_21 : decode cX7_isDigit 21 = .ok (.ifCond .eq 7, 3) := by decide +kernel
theorem dX7_isDigit_24 : decode cX7_isDigit 24 = .ok (.iconst 1, 1) := by decide +kernel
theorem dX7_isDigit_25 : decode cX7_isDigit 25 = .ok (.goto 4, 3) := by decide +kernel
theorem dX7_isDigit_28 : decode cX7_isDigit 28 = .ok (.iconst 0, 1) := by decide +kernel
theorem dX7_isDigit_29 : decode cX7_isDigit 29 = .ok (.ireturn, 1) := by decide +kernel
theorem dX7_read_0 : decode cX7_read 0 = .ok (.aload_n 0, 1) := by decide +kernel
theorem dX7_read_1 : decode cX7_read 1 = .ok (.getfield 97, 3) := by decide +kernel
theorem dX7_read_4 : decode cX7_read 4 = .ok (.aload_n 0, 1) := by decide +kernel
theorem dX7_read_5 : decode cX7_read 5 = .ok (.getfield 93, 3) := by decide +kernel
theorem dX7_read_8 : decode cX7_read 8 = .ok (.if_icmp .ge 30, 3) := by decide +kernel
theorem dX7_read_11 : decode cX7_read 11 = .ok (.aload_n 0, 1) := by decide +kernel
theorem dX7_read_12 : decode cX7_read 12 = .ok (.getfield 26, 3) := by decide +kernel
theorem dX7_read_15 : decode cX7_read 15 = .ok (.aload_n 0, 1) := by decide +kernel
theorem dX7_read_16 : decode cX7_read 16 = .ok (.getfield 97, 3) := by decide +kernel
theorem dX7_read_19 : decode cX7_read 19 = .ok (.iaload, 1) := by decide +kernel
theorem dX7_read_20 : decode cX7_read 20 = .ok (.bipush 32, 2) := by decide +kernel
theorem dX7_read_22 : decode cX7_read 22 = .ok (.if_icmp .ne 16, 3) := by decide +kernel
theorem dX7_read_25 : decode cX7_read 25 = .ok (.aload_n 0, 1) := by decide +kernel
theorem dX7_read_26 : decode cX7_read 26 = .ok (.dup, 1) := by decide +kernel
theorem dX7_read_27 : decode cX7_read 27 = .ok (.getfield 97, 3) := by decide +kernel
theorem dX7_read_30 : decode cX7_read 30 = .ok (.iconst 1, 1) := by decide +kernel
theorem dX7_read_31 : decode cX7_read 31 = .ok (.iadd, 1) := by decide +kernel
theorem dX7_read_32 : decode cX7_read 32 = .ok (.putfield 97, 3) := by decide +kernel
theorem dX7_read_35 : decode cX7_read 35 = .ok (.goto (-35), 3) := by decide +kernel
theorem dX7_read_38 : decode cX7_read 38 = .ok (.aload_n 0, 1) := by decide +kernel
theorem dX7_read_39 : decode cX7_read 39 = .ok (.aload_n 0, 1) := by decide +kernel
theorem dX7_read_40 : decode cX7_read 40 = .ok (.getfield 97, 3) := by decide +kernel
theorem dX7_read_43 : decode cX7_read 43 = .ok (.putfield 100, 3) := by decide +kernel
theorem dX7_read_46 : decode cX7_read 46 = .ok (.aload_n 0, 1) := by decide +kernel
theorem dX7_read_47 : decode cX7_read 47 = .ok (.iconst 0, 1) := by decide +kernel
theorem dX7_read_48 : decode cX7_read 48 = .ok (.putfield 103, 3) := by decide +kernel
theorem dX7_read_51 : decode cX7_read 51 = .ok (.aload_n 0, 1) := by decide +kernel
theorem dX7_read_52 : decode cX7_read 52 = .ok (.aload_n 0, 1) := by decide +kernel
theorem dX7_read_53 : decode cX7_read 53 = .ok (.getfield 97, 3) := by decide +kernel
theorem dX7_read_56 : decode cX7_read 56 = .ok (.aload_n 0, 1) := by decide +kernel
theorem dX7_read_57 : decode cX7_read 57 = .ok (.getfield 93, 3) := by decide +kernel
theorem dX7_read_60 : decode cX7_read 60 = .ok (.if_icmp .ne 7, 3) := by decide +kernel
theorem dX7_read_63 : decode cX7_read 63 = .ok (.iconst 0, 1) := by decide +kernel
theorem dX7_read_64 : decode cX7_read 64 = .ok (.goto 52, 3) := by decide +kernel
theorem dX7_read_67 : decode cX7_read 67 = .ok (.aload_n 0, 1) := by decide +kernel
theorem dX7_read_68 : decode cX7_read 68 = .ok (.aload_n 0, 1) := by decide +kernel
theorem dX7_read_69 : decode cX7_read 69 = .ok (.getfield 97, 3) := by decide +kernel
theorem dX7_read_72 : decode cX7_read 72 = .ok (.invokevirtual 106, 3) := by decide +kernel
theorem dX7_read_75 : decode cX7_read 75 = .ok (.ifCond .eq 7, 3) := by decide +kernel
theorem dX7_read_78 : decode cX7_read 78 = .ok (.iconst 1, 1) := by decide +kernel
theorem dX7_read_79 : decode cX7_read 79 = .ok (.goto 37, 3) := by decide +kernel
theorem dX7_read_82 : decode cX7_read 82 = .ok (.aload_n 0, 1) := by decide +kernel
theorem dX7_read_83 : decode cX7_read 83 = .ok (.aload_n 0, 1) := by decide +kernel
theorem dX7_read_84 : decode cX7_read 84 = .ok (.getfield 97, 3) := by decide +kernel
theorem dX7_read_87 : decode cX7_read 87 = .ok (.invokevirtual 109, 3) := by decide +kernel
theorem dX7_read_90 : decode cX7_read 90 = .ok (.ifCond .eq 7, 3) := by decide +kernel
theorem dX7_read_93 : decode cX7_read 93 = .ok (.iconst 2, 1) := by decide +kernel
theorem dX7_read_94 : decode cX7_read 94 = .ok (.goto 22, 3) := by decide +kernel
theorem dX7_read_97 : decode cX7_read 97 = .ok (.aload_n 0, 1) := by decide +kernel
theorem dX7_read_98 : decode cX7_read 98 = .ok (.getfield 26, 3) := by decide +kernel
theorem dX7_read_101 : decode cX7_read 101 = .ok (.aload_n 0, 1) := by decide +kernel
theorem dX7_read_102 : decode cX7_read 102 = .ok (.getfield 97, 3) := by decide +kernel
theorem dX7_read_105 : decode cX7_read 105 = .ok (.iaload, 1) := by decide +kernel
theorem dX7_read_106 : decode cX7_read 106 = .ok (.bipush 59, 2) := by decide +kernel
theorem dX7_read_108 : decode cX7_read 108 = .ok (.if_icmp .ne 7, 3) := by decide +kernel
theorem dX7_read_111 : decode cX7_read 111 = .ok (.iconst 3, 1) := by decide +kernel
theorem dX7_read_112 : decode cX7_read 112 = .ok (.goto 4, 3) := by decide +kernel
theorem dX7_read_115 : decode cX7_read 115 = .ok (.iconst 4, 1) := by decide +kernel
theorem dX7_read_116 : decode cX7_read 116 = .ok (.putfield 112, 3) := by decide +kernel
theorem dX7_read_119 : decode cX7_read 119 = .ok (.aload_n 0, 1) := by decide +kernel
theorem dX7_read_120 : decode cX7_read 120 = .ok (.getfield 112, 3) := by decide +kernel
theorem dX7_read_123 : decode cX7_read 123 = .ok (.iconst 1, 1) := by decide +kernel
theorem dX7_read_124 : decode cX7_read 124 = .ok (.if_icmp .ne 27, 3) := by decide +kernel
theorem dX7_read_127 : decode cX7_read 127 = .ok (.aload_n 0, 1) := by decide +kernel
theorem dX7_read_128 : decode cX7_read 128 = .ok (.aload_n 0, 1) := by decide +kernel
theorem dX7_read_129 : decode cX7_read 129 = .ok (.getfield 97, 3) := by decide +kernel
theorem dX7_read_132 : decode cX7_read 132 = .ok (.invokevirtual 106, 3) := by decide +kernel
theorem dX7_read_135 : decode cX7_read 135 = .ok (.ifCond .eq 109, 3) := by decide +kernel
theorem dX7_read_138 : decode cX7_read 138 = .ok (.aload_n 0, 1) := by decide +kernel
theorem dX7_read_139 : decode cX7_read 139 = .ok (.dup, 1) := by decide +kernel
theorem dX7_read_140 : decode cX7_read 140 = .ok (.getfield 97, 3) := by decide +kernel
theorem dX7_read_143 : decode cX7_read 143 = .ok (.iconst 1, 1) := by decide +kernel
theorem dX7_read_144 : decode cX7_read 144 = .ok (.iadd, 1) := by decide +kernel
theorem dX7_read_145 : decode cX7_read 145 = .ok (.putfield 97, 3) := by decide +kernel
theorem dX7_read_148 : decode cX7_read 148 = .ok (.goto (-21), 3) := by decide +kernel
theorem dX7_read_151 : decode cX7_read 151 = .ok (.aload_n 0, 1) := by decide +kernel
theorem dX7_read_152 : decode cX7_read 152 = .ok (.getfield 112, 3) := by decide +kernel
theorem dX7_read_155 : decode cX7_read 155 = .ok (.iconst 2, 1) := by decide +kernel
theorem dX7_read_156 : decode cX7_read 156 = .ok (.if_icmp .ne 70, 3) := by decide +kernel
theorem dX7_read_159 : decode cX7_read 159 = .ok (.aload_n 0, 1) := by decide +kernel
theorem dX7_read_160 : decode cX7_read 160 = .ok (.aload_n 0, 1) := by decide +kernel
theorem dX7_read_161 : decode cX7_read 161 = .ok (.getfield 97, 3) := by decide +kernel
theorem dX7_read_164 : decode cX7_read 164 = .ok (.invokevirtual 109, 3) := by decide +kernel
theorem dX7_read_167 : decode cX7_read 167 = .ok (.ifCond .eq 77, 3) := by decide +kernel
theorem dX7_read_170 : decode cX7_read 170 = .ok (.aload_n 0, 1) := by decide +kernel
theorem dX7_read_171 : decode cX7_read 171 = .ok (.aload_n 0, 1) := by decide +kernel
theorem dX7_read_172 : decode cX7_read 172 = .ok (.getfield 97, 3) := by decide +kernel
theorem dX7_read_175 : decode cX7_read 175 = .ok (.aload_n 0, 1) := by decide +kernel
theorem dX7_read_176 : decode cX7_read 176 = .ok (.getfield 100, 3) := by decide +kernel
theorem dX7_read_179 : decode cX7_read 179 = .ok (.isub, 1) := by decide +kernel
theorem dX7_read_180 : decode cX7_read 180 = .ok (.iconst 3, 1) := by decide +kernel
theorem dX7_read_181 : decode cX7_read 181 = .ok (.if_icmp .ge 26, 3) := by decide +kernel
theorem dX7_read_184 : decode cX7_read 184 = .ok (.bipush 10, 2) := by decide +kernel
theorem dX7_read_186 : decode cX7_read 186 = .ok (.aload_n 0, 1) := by decide +kernel
theorem dX7_read_187 : decode cX7_read 187 = .ok (.getfield 103, 3) := by decide +kernel
theorem dX7_read_190 : decode cX7_read 190 = .ok (.imul, 1) := by decide +kernel
theorem dX7_read_191 : decode cX7_read 191 = .ok (.aload_n 0, 1) := by decide +kernel
theorem dX7_read_192 : decode cX7_read 192 = .ok (.getfield 26, 3) := by decide +kernel
theorem dX7_read_195 : decode cX7_read 195 = .ok (.aload_n 0, 1) := by decide +kernel
theorem dX7_read_196 : decode cX7_read 196 = .ok (.getfield 97, 3) := by decide +kernel
theorem dX7_read_199 : decode cX7_read 199 = .ok (.iaload, 1) := by decide +kernel
theorem dX7_read_200 : decode cX7_read 200 = .ok (.iadd, 1) := by decide +kernel
theorem dX7_read_201 : decode cX7_read 201 = .ok (.bipush 48, 2) := by decide +kernel
theorem dX7_read_203 : decode cX7_read 203 = .ok (.isub, 1) := by decide +kernel
theorem dX7_read_204 : decode cX7_read 204 = .ok (.goto 6, 3) := by decide +kernel
theorem dX7_read_207 : decode cX7_read 207 = .ok (.sipush 1000, 3) := by decide +kernel
theorem dX7_read_210 : decode cX7_read 210 = .ok (.putfield 103, 3) := by decide +kernel
theorem dX7_read_213 : decode cX7_read 213 = .ok (.aload_n 0, 1) := by decide +kernel
theorem dX7_read_214 : decode cX7_read 214 = .ok (.dup, 1) := by decide +kernel
theorem dX7_read_215 : decode cX7_read 215 = .ok (.getfield 97, 3) := by decide +kernel
theorem dX7_read_218 : decode cX7_read 218 = .ok (.iconst 1, 1) := by decide +kernel
theorem dX7_read_219 : decode cX7_read 219 = .ok (.iadd, 1) := by decide +kernel
theorem dX7_read_220 : decode cX7_read 220 = .ok (.putfield 97, 3) := by decide +kernel
theorem dX7_read_223 : decode cX7_read 223 = .ok (.goto (-64), 3) := by decide +kernel
theorem dX7_read_226 : decode cX7_read 226 = .ok (.aload_n 0, 1) := by decide +kernel
theorem dX7_read_227 : decode cX7_read 227 = .ok (.getfield 112, 3) := by decide +kernel
theorem dX7_read_230 : decode cX7_read 230 = .ok (.iconst 2, 1) := by decide +kernel
theorem dX7_read_231 : decode cX7_read 231 = .ok (.if_icmp .le 13, 3) := by decide +kernel
theorem dX7_read_234 : decode cX7_read 234 = .ok (.aload_n 0, 1) := by decide +kernel
theorem dX7_read_235 : decode cX7_read 235 = .ok (.dup, 1) := by decide +kernel
theorem dX7_read_236 : decode cX7_read 236 = .ok (.getfield 97, 3) := by decide +kernel
theorem dX7_read_239 : decode cX7_read 239 = .ok (.iconst 1, 1) := by decide +kernel
theorem dX7_read_240 : decode cX7_read 240 = .ok (.iadd, 1) := by decide +kernel
theorem dX7_read_241 : decode cX7_read 241 = .ok (.putfield 97, 3) := by decide +kernel
theorem dX7_read_244 : decode cX7_read 244 = .ok (.return_, 1) := by decide +kernel
theorem dX7_word_0 : decode cX7_word 0 = .ok (.iconst 0, 1) := by decide +kernel
theorem dX7_word_1 : decode cX7_word 1 = .ok (.istore_n 1, 1) := by decide +kernel
theorem dX7_word_2 : decode cX7_word 2 = .ok (.iload_n 1, 1) := by decide +kernel
theorem dX7_word_3 : decode cX7_word 3 = .ok (.bipush 10, 2) := by decide +kernel
theorem dX7_word_5 : decode cX7_word 5 = .ok (.if_icmp .ge 109, 3) := by decide +kernel
theorem dX7_word_8 : decode cX7_word 8 = .ok (.aload_n 0, 1) := by decide +kernel
theorem dX7_word_9 : decode cX7_word 9 = .ok (.getfield 112, 3) := by decide +kernel
theorem dX7_word_12 : decode cX7_word 12 = .ok (.iconst 1, 1) := by decide +kernel
theorem dX7_word_13 : decode cX7_word 13 = .ok (.if_icmp .ne 101, 3) := by decide +kernel
theorem dX7_word_16 : decode cX7_word 16 = .ok (.aload_n 0, 1) := by decide +kernel
theorem dX7_word_17 : decode cX7_word 17 = .ok (.getfield 97, 3) := by decide +kernel
theorem dX7_word_20 : decode cX7_word 20 = .ok (.aload_n 0, 1) := by decide +kernel
theorem dX7_word_21 : decode cX7_word 21 = .ok (.getfield 100, 3) := by decide +kernel
theorem dX7_word_24 : decode cX7_word 24 = .ok (.isub, 1) := by decide +kernel
theorem dX7_word_25 : decode cX7_word 25 = .ok (.bipush 7, 2) := by decide +kernel
theorem dX7_word_27 : decode cX7_word 27 = .ok (.if_icmp .gt 7, 3) := by decide +kernel
theorem dX7_word_30 : decode cX7_word 30 = .ok (.iconst 1, 1) := by decide +kernel
theorem dX7_word_31 : decode cX7_word 31 = .ok (.goto 4, 3) := by decide +kernel
theorem dX7_word_34 : decode cX7_word 34 = .ok (.iconst 0, 1) := by decide +kernel
theorem dX7_word_35 : decode cX7_word 35 = .ok (.istore_n 2, 1) := by decide +kernel
theorem dX7_word_36 : decode cX7_word 36 = .ok (.iconst 0, 1) := by decide +kernel
theorem dX7_word_37 : decode cX7_word 37 = .ok (.istore_n 3, 1) := by decide +kernel
theorem dX7_word_38 : decode cX7_word 38 = .ok (.iload_n 3, 1) := by decide +kernel
theorem dX7_word_39 : decode cX7_word 39 = .ok (.bipush 7, 2) := by decide +kernel
theorem dX7_word_41 : decode cX7_word 41 = .ok (.if_icmp .ge 61, 3) := by decide +kernel
theorem dX7_word_44 : decode cX7_word 44 = .ok (.iload_n 2, 1) := by decide +kernel
theorem dX7_word_45 : decode cX7_word 45 = .ok (.ifCond .eq 57, 3) := by decide +kernel
theorem dX7_word_48 : decode cX7_word 48 = .ok (.aload_n 0, 1) := by decide +kernel
theorem dX7_word_49 : decode cX7_word 49 = .ok (.getfield 29, 3) := by decide +kernel
theorem dX7_word_52 : decode cX7_word 52 = .ok (.bipush 7, 2) := by decide +kernel
theorem dX7_word_54 : decode cX7_word 54 = .ok (.iload_n 1, 1) := by decide +kernel
theorem dX7_word_55 : decode cX7_word 55 = .ok (.imul, 1) := by decide +kernel
theorem dX7_word_56 : decode cX7_word 56 = .ok (.iload_n 3, 1) := by decide +kernel
theorem dX7_word_57 : decode cX7_word 57 = .ok (.iadd, 1) := by decide +kernel
theorem dX7_word_58 : decode cX7_word 58 = .ok (.caload, 1) := by decide +kernel
theorem dX7_word_59 : decode cX7_word 59 = .ok (.aload_n 0, 1) := by decide +kernel
theorem dX7_word_60 : decode cX7_word 60 = .ok (.getfield 100, 3) := by decide +kernel
theorem dX7_word_63 : decode cX7_word 63 = .ok (.iload_n 3, 1) := by decide +kernel
theorem dX7_word_64 : decode cX7_word 64 = .ok (.iadd, 1) := by decide +kernel
theorem dX7_word_65 : decode cX7_word 65 = .ok (.aload_n 0, 1) := by decide +kernel
theorem dX7_word_66 : decode cX7_word 66 = .ok (.getfield 97, 3) := by decide +kernel
theorem dX7_word_69 : decode cX7_word 69 = .ok (.if_icmp .ge 17, 3) := by decide +kernel
theorem dX7_word_72 : decode cX7_word 72 = .ok (.aload_n 0, 1) := by decide +kernel
theorem dX7_word_73 : decode cX7_word 73 = .ok (.getfield 26, 3) := by decide +kernel
theorem dX7_word_76 : decode cX7_word 76 = .ok (.aload_n 0, 1) := by decide +kernel
theorem dX7_word_77 : decode cX7_word 77 = .ok (.getfield 100, 3) := by decide +kernel
theorem dX7_word_80 : decode cX7_word 80 = .ok (.iload_n 3, 1) := by decide +kernel
theorem dX7_word_81 : decode cX7_word 81 = .ok (.iadd, 1) := by decide +kernel
theorem dX7_word_82 : decode cX7_word 82 = .ok (.iaload, 1) := by decide +kernel
theorem dX7_word_83 : decode cX7_word 83 = .ok (.goto 4, 3) := by decide +kernel
theorem dX7_word_86 : decode cX7_word 86 = .ok (.iconst 0, 1) := by decide +kernel
theorem dX7_word_87 : decode cX7_word 87 = .ok (.if_icmp .ne 7, 3) := by decide +kernel
theorem dX7_word_90 : decode cX7_word 90 = .ok (.iconst 1, 1) := by decide +kernel
theorem dX7_word_91 : decode cX7_word 91 = .ok (.goto 4, 3) := by decide +kernel
theorem dX7_word_94 : decode cX7_word 94 = .ok (.iconst 0, 1) := by decide +kernel
theorem dX7_word_95 : decode cX7_word 95 = .ok (.istore_n 2, 1) := by decide +kernel
theorem dX7_word_96 : decode cX7_word 96 = .ok (.iinc 3 1, 3) := by decide +kernel
theorem dX7_word_99 : decode cX7_word 99 = .ok (.goto (-61), 3) := by decide +kernel
theorem dX7_word_102 : decode cX7_word 102 = .ok (.iload_n 2, 1) := by decide +kernel
theorem dX7_word_103 : decode cX7_word 103 = .ok (.ifCond .eq 5, 3) := by decide +kernel
theorem dX7_word_106 : decode cX7_word 106 = .ok (.iload_n 1, 1) := by decide +kernel
theorem dX7_word_107 : decode cX7_word 107 = .ok (.ireturn, 1) := by decide +kernel
theorem dX7_word_108 : decode cX7_word 108 = .ok (.iinc 1 1, 3) := by decide +kernel
theorem dX7_word_111 : decode cX7_word 111 = .ok (.goto (-109), 3) := by decide +kernel
theorem dX7_word_114 : decode cX7_word 114 = .ok (.iconst (-1), 1) := by decide +kernel
theorem dX7_word_115 : decode cX7_word 115 = .ok (.ireturn, 1) := by decide +kernel
theorem dX7_reads_0 : decode cX7_reads 0 = .ok (.aload_n 0, 1) := by decide +kernel
theorem dX7_reads_1 : decode cX7_reads 1 = .ok (.invokevirtual 115, 3) := by decide +kernel
theorem dX7_reads_4 : decode cX7_reads 4 = .ok (.aload_n 0, 1) := by decide +kernel
theorem dX7_reads_5 : decode cX7_reads 5 = .ok (.getfield 112, 3) := by decide +kernel
theorem dX7_reads_8 : decode cX7_reads 8 = .ok (.iconst 2, 1) := by decide +kernel
theorem dX7_reads_9 : decode cX7_reads 9 = .ok (.if_icmp .ne 15, 3) := by decide +kernel
theorem dX7_reads_12 : decode cX7_reads 12 = .ok (.aload_n 0, 1) := by decide +kernel
theorem dX7_reads_13 : decode cX7_reads 13 = .ok (.getfield 103, 3) := by decide +kernel
theorem dX7_reads_16 : decode cX7_reads 16 = .ok (.iload_n 1, 1) := by decide +kernel
theorem dX7_reads_17 : decode cX7_reads 17 = .ok (.if_icmp .gt 7, 3) := by decide +kernel
theorem dX7_reads_20 : decode cX7_reads 20 = .ok (.iconst 1, 1) := by decide +kernel
theorem dX7_reads_21 : decode cX7_reads 21 = .ok (.goto 4, 3) := by decide +kernel
theorem dX7_reads_24 : decode cX7_reads 24 = .ok (.iconst 0, 1) := by decide +kernel
theorem dX7_reads_25 : decode cX7_reads 25 = .ok (.ireturn, 1) := by decide +kernel
theorem dX7_happens_0 : decode cX7_happens 0 = .ok (.aload_n 0, 1) := by decide +kernel
theorem dX7_happens_1 : decode cX7_happens 1 = .ok (.invokevirtual 115, 3) := by decide +kernel
theorem dX7_happens_4 : decode cX7_happens 4 = .ok (.aload_n 0, 1) := by decide +kernel
theorem dX7_happens_5 : decode cX7_happens 5 = .ok (.invokevirtual 118, 3) := by decide +kernel
theorem dX7_happens_8 : decode cX7_happens 8 = .ok (.istore_n 1, 1) := by decide +kernel
theorem dX7_happens_9 : decode cX7_happens 9 = .ok (.iconst 0, 1) := by decide +kernel
theorem dX7_happens_10 : decode cX7_happens 10 = .ok (.istore_n 2, 1) := by decide +kernel
theorem dX7_happens_11 : decode cX7_happens 11 = .ok (.iload_n 1, 1) := by decide +kernel
theorem dX7_happens_12 : decode cX7_happens 12 = .ok (.tableswitch 335 0 9 #[56, 103, 157, 157, 157, 203, 228, 251, 251, 310], 56) := by decide +kernel
theorem dX7_happens_68 : decode cX7_happens 68 = .ok (.aload_n 0, 1) := by decide +kernel
theorem dX7_happens_69 : decode cX7_happens 69 = .ok (.invokevirtual 57, 3) := by decide +kernel
theorem dX7_happens_72 : decode cX7_happens 72 = .ok (.bipush 10, 2) := by decide +kernel
theorem dX7_happens_74 : decode cX7_happens 74 = .ok (.if_icmp .eq 12, 3) := by decide +kernel
theorem dX7_happens_77 : decode cX7_happens 77 = .ok (.aload_n 0, 1) := by decide +kernel
theorem dX7_happens_78 : decode cX7_happens 78 = .ok (.bipush 99, 2) := by decide +kernel
theorem dX7_happens_80 : decode cX7_happens 80 = .ok (.invokevirtual 121, 3) := by decide +kernel
theorem dX7_happens_83 : decode cX7_happens 83 = .ok (.ifCond .ne 5, 3) := by decide +kernel
theorem dX7_happens_86 : decode cX7_happens 86 = .ok (.iconst 0, 1) := by decide +kernel
theorem dX7_happens_87 : decode cX7_happens 87 = .ok (.ireturn, 1) := by decide +kernel
theorem dX7_happens_88 : decode cX7_happens 88 = .ok (.aload_n 0, 1) := by decide +kernel
theorem dX7_happens_89 : decode cX7_happens 89 = .ok (.getfield 103, 3) := by decide +kernel
theorem dX7_happens_92 : decode cX7_happens 92 = .ok (.istore_n 2, 1) := by decide +kernel
theorem dX7_happens_93 : decode cX7_happens 93 = .ok (.aload_n 0, 1) := by decide +kernel
theorem dX7_happens_94 : decode cX7_happens 94 = .ok (.iconst 3, 1) := by decide +kernel
theorem dX7_happens_95 : decode cX7_happens 95 = .ok (.invokevirtual 121, 3) := by decide +kernel
theorem dX7_happens_98 : decode cX7_happens 98 = .ok (.ifCond .ne 5, 3) := by decide +kernel
theorem dX7_happens_101 : decode cX7_happens 101 = .ok (.iconst 0, 1) := by decide +kernel
theorem dX7_happens_102 : decode cX7_happens 102 = .ok (.ireturn, 1) := by decide +kernel
theorem dX7_happens_103 : decode cX7_happens 103 = .ok (.aload_n 0, 1) := by decide +kernel
theorem dX7_happens_104 : decode cX7_happens 104 = .ok (.iload_n 2, 1) := by decide +kernel
theorem dX7_happens_105 : decode cX7_happens 105 = .ok (.aload_n 0, 1) := by decide +kernel
theorem dX7_happens_106 : decode cX7_happens 106 = .ok (.getfield 103, 3) := by decide +kernel
theorem dX7_happens_109 : decode cX7_happens 109 = .ok (.invokevirtual 84, 3) := by decide +kernel
theorem dX7_happens_112 : decode cX7_happens 112 = .ok (.pop, 1) := by decide +kernel
theorem dX7_happens_113 : decode cX7_happens 113 = .ok (.iconst 1, 1) := by decide +kernel
theorem dX7_happens_114 : decode cX7_happens 114 = .ok (.ireturn, 1) := by decide +kernel
theorem dX7_happens_115 : decode cX7_happens 115 = .ok (.aload_n 0, 1) := by decide +kernel
theorem dX7_happens_116 : decode cX7_happens 116 = .ok (.aload_n 0, 1) := by decide +kernel
theorem dX7_happens_117 : decode cX7_happens 117 = .ok (.invokevirtual 57, 3) := by decide +kernel
theorem dX7_happens_120 : decode cX7_happens 120 = .ok (.iconst 1, 1) := by decide +kernel
theorem dX7_happens_121 : decode cX7_happens 121 = .ok (.isub, 1) := by decide +kernel
theorem dX7_happens_122 : decode cX7_happens 122 = .ok (.invokevirtual 121, 3) := by decide +kernel
theorem dX7_happens_125 : decode cX7_happens 125 = .ok (.ifCond .ne 5, 3) := by decide +kernel
theorem dX7_happens_128 : decode cX7_happens 128 = .ok (.iconst 0, 1) := by decide +kernel
theorem dX7_happens_129 : decode cX7_happens 129 = .ok (.ireturn, 1) := by decide +kernel
theorem dX7_happens_130 : decode cX7_happens 130 = .ok (.aload_n 0, 1) := by decide +kernel
theorem dX7_happens_131 : decode cX7_happens 131 = .ok (.getfield 103, 3) := by decide +kernel
theorem dX7_happens_134 : decode cX7_happens 134 = .ok (.istore_n 2, 1) := by decide +kernel
theorem dX7_happens_135 : decode cX7_happens 135 = .ok (.aload_n 0, 1) := by decide +kernel
theorem dX7_happens_136 : decode cX7_happens 136 = .ok (.iload_n 2, 1) := by decide +kernel
theorem dX7_happens_137 : decode cX7_happens 137 = .ok (.iconst 1, 1) := by decide +kernel
theorem dX7_happens_138 : decode cX7_happens 138 = .ok (.isub, 1) := by decide +kernel
theorem dX7_happens_139 : decode cX7_happens 139 = .ok (.invokevirtual 121, 3) := by decide +kernel
theorem dX7_happens_142 : decode cX7_happens 142 = .ok (.ifCond .ne 5, 3) := by decide +kernel
theorem dX7_happens_145 : decode cX7_happens 145 = .ok (.iconst 0, 1) := by decide +kernel
theorem dX7_happens_146 : decode cX7_happens 146 = .ok (.ireturn, 1) := by decide +kernel
theorem dX7_happens_147 : decode cX7_happens 147 = .ok (.aload_n 0, 1) := by decide +kernel
theorem dX7_happens_148 : decode cX7_happens 148 = .ok (.iload_n 2, 1) := by decide +kernel
theorem dX7_happens_149 : decode cX7_happens 149 = .ok (.iconst 2, 1) := by decide +kernel
theorem dX7_happens_150 : decode cX7_happens 150 = .ok (.aload_n 0, 1) := by decide +kernel
theorem dX7_happens_151 : decode cX7_happens 151 = .ok (.iload_n 2, 1) := by decide +kernel
theorem dX7_happens_152 : decode cX7_happens 152 = .ok (.iconst 2, 1) := by decide +kernel
theorem dX7_happens_153 : decode cX7_happens 153 = .ok (.invokevirtual 53, 3) := by decide +kernel
theorem dX7_happens_156 : decode cX7_happens 156 = .ok (.iconst 1, 1) := by decide +kernel
theorem dX7_happens_157 : decode cX7_happens 157 = .ok (.aload_n 0, 1) := by decide +kernel
theorem dX7_happens_158 : decode cX7_happens 158 = .ok (.getfield 103, 3) := by decide +kernel
theorem dX7_happens_161 : decode cX7_happens 161 = .ok (.ishl, 1) := by decide +kernel
theorem dX7_happens_162 : decode cX7_happens 162 = .ok (.ior, 1) := by decide +kernel
theorem dX7_happens_163 : decode cX7_happens 163 = .ok (.invokevirtual 77, 3) := by decide +kernel
theorem dX7_happens_166 : decode cX7_happens 166 = .ok (.pop, 1) := by decide +kernel
theorem dX7_happens_167 : decode cX7_happens 167 = .ok (.iconst 1, 1) := by decide +kernel
theorem dX7_happens_168 : decode cX7_happens 168 = .ok (.ireturn, 1) := by decide +kernel
theorem dX7_happens_169 : decode cX7_happens 169 = .ok (.aload_n 0, 1) := by decide +kernel
theorem dX7_happens_170 : decode cX7_happens 170 = .ok (.aload_n 0, 1) := by decide +kernel
theorem dX7_happens_171 : decode cX7_happens 171 = .ok (.invokevirtual 57, 3) := by decide +kernel
theorem dX7_happens_174 : decode cX7_happens 174 = .ok (.iconst 1, 1) := by decide +kernel
theorem dX7_happens_175 : decode cX7_happens 175 = .ok (.isub, 1) := by decide +kernel
theorem dX7_happens_176 : decode cX7_happens 176 = .ok (.invokevirtual 121, 3) := by decide +kernel
theorem dX7_happens_179 : decode cX7_happens 179 = .ok (.ifCond .ne 5, 3) := by decide +kernel
theorem dX7_happens_182 : decode cX7_happens 182 = .ok (.iconst 0, 1) := by decide +kernel
theorem dX7_happens_183 : decode cX7_happens 183 = .ok (.ireturn, 1) := by decide +kernel
theorem dX7_happens_184 : decode cX7_happens 184 = .ok (.aload_n 0, 1) := by decide +kernel
theorem dX7_happens_185 : decode cX7_happens 185 = .ok (.aload_n 0, 1) := by decide +kernel
theorem dX7_happens_186 : decode cX7_happens 186 = .ok (.getfield 103, 3) := by decide +kernel
theorem dX7_happens_189 : decode cX7_happens 189 = .ok (.iload_n 1, 1) := by decide +kernel
theorem dX7_happens_190 : decode cX7_happens 190 = .ok (.iconst 2, 1) := by decide +kernel
theorem dX7_happens_191 : decode cX7_happens 191 = .ok (.if_icmp .ne 7, 3) := by decide +kernel
theorem dX7_happens_194 : decode cX7_happens 194 = .ok (.iconst 2, 1) := by decide +kernel
theorem dX7_happens_195 : decode cX7_happens 195 = .ok (.goto 4, 3) := by decide +kernel
theorem dX7_happens_198 : decode cX7_happens 198 = .ok (.iconst 3, 1) := by decide +kernel
theorem dX7_happens_199 : decode cX7_happens 199 = .ok (.iload_n 1, 1) := by decide +kernel
theorem dX7_happens_200 : decode cX7_happens 200 = .ok (.iconst 4, 1) := by decide +kernel
theorem dX7_happens_201 : decode cX7_happens 201 = .ok (.if_icmp .ne 7, 3) := by decide +kernel
theorem dX7_happens_204 : decode cX7_happens 204 = .ok (.iconst 1, 1) := by decide +kernel
theorem dX7_happens_205 : decode cX7_happens 205 = .ok (.goto 4, 3) := by decide +kernel
theorem dX7_happens_208 : decode cX7_happens 208 = .ok (.iconst 0, 1) := by decide +kernel
theorem dX7_happens_209 : decode cX7_happens 209 = .ok (.invokevirtual 77, 3) := by decide +kernel
theorem dX7_happens_212 : decode cX7_happens 212 = .ok (.pop, 1) := by decide +kernel
theorem dX7_happens_213 : decode cX7_happens 213 = .ok (.iconst 1, 1) := by decide +kernel
theorem dX7_happens_214 : decode cX7_happens 214 = .ok (.ireturn, 1) := by decide +kernel
theorem dX7_happens_215 : decode cX7_happens 215 = .ok (.aload_n 0, 1) := by decide +kernel
theorem dX7_happens_216 : decode cX7_happens 216 = .ok (.getfield 13, 3) := by decide +kernel
theorem dX7_happens_219 : decode cX7_happens 219 = .ok (.bipush 69, 2) := by decide +kernel
theorem dX7_happens_221 : decode cX7_happens 221 = .ok (.iaload, 1) := by decide +kernel
theorem dX7_happens_222 : decode cX7_happens 222 = .ok (.bipush 6, 2) := by decide +kernel
theorem dX7_happens_224 : decode cX7_happens 224 = .ok (.if_icmp .ge 14, 3) := by decide +kernel
theorem dX7_happens_227 : decode cX7_happens 227 = .ok (.aload_n 0, 1) := by decide +kernel
theorem dX7_happens_228 : decode cX7_happens 228 = .ok (.invokevirtual 124, 3) := by decide +kernel
theorem dX7_happens_231 : decode cX7_happens 231 = .ok (.ifCond .eq 7, 3) := by decide +kernel
theorem dX7_happens_234 : decode cX7_happens 234 = .ok (.iconst 1, 1) := by decide +kernel
theorem dX7_happens_235 : decode cX7_happens 235 = .ok (.goto 4, 3) := by decide +kernel
theorem dX7_happens_238 : decode cX7_happens 238 = .ok (.iconst 0, 1) := by decide +kernel
theorem dX7_happens_239 : decode cX7_happens 239 = .ok (.ireturn, 1) := by decide +kernel
theorem dX7_happens_240 : decode cX7_happens 240 = .ok (.aload_n 0, 1) := by decide +kernel
theorem dX7_happens_241 : decode cX7_happens 241 = .ok (.iconst 3, 1) := by decide +kernel
theorem dX7_happens_242 : decode cX7_happens 242 = .ok (.invokevirtual 121, 3) := by decide +kernel
theorem dX7_happens_245 : decode cX7_happens 245 = .ok (.ifCond .ne 5, 3) := by decide +kernel
theorem dX7_happens_248 : decode cX7_happens 248 = .ok (.iconst 0, 1) := by decide +kernel
theorem dX7_happens_249 : decode cX7_happens 249 = .ok (.ireturn, 1) := by decide +kernel
theorem dX7_happens_250 : decode cX7_happens 250 = .ok (.aload_n 0, 1) := by decide +kernel
theorem dX7_happens_251 : decode cX7_happens 251 = .ok (.getfield 13, 3) := by decide +kernel
theorem dX7_happens_254 : decode cX7_happens 254 = .ok (.bipush 70, 2) := by decide +kernel
theorem dX7_happens_256 : decode cX7_happens 256 = .ok (.aload_n 0, 1) := by decide +kernel
theorem dX7_happens_257 : decode cX7_happens 257 = .ok (.getfield 103, 3) := by decide +kernel
theorem dX7_happens_260 : decode cX7_happens 260 = .ok (.iastore, 1) := by decide +kernel
theorem dX7_happens_261 : decode cX7_happens 261 = .ok (.iconst 1, 1) := by decide +kernel
theorem dX7_happens_262 : decode cX7_happens 262 = .ok (.ireturn, 1) := by decide +kernel
theorem dX7_happens_263 : decode cX7_happens 263 = .ok (.aload_n 0, 1) := by decide +kernel
theorem dX7_happens_264 : decode cX7_happens 264 = .ok (.bipush 7, 2) := by decide +kernel
theorem dX7_happens_266 : decode cX7_happens 266 = .ok (.invokevirtual 121, 3) := by decide +kernel
theorem dX7_happens_269 : decode cX7_happens 269 = .ok (.ifCond .ne 5, 3) := by decide +kernel
theorem dX7_happens_272 : decode cX7_happens 272 = .ok (.iconst 0, 1) := by decide +kernel
theorem dX7_happens_273 : decode cX7_happens 273 = .ok (.ireturn, 1) := by decide +kernel
theorem dX7_happens_274 : decode cX7_happens 274 = .ok (.aload_n 0, 1) := by decide +kernel
theorem dX7_happens_275 : decode cX7_happens 275 = .ok (.getfield 13, 3) := by decide +kernel
theorem dX7_happens_278 : decode cX7_happens 278 = .ok (.bipush 72, 2) := by decide +kernel
theorem dX7_happens_280 : decode cX7_happens 280 = .ok (.iload_n 1, 1) := by decide +kernel
theorem dX7_happens_281 : decode cX7_happens 281 = .ok (.bipush 7, 2) := by decide +kernel
theorem dX7_happens_283 : decode cX7_happens 283 = .ok (.if_icmp .ne 20, 3) := by decide +kernel
theorem dX7_happens_286 : decode cX7_happens 286 = .ok (.aload_n 0, 1) := by decide +kernel
theorem dX7_happens_287 : decode cX7_happens 287 = .ok (.getfield 13, 3) := by decide +kernel
theorem dX7_happens_290 : decode cX7_happens 290 = .ok (.bipush 72, 2) := by decide +kernel
theorem dX7_happens_292 : decode cX7_happens 292 = .ok (.iaload, 1) := by decide +kernel
theorem dX7_happens_293 : decode cX7_happens 293 = .ok (.iconst 1, 1) := by decide +kernel
theorem dX7_happens_294 : decode cX7_happens 294 = .ok (.aload_n 0, 1) := by decide +kernel
theorem dX7_happens_295 : decode cX7_happens 295 = .ok (.getfield 103, 3) := by decide +kernel
theorem dX7_happens_298 : decode cX7_happens 298 = .ok (.ishl, 1) := by decide +kernel
theorem dX7_happens_299 : decode cX7_happens 299 = .ok (.ior, 1) := by decide +kernel
theorem dX7_happens_300 : decode cX7_happens 300 = .ok (.goto 19, 3) := by decide +kernel
theorem dX7_happens_303 : decode cX7_happens 303 = .ok (.aload_n 0, 1) := by decide +kernel
theorem dX7_happens_304 : decode cX7_happens 304 = .ok (.getfield 13, 3) := by decide +kernel
theorem dX7_happens_307 : decode cX7_happens 307 = .ok (.bipush 72, 2) := by decide +kernel
theorem dX7_happens_309 : decode cX7_happens 309 = .ok (.iaload, 1) := by decide +kernel
theorem dX7_happens_310 : decode cX7_happens 310 = .ok (.iconst 1, 1) := by decide +kernel
theorem dX7_happens_311 : decode cX7_happens 311 = .ok (.aload_n 0, 1) := by decide +kernel
theorem dX7_happens_312 : decode cX7_happens 312 = .ok (.getfield 103, 3) := by decide +kernel
theorem dX7_happens_315 : decode cX7_happens 315 = .ok (.ishl, 1) := by decide +kernel
theorem dX7_happens_316 : decode cX7_happens 316 = .ok (.iconst (-1), 1) := by decide +kernel
theorem dX7_happens_317 : decode cX7_happens 317 = .ok (.ixor, 1) := by decide +kernel
theorem dX7_happens_318 : decode cX7_happens 318 = .ok (.iand, 1) := by decide +kernel
theorem dX7_happens_319 : decode cX7_happens 319 = .ok (.iastore, 1) := by decide +kernel
theorem dX7_happens_320 : decode cX7_happens 320 = .ok (.iconst 1, 1) := by decide +kernel
theorem dX7_happens_321 : decode cX7_happens 321 = .ok (.ireturn, 1) := by decide +kernel
theorem dX7_happens_322 : decode cX7_happens 322 = .ok (.aload_n 0, 1) := by decide +kernel
theorem dX7_happens_323 : decode cX7_happens 323 = .ok (.sipush 999, 3) := by decide +kernel
theorem dX7_happens_326 : decode cX7_happens 326 = .ok (.invokevirtual 121, 3) := by decide +kernel
theorem dX7_happens_329 : decode cX7_happens 329 = .ok (.ifCond .ne 5, 3) := by decide +kernel
theorem dX7_happens_332 : decode cX7_happens 332 = .ok (.iconst 0, 1) := by decide +kernel
theorem dX7_happens_333 : decode cX7_happens 333 = .ok (.ireturn, 1) := by decide +kernel
theorem dX7_happens_334 : decode cX7_happens 334 = .ok (.aload_n 0, 1) := by decide +kernel
theorem dX7_happens_335 : decode cX7_happens 335 = .ok (.getfield 13, 3) := by decide +kernel
theorem dX7_happens_338 : decode cX7_happens 338 = .ok (.bipush 71, 2) := by decide +kernel
theorem dX7_happens_340 : decode cX7_happens 340 = .ok (.aload_n 0, 1) := by decide +kernel
theorem dX7_happens_341 : decode cX7_happens 341 = .ok (.getfield 103, 3) := by decide +kernel
theorem dX7_happens_344 : decode cX7_happens 344 = .ok (.iastore, 1) := by decide +kernel
theorem dX7_happens_345 : decode cX7_happens 345 = .ok (.iconst 1, 1) := by decide +kernel
theorem dX7_happens_346 : decode cX7_happens 346 = .ok (.ireturn, 1) := by decide +kernel
theorem dX7_happens_347 : decode cX7_happens 347 = .ok (.iconst 0, 1) := by decide +kernel
theorem dX7_happens_348 : decode cX7_happens 348 = .ok (.ireturn, 1) := by decide +kernel
theorem dX7_readRinger_0 : decode cX7_readRinger 0 = .ok (.aload_n 0, 1) := by decide +kernel
theorem dX7_readRinger_1 : decode cX7_readRinger 1 = .ok (.iconst 5, 1) := by decide +kernel
theorem dX7_readRinger_2 : decode cX7_readRinger 2 = .ok (.invokevirtual 121, 3) := by decide +kernel
theorem dX7_readRinger_5 : decode cX7_readRinger 5 = .ok (.ifCond .ne 5, 3) := by decide +kernel
theorem dX7_readRinger_8 : decode cX7_readRinger 8 = .ok (.iconst 0, 1) := by decide +kernel
theorem dX7_readRinger_9 : decode cX7_readRinger 9 = .ok (.ireturn, 1) := by decide +kernel
theorem dX7_readRinger_10 : decode cX7_readRinger 10 = .ok (.aload_n 0, 1) := by decide +kernel
theorem dX7_readRinger_11 : decode cX7_readRinger 11 = .ok (.getfield 103, 3) := by decide +kernel
theorem dX7_readRinger_14 : decode cX7_readRinger 14 = .ok (.istore_n 1, 1) := by decide +kernel
theorem dX7_readRinger_15 : decode cX7_readRinger 15 = .ok (.aload_n 0, 1) := by decide +kernel
theorem dX7_readRinger_16 : decode cX7_readRinger 16 = .ok (.bipush 9, 2) := by decide +kernel
theorem dX7_readRinger_18 : decode cX7_readRinger 18 = .ok (.invokevirtual 121, 3) := by decide +kernel
theorem dX7_readRinger_21 : decode cX7_readRinger 21 = .ok (.ifCond .ne 5, 3) := by decide +kernel
theorem dX7_readRinger_24 : decode cX7_readRinger 24 = .ok (.iconst 0, 1) := by decide +kernel
theorem dX7_readRinger_25 : decode cX7_readRinger 25 = .ok (.ireturn, 1) := by decide +kernel
theorem dX7_readRinger_26 : decode cX7_readRinger 26 = .ok (.aload_n 0, 1) := by decide +kernel
theorem dX7_readRinger_27 : decode cX7_readRinger 27 = .ok (.getfield 103, 3) := by decide +kernel
theorem dX7_readRinger_30 : decode cX7_readRinger 30 = .ok (.istore_n 2, 1) := by decide +kernel
theorem dX7_readRinger_31 : decode cX7_readRinger 31 = .ok (.aload_n 0, 1) := by decide +kernel
theorem dX7_readRinger_32 : decode cX7_readRinger 32 = .ok (.bipush 7, 2) := by decide +kernel
theorem dX7_readRinger_34 : decode cX7_readRinger 34 = .ok (.invokevirtual 121, 3) := by decide +kernel
theorem dX7_readRinger_37 : decode cX7_readRinger 37 = .ok (.ifCond .ne 5, 3) := by decide +kernel
theorem dX7_readRinger_40 : decode cX7_readRinger 40 = .ok (.iconst 0, 1) := by decide +kernel
theorem dX7_readRinger_41 : decode cX7_readRinger 41 = .ok (.ireturn, 1) := by decide +kernel
theorem dX7_readRinger_42 : decode cX7_readRinger 42 = .ok (.aload_n 0, 1) := by decide +kernel
theorem dX7_readRinger_43 : decode cX7_readRinger 43 = .ok (.iload_n 1, 1) := by decide +kernel
theorem dX7_readRinger_44 : decode cX7_readRinger 44 = .ok (.iload_n 2, 1) := by decide +kernel
theorem dX7_readRinger_45 : decode cX7_readRinger 45 = .ok (.aload_n 0, 1) := by decide +kernel
theorem dX7_readRinger_46 : decode cX7_readRinger 46 = .ok (.getfield 103, 3) := by decide +kernel
theorem dX7_readRinger_49 : decode cX7_readRinger 49 = .ok (.invokevirtual 87, 3) := by decide +kernel
theorem dX7_readRinger_52 : decode cX7_readRinger 52 = .ok (.pop, 1) := by decide +kernel
theorem dX7_readRinger_53 : decode cX7_readRinger 53 = .ok (.iconst 1, 1) := by decide +kernel
theorem dX7_readRinger_54 : decode cX7_readRinger 54 = .ok (.ireturn, 1) := by decide +kernel
theorem dX7_tower_0 : decode cX7_tower 0 = .ok (.aload_n 0, 1) := by decide +kernel
theorem dX7_tower_1 : decode cX7_tower 1 = .ok (.getfield 13, 3) := by decide +kernel
theorem dX7_tower_4 : decode cX7_tower 4 = .ok (.aload_n 0, 1) := by decide +kernel
theorem dX7_tower_5 : decode cX7_tower 5 = .ok (.getfield 17, 3) := by decide +kernel
theorem dX7_tower_8 : decode cX7_tower 8 = .ok (.invokestatic 128, 3) := by decide +kernel
theorem dX7_tower_11 : decode cX7_tower 11 = .ok (.aload_n 0, 1) := by decide +kernel
theorem dX7_tower_12 : decode cX7_tower 12 = .ok (.iconst 0, 1) := by decide +kernel
theorem dX7_tower_13 : decode cX7_tower 13 = .ok (.putfield 97, 3) := by decide +kernel
theorem dX7_tower_16 : decode cX7_tower 16 = .ok (.iconst 0, 1) := by decide +kernel
theorem dX7_tower_17 : decode cX7_tower 17 = .ok (.istore_n 1, 1) := by decide +kernel
theorem dX7_tower_18 : decode cX7_tower 18 = .ok (.iconst 1, 1) := by decide +kernel
theorem dX7_tower_19 : decode cX7_tower 19 = .ok (.istore_n 2, 1) := by decide +kernel
theorem dX7_tower_20 : decode cX7_tower 20 = .ok (.iconst 1, 1) := by decide +kernel
theorem dX7_tower_21 : decode cX7_tower 21 = .ok (.istore_n 3, 1) := by decide +kernel
theorem dX7_tower_22 : decode cX7_tower 22 = .ok (.iload_n 3, 1) := by decide +kernel
theorem dX7_tower_23 : decode cX7_tower 23 = .ok (.ifCond .eq 61, 3) := by decide +kernel
theorem dX7_tower_26 : decode cX7_tower 26 = .ok (.aload_n 0, 1) := by decide +kernel
theorem dX7_tower_27 : decode cX7_tower 27 = .ok (.invokevirtual 132, 3) := by decide +kernel
theorem dX7_tower_30 : decode cX7_tower 30 = .ok (.istore_n 2, 1) := by decide +kernel
theorem dX7_tower_31 : decode cX7_tower 31 = .ok (.iinc 1 1, 3) := by decide +kernel
theorem dX7_tower_34 : decode cX7_tower 34 = .ok (.iload_n 2, 1) := by decide +kernel
theorem dX7_tower_35 : decode cX7_tower 35 = .ok (.ifCond .eq 28, 3) := by decide +kernel
theorem dX7_tower_38 : decode cX7_tower 38 = .ok (.aload_n 0, 1) := by decide +kernel
theorem dX7_tower_39 : decode cX7_tower 39 = .ok (.invokevirtual 115, 3) := by decide +kernel
theorem dX7_tower_42 : decode cX7_tower 42 = .ok (.aload_n 0, 1) := by decide +kernel
theorem dX7_tower_43 : decode cX7_tower 43 = .ok (.getfield 112, 3) := by decide +kernel
theorem dX7_tower_46 : decode cX7_tower 46 = .ok (.ifCond .eq 11, 3) := by decide +kernel
theorem dX7_tower_49 : decode cX7_tower 49 = .ok (.aload_n 0, 1) := by decide +kernel
theorem dX7_tower_50 : decode cX7_tower 50 = .ok (.getfield 112, 3) := by decide +kernel
theorem dX7_tower_53 : decode cX7_tower 53 = .ok (.iconst 3, 1) := by decide +kernel
theorem dX7_tower_54 : decode cX7_tower 54 = .ok (.if_icmp .ne 7, 3) := by decide +kernel
theorem dX7_tower_57 : decode cX7_tower 57 = .ok (.iconst 1, 1) := by decide +kernel
theorem dX7_tower_58 : decode cX7_tower 58 = .ok (.goto 4, 3) := by decide +kernel
theorem dX7_tower_61 : decode cX7_tower 61 = .ok (.iconst 0, 1) := by decide +kernel
theorem dX7_tower_62 : decode cX7_tower 62 = .ok (.istore_n 2, 1) := by decide +kernel
theorem dX7_tower_63 : decode cX7_tower 63 = .ok (.iload_n 2, 1) := by decide +kernel
theorem dX7_tower_64 : decode cX7_tower 64 = .ok (.ifCond .eq 15, 3) := by decide +kernel
theorem dX7_tower_67 : decode cX7_tower 67 = .ok (.aload_n 0, 1) := by decide +kernel
theorem dX7_tower_68 : decode cX7_tower 68 = .ok (.getfield 112, 3) := by decide +kernel
theorem dX7_tower_71 : decode cX7_tower 71 = .ok (.iconst 3, 1) := by decide +kernel
theorem dX7_tower_72 : decode cX7_tower 72 = .ok (.if_icmp .ne 7, 3) := by decide +kernel
theorem dX7_tower_75 : decode cX7_tower 75 = .ok (.iconst 1, 1) := by decide +kernel
theorem dX7_tower_76 : decode cX7_tower 76 = .ok (.goto 4, 3) := by decide +kernel
theorem dX7_tower_79 : decode cX7_tower 79 = .ok (.iconst 0, 1) := by decide +kernel
theorem dX7_tower_80 : decode cX7_tower 80 = .ok (.istore_n 3, 1) := by decide +kernel
theorem dX7_tower_81 : decode cX7_tower 81 = .ok (.goto (-59), 3) := by decide +kernel
theorem dX7_tower_84 : decode cX7_tower 84 = .ok (.aload_n 0, 1) := by decide +kernel
theorem dX7_tower_85 : decode cX7_tower 85 = .ok (.iconst 0, 1) := by decide +kernel
theorem dX7_tower_86 : decode cX7_tower 86 = .ok (.putfield 93, 3) := by decide +kernel
theorem dX7_tower_89 : decode cX7_tower 89 = .ok (.iload_n 2, 1) := by decide +kernel
theorem dX7_tower_90 : decode cX7_tower 90 = .ok (.ifCond .ne 32, 3) := by decide +kernel
theorem dX7_tower_93 : decode cX7_tower 93 = .ok (.aload_n 0, 1) := by decide +kernel
theorem dX7_tower_94 : decode cX7_tower 94 = .ok (.getfield 17, 3) := by decide +kernel
theorem dX7_tower_97 : decode cX7_tower 97 = .ok (.aload_n 0, 1) := by decide +kernel
theorem dX7_tower_98 : decode cX7_tower 98 = .ok (.getfield 13, 3) := by decide +kernel
theorem dX7_tower_101 : decode cX7_tower 101 = .ok (.invokestatic 128, 3) := by decide +kernel
theorem dX7_tower_104 : decode cX7_tower 104 = .ok (.aload_n 0, 1) := by decide +kernel
theorem dX7_tower_105 : decode cX7_tower 105 = .ok (.getfield 23, 3) := by decide +kernel
theorem dX7_tower_108 : decode cX7_tower 108 = .ok (.iconst 2, 1) := by decide +kernel
theorem dX7_tower_109 : decode cX7_tower 109 = .ok (.dup2, 1) := by decide +kernel
theorem dX7_tower_110 : decode cX7_tower 110 = .ok (.iaload, 1) := by decide +kernel
theorem dX7_tower_111 : decode cX7_tower 111 = .ok (.iconst 1, 1) := by decide +kernel
theorem dX7_tower_112 : decode cX7_tower 112 = .ok (.iadd, 1) := by decide +kernel
theorem dX7_tower_113 : decode cX7_tower 113 = .ok (.iastore, 1) := by decide +kernel
theorem dX7_tower_114 : decode cX7_tower 114 = .ok (.bipush (-20), 2) := by decide +kernel
theorem dX7_tower_116 : decode cX7_tower 116 = .ok (.aload_n 0, 1) := by decide +kernel
theorem dX7_tower_117 : decode cX7_tower 117 = .ok (.getfield 100, 3) := by decide +kernel
theorem dX7_tower_120 : decode cX7_tower 120 = .ok (.isub, 1) := by decide +kernel
theorem dX7_tower_121 : decode cX7_tower 121 = .ok (.ireturn, 1) := by decide +kernel
theorem dX7_tower_122 : decode cX7_tower 122 = .ok (.iload_n 1, 1) := by decide +kernel
theorem dX7_tower_123 : decode cX7_tower 123 = .ok (.ireturn, 1) := by decide +kernel
theorem dX7_thingOf_0 : decode cX7_thingOf 0 = .ok (.aload_n 0, 1) := by decide +kernel
theorem dX7_thingOf_1 : decode cX7_thingOf 1 = .ok (.iload_n 1, 1) := by decide +kernel
theorem dX7_thingOf_2 : decode cX7_thingOf 2 = .ok (.invokevirtual 90, 3) := by decide +kernel
theorem dX7_thingOf_5 : decode cX7_thingOf 5 = .ok (.ifCond .eq 13, 3) := by decide +kernel
theorem dX7_thingOf_8 : decode cX7_thingOf 8 = .ok (.iload_n 2, 1) := by decide +kernel
theorem dX7_thingOf_9 : decode cX7_thingOf 9 = .ok (.iconst 0, 1) := by decide +kernel
theorem dX7_thingOf_10 : decode cX7_thingOf 10 = .ok (.bipush 7, 2) := by decide +kernel
theorem dX7_thingOf_12 : decode cX7_thingOf 12 = .ok (.invokestatic 49, 3) := by decide +kernel
theorem dX7_thingOf_15 : decode cX7_thingOf 15 = .ok (.ifCond .ne 10, 3) := by decide +kernel
theorem dX7_thingOf_18 : decode cX7_thingOf 18 = .ok (.aload_n 0, 1) := by decide +kernel
theorem dX7_thingOf_19 : decode cX7_thingOf 19 = .ok (.bipush (-2), 2) := by decide +kernel
theorem dX7_thingOf_21 : decode cX7_thingOf 21 = .ok (.invokevirtual 81, 3) := by decide +kernel
theorem dX7_thingOf_24 : decode cX7_thingOf 24 = .ok (.ireturn, 1) := by decide +kernel
theorem dX7_thingOf_25 : decode cX7_thingOf 25 = .ok (.iload_n 2, 1) := by decide +kernel
theorem dX7_thingOf_26 : decode cX7_thingOf 26 = .ok (.tableswitch 104 0 6 #[42, 49, 56, 63, 70, 77, 90], 42) := by decide +kernel
theorem dX7_thingOf_68 : decode cX7_thingOf 68 = .ok (.aload_n 0, 1) := by decide +kernel
theorem dX7_thingOf_69 : decode cX7_thingOf 69 = .ok (.iload_n 1, 1) := by decide +kernel
theorem dX7_thingOf_70 : decode cX7_thingOf 70 = .ok (.iconst 0, 1) := by decide +kernel
theorem dX7_thingOf_71 : decode cX7_thingOf 71 = .ok (.invokevirtual 53, 3) := by decide +kernel
theorem dX7_thingOf_74 : decode cX7_thingOf 74 = .ok (.ireturn, 1) := by decide +kernel
theorem dX7_thingOf_75 : decode cX7_thingOf 75 = .ok (.aload_n 0, 1) := by decide +kernel
theorem dX7_thingOf_76 : decode cX7_thingOf 76 = .ok (.iload_n 1, 1) := by decide +kernel
theorem dX7_thingOf_77 : decode cX7_thingOf 77 = .ok (.iconst 1, 1) := by decide +kernel
theorem dX7_thingOf_78 : decode cX7_thingOf 78 = .ok (.invokevirtual 53, 3) := by decide +kernel
theorem dX7_thingOf_81 : decode cX7_thingOf 81 = .ok (.ireturn, 1) := by decide +kernel
theorem dX7_thingOf_82 : decode cX7_thingOf 82 = .ok (.aload_n 0, 1) := by decide +kernel
theorem dX7_thingOf_83 : decode cX7_thingOf 83 = .ok (.iload_n 1, 1) := by decide +kernel
theorem dX7_thingOf_84 : decode cX7_thingOf 84 = .ok (.iconst 4, 1) := by decide +kernel
theorem dX7_thingOf_85 : decode cX7_thingOf 85 = .ok (.invokevirtual 53, 3) := by decide +kernel
theorem dX7_thingOf_88 : decode cX7_thingOf 88 = .ok (.ireturn, 1) := by decide +kernel
theorem dX7_thingOf_89 : decode cX7_thingOf 89 = .ok (.aload_n 0, 1) := by decide +kernel
theorem dX7_thingOf_90 : decode cX7_thingOf 90 = .ok (.iload_n 1, 1) := by decide +kernel
theorem dX7_thingOf_91 : decode cX7_thingOf 91 = .ok (.iconst 3, 1) := by decide +kernel
theorem dX7_thingOf_92 : decode cX7_thingOf 92 = .ok (.invokevirtual 53, 3) := by decide +kernel
theorem dX7_thingOf_95 : decode cX7_thingOf 95 = .ok (.ireturn, 1) := by decide +kernel
theorem dX7_thingOf_96 : decode cX7_thingOf 96 = .ok (.aload_n 0, 1) := by decide +kernel
theorem dX7_thingOf_97 : decode cX7_thingOf 97 = .ok (.iload_n 1, 1) := by decide +kernel
theorem dX7_thingOf_98 : decode cX7_thingOf 98 = .ok (.iconst 2, 1) := by decide +kernel
theorem dX7_thingOf_99 : decode cX7_thingOf 99 = .ok (.invokevirtual 53, 3) := by decide +kernel
theorem dX7_thingOf_102 : decode cX7_thingOf 102 = .ok (.ireturn, 1) := by decide +kernel
theorem dX7_thingOf_103 : decode cX7_thingOf 103 = .ok (.aload_n 0, 1) := by decide +kernel
theorem dX7_thingOf_104 : decode cX7_thingOf 104 = .ok (.aload_n 0, 1) := by decide +kernel
theorem dX7_thingOf_105 : decode cX7_thingOf 105 = .ok (.invokevirtual 135, 3) := by decide +kernel
theorem dX7_thingOf_108 : decode cX7_thingOf 108 = .ok (.invokevirtual 65, 3) := by decide +kernel
theorem dX7_thingOf_111 : decode cX7_thingOf 111 = .ok (.iload_n 1, 1) := by decide +kernel
theorem dX7_thingOf_112 : decode cX7_thingOf 112 = .ok (.ishr, 1) := by decide +kernel
theorem dX7_thingOf_113 : decode cX7_thingOf 113 = .ok (.iconst 1, 1) := by decide +kernel
theorem dX7_thingOf_114 : decode cX7_thingOf 114 = .ok (.iand, 1) := by decide +kernel
theorem dX7_thingOf_115 : decode cX7_thingOf 115 = .ok (.ireturn, 1) := by decide +kernel
theorem dX7_thingOf_116 : decode cX7_thingOf 116 = .ok (.aload_n 0, 1) := by decide +kernel
theorem dX7_thingOf_117 : decode cX7_thingOf 117 = .ok (.iload_n 1, 1) := by decide +kernel
theorem dX7_thingOf_118 : decode cX7_thingOf 118 = .ok (.invokevirtual 61, 3) := by decide +kernel
theorem dX7_thingOf_121 : decode cX7_thingOf 121 = .ok (.ifCond .eq 7, 3) := by decide +kernel
theorem dX7_thingOf_124 : decode cX7_thingOf 124 = .ok (.iconst 1, 1) := by decide +kernel
theorem dX7_thingOf_125 : decode cX7_thingOf 125 = .ok (.goto 4, 3) := by decide +kernel
theorem dX7_thingOf_128 : decode cX7_thingOf 128 = .ok (.iconst 0, 1) := by decide +kernel
theorem dX7_thingOf_129 : decode cX7_thingOf 129 = .ok (.ireturn, 1) := by decide +kernel
theorem dX7_thingOf_130 : decode cX7_thingOf 130 = .ok (.aload_n 0, 1) := by decide +kernel
theorem dX7_thingOf_131 : decode cX7_thingOf 131 = .ok (.iload_n 1, 1) := by decide +kernel
theorem dX7_thingOf_132 : decode cX7_thingOf 132 = .ok (.invokevirtual 138, 3) := by decide +kernel
theorem dX7_thingOf_135 : decode cX7_thingOf 135 = .ok (.ireturn, 1) := by decide +kernel
theorem dX7_held_0 : decode cX7_held 0 = .ok (.iconst 0, 1) := by decide +kernel
theorem dX7_held_1 : decode cX7_held 1 = .ok (.bipush 99, 2) := by decide +kernel
theorem dX7_held_3 : decode cX7_held 3 = .ok (.iload_n 0, 1) := by decide +kernel
theorem dX7_held_4 : decode cX7_held 4 = .ok (.invokestatic 141, 3) := by decide +kernel
theorem dX7_held_7 : decode cX7_held 7 = .ok (.invokestatic 146, 3) := by decide +kernel
theorem dX7_held_10 : decode cX7_held 10 = .ok (.ireturn, 1) := by decide +kernel
theorem dX7_slipBy_0 : decode cX7_slipBy 0 = .ok (.bipush 10, 2) := by decide +kernel
theorem dX7_slipBy_2 : decode cX7_slipBy 2 = .ok (.iload_n 2, 1) := by decide +kernel
theorem dX7_slipBy_3 : decode cX7_slipBy 3 = .ok (.iadd, 1) := by decide +kernel
theorem dX7_slipBy_4 : decode cX7_slipBy 4 = .ok (.invokestatic 149, 3) := by decide +kernel
theorem dX7_slipBy_7 : decode cX7_slipBy 7 = .ok (.istore 4, 2) := by decide +kernel
theorem dX7_slipBy_9 : decode cX7_slipBy 9 = .ok (.iconst 3, 1) := by decide +kernel
theorem dX7_slipBy_10 : decode cX7_slipBy 10 = .ok (.iload 4, 2) := by decide +kernel
theorem dX7_slipBy_12 : decode cX7_slipBy 12 = .ok (.imul, 1) := by decide +kernel
theorem dX7_slipBy_13 : decode cX7_slipBy 13 = .ok (.invokestatic 149, 3) := by decide +kernel
theorem dX7_slipBy_16 : decode cX7_slipBy 16 = .ok (.istore 5, 2) := by decide +kernel
theorem dX7_slipBy_18 : decode cX7_slipBy 18 = .ok (.iload 4, 2) := by decide +kernel
theorem dX7_slipBy_20 : decode cX7_slipBy 20 = .ok (.iload_n 2, 1) := by decide +kernel
theorem dX7_slipBy_21 : decode cX7_slipBy 21 = .ok (.isub, 1) := by decide +kernel
theorem dX7_slipBy_22 : decode cX7_slipBy 22 = .ok (.invokestatic 149, 3) := by decide +kernel
theorem dX7_slipBy_25 : decode cX7_slipBy 25 = .ok (.istore 6, 2) := by decide +kernel
theorem dX7_slipBy_27 : decode cX7_slipBy 27 = .ok (.iload_n 1, 1) := by decide +kernel
theorem dX7_slipBy_28 : decode cX7_slipBy 28 = .ok (.tableswitch 80 1 5 #[36, 39, 42, 49, 57], 36) := by decide +kernel
theorem dX7_slipBy_64 : decode cX7_slipBy 64 = .ok (.iload 5, 2) := by decide +kernel
theorem dX7_slipBy_66 : decode cX7_slipBy 66 = .ok (.ireturn, 1) := by decide +kernel
theorem dX7_slipBy_67 : decode cX7_slipBy 67 = .ok (.iload 6, 2) := by decide +kernel
theorem dX7_slipBy_69 : decode cX7_slipBy 69 = .ok (.ireturn, 1) := by decide +kernel
theorem dX7_slipBy_70 : decode cX7_slipBy 70 = .ok (.iload 5, 2) := by decide +kernel
theorem dX7_slipBy_72 : decode cX7_slipBy 72 = .ok (.iconst 1, 1) := by decide +kernel
theorem dX7_slipBy_73 : decode cX7_slipBy 73 = .ok (.iadd, 1) := by decide +kernel
theorem dX7_slipBy_74 : decode cX7_slipBy 74 = .ok (.iconst 2, 1) := by decide +kernel
theorem dX7_slipBy_75 : decode cX7_slipBy 75 = .ok (.idiv, 1) := by decide +kernel
theorem dX7_slipBy_76 : decode cX7_slipBy 76 = .ok (.ireturn, 1) := by decide +kernel
theorem dX7_slipBy_77 : decode cX7_slipBy 77 = .ok (.iload 6, 2) := by decide +kernel
theorem dX7_slipBy_79 : decode cX7_slipBy 79 = .ok (.iconst 5, 1) := by decide +kernel
theorem dX7_slipBy_80 : decode cX7_slipBy 80 = .ok (.isub, 1) := by decide +kernel
theorem dX7_slipBy_81 : decode cX7_slipBy 81 = .ok (.invokestatic 149, 3) := by decide +kernel
theorem dX7_slipBy_84 : decode cX7_slipBy 84 = .ok (.ireturn, 1) := by decide +kernel
theorem dX7_slipBy_85 : decode cX7_slipBy 85 = .ok (.aload_n 0, 1) := by decide +kernel
theorem dX7_slipBy_86 : decode cX7_slipBy 86 = .ok (.getfield 13, 3) := by decide +kernel
theorem dX7_slipBy_89 : decode cX7_slipBy 89 = .ok (.bipush 72, 2) := by decide +kernel
theorem dX7_slipBy_91 : decode cX7_slipBy 91 = .ok (.iaload, 1) := by decide +kernel
theorem dX7_slipBy_92 : decode cX7_slipBy 92 = .ok (.iload_n 3, 1) := by decide +kernel
theorem dX7_slipBy_93 : decode cX7_slipBy 93 = .ok (.ishr, 1) := by decide +kernel
theorem dX7_slipBy_94 : decode cX7_slipBy 94 = .ok (.iconst 1, 1) := by decide +kernel
theorem dX7_slipBy_95 : decode cX7_slipBy 95 = .ok (.iand, 1) := by decide +kernel
theorem dX7_slipBy_96 : decode cX7_slipBy 96 = .ok (.iconst 1, 1) := by decide +kernel
theorem dX7_slipBy_97 : decode cX7_slipBy 97 = .ok (.if_icmp .ne 8, 3) := by decide +kernel
theorem dX7_slipBy_100 : decode cX7_slipBy 100 = .ok (.bipush 50, 2) := by decide +kernel
theorem dX7_slipBy_102 : decode cX7_slipBy 102 = .ok (.goto 5, 3) := by decide +kernel
theorem dX7_slipBy_105 : decode cX7_slipBy 105 = .ok (.iload 4, 2) := by decide +kernel
theorem dX7_slipBy_107 : decode cX7_slipBy 107 = .ok (.ireturn, 1) := by decide +kernel
theorem dX7_slipBy_108 : decode cX7_slipBy 108 = .ok (.iload 4, 2) := by decide +kernel
theorem dX7_slipBy_110 : decode cX7_slipBy 110 = .ok (.ireturn, 1) := by decide +kernel
theorem dX7_slip_0 : decode cX7_slip 0 = .ok (.aload_n 0, 1) := by decide +kernel
theorem dX7_slip_1 : decode cX7_slip 1 = .ok (.aload_n 0, 1) := by decide +kernel
theorem dX7_slip_2 : decode cX7_slip 2 = .ok (.getfield 13, 3) := by decide +kernel
theorem dX7_slip_5 : decode cX7_slip 5 = .ok (.bipush 50, 2) := by decide +kernel
theorem dX7_slip_7 : decode cX7_slip 7 = .ok (.iconst 3, 1) := by decide +kernel
theorem dX7_slip_8 : decode cX7_slip 8 = .ok (.iload_n 1, 1) := by decide +kernel
theorem dX7_slip_9 : decode cX7_slip 9 = .ok (.imul, 1) := by decide +kernel
theorem dX7_slip_10 : decode cX7_slip 10 = .ok (.iadd, 1) := by decide +kernel
theorem dX7_slip_11 : decode cX7_slip 11 = .ok (.iaload, 1) := by decide +kernel
theorem dX7_slip_12 : decode cX7_slip 12 = .ok (.aload_n 0, 1) := by decide +kernel
theorem dX7_slip_13 : decode cX7_slip 13 = .ok (.getfield 13, 3) := by decide +kernel
theorem dX7_slip_16 : decode cX7_slip 16 = .ok (.bipush 50, 2) := by decide +kernel
theorem dX7_slip_18 : decode cX7_slip 18 = .ok (.iconst 3, 1) := by decide +kernel
theorem dX7_slip_19 : decode cX7_slip 19 = .ok (.iload_n 1, 1) := by decide +kernel
theorem dX7_slip_20 : decode cX7_slip 20 = .ok (.imul, 1) := by decide +kernel
theorem dX7_slip_21 : decode cX7_slip 21 = .ok (.iadd, 1) := by decide +kernel
theorem dX7_slip_22 : decode cX7_slip 22 = .ok (.iconst 1, 1) := by decide +kernel
theorem dX7_slip_23 : decode cX7_slip 23 = .ok (.iadd, 1) := by decide +kernel
theorem dX7_slip_24 : decode cX7_slip 24 = .ok (.iaload, 1) := by decide +kernel
theorem dX7_slip_25 : decode cX7_slip 25 = .ok (.aload_n 0, 1) := by decide +kernel
theorem dX7_slip_26 : decode cX7_slip 26 = .ok (.getfield 13, 3) := by decide +kernel
theorem dX7_slip_29 : decode cX7_slip 29 = .ok (.bipush 50, 2) := by decide +kernel
theorem dX7_slip_31 : decode cX7_slip 31 = .ok (.iconst 3, 1) := by decide +kernel
theorem dX7_slip_32 : decode cX7_slip 32 = .ok (.iload_n 1, 1) := by decide +kernel
theorem dX7_slip_33 : decode cX7_slip 33 = .ok (.imul, 1) := by decide +kernel
theorem dX7_slip_34 : decode cX7_slip 34 = .ok (.iadd, 1) := by decide +kernel
theorem dX7_slip_35 : decode cX7_slip 35 = .ok (.iconst 2, 1) := by decide +kernel
theorem dX7_slip_36 : decode cX7_slip 36 = .ok (.iadd, 1) := by decide +kernel
theorem dX7_slip_37 : decode cX7_slip 37 = .ok (.iaload, 1) := by decide +kernel
theorem dX7_slip_38 : decode cX7_slip 38 = .ok (.invokevirtual 152, 3) := by decide +kernel
theorem dX7_slip_41 : decode cX7_slip 41 = .ok (.ireturn, 1) := by decide +kernel
theorem dX7_ringerOf_0 : decode cX7_ringerOf 0 = .ok (.aload_n 0, 1) := by decide +kernel
theorem dX7_ringerOf_1 : decode cX7_ringerOf 1 = .ok (.iload_n 1, 1) := by decide +kernel
theorem dX7_ringerOf_2 : decode cX7_ringerOf 2 = .ok (.invokevirtual 155, 3) := by decide +kernel
theorem dX7_ringerOf_5 : decode cX7_ringerOf 5 = .ok (.ifCond .eq 12, 3) := by decide +kernel
theorem dX7_ringerOf_8 : decode cX7_ringerOf 8 = .ok (.iload_n 2, 1) := by decide +kernel
theorem dX7_ringerOf_9 : decode cX7_ringerOf 9 = .ok (.iconst 0, 1) := by decide +kernel
theorem dX7_ringerOf_10 : decode cX7_ringerOf 10 = .ok (.iconst 3, 1) := by decide +kernel
theorem dX7_ringerOf_11 : decode cX7_ringerOf 11 = .ok (.invokestatic 49, 3) := by decide +kernel
theorem dX7_ringerOf_14 : decode cX7_ringerOf 14 = .ok (.ifCond .ne 10, 3) := by decide +kernel
theorem dX7_ringerOf_17 : decode cX7_ringerOf 17 = .ok (.aload_n 0, 1) := by decide +kernel
theorem dX7_ringerOf_18 : decode cX7_ringerOf 18 = .ok (.bipush (-2), 2) := by decide +kernel
theorem dX7_ringerOf_20 : decode cX7_ringerOf 20 = .ok (.invokevirtual 81, 3) := by decide +kernel
theorem dX7_ringerOf_23 : decode cX7_ringerOf 23 = .ok (.ireturn, 1) := by decide +kernel
theorem dX7_ringerOf_24 : decode cX7_ringerOf 24 = .ok (.iload_n 2, 1) := by decide +kernel
theorem dX7_ringerOf_25 : decode cX7_ringerOf 25 = .ok (.iconst 3, 1) := by decide +kernel
theorem dX7_ringerOf_26 : decode cX7_ringerOf 26 = .ok (.if_icmp .ne 11, 3) := by decide +kernel
theorem dX7_ringerOf_29 : decode cX7_ringerOf 29 = .ok (.aload_n 0, 1) := by decide +kernel
theorem dX7_ringerOf_30 : decode cX7_ringerOf 30 = .ok (.iload_n 1, 1) := by decide +kernel
theorem dX7_ringerOf_31 : decode cX7_ringerOf 31 = .ok (.invokevirtual 158, 3) := by decide +kernel
theorem dX7_ringerOf_34 : decode cX7_ringerOf 34 = .ok (.goto 16, 3) := by decide +kernel
theorem dX7_ringerOf_37 : decode cX7_ringerOf 37 = .ok (.aload_n 0, 1) := by decide +kernel
theorem dX7_ringerOf_38 : decode cX7_ringerOf 38 = .ok (.getfield 13, 3) := by decide +kernel
theorem dX7_ringerOf_41 : decode cX7_ringerOf 41 = .ok (.bipush 50, 2) := by decide +kernel
theorem dX7_ringerOf_43 : decode cX7_ringerOf 43 = .ok (.iconst 3, 1) := by decide +kernel
theorem dX7_ringerOf_44 : decode cX7_ringerOf 44 = .ok (.iload_n 1, 1) := by decide +kernel
theorem dX7_ringerOf_45 : decode cX7_ringerOf 45 = .ok (.imul, 1) := by decide +kernel
theorem dX7_ringerOf_46 : decode cX7_ringerOf 46 = .ok (.iadd, 1) := by decide +kernel
theorem dX7_ringerOf_47 : decode cX7_ringerOf 47 = .ok (.iload_n 2, 1) := by decide +kernel
theorem dX7_ringerOf_48 : decode cX7_ringerOf 48 = .ok (.iadd, 1) := by decide +kernel
theorem dX7_ringerOf_49 : decode cX7_ringerOf 49 = .ok (.iaload, 1) := by decide +kernel
theorem dX7_ringerOf_50 : decode cX7_ringerOf 50 = .ok (.ireturn, 1) := by decide +kernel
theorem dX7_wellOf_0 : decode cX7_wellOf 0 = .ok (.ldc 161, 2) := by decide +kernel
theorem dX7_wellOf_2 : decode cX7_wellOf 2 = .ok (.istore_n 2, 1) := by decide +kernel
theorem dX7_wellOf_3 : decode cX7_wellOf 3 = .ok (.iconst 0, 1) := by decide +kernel
theorem dX7_wellOf_4 : decode cX7_wellOf 4 = .ok (.istore_n 3, 1) := by decide +kernel
theorem dX7_wellOf_5 : decode cX7_wellOf 5 = .ok (.iload_n 3, 1) := by decide +kernel
theorem dX7_wellOf_6 : decode cX7_wellOf 6 = .ok (.aload_n 0, 1) := by decide +kernel
theorem dX7_wellOf_7 : decode cX7_wellOf 7 = .ok (.getfield 13, 3) := by decide +kernel
theorem dX7_wellOf_10 : decode cX7_wellOf 10 = .ok (.bipush 69, 2) := by decide +kernel
theorem dX7_wellOf_12 : decode cX7_wellOf 12 = .ok (.iaload, 1) := by decide +kernel
theorem dX7_wellOf_13 : decode cX7_wellOf 13 = .ok (.if_icmp .ge 36, 3) := by decide +kernel
theorem dX7_wellOf_16 : decode cX7_wellOf 16 = .ok (.iload_n 1, 1) := by decide +kernel
theorem dX7_wellOf_17 : decode cX7_wellOf 17 = .ok (.iload_n 3, 1) := by decide +kernel
theorem dX7_wellOf_18 : decode cX7_wellOf 18 = .ok (.ishr, 1) := by decide +kernel
theorem dX7_wellOf_19 : decode cX7_wellOf 19 = .ok (.iconst 1, 1) := by decide +kernel
theorem dX7_wellOf_20 : decode cX7_wellOf 20 = .ok (.iand, 1) := by decide +kernel
theorem dX7_wellOf_21 : decode cX7_wellOf 21 = .ok (.iconst 1, 1) := by decide +kernel
theorem dX7_wellOf_22 : decode cX7_wellOf 22 = .ok (.if_icmp .ne 19, 3) := by decide +kernel
theorem dX7_wellOf_25 : decode cX7_wellOf 25 = .ok (.iload_n 2, 1) := by decide +kernel
theorem dX7_wellOf_26 : decode cX7_wellOf 26 = .ok (.bipush 100, 2) := by decide +kernel
theorem dX7_wellOf_28 : decode cX7_wellOf 28 = .ok (.aload_n 0, 1) := by decide +kernel
theorem dX7_wellOf_29 : decode cX7_wellOf 29 = .ok (.iload_n 3, 1) := by decide +kernel
theorem dX7_wellOf_30 : decode cX7_wellOf 30 = .ok (.invokevirtual 158, 3) := by decide +kernel
theorem dX7_wellOf_33 : decode cX7_wellOf 33 = .ok (.isub, 1) := by decide +kernel
theorem dX7_wellOf_34 : decode cX7_wellOf 34 = .ok (.imul, 1) := by decide +kernel
theorem dX7_wellOf_35 : decode cX7_wellOf 35 = .ok (.bipush 100, 2) := by decide +kernel
theorem dX7_wellOf_37 : decode cX7_wellOf 37 = .ok (.idiv, 1) := by decide +kernel
theorem dX7_wellOf_38 : decode cX7_wellOf 38 = .ok (.goto 4, 3) := by decide +kernel
theorem dX7_wellOf_41 : decode cX7_wellOf 41 = .ok (.iload_n 2, 1) := by decide +kernel
theorem dX7_wellOf_42 : decode cX7_wellOf 42 = .ok (.istore_n 2, 1) := by decide +kernel
theorem dX7_wellOf_43 : decode cX7_wellOf 43 = .ok (.iinc 3 1, 3) := by decide +kernel
theorem dX7_wellOf_46 : decode cX7_wellOf 46 = .ok (.goto (-41), 3) := by decide +kernel
theorem dX7_wellOf_49 : decode cX7_wellOf 49 = .ok (.iload_n 2, 1) := by decide +kernel
theorem dX7_wellOf_50 : decode cX7_wellOf 50 = .ok (.ireturn, 1) := by decide +kernel
theorem dX7_areRingers_0 : decode cX7_areRingers 0 = .ok (.iload_n 1, 1) := by decide +kernel
theorem dX7_areRingers_1 : decode cX7_areRingers 1 = .ok (.ifCond .lt 20, 3) := by decide +kernel
theorem dX7_areRingers_4 : decode cX7_areRingers 4 = .ok (.iload_n 1, 1) := by decide +kernel
theorem dX7_areRingers_5 : decode cX7_areRingers 5 = .ok (.iconst 1, 1) := by decide +kernel
theorem dX7_areRingers_6 : decode cX7_areRingers 6 = .ok (.aload_n 0, 1) := by decide +kernel
theorem dX7_areRingers_7 : decode cX7_areRingers 7 = .ok (.getfield 13, 3) := by decide +kernel
theorem dX7_areRingers_10 : decode cX7_areRingers 10 = .ok (.bipush 69, 2) := by decide +kernel
theorem dX7_areRingers_12 : decode cX7_areRingers 12 = .ok (.iaload, 1) := by decide +kernel
theorem dX7_areRingers_13 : decode cX7_areRingers 13 = .ok (.ishl, 1) := by decide +kernel
theorem dX7_areRingers_14 : decode cX7_areRingers 14 = .ok (.if_icmp .ge 7, 3) := by decide +kernel
theorem dX7_areRingers_17 : decode cX7_areRingers 17 = .ok (.iconst 1, 1) := by decide +kernel
theorem dX7_areRingers_18 : decode cX7_areRingers 18 = .ok (.goto 4, 3) := by decide +kernel
theorem dX7_areRingers_21 : decode cX7_areRingers 21 = .ok (.iconst 0, 1) := by decide +kernel
theorem dX7_areRingers_22 : decode cX7_areRingers 22 = .ok (.ireturn, 1) := by decide +kernel
theorem dX7_well_0 : decode cX7_well 0 = .ok (.aload_n 0, 1) := by decide +kernel
theorem dX7_well_1 : decode cX7_well 1 = .ok (.iload_n 1, 1) := by decide +kernel
theorem dX7_well_2 : decode cX7_well 2 = .ok (.invokevirtual 162, 3) := by decide +kernel
theorem dX7_well_5 : decode cX7_well 5 = .ok (.ifCond .eq 11, 3) := by decide +kernel
theorem dX7_well_8 : decode cX7_well 8 = .ok (.aload_n 0, 1) := by decide +kernel
theorem dX7_well_9 : decode cX7_well 9 = .ok (.iload_n 1, 1) := by decide +kernel
theorem dX7_well_10 : decode cX7_well 10 = .ok (.invokevirtual 165, 3) := by decide +kernel
theorem dX7_well_13 : decode cX7_well 13 = .ok (.goto 9, 3) := by decide +kernel
theorem dX7_well_16 : decode cX7_well 16 = .ok (.aload_n 0, 1) := by decide +kernel
theorem dX7_well_17 : decode cX7_well 17 = .ok (.bipush (-2), 2) := by decide +kernel
theorem dX7_well_19 : decode cX7_well 19 = .ok (.invokevirtual 81, 3) := by decide +kernel
theorem dX7_well_22 : decode cX7_well 22 = .ok (.ireturn, 1) := by decide +kernel
theorem dX7_once_0 : decode cX7_once 0 = .ok (.aload_n 0, 1) := by decide +kernel
theorem dX7_once_1 : decode cX7_once 1 = .ok (.iload_n 1, 1) := by decide +kernel
theorem dX7_once_2 : decode cX7_once 2 = .ok (.invokevirtual 162, 3) := by decide +kernel
theorem dX7_once_5 : decode cX7_once 5 = .ok (.ifCond .ne 10, 3) := by decide +kernel
theorem dX7_once_8 : decode cX7_once 8 = .ok (.aload_n 0, 1) := by decide +kernel
theorem dX7_once_9 : decode cX7_once 9 = .ok (.bipush (-2), 2) := by decide +kernel
theorem dX7_once_11 : decode cX7_once 11 = .ok (.invokevirtual 81, 3) := by decide +kernel
theorem dX7_once_14 : decode cX7_once 14 = .ok (.ireturn, 1) := by decide +kernel
theorem dX7_once_15 : decode cX7_once 15 = .ok (.iconst 0, 1) := by decide +kernel
theorem dX7_once_16 : decode cX7_once 16 = .ok (.istore_n 2, 1) := by decide +kernel
theorem dX7_once_17 : decode cX7_once 17 = .ok (.iconst 0, 1) := by decide +kernel
theorem dX7_once_18 : decode cX7_once 18 = .ok (.istore_n 3, 1) := by decide +kernel
theorem dX7_once_19 : decode cX7_once 19 = .ok (.iload_n 3, 1) := by decide +kernel
theorem dX7_once_20 : decode cX7_once 20 = .ok (.aload_n 0, 1) := by decide +kernel
theorem dX7_once_21 : decode cX7_once 21 = .ok (.getfield 13, 3) := by decide +kernel
theorem dX7_once_24 : decode cX7_once 24 = .ok (.bipush 69, 2) := by decide +kernel
theorem dX7_once_26 : decode cX7_once 26 = .ok (.iaload, 1) := by decide +kernel
theorem dX7_once_27 : decode cX7_once 27 = .ok (.if_icmp .ge 45, 3) := by decide +kernel
theorem dX7_once_30 : decode cX7_once 30 = .ok (.iload_n 2, 1) := by decide +kernel
theorem dX7_once_31 : decode cX7_once 31 = .ok (.iload_n 1, 1) := by decide +kernel
theorem dX7_once_32 : decode cX7_once 32 = .ok (.iload_n 3, 1) := by decide +kernel
theorem dX7_once_33 : decode cX7_once 33 = .ok (.ishr, 1) := by decide +kernel
theorem dX7_once_34 : decode cX7_once 34 = .ok (.iconst 1, 1) := by decide +kernel
theorem dX7_once_35 : decode cX7_once 35 = .ok (.iand, 1) := by decide +kernel
theorem dX7_once_36 : decode cX7_once 36 = .ok (.iconst 1, 1) := by decide +kernel
theorem dX7_once_37 : decode cX7_once 37 = .ok (.if_icmp .ne 26, 3) := by decide +kernel
theorem dX7_once_40 : decode cX7_once 40 = .ok (.aload_n 0, 1) := by decide +kernel
theorem dX7_once_41 : decode cX7_once 41 = .ok (.iload_n 3, 1) := by decide +kernel
theorem dX7_once_42 : decode cX7_once 42 = .ok (.invokevirtual 158, 3) := by decide +kernel
theorem dX7_once_45 : decode cX7_once 45 = .ok (.aload_n 0, 1) := by decide +kernel
theorem dX7_once_46 : decode cX7_once 46 = .ok (.iload_n 1, 1) := by decide +kernel
theorem dX7_once_47 : decode cX7_once 47 = .ok (.iconst 1, 1) := by decide +kernel
theorem dX7_once_48 : decode cX7_once 48 = .ok (.iload_n 3, 1) := by decide +kernel
theorem dX7_once_49 : decode cX7_once 49 = .ok (.ishl, 1) := by decide +kernel
theorem dX7_once_50 : decode cX7_once 50 = .ok (.iconst (-1), 1) := by decide +kernel
theorem dX7_once_51 : decode cX7_once 51 = .ok (.ixor, 1) := by decide +kernel
theorem dX7_once_52 : decode cX7_once 52 = .ok (.iand, 1) := by decide +kernel
theorem dX7_once_53 : decode cX7_once 53 = .ok (.invokevirtual 165, 3) := by decide +kernel
theorem dX7_once_56 : decode cX7_once 56 = .ok (.imul, 1) := by decide +kernel
theorem dX7_once_57 : decode cX7_once 57 = .ok (.bipush 100, 2) := by decide +kernel
theorem dX7_once_59 : decode cX7_once 59 = .ok (.idiv, 1) := by decide +kernel
theorem dX7_once_60 : decode cX7_once 60 = .ok (.goto 4, 3) := by decide +kernel
theorem dX7_once_63 : decode cX7_once 63 = .ok (.iconst 0, 1) := by decide +kernel
theorem dX7_once_64 : decode cX7_once 64 = .ok (.iadd, 1) := by decide +kernel
theorem dX7_once_65 : decode cX7_once 65 = .ok (.istore_n 2, 1) := by decide +kernel
theorem dX7_once_66 : decode cX7_once 66 = .ok (.iinc 3 1, 3) := by decide +kernel
theorem dX7_once_69 : decode cX7_once 69 = .ok (.goto (-50), 3) := by decide +kernel
theorem dX7_once_72 : decode cX7_once 72 = .ok (.iload_n 2, 1) := by decide +kernel
theorem dX7_once_73 : decode cX7_once 73 = .ok (.ireturn, 1) := by decide +kernel
theorem dX7_mayBits_0 : decode cX7_mayBits 0 = .ok (.iconst 0, 1) := by decide +kernel
theorem dX7_mayBits_1 : decode cX7_mayBits 1 = .ok (.istore_n 2, 1) := by decide +kernel
theorem dX7_mayBits_2 : decode cX7_mayBits 2 = .ok (.iconst 0, 1) := by decide +kernel
theorem dX7_mayBits_3 : decode cX7_mayBits 3 = .ok (.istore_n 3, 1) := by decide +kernel
theorem dX7_mayBits_4 : decode cX7_mayBits 4 = .ok (.iload_n 3, 1) := by decide +kernel
theorem dX7_mayBits_5 : decode cX7_mayBits 5 = .ok (.aload_n 0, 1) := by decide +kernel
theorem dX7_mayBits_6 : decode cX7_mayBits 6 = .ok (.invokevirtual 57, 3) := by decide +kernel
theorem dX7_mayBits_9 : decode cX7_mayBits 9 = .ok (.if_icmp .ge 28, 3) := by decide +kernel
theorem dX7_mayBits_12 : decode cX7_mayBits 12 = .ok (.iload_n 2, 1) := by decide +kernel
theorem dX7_mayBits_13 : decode cX7_mayBits 13 = .ok (.aload_n 0, 1) := by decide +kernel
theorem dX7_mayBits_14 : decode cX7_mayBits 14 = .ok (.iload_n 3, 1) := by decide +kernel
theorem dX7_mayBits_15 : decode cX7_mayBits 15 = .ok (.invokevirtual 138, 3) := by decide +kernel
theorem dX7_mayBits_18 : decode cX7_mayBits 18 = .ok (.iload_n 1, 1) := by decide +kernel
theorem dX7_mayBits_19 : decode cX7_mayBits 19 = .ok (.if_icmp .ne 9, 3) := by decide +kernel
theorem dX7_mayBits_22 : decode cX7_mayBits 22 = .ok (.iconst 1, 1) := by decide +kernel
theorem dX7_mayBits_23 : decode cX7_mayBits 23 = .ok (.iload_n 3, 1) := by decide +kernel
theorem dX7_mayBits_24 : decode cX7_mayBits 24 = .ok (.ishl, 1) := by decide +kernel
theorem dX7_mayBits_25 : decode cX7_mayBits 25 = .ok (.goto 4, 3) := by decide +kernel
theorem dX7_mayBits_28 : decode cX7_mayBits 28 = .ok (.iconst 0, 1) := by decide +kernel
theorem dX7_mayBits_29 : decode cX7_mayBits 29 = .ok (.ior, 1) := by decide +kernel
theorem dX7_mayBits_30 : decode cX7_mayBits 30 = .ok (.istore_n 2, 1) := by decide +kernel
theorem dX7_mayBits_31 : decode cX7_mayBits 31 = .ok (.iinc 3 1, 3) := by decide +kernel
theorem dX7_mayBits_34 : decode cX7_mayBits 34 = .ok (.goto (-30), 3) := by decide +kernel
theorem dX7_mayBits_37 : decode cX7_mayBits 37 = .ok (.iload_n 2, 1) := by decide +kernel
theorem dX7_mayBits_38 : decode cX7_mayBits 38 = .ok (.ireturn, 1) := by decide +kernel
theorem dX7_all_0 : decode cX7_all 0 = .ok (.iload_n 1, 1) := by decide +kernel
theorem dX7_all_1 : decode cX7_all 1 = .ok (.tableswitch 70 0 4 #[35, 44, 53, 58, 64], 35) := by decide +kernel
theorem dX7_all_36 : decode cX7_all 36 = .ok (.aload_n 0, 1) := by decide +kernel
theorem dX7_all_37 : decode cX7_all 37 = .ok (.aload_n 0, 1) := by decide +kernel
theorem dX7_all_38 : decode cX7_all 38 = .ok (.invokevirtual 135, 3) := by decide +kernel
theorem dX7_all_41 : decode cX7_all 41 = .ok (.invokevirtual 65, 3) := by decide +kernel
theorem dX7_all_44 : decode cX7_all 44 = .ok (.ireturn, 1) := by decide +kernel
theorem dX7_all_45 : decode cX7_all 45 = .ok (.aload_n 0, 1) := by decide +kernel
theorem dX7_all_46 : decode cX7_all 46 = .ok (.aload_n 0, 1) := by decide +kernel
theorem dX7_all_47 : decode cX7_all 47 = .ok (.invokevirtual 135, 3) := by decide +kernel
theorem dX7_all_50 : decode cX7_all 50 = .ok (.invokevirtual 168, 3) := by decide +kernel
theorem dX7_all_53 : decode cX7_all 53 = .ok (.ireturn, 1) := by decide +kernel
theorem dX7_all_54 : decode cX7_all 54 = .ok (.aload_n 0, 1) := by decide +kernel
theorem dX7_all_55 : decode cX7_all 55 = .ok (.invokevirtual 135, 3) := by decide +kernel
theorem dX7_all_58 : decode cX7_all 58 = .ok (.ireturn, 1) := by decide +kernel
theorem dX7_all_59 : decode cX7_all 59 = .ok (.aload_n 0, 1) := by decide +kernel
theorem dX7_all_60 : decode cX7_all 60 = .ok (.iconst 1, 1) := by decide +kernel
theorem dX7_all_61 : decode cX7_all 61 = .ok (.invokevirtual 171, 3) := by decide +kernel
theorem dX7_all_64 : decode cX7_all 64 = .ok (.ireturn, 1) := by decide +kernel
theorem dX7_all_65 : decode cX7_all 65 = .ok (.aload_n 0, 1) := by decide +kernel
theorem dX7_all_66 : decode cX7_all 66 = .ok (.iconst 2, 1) := by decide +kernel
theorem dX7_all_67 : decode cX7_all 67 = .ok (.invokevirtual 171, 3) := by decide +kernel
theorem dX7_all_70 : decode cX7_all 70 = .ok (.ireturn, 1) := by decide +kernel
theorem dX7_all_71 : decode cX7_all 71 = .ok (.aload_n 0, 1) := by decide +kernel
theorem dX7_all_72 : decode cX7_all 72 = .ok (.bipush (-2), 2) := by decide +kernel
theorem dX7_all_74 : decode cX7_all 74 = .ok (.invokevirtual 81, 3) := by decide +kernel
theorem dX7_all_77 : decode cX7_all 77 = .ok (.ireturn, 1) := by decide +kernel
theorem dX7_offBy_0 : decode cX7_offBy 0 = .ok (.aload_n 0, 1) := by decide +kernel
theorem dX7_offBy_1 : decode cX7_offBy 1 = .ok (.aload_n 0, 1) := by decide +kernel
theorem dX7_offBy_2 : decode cX7_offBy 2 = .ok (.invokevirtual 135, 3) := by decide +kernel
theorem dX7_offBy_5 : decode cX7_offBy 5 = .ok (.invokevirtual 65, 3) := by decide +kernel
theorem dX7_offBy_8 : decode cX7_offBy 8 = .ok (.aload_n 0, 1) := by decide +kernel
theorem dX7_offBy_9 : decode cX7_offBy 9 = .ok (.aload_n 0, 1) := by decide +kernel
theorem dX7_offBy_10 : decode cX7_offBy 10 = .ok (.invokevirtual 135, 3) := by decide +kernel
theorem dX7_offBy_13 : decode cX7_offBy 13 = .ok (.iconst 1, 1) := by decide +kernel
theorem dX7_offBy_14 : decode cX7_offBy 14 = .ok (.iload_n 1, 1) := by decide +kernel
theorem dX7_offBy_15 : decode cX7_offBy 15 = .ok (.ishl, 1) := by decide +kernel
theorem dX7_offBy_16 : decode cX7_offBy 16 = .ok (.iconst (-1), 1) := by decide +kernel
theorem dX7_offBy_17 : decode cX7_offBy 17 = .ok (.ixor, 1) := by decide +kernel
theorem dX7_offBy_18 : decode cX7_offBy 18 = .ok (.iand, 1) := by decide +kernel
theorem dX7_offBy_19 : decode cX7_offBy 19 = .ok (.invokevirtual 65, 3) := by decide +kernel
theorem dX7_offBy_22 : decode cX7_offBy 22 = .ok (.iconst (-1), 1) := by decide +kernel
theorem dX7_offBy_23 : decode cX7_offBy 23 = .ok (.ixor, 1) := by decide +kernel
theorem dX7_offBy_24 : decode cX7_offBy 24 = .ok (.iand, 1) := by decide +kernel
theorem dX7_offBy_25 : decode cX7_offBy 25 = .ok (.ireturn, 1) := by decide +kernel
theorem dX7_off_0 : decode cX7_off 0 = .ok (.aload_n 0, 1) := by decide +kernel
theorem dX7_off_1 : decode cX7_off 1 = .ok (.iload_n 1, 1) := by decide +kernel
theorem dX7_off_2 : decode cX7_off 2 = .ok (.invokevirtual 90, 3) := by decide +kernel
theorem dX7_off_5 : decode cX7_off 5 = .ok (.ifCond .eq 11, 3) := by decide +kernel
theorem dX7_off_8 : decode cX7_off 8 = .ok (.aload_n 0, 1) := by decide +kernel
theorem dX7_off_9 : decode cX7_off 9 = .ok (.iload_n 1, 1) := by decide +kernel
theorem dX7_off_10 : decode cX7_off 10 = .ok (.invokevirtual 174, 3) := by decide +kernel
theorem dX7_off_13 : decode cX7_off 13 = .ok (.goto 9, 3) := by decide +kernel
theorem dX7_off_16 : decode cX7_off 16 = .ok (.aload_n 0, 1) := by decide +kernel
theorem dX7_off_17 : decode cX7_off 17 = .ok (.bipush (-2), 2) := by decide +kernel
theorem dX7_off_19 : decode cX7_off 19 = .ok (.invokevirtual 81, 3) := by decide +kernel
theorem dX7_off_22 : decode cX7_off 22 = .ok (.ireturn, 1) := by decide +kernel
theorem dX7_downOf_0 : decode cX7_downOf 0 = .ok (.aload_n 0, 1) := by decide +kernel
theorem dX7_downOf_1 : decode cX7_downOf 1 = .ok (.iload_n 1, 1) := by decide +kernel
theorem dX7_downOf_2 : decode cX7_downOf 2 = .ok (.iconst 2, 1) := by decide +kernel
theorem dX7_downOf_3 : decode cX7_downOf 3 = .ok (.invokevirtual 53, 3) := by decide +kernel
theorem dX7_downOf_6 : decode cX7_downOf 6 = .ok (.istore_n 2, 1) := by decide +kernel
theorem dX7_downOf_7 : decode cX7_downOf 7 = .ok (.iload_n 1, 1) := by decide +kernel
theorem dX7_downOf_8 : decode cX7_downOf 8 = .ok (.iconst 1, 1) := by decide +kernel
theorem dX7_downOf_9 : decode cX7_downOf 9 = .ok (.isub, 1) := by decide +kernel
theorem dX7_downOf_10 : decode cX7_downOf 10 = .ok (.istore_n 3, 1) := by decide +kernel
theorem dX7_downOf_11 : decode cX7_downOf 11 = .ok (.iload_n 3, 1) := by decide +kernel
theorem dX7_downOf_12 : decode cX7_downOf 12 = .ok (.ifCond .lt 31, 3) := by decide +kernel
theorem dX7_downOf_15 : decode cX7_downOf 15 = .ok (.iload_n 2, 1) := by decide +kernel
theorem dX7_downOf_16 : decode cX7_downOf 16 = .ok (.iload_n 2, 1) := by decide +kernel
theorem dX7_downOf_17 : decode cX7_downOf 17 = .ok (.iload_n 3, 1) := by decide +kernel
theorem dX7_downOf_18 : decode cX7_downOf 18 = .ok (.ishr, 1) := by decide +kernel
theorem dX7_downOf_19 : decode cX7_downOf 19 = .ok (.iconst 1, 1) := by decide +kernel
theorem dX7_downOf_20 : decode cX7_downOf 20 = .ok (.iand, 1) := by decide +kernel
theorem dX7_downOf_21 : decode cX7_downOf 21 = .ok (.iconst 1, 1) := by decide +kernel
theorem dX7_downOf_22 : decode cX7_downOf 22 = .ok (.if_icmp .ne 12, 3) := by decide +kernel
theorem dX7_downOf_25 : decode cX7_downOf 25 = .ok (.aload_n 0, 1) := by decide +kernel
theorem dX7_downOf_26 : decode cX7_downOf 26 = .ok (.iload_n 3, 1) := by decide +kernel
theorem dX7_downOf_27 : decode cX7_downOf 27 = .ok (.iconst 2, 1) := by decide +kernel
theorem dX7_downOf_28 : decode cX7_downOf 28 = .ok (.invokevirtual 53, 3) := by decide +kernel
theorem dX7_downOf_31 : decode cX7_downOf 31 = .ok (.goto 4, 3) := by decide +kernel
theorem dX7_downOf_34 : decode cX7_downOf 34 = .ok (.iconst 0, 1) := by decide +kernel
theorem dX7_downOf_35 : decode cX7_downOf 35 = .ok (.ior, 1) := by decide +kernel
theorem dX7_downOf_36 : decode cX7_downOf 36 = .ok (.istore_n 2, 1) := by decide +kernel
theorem dX7_downOf_37 : decode cX7_downOf 37 = .ok (.iinc 3 (-1), 3) := by decide +kernel
theorem dX7_downOf_40 : decode cX7_downOf 40 = .ok (.goto (-29), 3) := by decide +kernel
theorem dX7_downOf_43 : decode cX7_downOf 43 = .ok (.iload_n 2, 1) := by decide +kernel
theorem dX7_downOf_44 : decode cX7_downOf 44 = .ok (.ireturn, 1) := by decide +kernel
theorem dX7_down_0 : decode cX7_down 0 = .ok (.aload_n 0, 1) := by decide +kernel
theorem dX7_down_1 : decode cX7_down 1 = .ok (.iload_n 1, 1) := by decide +kernel
theorem dX7_down_2 : decode cX7_down 2 = .ok (.invokevirtual 90, 3) := by decide +kernel
theorem dX7_down_5 : decode cX7_down 5 = .ok (.ifCond .eq 11, 3) := by decide +kernel
theorem dX7_down_8 : decode cX7_down 8 = .ok (.aload_n 0, 1) := by decide +kernel
theorem dX7_down_9 : decode cX7_down 9 = .ok (.iload_n 1, 1) := by decide +kernel
theorem dX7_down_10 : decode cX7_down 10 = .ok (.invokevirtual 177, 3) := by decide +kernel
theorem dX7_down_13 : decode cX7_down 13 = .ok (.goto 9, 3) := by decide +kernel
theorem dX7_down_16 : decode cX7_down 16 = .ok (.aload_n 0, 1) := by decide +kernel
theorem dX7_down_17 : decode cX7_down 17 = .ok (.bipush (-2), 2) := by decide +kernel
theorem dX7_down_19 : decode cX7_down 19 = .ok (.invokevirtual 81, 3) := by decide +kernel
theorem dX7_down_22 : decode cX7_down 22 = .ok (.ireturn, 1) := by decide +kernel
theorem dX7_up_0 : decode cX7_up 0 = .ok (.aload_n 0, 1) := by decide +kernel
theorem dX7_up_1 : decode cX7_up 1 = .ok (.iload_n 1, 1) := by decide +kernel
theorem dX7_up_2 : decode cX7_up 2 = .ok (.invokevirtual 90, 3) := by decide +kernel
theorem dX7_up_5 : decode cX7_up 5 = .ok (.ifCond .ne 10, 3) := by decide +kernel
theorem dX7_up_8 : decode cX7_up 8 = .ok (.aload_n 0, 1) := by decide +kernel
theorem dX7_up_9 : decode cX7_up 9 = .ok (.bipush (-2), 2) := by decide +kernel
theorem dX7_up_11 : decode cX7_up 11 = .ok (.invokevirtual 81, 3) := by decide +kernel
theorem dX7_up_14 : decode cX7_up 14 = .ok (.ireturn, 1) := by decide +kernel
theorem dX7_up_15 : decode cX7_up 15 = .ok (.iconst 0, 1) := by decide +kernel
theorem dX7_up_16 : decode cX7_up 16 = .ok (.istore_n 2, 1) := by decide +kernel
theorem dX7_up_17 : decode cX7_up 17 = .ok (.iconst 0, 1) := by decide +kernel
theorem dX7_up_18 : decode cX7_up 18 = .ok (.istore_n 3, 1) := by decide +kernel
theorem dX7_up_19 : decode cX7_up 19 = .ok (.iload_n 3, 1) := by decide +kernel
theorem dX7_up_20 : decode cX7_up 20 = .ok (.aload_n 0, 1) := by decide +kernel
theorem dX7_up_21 : decode cX7_up 21 = .ok (.invokevirtual 57, 3) := by decide +kernel
theorem dX7_up_24 : decode cX7_up 24 = .ok (.if_icmp .ge 32, 3) := by decide +kernel
theorem dX7_up_27 : decode cX7_up 27 = .ok (.iload_n 2, 1) := by decide +kernel
theorem dX7_up_28 : decode cX7_up 28 = .ok (.aload_n 0, 1) := by decide +kernel
theorem dX7_up_29 : decode cX7_up 29 = .ok (.iload_n 3, 1) := by decide +kernel
theorem dX7_up_30 : decode cX7_up 30 = .ok (.invokevirtual 177, 3) := by decide +kernel
theorem dX7_up_33 : decode cX7_up 33 = .ok (.iload_n 1, 1) := by decide +kernel
theorem dX7_up_34 : decode cX7_up 34 = .ok (.ishr, 1) := by decide +kernel
theorem dX7_up_35 : decode cX7_up 35 = .ok (.iconst 1, 1) := by decide +kernel
theorem dX7_up_36 : decode cX7_up 36 = .ok (.iand, 1) := by decide +kernel
theorem dX7_up_37 : decode cX7_up 37 = .ok (.iconst 1, 1) := by decide +kernel
theorem dX7_up_38 : decode cX7_up 38 = .ok (.if_icmp .ne 9, 3) := by decide +kernel
theorem dX7_up_41 : decode cX7_up 41 = .ok (.iconst 1, 1) := by decide +kernel
theorem dX7_up_42 : decode cX7_up 42 = .ok (.iload_n 3, 1) := by decide +kernel
theorem dX7_up_43 : decode cX7_up 43 = .ok (.ishl, 1) := by decide +kernel
theorem dX7_up_44 : decode cX7_up 44 = .ok (.goto 4, 3) := by decide +kernel
theorem dX7_up_47 : decode cX7_up 47 = .ok (.iconst 0, 1) := by decide +kernel
theorem dX7_up_48 : decode cX7_up 48 = .ok (.ior, 1) := by decide +kernel
theorem dX7_up_49 : decode cX7_up 49 = .ok (.istore_n 2, 1) := by decide +kernel
theorem dX7_up_50 : decode cX7_up 50 = .ok (.iinc 3 1, 3) := by decide +kernel
theorem dX7_up_53 : decode cX7_up 53 = .ok (.goto (-34), 3) := by decide +kernel
theorem dX7_up_56 : decode cX7_up 56 = .ok (.iload_n 2, 1) := by decide +kernel
theorem dX7_up_57 : decode cX7_up 57 = .ok (.ireturn, 1) := by decide +kernel
theorem dX7_to_0 : decode cX7_to 0 = .ok (.aload_n 0, 1) := by decide +kernel
theorem dX7_to_1 : decode cX7_to 1 = .ok (.iload_n 1, 1) := by decide +kernel
theorem dX7_to_2 : decode cX7_to 2 = .ok (.invokevirtual 180, 3) := by decide +kernel
theorem dX7_to_5 : decode cX7_to 5 = .ok (.ifCond .ne 10, 3) := by decide +kernel
theorem dX7_to_8 : decode cX7_to 8 = .ok (.aload_n 0, 1) := by decide +kernel
theorem dX7_to_9 : decode cX7_to 9 = .ok (.bipush (-2), 2) := by decide +kernel
theorem dX7_to_11 : decode cX7_to 11 = .ok (.invokevirtual 81, 3) := by decide +kernel
theorem dX7_to_14 : decode cX7_to 14 = .ok (.ireturn, 1) := by decide +kernel
theorem dX7_to_15 : decode cX7_to 15 = .ok (.aload_n 0, 1) := by decide +kernel
theorem dX7_to_16 : decode cX7_to 16 = .ok (.invokevirtual 135, 3) := by decide +kernel
theorem dX7_to_19 : decode cX7_to 19 = .ok (.istore_n 2, 1) := by decide +kernel
theorem dX7_to_20 : decode cX7_to 20 = .ok (.iconst (-1), 1) := by decide +kernel
theorem dX7_to_21 : decode cX7_to 21 = .ok (.istore_n 3, 1) := by decide +kernel
theorem dX7_to_22 : decode cX7_to 22 = .ok (.iconst 0, 1) := by decide +kernel
theorem dX7_to_23 : decode cX7_to 23 = .ok (.istore 4, 2) := by decide +kernel
theorem dX7_to_25 : decode cX7_to 25 = .ok (.iload 4, 2) := by decide +kernel
theorem dX7_to_27 : decode cX7_to 27 = .ok (.iconst 1, 1) := by decide +kernel
theorem dX7_to_28 : decode cX7_to 28 = .ok (.aload_n 0, 1) := by decide +kernel
theorem dX7_to_29 : decode cX7_to 29 = .ok (.invokevirtual 57, 3) := by decide +kernel
theorem dX7_to_32 : decode cX7_to 32 = .ok (.ishl, 1) := by decide +kernel
theorem dX7_to_33 : decode cX7_to 33 = .ok (.if_icmp .ge 44, 3) := by decide +kernel
theorem dX7_to_36 : decode cX7_to 36 = .ok (.iload 4, 2) := by decide +kernel
theorem dX7_to_38 : decode cX7_to 38 = .ok (.iload_n 2, 1) := by decide +kernel
theorem dX7_to_39 : decode cX7_to 39 = .ok (.iconst (-1), 1) := by decide +kernel
theorem dX7_to_40 : decode cX7_to 40 = .ok (.ixor, 1) := by decide +kernel
theorem dX7_to_41 : decode cX7_to 41 = .ok (.iand, 1) := by decide +kernel
theorem dX7_to_42 : decode cX7_to 42 = .ok (.ifCond .ne 29, 3) := by decide +kernel
theorem dX7_to_45 : decode cX7_to 45 = .ok (.iload 4, 2) := by decide +kernel
theorem dX7_to_47 : decode cX7_to 47 = .ok (.iload_n 3, 1) := by decide +kernel
theorem dX7_to_48 : decode cX7_to 48 = .ok (.invokestatic 183, 3) := by decide +kernel
theorem dX7_to_51 : decode cX7_to 51 = .ok (.ifCond .eq 20, 3) := by decide +kernel
theorem dX7_to_54 : decode cX7_to 54 = .ok (.aload_n 0, 1) := by decide +kernel
theorem dX7_to_55 : decode cX7_to 55 = .ok (.iload_n 2, 1) := by decide +kernel
theorem dX7_to_56 : decode cX7_to 56 = .ok (.iload 4, 2) := by decide +kernel
theorem dX7_to_58 : decode cX7_to 58 = .ok (.iconst (-1), 1) := by decide +kernel
theorem dX7_to_59 : decode cX7_to 59 = .ok (.ixor, 1) := by decide +kernel
theorem dX7_to_60 : decode cX7_to 60 = .ok (.iand, 1) := by decide +kernel
theorem dX7_to_61 : decode cX7_to 61 = .ok (.invokevirtual 65, 3) := by decide +kernel
theorem dX7_to_64 : decode cX7_to 64 = .ok (.iload_n 1, 1) := by decide +kernel
theorem dX7_to_65 : decode cX7_to 65 = .ok (.if_icmp .ne 6, 3) := by decide +kernel
theorem dX7_to_68 : decode cX7_to 68 = .ok (.iload 4, 2) := by decide +kernel
theorem dX7_to_70 : decode cX7_to 70 = .ok (.istore_n 3, 1) := by decide +kernel
theorem dX7_to_71 : decode cX7_to 71 = .ok (.iinc 4 1, 3) := by decide +kernel
theorem dX7_to_74 : decode cX7_to 74 = .ok (.goto (-49), 3) := by decide +kernel
theorem dX7_to_77 : decode cX7_to 77 = .ok (.iload_n 3, 1) := by decide +kernel
theorem dX7_to_78 : decode cX7_to 78 = .ok (.ireturn, 1) := by decide +kernel
theorem dX7_unsay_0 : decode cX7_unsay 0 = .ok (.aload_n 0, 1) := by decide +kernel
theorem dX7_unsay_1 : decode cX7_unsay 1 = .ok (.iload_n 1, 1) := by decide +kernel
theorem dX7_unsay_2 : decode cX7_unsay 2 = .ok (.invokevirtual 180, 3) := by decide +kernel
theorem dX7_unsay_5 : decode cX7_unsay 5 = .ok (.ifCond .ne 10, 3) := by decide +kernel
theorem dX7_unsay_8 : decode cX7_unsay 8 = .ok (.aload_n 0, 1) := by decide +kernel
theorem dX7_unsay_9 : decode cX7_unsay 9 = .ok (.bipush (-2), 2) := by decide +kernel
theorem dX7_unsay_11 : decode cX7_unsay 11 = .ok (.invokevirtual 81, 3) := by decide +kernel
theorem dX7_unsay_14 : decode cX7_unsay 14 = .ok (.ireturn, 1) := by decide +kernel
theorem dX7_unsay_15 : decode cX7_unsay 15 = .ok (.aload_n 0, 1) := by decide +kernel
theorem dX7_unsay_16 : decode cX7_unsay 16 = .ok (.invokevirtual 135, 3) := by decide +kernel
theorem dX7_unsay_19 : decode cX7_unsay 19 = .ok (.istore_n 2, 1) := by decide +kernel
theorem dX7_unsay_20 : decode cX7_unsay 20 = .ok (.iconst (-1), 1) := by decide +kernel
theorem dX7_unsay_21 : decode cX7_unsay 21 = .ok (.istore_n 3, 1) := by decide +kernel
theorem dX7_unsay_22 : decode cX7_unsay 22 = .ok (.iconst (-1), 1) := by decide +kernel
theorem dX7_unsay_23 : decode cX7_unsay 23 = .ok (.istore 4, 2) := by decide +kernel
theorem dX7_unsay_25 : decode cX7_unsay 25 = .ok (.iconst 0, 1) := by decide +kernel
theorem dX7_unsay_26 : decode cX7_unsay 26 = .ok (.istore 5, 2) := by decide +kernel
theorem dX7_unsay_28 : decode cX7_unsay 28 = .ok (.iload 5, 2) := by decide +kernel
theorem dX7_unsay_30 : decode cX7_unsay 30 = .ok (.iconst 1, 1) := by decide +kernel
theorem dX7_unsay_31 : decode cX7_unsay 31 = .ok (.aload_n 0, 1) := by decide +kernel
theorem dX7_unsay_32 : decode cX7_unsay 32 = .ok (.invokevirtual 57, 3) := by decide +kernel
theorem dX7_unsay_35 : decode cX7_unsay 35 = .ok (.ishl, 1) := by decide +kernel
theorem dX7_unsay_36 : decode cX7_unsay 36 = .ok (.if_icmp .ge 87, 3) := by decide +kernel
theorem dX7_unsay_39 : decode cX7_unsay 39 = .ok (.iload 5, 2) := by decide +kernel
theorem dX7_unsay_41 : decode cX7_unsay 41 = .ok (.iload_n 2, 1) := by decide +kernel
theorem dX7_unsay_42 : decode cX7_unsay 42 = .ok (.iconst (-1), 1) := by decide +kernel
theorem dX7_unsay_43 : decode cX7_unsay 43 = .ok (.ixor, 1) := by decide +kernel
theorem dX7_unsay_44 : decode cX7_unsay 44 = .ok (.iand, 1) := by decide +kernel
theorem dX7_unsay_45 : decode cX7_unsay 45 = .ok (.ifCond .ne 16, 3) := by decide +kernel
theorem dX7_unsay_48 : decode cX7_unsay 48 = .ok (.aload_n 0, 1) := by decide +kernel
theorem dX7_unsay_49 : decode cX7_unsay 49 = .ok (.iload_n 2, 1) := by decide +kernel
theorem dX7_unsay_50 : decode cX7_unsay 50 = .ok (.iload 5, 2) := by decide +kernel
theorem dX7_unsay_52 : decode cX7_unsay 52 = .ok (.iconst (-1), 1) := by decide +kernel
theorem dX7_unsay_53 : decode cX7_unsay 53 = .ok (.ixor, 1) := by decide +kernel
theorem dX7_unsay_54 : decode cX7_unsay 54 = .ok (.iand, 1) := by decide +kernel
theorem dX7_unsay_55 : decode cX7_unsay 55 = .ok (.invokevirtual 65, 3) := by decide +kernel
theorem dX7_unsay_58 : decode cX7_unsay 58 = .ok (.goto 4, 3) := by decide +kernel
theorem dX7_unsay_61 : decode cX7_unsay 61 = .ok (.iload_n 1, 1) := by decide +kernel
theorem dX7_unsay_62 : decode cX7_unsay 62 = .ok (.istore 6, 2) := by decide +kernel
theorem dX7_unsay_64 : decode cX7_unsay 64 = .ok (.iload 5, 2) := by decide +kernel
theorem dX7_unsay_66 : decode cX7_unsay 66 = .ok (.iload_n 2, 1) := by decide +kernel
theorem dX7_unsay_67 : decode cX7_unsay 67 = .ok (.iconst (-1), 1) := by decide +kernel
theorem dX7_unsay_68 : decode cX7_unsay 68 = .ok (.ixor, 1) := by decide +kernel
theorem dX7_unsay_69 : decode cX7_unsay 69 = .ok (.iand, 1) := by decide +kernel
theorem dX7_unsay_70 : decode cX7_unsay 70 = .ok (.ifCond .ne 47, 3) := by decide +kernel
theorem dX7_unsay_73 : decode cX7_unsay 73 = .ok (.iload 6, 2) := by decide +kernel
theorem dX7_unsay_75 : decode cX7_unsay 75 = .ok (.iload_n 1, 1) := by decide +kernel
theorem dX7_unsay_76 : decode cX7_unsay 76 = .ok (.iand, 1) := by decide +kernel
theorem dX7_unsay_77 : decode cX7_unsay 77 = .ok (.ifCond .ne 40, 3) := by decide +kernel
theorem dX7_unsay_80 : decode cX7_unsay 80 = .ok (.iload 6, 2) := by decide +kernel
theorem dX7_unsay_82 : decode cX7_unsay 82 = .ok (.invokestatic 72, 3) := by decide +kernel
theorem dX7_unsay_85 : decode cX7_unsay 85 = .ok (.istore 7, 2) := by decide +kernel
theorem dX7_unsay_87 : decode cX7_unsay 87 = .ok (.iload 7, 2) := by decide +kernel
theorem dX7_unsay_89 : decode cX7_unsay 89 = .ok (.iload 4, 2) := by decide +kernel
theorem dX7_unsay_91 : decode cX7_unsay 91 = .ok (.if_icmp .gt 19, 3) := by decide +kernel
theorem dX7_unsay_94 : decode cX7_unsay 94 = .ok (.iload 7, 2) := by decide +kernel
theorem dX7_unsay_96 : decode cX7_unsay 96 = .ok (.iload 4, 2) := by decide +kernel
theorem dX7_unsay_98 : decode cX7_unsay 98 = .ok (.if_icmp .ne 19, 3) := by decide +kernel
theorem dX7_unsay_101 : decode cX7_unsay 101 = .ok (.iload 5, 2) := by decide +kernel
theorem dX7_unsay_103 : decode cX7_unsay 103 = .ok (.iload_n 3, 1) := by decide +kernel
theorem dX7_unsay_104 : decode cX7_unsay 104 = .ok (.invokestatic 183, 3) := by decide +kernel
theorem dX7_unsay_107 : decode cX7_unsay 107 = .ok (.ifCond .eq 10, 3) := by decide +kernel
theorem dX7_unsay_110 : decode cX7_unsay 110 = .ok (.iload 5, 2) := by decide +kernel
theorem dX7_unsay_112 : decode cX7_unsay 112 = .ok (.istore_n 3, 1) := by decide +kernel
theorem dX7_unsay_113 : decode cX7_unsay 113 = .ok (.iload 7, 2) := by decide +kernel
theorem dX7_unsay_115 : decode cX7_unsay 115 = .ok (.istore 4, 2) := by decide +kernel
theorem dX7_unsay_117 : decode cX7_unsay 117 = .ok (.iinc 5 1, 3) := by decide +kernel
theorem dX7_unsay_120 : decode cX7_unsay 120 = .ok (.goto (-92), 3) := by decide +kernel
theorem dX7_unsay_123 : decode cX7_unsay 123 = .ok (.iload_n 3, 1) := by decide +kernel
theorem dX7_unsay_124 : decode cX7_unsay 124 = .ok (.ireturn, 1) := by decide +kernel
theorem dX7_untilAll_0 : decode cX7_untilAll 0 = .ok (.iconst 0, 1) := by decide +kernel
theorem dX7_untilAll_1 : decode cX7_untilAll 1 = .ok (.istore_n 2, 1) := by decide +kernel
theorem dX7_untilAll_2 : decode cX7_untilAll 2 = .ok (.iconst 0, 1) := by decide +kernel
theorem dX7_untilAll_3 : decode cX7_untilAll 3 = .ok (.istore_n 3, 1) := by decide +kernel
theorem dX7_untilAll_4 : decode cX7_untilAll 4 = .ok (.iload_n 3, 1) := by decide +kernel
theorem dX7_untilAll_5 : decode cX7_untilAll 5 = .ok (.aload_n 0, 1) := by decide +kernel
theorem dX7_untilAll_6 : decode cX7_untilAll 6 = .ok (.invokevirtual 57, 3) := by decide +kernel
theorem dX7_untilAll_9 : decode cX7_untilAll 9 = .ok (.if_icmp .ge 62, 3) := by decide +kernel
theorem dX7_untilAll_12 : decode cX7_untilAll 12 = .ok (.iload_n 1, 1) := by decide +kernel
theorem dX7_untilAll_13 : decode cX7_untilAll 13 = .ok (.iload_n 3, 1) := by decide +kernel
theorem dX7_untilAll_14 : decode cX7_untilAll 14 = .ok (.ishr, 1) := by decide +kernel
theorem dX7_untilAll_15 : decode cX7_untilAll 15 = .ok (.iconst 1, 1) := by decide +kernel
theorem dX7_untilAll_16 : decode cX7_untilAll 16 = .ok (.iand, 1) := by decide +kernel
theorem dX7_untilAll_17 : decode cX7_untilAll 17 = .ok (.iconst 1, 1) := by decide +kernel
theorem dX7_untilAll_18 : decode cX7_untilAll 18 = .ok (.if_icmp .ne 47, 3) := by decide +kernel
theorem dX7_untilAll_21 : decode cX7_untilAll 21 = .ok (.aload_n 0, 1) := by decide +kernel
theorem dX7_untilAll_22 : decode cX7_untilAll 22 = .ok (.iload_n 3, 1) := by decide +kernel
theorem dX7_untilAll_23 : decode cX7_untilAll 23 = .ok (.iconst 3, 1) := by decide +kernel
theorem dX7_untilAll_24 : decode cX7_untilAll 24 = .ok (.invokevirtual 53, 3) := by decide +kernel
theorem dX7_untilAll_27 : decode cX7_untilAll 27 = .ok (.ifCond .eq 11, 3) := by decide +kernel
theorem dX7_untilAll_30 : decode cX7_untilAll 30 = .ok (.aload_n 0, 1) := by decide +kernel
theorem dX7_untilAll_31 : decode cX7_untilAll 31 = .ok (.iload_n 3, 1) := by decide +kernel
theorem dX7_untilAll_32 : decode cX7_untilAll 32 = .ok (.invokevirtual 61, 3) := by decide +kernel
theorem dX7_untilAll_35 : decode cX7_untilAll 35 = .ok (.ifCond .ne 5, 3) := by decide +kernel
theorem dX7_untilAll_38 : decode cX7_untilAll 38 = .ok (.iconst (-1), 1) := by decide +kernel
theorem dX7_untilAll_39 : decode cX7_untilAll 39 = .ok (.ireturn, 1) := by decide +kernel
theorem dX7_untilAll_40 : decode cX7_untilAll 40 = .ok (.iload_n 2, 1) := by decide +kernel
theorem dX7_untilAll_41 : decode cX7_untilAll 41 = .ok (.aload_n 0, 1) := by decide +kernel
theorem dX7_untilAll_42 : decode cX7_untilAll 42 = .ok (.iload_n 3, 1) := by decide +kernel
theorem dX7_untilAll_43 : decode cX7_untilAll 43 = .ok (.iconst 1, 1) := by decide +kernel
theorem dX7_untilAll_44 : decode cX7_untilAll 44 = .ok (.invokevirtual 53, 3) := by decide +kernel
theorem dX7_untilAll_47 : decode cX7_untilAll 47 = .ok (.aload_n 0, 1) := by decide +kernel
theorem dX7_untilAll_48 : decode cX7_untilAll 48 = .ok (.getfield 13, 3) := by decide +kernel
theorem dX7_untilAll_51 : decode cX7_untilAll 51 = .ok (.bipush 70, 2) := by decide +kernel
theorem dX7_untilAll_53 : decode cX7_untilAll 53 = .ok (.iaload, 1) := by decide +kernel
theorem dX7_untilAll_54 : decode cX7_untilAll 54 = .ok (.isub, 1) := by decide +kernel
theorem dX7_untilAll_55 : decode cX7_untilAll 55 = .ok (.iconst 4, 1) := by decide +kernel
theorem dX7_untilAll_56 : decode cX7_untilAll 56 = .ok (.iadd, 1) := by decide +kernel
theorem dX7_untilAll_57 : decode cX7_untilAll 57 = .ok (.iconst 4, 1) := by decide +kernel
theorem dX7_untilAll_58 : decode cX7_untilAll 58 = .ok (.irem, 1) := by decide +kernel
theorem dX7_untilAll_59 : decode cX7_untilAll 59 = .ok (.iconst 1, 1) := by decide +kernel
theorem dX7_untilAll_60 : decode cX7_untilAll 60 = .ok (.iadd, 1) := by decide +kernel
theorem dX7_untilAll_61 : decode cX7_untilAll 61 = .ok (.invokestatic 146, 3) := by decide +kernel
theorem dX7_untilAll_64 : decode cX7_untilAll 64 = .ok (.istore_n 2, 1) := by decide +kernel
theorem dX7_untilAll_65 : decode cX7_untilAll 65 = .ok (.iinc 3 1, 3) := by decide +kernel
theorem dX7_untilAll_68 : decode cX7_untilAll 68 = .ok (.goto (-64), 3) := by decide +kernel
theorem dX7_untilAll_71 : decode cX7_untilAll 71 = .ok (.iload_n 2, 1) := by decide +kernel
theorem dX7_untilAll_72 : decode cX7_untilAll 72 = .ok (.ireturn, 1) := by decide +kernel
theorem dX7_until_0 : decode cX7_until 0 = .ok (.aload_n 0, 1) := by decide +kernel
theorem dX7_until_1 : decode cX7_until 1 = .ok (.iload_n 1, 1) := by decide +kernel
theorem dX7_until_2 : decode cX7_until 2 = .ok (.invokevirtual 180, 3) := by decide +kernel
theorem dX7_until_5 : decode cX7_until 5 = .ok (.ifCond .eq 11, 3) := by decide +kernel
theorem dX7_until_8 : decode cX7_until 8 = .ok (.aload_n 0, 1) := by decide +kernel
theorem dX7_until_9 : decode cX7_until 9 = .ok (.iload_n 1, 1) := by decide +kernel
theorem dX7_until_10 : decode cX7_until 10 = .ok (.invokevirtual 187, 3) := by decide +kernel
theorem dX7_until_13 : decode cX7_until 13 = .ok (.goto 9, 3) := by decide +kernel
theorem dX7_until_16 : decode cX7_until 16 = .ok (.aload_n 0, 1) := by decide +kernel
theorem dX7_until_17 : decode cX7_until 17 = .ok (.bipush (-2), 2) := by decide +kernel
theorem dX7_until_19 : decode cX7_until 19 = .ok (.invokevirtual 81, 3) := by decide +kernel
theorem dX7_until_22 : decode cX7_until 22 = .ok (.ireturn, 1) := by decide +kernel
theorem dX7_soon_0 : decode cX7_soon 0 = .ok (.aload_n 0, 1) := by decide +kernel
theorem dX7_soon_1 : decode cX7_soon 1 = .ok (.iload_n 1, 1) := by decide +kernel
theorem dX7_soon_2 : decode cX7_soon 2 = .ok (.invokevirtual 90, 3) := by decide +kernel
theorem dX7_soon_5 : decode cX7_soon 5 = .ok (.ifCond .eq 13, 3) := by decide +kernel
theorem dX7_soon_8 : decode cX7_soon 8 = .ok (.aload_n 0, 1) := by decide +kernel
theorem dX7_soon_9 : decode cX7_soon 9 = .ok (.iconst 1, 1) := by decide +kernel
theorem dX7_soon_10 : decode cX7_soon 10 = .ok (.iload_n 1, 1) := by decide +kernel
theorem dX7_soon_11 : decode cX7_soon 11 = .ok (.ishl, 1) := by decide +kernel
theorem dX7_soon_12 : decode cX7_soon 12 = .ok (.invokevirtual 187, 3) := by decide +kernel
theorem dX7_soon_15 : decode cX7_soon 15 = .ok (.goto 9, 3) := by decide +kernel
theorem dX7_soon_18 : decode cX7_soon 18 = .ok (.aload_n 0, 1) := by decide +kernel
theorem dX7_soon_19 : decode cX7_soon 19 = .ok (.bipush (-2), 2) := by decide +kernel
theorem dX7_soon_21 : decode cX7_soon 21 = .ok (.invokevirtual 81, 3) := by decide +kernel
theorem dX7_soon_24 : decode cX7_soon 24 = .ok (.ireturn, 1) := by decide +kernel
theorem dX7_slipped_0 : decode cX7_slipped 0 = .ok (.aload_n 0, 1) := by decide +kernel
theorem dX7_slipped_1 : decode cX7_slipped 1 = .ok (.iload_n 1, 1) := by decide +kernel
theorem dX7_slipped_2 : decode cX7_slipped 2 = .ok (.invokevirtual 90, 3) := by decide +kernel
theorem dX7_slipped_5 : decode cX7_slipped 5 = .ok (.ifCond .eq 28, 3) := by decide +kernel
theorem dX7_slipped_8 : decode cX7_slipped 8 = .ok (.iload_n 2, 1) := by decide +kernel
theorem dX7_slipped_9 : decode cX7_slipped 9 = .ok (.iconst 1, 1) := by decide +kernel
theorem dX7_slipped_10 : decode cX7_slipped 10 = .ok (.bipush 9, 2) := by decide +kernel
theorem dX7_slipped_12 : decode cX7_slipped 12 = .ok (.invokestatic 49, 3) := by decide +kernel
theorem dX7_slipped_15 : decode cX7_slipped 15 = .ok (.ifCond .eq 18, 3) := by decide +kernel
theorem dX7_slipped_18 : decode cX7_slipped 18 = .ok (.aload_n 0, 1) := by decide +kernel
theorem dX7_slipped_19 : decode cX7_slipped 19 = .ok (.iload_n 1, 1) := by decide +kernel
theorem dX7_slipped_20 : decode cX7_slipped 20 = .ok (.iload_n 2, 1) := by decide +kernel
theorem dX7_slipped_21 : decode cX7_slipped 21 = .ok (.iadd, 1) := by decide +kernel
theorem dX7_slipped_22 : decode cX7_slipped 22 = .ok (.aload_n 0, 1) := by decide +kernel
theorem dX7_slipped_23 : decode cX7_slipped 23 = .ok (.invokevirtual 57, 3) := by decide +kernel
theorem dX7_slipped_26 : decode cX7_slipped 26 = .ok (.irem, 1) := by decide +kernel
theorem dX7_slipped_27 : decode cX7_slipped 27 = .ok (.invokevirtual 174, 3) := by decide +kernel
theorem dX7_slipped_30 : decode cX7_slipped 30 = .ok (.goto 9, 3) := by decide +kernel
theorem dX7_slipped_33 : decode cX7_slipped 33 = .ok (.aload_n 0, 1) := by decide +kernel
theorem dX7_slipped_34 : decode cX7_slipped 34 = .ok (.bipush (-2), 2) := by decide +kernel
theorem dX7_slipped_36 : decode cX7_slipped 36 = .ok (.invokevirtual 81, 3) := by decide +kernel
theorem dX7_slipped_39 : decode cX7_slipped 39 = .ok (.ireturn, 1) := by decide +kernel
theorem dX7_whose_0 : decode cX7_whose 0 = .ok (.iload_n 1, 1) := by decide +kernel
theorem dX7_whose_1 : decode cX7_whose 1 = .ok (.iconst 0, 1) := by decide +kernel
theorem dX7_whose_2 : decode cX7_whose 2 = .ok (.bipush 99, 2) := by decide +kernel
theorem dX7_whose_4 : decode cX7_whose 4 = .ok (.invokestatic 49, 3) := by decide +kernel
theorem dX7_whose_7 : decode cX7_whose 7 = .ok (.ifCond .ne 10, 3) := by decide +kernel
theorem dX7_whose_10 : decode cX7_whose 10 = .ok (.aload_n 0, 1) := by decide +kernel
theorem dX7_whose_11 : decode cX7_whose 11 = .ok (.bipush (-2), 2) := by decide +kernel
theorem dX7_whose_13 : decode cX7_whose 13 = .ok (.invokevirtual 81, 3) := by decide +kernel
theorem dX7_whose_16 : decode cX7_whose 16 = .ok (.ireturn, 1) := by decide +kernel
theorem dX7_whose_17 : decode cX7_whose 17 = .ok (.iconst 0, 1) := by decide +kernel
theorem dX7_whose_18 : decode cX7_whose 18 = .ok (.istore_n 2, 1) := by decide +kernel
theorem dX7_whose_19 : decode cX7_whose 19 = .ok (.iconst 0, 1) := by decide +kernel
theorem dX7_whose_20 : decode cX7_whose 20 = .ok (.istore_n 3, 1) := by decide +kernel
theorem dX7_whose_21 : decode cX7_whose 21 = .ok (.iload_n 3, 1) := by decide +kernel
theorem dX7_whose_22 : decode cX7_whose 22 = .ok (.aload_n 0, 1) := by decide +kernel
theorem dX7_whose_23 : decode cX7_whose 23 = .ok (.getfield 13, 3) := by decide +kernel
theorem dX7_whose_26 : decode cX7_whose 26 = .ok (.bipush 69, 2) := by decide +kernel
theorem dX7_whose_28 : decode cX7_whose 28 = .ok (.iaload, 1) := by decide +kernel
theorem dX7_whose_29 : decode cX7_whose 29 = .ok (.if_icmp .ge 28, 3) := by decide +kernel
theorem dX7_whose_32 : decode cX7_whose 32 = .ok (.iload_n 2, 1) := by decide +kernel
theorem dX7_whose_33 : decode cX7_whose 33 = .ok (.aload_n 0, 1) := by decide +kernel
theorem dX7_whose_34 : decode cX7_whose 34 = .ok (.iload_n 3, 1) := by decide +kernel
theorem dX7_whose_35 : decode cX7_whose 35 = .ok (.invokevirtual 158, 3) := by decide +kernel
theorem dX7_whose_38 : decode cX7_whose 38 = .ok (.iload_n 1, 1) := by decide +kernel
theorem dX7_whose_39 : decode cX7_whose 39 = .ok (.if_icmp .lt 9, 3) := by decide +kernel
theorem dX7_whose_42 : decode cX7_whose 42 = .ok (.iconst 1, 1) := by decide +kernel
theorem dX7_whose_43 : decode cX7_whose 43 = .ok (.iload_n 3, 1) := by decide +kernel
theorem dX7_whose_44 : decode cX7_whose 44 = .ok (.ishl, 1) := by decide +kernel
theorem dX7_whose_45 : decode cX7_whose 45 = .ok (.goto 4, 3) := by decide +kernel
theorem dX7_whose_48 : decode cX7_whose 48 = .ok (.iconst 0, 1) := by decide +kernel
theorem dX7_whose_49 : decode cX7_whose 49 = .ok (.ior, 1) := by decide +kernel
theorem dX7_whose_50 : decode cX7_whose 50 = .ok (.istore_n 2, 1) := by decide +kernel
theorem dX7_whose_51 : decode cX7_whose 51 = .ok (.iinc 3 1, 3) := by decide +kernel
theorem dX7_whose_54 : decode cX7_whose 54 = .ok (.goto (-33), 3) := by decide +kernel
theorem dX7_whose_57 : decode cX7_whose 57 = .ok (.iload_n 2, 1) := by decide +kernel
theorem dX7_whose_58 : decode cX7_whose 58 = .ok (.ireturn, 1) := by decide +kernel
theorem dX7_crew_0 : decode cX7_crew 0 = .ok (.iload_n 1, 1) := by decide +kernel
theorem dX7_crew_1 : decode cX7_crew 1 = .ok (.iconst 0, 1) := by decide +kernel
theorem dX7_crew_2 : decode cX7_crew 2 = .ok (.bipush 6, 2) := by decide +kernel
theorem dX7_crew_4 : decode cX7_crew 4 = .ok (.invokestatic 49, 3) := by decide +kernel
theorem dX7_crew_7 : decode cX7_crew 7 = .ok (.ifCond .ne 10, 3) := by decide +kernel
theorem dX7_crew_10 : decode cX7_crew 10 = .ok (.aload_n 0, 1) := by decide +kernel
theorem dX7_crew_11 : decode cX7_crew 11 = .ok (.bipush (-2), 2) := by decide +kernel
theorem dX7_crew_13 : decode cX7_crew 13 = .ok (.invokevirtual 81, 3) := by decide +kernel
theorem dX7_crew_16 : decode cX7_crew 16 = .ok (.ireturn, 1) := by decide +kernel
theorem dX7_crew_17 : decode cX7_crew 17 = .ok (.iconst (-1), 1) := by decide +kernel
theorem dX7_crew_18 : decode cX7_crew 18 = .ok (.istore_n 2, 1) := by decide +kernel
theorem dX7_crew_19 : decode cX7_crew 19 = .ok (.iconst (-1), 1) := by decide +kernel
theorem dX7_crew_20 : decode cX7_crew 20 = .ok (.istore_n 3, 1) := by decide +kernel
theorem dX7_crew_21 : decode cX7_crew 21 = .ok (.iconst 0, 1) := by decide +kernel
theorem dX7_crew_22 : decode cX7_crew 22 = .ok (.istore 4, 2) := by decide +kernel
theorem dX7_crew_24 : decode cX7_crew 24 = .ok (.iload 4, 2) := by decide +kernel
theorem dX7_crew_26 : decode cX7_crew 26 = .ok (.iconst 1, 1) := by decide +kernel
theorem dX7_crew_27 : decode cX7_crew 27 = .ok (.aload_n 0, 1) := by decide +kernel
theorem dX7_crew_28 : decode cX7_crew 28 = .ok (.getfield 13, 3) := by decide +kernel
theorem dX7_crew_31 : decode cX7_crew 31 = .ok (.bipush 69, 2) := by decide +kernel
theorem dX7_crew_33 : decode cX7_crew 33 = .ok (.iaload, 1) := by decide +kernel
theorem dX7_crew_34 : decode cX7_crew 34 = .ok (.ishl, 1) := by decide +kernel
theorem dX7_crew_35 : decode cX7_crew 35 = .ok (.if_icmp .ge 38, 3) := by decide +kernel
theorem dX7_crew_38 : decode cX7_crew 38 = .ok (.iload 4, 2) := by decide +kernel
theorem dX7_crew_40 : decode cX7_crew 40 = .ok (.invokestatic 72, 3) := by decide +kernel
theorem dX7_crew_43 : decode cX7_crew 43 = .ok (.iload_n 1, 1) := by decide +kernel
theorem dX7_crew_44 : decode cX7_crew 44 = .ok (.if_icmp .ne 23, 3) := by decide +kernel
theorem dX7_crew_47 : decode cX7_crew 47 = .ok (.aload_n 0, 1) := by decide +kernel
theorem dX7_crew_48 : decode cX7_crew 48 = .ok (.iload 4, 2) := by decide +kernel
theorem dX7_crew_50 : decode cX7_crew 50 = .ok (.invokevirtual 165, 3) := by decide +kernel
theorem dX7_crew_53 : decode cX7_crew 53 = .ok (.iload_n 3, 1) := by decide +kernel
theorem dX7_crew_54 : decode cX7_crew 54 = .ok (.if_icmp .le 13, 3) := by decide +kernel
theorem dX7_crew_57 : decode cX7_crew 57 = .ok (.iload 4, 2) := by decide +kernel
theorem dX7_crew_59 : decode cX7_crew 59 = .ok (.istore_n 2, 1) := by decide +kernel
theorem dX7_crew_60 : decode cX7_crew 60 = .ok (.aload_n 0, 1) := by decide +kernel
theorem dX7_crew_61 : decode cX7_crew 61 = .ok (.iload 4, 2) := by decide +kernel
theorem dX7_crew_63 : decode cX7_crew 63 = .ok (.invokevirtual 165, 3) := by decide +kernel
theorem dX7_crew_66 : decode cX7_crew 66 = .ok (.istore_n 3, 1) := by decide +kernel
theorem dX7_crew_67 : decode cX7_crew 67 = .ok (.iinc 4 1, 3) := by decide +kernel
theorem dX7_crew_70 : decode cX7_crew 70 = .ok (.goto (-46), 3) := by decide +kernel
theorem dX7_crew_73 : decode cX7_crew 73 = .ok (.iload_n 2, 1) := by decide +kernel
theorem dX7_crew_74 : decode cX7_crew 74 = .ok (.ireturn, 1) := by decide +kernel
theorem dX7_putBack_0 : decode cX7_putBack 0 = .ok (.aload_n 0, 1) := by decide +kernel
theorem dX7_putBack_1 : decode cX7_putBack 1 = .ok (.iload_n 1, 1) := by decide +kernel
theorem dX7_putBack_2 : decode cX7_putBack 2 = .ok (.invokevirtual 90, 3) := by decide +kernel
theorem dX7_putBack_5 : decode cX7_putBack 5 = .ok (.ifCond .ne 10, 3) := by decide +kernel
theorem dX7_putBack_8 : decode cX7_putBack 8 = .ok (.aload_n 0, 1) := by decide +kernel
theorem dX7_putBack_9 : decode cX7_putBack 9 = .ok (.bipush (-2), 2) := by decide +kernel
theorem dX7_putBack_11 : decode cX7_putBack 11 = .ok (.invokevirtual 81, 3) := by decide +kernel
theorem dX7_putBack_14 : decode cX7_putBack 14 = .ok (.ireturn, 1) := by decide +kernel
theorem dX7_putBack_15 : decode cX7_putBack 15 = .ok (.aload_n 0, 1) := by decide +kernel
theorem dX7_putBack_16 : decode cX7_putBack 16 = .ok (.iload_n 1, 1) := by decide +kernel
theorem dX7_putBack_17 : decode cX7_putBack 17 = .ok (.invokevirtual 177, 3) := by decide +kernel
theorem dX7_putBack_20 : decode cX7_putBack 20 = .ok (.iconst 1, 1) := by decide +kernel
theorem dX7_putBack_21 : decode cX7_putBack 21 = .ok (.iload_n 1, 1) := by decide +kernel
theorem dX7_putBack_22 : decode cX7_putBack 22 = .ok (.ishl, 1) := by decide +kernel
theorem dX7_putBack_23 : decode cX7_putBack 23 = .ok (.ior, 1) := by decide +kernel
theorem dX7_putBack_24 : decode cX7_putBack 24 = .ok (.aload_n 0, 1) := by decide +kernel
theorem dX7_putBack_25 : decode cX7_putBack 25 = .ok (.invokevirtual 135, 3) := by decide +kernel
theorem dX7_putBack_28 : decode cX7_putBack 28 = .ok (.iconst (-1), 1) := by decide +kernel
theorem dX7_putBack_29 : decode cX7_putBack 29 = .ok (.ixor, 1) := by decide +kernel
theorem dX7_putBack_30 : decode cX7_putBack 30 = .ok (.iand, 1) := by decide +kernel
theorem dX7_putBack_31 : decode cX7_putBack 31 = .ok (.istore_n 2, 1) := by decide +kernel
theorem dX7_putBack_32 : decode cX7_putBack 32 = .ok (.iconst 0, 1) := by decide +kernel
theorem dX7_putBack_33 : decode cX7_putBack 33 = .ok (.istore_n 3, 1) := by decide +kernel
theorem dX7_putBack_34 : decode cX7_putBack 34 = .ok (.iconst 0, 1) := by decide +kernel
theorem dX7_putBack_35 : decode cX7_putBack 35 = .ok (.istore 4, 2) := by decide +kernel
theorem dX7_putBack_37 : decode cX7_putBack 37 = .ok (.iload 4, 2) := by decide +kernel
theorem dX7_putBack_39 : decode cX7_putBack 39 = .ok (.aload_n 0, 1) := by decide +kernel
theorem dX7_putBack_40 : decode cX7_putBack 40 = .ok (.invokevirtual 57, 3) := by decide +kernel
theorem dX7_putBack_43 : decode cX7_putBack 43 = .ok (.if_icmp .ge 33, 3) := by decide +kernel
theorem dX7_putBack_46 : decode cX7_putBack 46 = .ok (.iload_n 2, 1) := by decide +kernel
theorem dX7_putBack_47 : decode cX7_putBack 47 = .ok (.iload 4, 2) := by decide +kernel
theorem dX7_putBack_49 : decode cX7_putBack 49 = .ok (.ishr, 1) := by decide +kernel
theorem dX7_putBack_50 : decode cX7_putBack 50 = .ok (.iconst 1, 1) := by decide +kernel
theorem dX7_putBack_51 : decode cX7_putBack 51 = .ok (.iand, 1) := by decide +kernel
theorem dX7_putBack_52 : decode cX7_putBack 52 = .ok (.iconst 1, 1) := by decide +kernel
theorem dX7_putBack_53 : decode cX7_putBack 53 = .ok (.if_icmp .ne 17, 3) := by decide +kernel
theorem dX7_putBack_56 : decode cX7_putBack 56 = .ok (.aload_n 0, 1) := by decide +kernel
theorem dX7_putBack_57 : decode cX7_putBack 57 = .ok (.iload 4, 2) := by decide +kernel
theorem dX7_putBack_59 : decode cX7_putBack 59 = .ok (.invokevirtual 61, 3) := by decide +kernel
theorem dX7_putBack_62 : decode cX7_putBack 62 = .ok (.ifCond .ne 5, 3) := by decide +kernel
theorem dX7_putBack_65 : decode cX7_putBack 65 = .ok (.iconst (-1), 1) := by decide +kernel
theorem dX7_putBack_66 : decode cX7_putBack 66 = .ok (.ireturn, 1) := by decide +kernel
theorem dX7_putBack_67 : decode cX7_putBack 67 = .ok (.iinc 3 1, 3) := by decide +kernel
theorem dX7_putBack_70 : decode cX7_putBack 70 = .ok (.iinc 4 1, 3) := by decide +kernel
theorem dX7_putBack_73 : decode cX7_putBack 73 = .ok (.goto (-36), 3) := by decide +kernel
theorem dX7_putBack_76 : decode cX7_putBack 76 = .ok (.iload_n 3, 1) := by decide +kernel
theorem dX7_putBack_77 : decode cX7_putBack 77 = .ok (.ireturn, 1) := by decide +kernel
theorem dX7_turns_0 : decode cX7_turns 0 = .ok (.iload_n 2, 1) := by decide +kernel
theorem dX7_turns_1 : decode cX7_turns 1 = .ok (.ifCond .ne 14, 3) := by decide +kernel
theorem dX7_turns_4 : decode cX7_turns 4 = .ok (.aload_n 0, 1) := by decide +kernel
theorem dX7_turns_5 : decode cX7_turns 5 = .ok (.iconst (-1), 1) := by decide +kernel
theorem dX7_turns_6 : decode cX7_turns 6 = .ok (.putfield 190, 3) := by decide +kernel
theorem dX7_turns_9 : decode cX7_turns 9 = .ok (.aload_n 0, 1) := by decide +kernel
theorem dX7_turns_10 : decode cX7_turns 10 = .ok (.iload_n 1, 1) := by decide +kernel
theorem dX7_turns_11 : decode cX7_turns 11 = .ok (.invokevirtual 168, 3) := by decide +kernel
theorem dX7_turns_14 : decode cX7_turns 14 = .ok (.ireturn, 1) := by decide +kernel
theorem dX7_turns_15 : decode cX7_turns 15 = .ok (.iconst 0, 1) := by decide +kernel
theorem dX7_turns_16 : decode cX7_turns 16 = .ok (.istore 4, 2) := by decide +kernel
theorem dX7_turns_18 : decode cX7_turns 18 = .ok (.iconst (-1), 1) := by decide +kernel
theorem dX7_turns_19 : decode cX7_turns 19 = .ok (.istore 5, 2) := by decide +kernel
theorem dX7_turns_21 : decode cX7_turns 21 = .ok (.iconst 0, 1) := by decide +kernel
theorem dX7_turns_22 : decode cX7_turns 22 = .ok (.istore 6, 2) := by decide +kernel
theorem dX7_turns_24 : decode cX7_turns 24 = .ok (.iload 6, 2) := by decide +kernel
theorem dX7_turns_26 : decode cX7_turns 26 = .ok (.aload_n 0, 1) := by decide +kernel
theorem dX7_turns_27 : decode cX7_turns 27 = .ok (.invokevirtual 57, 3) := by decide +kernel
theorem dX7_turns_30 : decode cX7_turns 30 = .ok (.if_icmp .ge 86, 3) := by decide +kernel
theorem dX7_turns_33 : decode cX7_turns 33 = .ok (.iload_n 1, 1) := by decide +kernel
theorem dX7_turns_34 : decode cX7_turns 34 = .ok (.iload 6, 2) := by decide +kernel
theorem dX7_turns_36 : decode cX7_turns 36 = .ok (.ishr, 1) := by decide +kernel
theorem dX7_turns_37 : decode cX7_turns 37 = .ok (.iconst 1, 1) := by decide +kernel
theorem dX7_turns_38 : decode cX7_turns 38 = .ok (.iand, 1) := by decide +kernel
theorem dX7_turns_39 : decode cX7_turns 39 = .ok (.iload_n 3, 1) := by decide +kernel
theorem dX7_turns_40 : decode cX7_turns 40 = .ok (.ifCond .eq 7, 3) := by decide +kernel
theorem dX7_turns_43 : decode cX7_turns 43 = .ok (.iconst 1, 1) := by decide +kernel
theorem dX7_turns_44 : decode cX7_turns 44 = .ok (.goto 4, 3) := by decide +kernel
theorem dX7_turns_47 : decode cX7_turns 47 = .ok (.iconst 0, 1) := by decide +kernel
theorem dX7_turns_48 : decode cX7_turns 48 = .ok (.if_icmp .ne 62, 3) := by decide +kernel
theorem dX7_turns_51 : decode cX7_turns 51 = .ok (.aload_n 0, 1) := by decide +kernel
theorem dX7_turns_52 : decode cX7_turns 52 = .ok (.iload_n 1, 1) := by decide +kernel
theorem dX7_turns_53 : decode cX7_turns 53 = .ok (.iconst 1, 1) := by decide +kernel
theorem dX7_turns_54 : decode cX7_turns 54 = .ok (.iload 6, 2) := by decide +kernel
theorem dX7_turns_56 : decode cX7_turns 56 = .ok (.ishl, 1) := by decide +kernel
theorem dX7_turns_57 : decode cX7_turns 57 = .ok (.ixor, 1) := by decide +kernel
theorem dX7_turns_58 : decode cX7_turns 58 = .ok (.iload_n 2, 1) := by decide +kernel
theorem dX7_turns_59 : decode cX7_turns 59 = .ok (.iconst 1, 1) := by decide +kernel
theorem dX7_turns_60 : decode cX7_turns 60 = .ok (.isub, 1) := by decide +kernel
theorem dX7_turns_61 : decode cX7_turns 61 = .ok (.iload_n 3, 1) := by decide +kernel
theorem dX7_turns_62 : decode cX7_turns 62 = .ok (.ifCond .ne 7, 3) := by decide +kernel
theorem dX7_turns_65 : decode cX7_turns 65 = .ok (.iconst 1, 1) := by decide +kernel
theorem dX7_turns_66 : decode cX7_turns 66 = .ok (.goto 4, 3) := by decide +kernel
theorem dX7_turns_69 : decode cX7_turns 69 = .ok (.iconst 0, 1) := by decide +kernel
theorem dX7_turns_70 : decode cX7_turns 70 = .ok (.invokevirtual 193, 3) := by decide +kernel
theorem dX7_turns_73 : decode cX7_turns 73 = .ok (.istore 7, 2) := by decide +kernel
theorem dX7_turns_75 : decode cX7_turns 75 = .ok (.iload 5, 2) := by decide +kernel
theorem dX7_turns_77 : decode cX7_turns 77 = .ok (.iconst (-1), 1) := by decide +kernel
theorem dX7_turns_78 : decode cX7_turns 78 = .ok (.if_icmp .eq 24, 3) := by decide +kernel
theorem dX7_turns_81 : decode cX7_turns 81 = .ok (.iload_n 3, 1) := by decide +kernel
theorem dX7_turns_82 : decode cX7_turns 82 = .ok (.ifCond .eq 13, 3) := by decide +kernel
theorem dX7_turns_85 : decode cX7_turns 85 = .ok (.iload 7, 2) := by decide +kernel
theorem dX7_turns_87 : decode cX7_turns 87 = .ok (.iload 4, 2) := by decide +kernel
theorem dX7_turns_89 : decode cX7_turns 89 = .ok (.if_icmp .ge 21, 3) := by decide +kernel
theorem dX7_turns_92 : decode cX7_turns 92 = .ok (.goto 10, 3) := by decide +kernel
theorem dX7_turns_95 : decode cX7_turns 95 = .ok (.iload 7, 2) := by decide +kernel
theorem dX7_turns_97 : decode cX7_turns 97 = .ok (.iload 4, 2) := by decide +kernel
theorem dX7_turns_99 : decode cX7_turns 99 = .ok (.if_icmp .le 11, 3) := by decide +kernel
theorem dX7_turns_102 : decode cX7_turns 102 = .ok (.iload 7, 2) := by decide +kernel
theorem dX7_turns_104 : decode cX7_turns 104 = .ok (.istore 4, 2) := by decide +kernel
theorem dX7_turns_106 : decode cX7_turns 106 = .ok (.iload 6, 2) := by decide +kernel
theorem dX7_turns_108 : decode cX7_turns 108 = .ok (.istore 5, 2) := by decide +kernel
theorem dX7_turns_110 : decode cX7_turns 110 = .ok (.iinc 6 1, 3) := by decide +kernel
theorem dX7_turns_113 : decode cX7_turns 113 = .ok (.goto (-89), 3) := by decide +kernel
theorem dX7_turns_116 : decode cX7_turns 116 = .ok (.iload 5, 2) := by decide +kernel
theorem dX7_turns_118 : decode cX7_turns 118 = .ok (.iconst (-1), 1) := by decide +kernel
theorem dX7_turns_119 : decode cX7_turns 119 = .ok (.if_icmp .ne 22, 3) := by decide +kernel
theorem dX7_turns_122 : decode cX7_turns 122 = .ok (.aload_n 0, 1) := by decide +kernel
theorem dX7_turns_123 : decode cX7_turns 123 = .ok (.iload_n 1, 1) := by decide +kernel
theorem dX7_turns_124 : decode cX7_turns 124 = .ok (.iload_n 2, 1) := by decide +kernel
theorem dX7_turns_125 : decode cX7_turns 125 = .ok (.iconst 1, 1) := by decide +kernel
theorem dX7_turns_126 : decode cX7_turns 126 = .ok (.isub, 1) := by decide +kernel
theorem dX7_turns_127 : decode cX7_turns 127 = .ok (.iload_n 3, 1) := by decide +kernel
theorem dX7_turns_128 : decode cX7_turns 128 = .ok (.ifCond .ne 7, 3) := by decide +kernel
theorem dX7_turns_131 : decode cX7_turns 131 = .ok (.iconst 1, 1) := by decide +kernel
theorem dX7_turns_132 : decode cX7_turns 132 = .ok (.goto 4, 3) := by decide +kernel
theorem dX7_turns_135 : decode cX7_turns 135 = .ok (.iconst 0, 1) := by decide +kernel
theorem dX7_turns_136 : decode cX7_turns 136 = .ok (.invokevirtual 193, 3) := by decide +kernel
theorem dX7_turns_139 : decode cX7_turns 139 = .ok (.istore 4, 2) := by decide +kernel
theorem dX7_turns_141 : decode cX7_turns 141 = .ok (.aload_n 0, 1) := by decide +kernel
theorem dX7_turns_142 : decode cX7_turns 142 = .ok (.iload 5, 2) := by decide +kernel
theorem dX7_turns_144 : decode cX7_turns 144 = .ok (.putfield 190, 3) := by decide +kernel
theorem dX7_turns_147 : decode cX7_turns 147 = .ok (.iload 4, 2) := by decide +kernel
theorem dX7_turns_149 : decode cX7_turns 149 = .ok (.ireturn, 1) := by decide +kernel
theorem dX7_parishes_0 : decode cX7_parishes 0 = .ok (.iload_n 1, 1) := by decide +kernel
theorem dX7_parishes_1 : decode cX7_parishes 1 = .ok (.iconst 0, 1) := by decide +kernel
theorem dX7_parishes_2 : decode cX7_parishes 2 = .ok (.iconst 5, 1) := by decide +kernel
theorem dX7_parishes_3 : decode cX7_parishes 3 = .ok (.invokestatic 49, 3) := by decide +kernel
theorem dX7_parishes_6 : decode cX7_parishes 6 = .ok (.ifCond .eq 12, 3) := by decide +kernel
theorem dX7_parishes_9 : decode cX7_parishes 9 = .ok (.iload_n 2, 1) := by decide +kernel
theorem dX7_parishes_10 : decode cX7_parishes 10 = .ok (.iconst 0, 1) := by decide +kernel
theorem dX7_parishes_11 : decode cX7_parishes 11 = .ok (.iconst 1, 1) := by decide +kernel
theorem dX7_parishes_12 : decode cX7_parishes 12 = .ok (.invokestatic 49, 3) := by decide +kernel
theorem dX7_parishes_15 : decode cX7_parishes 15 = .ok (.ifCond .ne 10, 3) := by decide +kernel
theorem dX7_parishes_18 : decode cX7_parishes 18 = .ok (.aload_n 0, 1) := by decide +kernel
theorem dX7_parishes_19 : decode cX7_parishes 19 = .ok (.bipush (-2), 2) := by decide +kernel
theorem dX7_parishes_21 : decode cX7_parishes 21 = .ok (.invokevirtual 81, 3) := by decide +kernel
theorem dX7_parishes_24 : decode cX7_parishes 24 = .ok (.ireturn, 1) := by decide +kernel
theorem dX7_parishes_25 : decode cX7_parishes 25 = .ok (.aload_n 0, 1) := by decide +kernel
theorem dX7_parishes_26 : decode cX7_parishes 26 = .ok (.aload_n 0, 1) := by decide +kernel
theorem dX7_parishes_27 : decode cX7_parishes 27 = .ok (.invokevirtual 135, 3) := by decide +kernel
theorem dX7_parishes_30 : decode cX7_parishes 30 = .ok (.iload_n 1, 1) := by decide +kernel
theorem dX7_parishes_31 : decode cX7_parishes 31 = .ok (.iconst 1, 1) := by decide +kernel
theorem dX7_parishes_32 : decode cX7_parishes 32 = .ok (.invokevirtual 193, 3) := by decide +kernel
theorem dX7_parishes_35 : decode cX7_parishes 35 = .ok (.istore_n 3, 1) := by decide +kernel
theorem dX7_parishes_36 : decode cX7_parishes 36 = .ok (.iload_n 2, 1) := by decide +kernel
theorem dX7_parishes_37 : decode cX7_parishes 37 = .ok (.ifCond .ne 7, 3) := by decide +kernel
theorem dX7_parishes_40 : decode cX7_parishes 40 = .ok (.iload_n 3, 1) := by decide +kernel
theorem dX7_parishes_41 : decode cX7_parishes 41 = .ok (.goto 7, 3) := by decide +kernel
theorem dX7_parishes_44 : decode cX7_parishes 44 = .ok (.aload_n 0, 1) := by decide +kernel
theorem dX7_parishes_45 : decode cX7_parishes 45 = .ok (.getfield 190, 3) := by decide +kernel
theorem dX7_parishes_48 : decode cX7_parishes 48 = .ok (.ireturn, 1) := by decide +kernel
theorem dX7_deaf_0 : decode cX7_deaf 0 = .ok (.aload_n 0, 1) := by decide +kernel
theorem dX7_deaf_1 : decode cX7_deaf 1 = .ok (.iload_n 1, 1) := by decide +kernel
theorem dX7_deaf_2 : decode cX7_deaf 2 = .ok (.invokevirtual 180, 3) := by decide +kernel
theorem dX7_deaf_5 : decode cX7_deaf 5 = .ok (.ifCond .eq 12, 3) := by decide +kernel
theorem dX7_deaf_8 : decode cX7_deaf 8 = .ok (.iload_n 2, 1) := by decide +kernel
theorem dX7_deaf_9 : decode cX7_deaf 9 = .ok (.iconst 0, 1) := by decide +kernel
theorem dX7_deaf_10 : decode cX7_deaf 10 = .ok (.iconst 1, 1) := by decide +kernel
theorem dX7_deaf_11 : decode cX7_deaf 11 = .ok (.invokestatic 49, 3) := by decide +kernel
theorem dX7_deaf_14 : decode cX7_deaf 14 = .ok (.ifCond .ne 10, 3) := by decide +kernel
theorem dX7_deaf_17 : decode cX7_deaf 17 = .ok (.aload_n 0, 1) := by decide +kernel
theorem dX7_deaf_18 : decode cX7_deaf 18 = .ok (.bipush (-2), 2) := by decide +kernel
theorem dX7_deaf_20 : decode cX7_deaf 20 = .ok (.invokevirtual 81, 3) := by decide +kernel
theorem dX7_deaf_23 : decode cX7_deaf 23 = .ok (.ireturn, 1) := by decide +kernel
theorem dX7_deaf_24 : decode cX7_deaf 24 = .ok (.aload_n 0, 1) := by decide +kernel
theorem dX7_deaf_25 : decode cX7_deaf 25 = .ok (.invokevirtual 135, 3) := by decide +kernel
theorem dX7_deaf_28 : decode cX7_deaf 28 = .ok (.istore_n 3, 1) := by decide +kernel
theorem dX7_deaf_29 : decode cX7_deaf 29 = .ok (.aload_n 0, 1) := by decide +kernel
theorem dX7_deaf_30 : decode cX7_deaf 30 = .ok (.iload_n 3, 1) := by decide +kernel
theorem dX7_deaf_31 : decode cX7_deaf 31 = .ok (.invokevirtual 65, 3) := by decide +kernel
theorem dX7_deaf_34 : decode cX7_deaf 34 = .ok (.iload_n 1, 1) := by decide +kernel
theorem dX7_deaf_35 : decode cX7_deaf 35 = .ok (.ior, 1) := by decide +kernel
theorem dX7_deaf_36 : decode cX7_deaf 36 = .ok (.istore 4, 2) := by decide +kernel
theorem dX7_deaf_38 : decode cX7_deaf 38 = .ok (.iconst 0, 1) := by decide +kernel
theorem dX7_deaf_39 : decode cX7_deaf 39 = .ok (.istore 5, 2) := by decide +kernel
theorem dX7_deaf_41 : decode cX7_deaf 41 = .ok (.iconst (-1), 1) := by decide +kernel
theorem dX7_deaf_42 : decode cX7_deaf 42 = .ok (.istore 6, 2) := by decide +kernel
theorem dX7_deaf_44 : decode cX7_deaf 44 = .ok (.iconst 0, 1) := by decide +kernel
theorem dX7_deaf_45 : decode cX7_deaf 45 = .ok (.istore 7, 2) := by decide +kernel
theorem dX7_deaf_47 : decode cX7_deaf 47 = .ok (.iload 7, 2) := by decide +kernel
theorem dX7_deaf_49 : decode cX7_deaf 49 = .ok (.iconst 1, 1) := by decide +kernel
theorem dX7_deaf_50 : decode cX7_deaf 50 = .ok (.aload_n 0, 1) := by decide +kernel
theorem dX7_deaf_51 : decode cX7_deaf 51 = .ok (.invokevirtual 57, 3) := by decide +kernel
theorem dX7_deaf_54 : decode cX7_deaf 54 = .ok (.ishl, 1) := by decide +kernel
theorem dX7_deaf_55 : decode cX7_deaf 55 = .ok (.if_icmp .ge 47, 3) := by decide +kernel
theorem dX7_deaf_58 : decode cX7_deaf 58 = .ok (.iload 7, 2) := by decide +kernel
theorem dX7_deaf_60 : decode cX7_deaf 60 = .ok (.iload_n 3, 1) := by decide +kernel
theorem dX7_deaf_61 : decode cX7_deaf 61 = .ok (.iand, 1) := by decide +kernel
theorem dX7_deaf_62 : decode cX7_deaf 62 = .ok (.ifCond .ne 34, 3) := by decide +kernel
theorem dX7_deaf_65 : decode cX7_deaf 65 = .ok (.aload_n 0, 1) := by decide +kernel
theorem dX7_deaf_66 : decode cX7_deaf 66 = .ok (.iload_n 3, 1) := by decide +kernel
theorem dX7_deaf_67 : decode cX7_deaf 67 = .ok (.iload 7, 2) := by decide +kernel
theorem dX7_deaf_69 : decode cX7_deaf 69 = .ok (.ior, 1) := by decide +kernel
theorem dX7_deaf_70 : decode cX7_deaf 70 = .ok (.invokevirtual 65, 3) := by decide +kernel
theorem dX7_deaf_73 : decode cX7_deaf 73 = .ok (.iload 4, 2) := by decide +kernel
theorem dX7_deaf_75 : decode cX7_deaf 75 = .ok (.if_icmp .ne 21, 3) := by decide +kernel
theorem dX7_deaf_78 : decode cX7_deaf 78 = .ok (.iinc 5 1, 3) := by decide +kernel
theorem dX7_deaf_81 : decode cX7_deaf 81 = .ok (.iload 6, 2) := by decide +kernel
theorem dX7_deaf_83 : decode cX7_deaf 83 = .ok (.iconst (-1), 1) := by decide +kernel
theorem dX7_deaf_84 : decode cX7_deaf 84 = .ok (.if_icmp .ne 8, 3) := by decide +kernel
theorem dX7_deaf_87 : decode cX7_deaf 87 = .ok (.iload 7, 2) := by decide +kernel
theorem dX7_deaf_89 : decode cX7_deaf 89 = .ok (.goto 5, 3) := by decide +kernel
theorem dX7_deaf_92 : decode cX7_deaf 92 = .ok (.iload 6, 2) := by decide +kernel
theorem dX7_deaf_94 : decode cX7_deaf 94 = .ok (.istore 6, 2) := by decide +kernel
theorem dX7_deaf_96 : decode cX7_deaf 96 = .ok (.iinc 7 1, 3) := by decide +kernel
theorem dX7_deaf_99 : decode cX7_deaf 99 = .ok (.goto (-52), 3) := by decide +kernel
theorem dX7_deaf_102 : decode cX7_deaf 102 = .ok (.iload_n 2, 1) := by decide +kernel
theorem dX7_deaf_103 : decode cX7_deaf 103 = .ok (.ifCond .ne 8, 3) := by decide +kernel
theorem dX7_deaf_106 : decode cX7_deaf 106 = .ok (.iload 5, 2) := by decide +kernel
theorem dX7_deaf_108 : decode cX7_deaf 108 = .ok (.goto 5, 3) := by decide +kernel
theorem dX7_deaf_111 : decode cX7_deaf 111 = .ok (.iload 6, 2) := by decide +kernel
theorem dX7_deaf_113 : decode cX7_deaf 113 = .ok (.ireturn, 1) := by decide +kernel
theorem dX7_kinds_0 : decode cX7_kinds 0 = .ok (.aload_n 0, 1) := by decide +kernel
theorem dX7_kinds_1 : decode cX7_kinds 1 = .ok (.iload_n 1, 1) := by decide +kernel
theorem dX7_kinds_2 : decode cX7_kinds 2 = .ok (.invokevirtual 155, 3) := by decide +kernel
theorem dX7_kinds_5 : decode cX7_kinds 5 = .ok (.ifCond .eq 13, 3) := by decide +kernel
theorem dX7_kinds_8 : decode cX7_kinds 8 = .ok (.iload_n 2, 1) := by decide +kernel
theorem dX7_kinds_9 : decode cX7_kinds 9 = .ok (.iconst 0, 1) := by decide +kernel
theorem dX7_kinds_10 : decode cX7_kinds 10 = .ok (.bipush 99, 2) := by decide +kernel
theorem dX7_kinds_12 : decode cX7_kinds 12 = .ok (.invokestatic 49, 3) := by decide +kernel
theorem dX7_kinds_15 : decode cX7_kinds 15 = .ok (.ifCond .ne 10, 3) := by decide +kernel
theorem dX7_kinds_18 : decode cX7_kinds 18 = .ok (.aload_n 0, 1) := by decide +kernel
theorem dX7_kinds_19 : decode cX7_kinds 19 = .ok (.bipush (-2), 2) := by decide +kernel
theorem dX7_kinds_21 : decode cX7_kinds 21 = .ok (.invokevirtual 81, 3) := by decide +kernel
theorem dX7_kinds_24 : decode cX7_kinds 24 = .ok (.ireturn, 1) := by decide +kernel
theorem dX7_kinds_25 : decode cX7_kinds 25 = .ok (.iconst 0, 1) := by decide +kernel
theorem dX7_kinds_26 : decode cX7_kinds 26 = .ok (.istore_n 3, 1) := by decide +kernel
theorem dX7_kinds_27 : decode cX7_kinds 27 = .ok (.iconst 0, 1) := by decide +kernel
theorem dX7_kinds_28 : decode cX7_kinds 28 = .ok (.istore 4, 2) := by decide +kernel
theorem dX7_kinds_30 : decode cX7_kinds 30 = .ok (.iload 4, 2) := by decide +kernel
theorem dX7_kinds_32 : decode cX7_kinds 32 = .ok (.bipush 6, 2) := by decide +kernel
theorem dX7_kinds_34 : decode cX7_kinds 34 = .ok (.if_icmp .ge 56, 3) := by decide +kernel
theorem dX7_kinds_37 : decode cX7_kinds 37 = .ok (.iload_n 3, 1) := by decide +kernel
theorem dX7_kinds_38 : decode cX7_kinds 38 = .ok (.aload_n 0, 1) := by decide +kernel
theorem dX7_kinds_39 : decode cX7_kinds 39 = .ok (.iload 4, 2) := by decide +kernel
theorem dX7_kinds_41 : decode cX7_kinds 41 = .ok (.aload_n 0, 1) := by decide +kernel
theorem dX7_kinds_42 : decode cX7_kinds 42 = .ok (.getfield 13, 3) := by decide +kernel
theorem dX7_kinds_45 : decode cX7_kinds 45 = .ok (.bipush 50, 2) := by decide +kernel
theorem dX7_kinds_47 : decode cX7_kinds 47 = .ok (.iconst 3, 1) := by decide +kernel
theorem dX7_kinds_48 : decode cX7_kinds 48 = .ok (.iload_n 1, 1) := by decide +kernel
theorem dX7_kinds_49 : decode cX7_kinds 49 = .ok (.imul, 1) := by decide +kernel
theorem dX7_kinds_50 : decode cX7_kinds 50 = .ok (.iadd, 1) := by decide +kernel
theorem dX7_kinds_51 : decode cX7_kinds 51 = .ok (.iconst 1, 1) := by decide +kernel
theorem dX7_kinds_52 : decode cX7_kinds 52 = .ok (.iadd, 1) := by decide +kernel
theorem dX7_kinds_53 : decode cX7_kinds 53 = .ok (.iaload, 1) := by decide +kernel
theorem dX7_kinds_54 : decode cX7_kinds 54 = .ok (.aload_n 0, 1) := by decide +kernel
theorem dX7_kinds_55 : decode cX7_kinds 55 = .ok (.getfield 13, 3) := by decide +kernel
theorem dX7_kinds_58 : decode cX7_kinds 58 = .ok (.bipush 50, 2) := by decide +kernel
theorem dX7_kinds_60 : decode cX7_kinds 60 = .ok (.iconst 3, 1) := by decide +kernel
theorem dX7_kinds_61 : decode cX7_kinds 61 = .ok (.iload_n 1, 1) := by decide +kernel
theorem dX7_kinds_62 : decode cX7_kinds 62 = .ok (.imul, 1) := by decide +kernel
theorem dX7_kinds_63 : decode cX7_kinds 63 = .ok (.iadd, 1) := by decide +kernel
theorem dX7_kinds_64 : decode cX7_kinds 64 = .ok (.iconst 2, 1) := by decide +kernel
theorem dX7_kinds_65 : decode cX7_kinds 65 = .ok (.iadd, 1) := by decide +kernel
theorem dX7_kinds_66 : decode cX7_kinds 66 = .ok (.iaload, 1) := by decide +kernel
theorem dX7_kinds_67 : decode cX7_kinds 67 = .ok (.invokevirtual 152, 3) := by decide +kernel
theorem dX7_kinds_70 : decode cX7_kinds 70 = .ok (.iload_n 2, 1) := by decide +kernel
theorem dX7_kinds_71 : decode cX7_kinds 71 = .ok (.if_icmp .ne 10, 3) := by decide +kernel
theorem dX7_kinds_74 : decode cX7_kinds 74 = .ok (.iconst 1, 1) := by decide +kernel
theorem dX7_kinds_75 : decode cX7_kinds 75 = .ok (.iload 4, 2) := by decide +kernel
theorem dX7_kinds_77 : decode cX7_kinds 77 = .ok (.ishl, 1) := by decide +kernel
theorem dX7_kinds_78 : decode cX7_kinds 78 = .ok (.goto 4, 3) := by decide +kernel
theorem dX7_kinds_81 : decode cX7_kinds 81 = .ok (.iconst 0, 1) := by decide +kernel
theorem dX7_kinds_82 : decode cX7_kinds 82 = .ok (.ior, 1) := by decide +kernel
theorem dX7_kinds_83 : decode cX7_kinds 83 = .ok (.istore_n 3, 1) := by decide +kernel
theorem dX7_kinds_84 : decode cX7_kinds 84 = .ok (.iinc 4 1, 3) := by decide +kernel
theorem dX7_kinds_87 : decode cX7_kinds 87 = .ok (.goto (-57), 3) := by decide +kernel
theorem dX7_kinds_90 : decode cX7_kinds 90 = .ok (.iload_n 3, 1) := by decide +kernel
theorem dX7_kinds_91 : decode cX7_kinds 91 = .ok (.ireturn, 1) := by decide +kernel
theorem dX7_worst_0 : decode cX7_worst 0 = .ok (.iload_n 1, 1) := by decide +kernel
theorem dX7_worst_1 : decode cX7_worst 1 = .ok (.iconst 0, 1) := by decide +kernel
theorem dX7_worst_2 : decode cX7_worst 2 = .ok (.iconst 1, 1) := by decide +kernel
theorem dX7_worst_3 : decode cX7_worst 3 = .ok (.invokestatic 49, 3) := by decide +kernel
theorem dX7_worst_6 : decode cX7_worst 6 = .ok (.ifCond .eq 12, 3) := by decide +kernel
theorem dX7_worst_9 : decode cX7_worst 9 = .ok (.aload_n 0, 1) := by decide +kernel
theorem dX7_worst_10 : decode cX7_worst 10 = .ok (.iconst 1, 1) := by decide +kernel
theorem dX7_worst_11 : decode cX7_worst 11 = .ok (.iload_n 1, 1) := by decide +kernel
theorem dX7_worst_12 : decode cX7_worst 12 = .ok (.invokevirtual 197, 3) := by decide +kernel
theorem dX7_worst_15 : decode cX7_worst 15 = .ok (.goto 9, 3) := by decide +kernel
theorem dX7_worst_18 : decode cX7_worst 18 = .ok (.aload_n 0, 1) := by decide +kernel
theorem dX7_worst_19 : decode cX7_worst 19 = .ok (.bipush (-2), 2) := by decide +kernel
theorem dX7_worst_21 : decode cX7_worst 21 = .ok (.invokevirtual 81, 3) := by decide +kernel
theorem dX7_worst_24 : decode cX7_worst 24 = .ok (.ireturn, 1) := by decide +kernel
theorem dX7_best_0 : decode cX7_best 0 = .ok (.iload_n 1, 1) := by decide +kernel
theorem dX7_best_1 : decode cX7_best 1 = .ok (.iconst 0, 1) := by decide +kernel
theorem dX7_best_2 : decode cX7_best 2 = .ok (.iconst 1, 1) := by decide +kernel
theorem dX7_best_3 : decode cX7_best 3 = .ok (.invokestatic 49, 3) := by decide +kernel
theorem dX7_best_6 : decode cX7_best 6 = .ok (.ifCond .eq 12, 3) := by decide +kernel
theorem dX7_best_9 : decode cX7_best 9 = .ok (.aload_n 0, 1) := by decide +kernel
theorem dX7_best_10 : decode cX7_best 10 = .ok (.iconst 0, 1) := by decide +kernel
theorem dX7_best_11 : decode cX7_best 11 = .ok (.iload_n 1, 1) := by decide +kernel
theorem dX7_best_12 : decode cX7_best 12 = .ok (.invokevirtual 197, 3) := by decide +kernel
theorem dX7_best_15 : decode cX7_best 15 = .ok (.goto 9, 3) := by decide +kernel
theorem dX7_best_18 : decode cX7_best 18 = .ok (.aload_n 0, 1) := by decide +kernel
theorem dX7_best_19 : decode cX7_best 19 = .ok (.bipush (-2), 2) := by decide +kernel
theorem dX7_best_21 : decode cX7_best 21 = .ok (.invokevirtual 81, 3) := by decide +kernel
theorem dX7_best_24 : decode cX7_best 24 = .ok (.ireturn, 1) := by decide +kernel
theorem dX7_extreme_0 : decode cX7_extreme 0 = .ok (.aload_n 0, 1) := by decide +kernel
theorem dX7_extreme_1 : decode cX7_extreme 1 = .ok (.invokevirtual 135, 3) := by decide +kernel
theorem dX7_extreme_4 : decode cX7_extreme 4 = .ok (.istore_n 3, 1) := by decide +kernel
theorem dX7_extreme_5 : decode cX7_extreme 5 = .ok (.iconst 0, 1) := by decide +kernel
theorem dX7_extreme_6 : decode cX7_extreme 6 = .ok (.istore 4, 2) := by decide +kernel
theorem dX7_extreme_8 : decode cX7_extreme 8 = .ok (.iconst (-1), 1) := by decide +kernel
theorem dX7_extreme_9 : decode cX7_extreme 9 = .ok (.istore 5, 2) := by decide +kernel
theorem dX7_extreme_11 : decode cX7_extreme 11 = .ok (.iconst 0, 1) := by decide +kernel
theorem dX7_extreme_12 : decode cX7_extreme 12 = .ok (.istore 6, 2) := by decide +kernel
theorem dX7_extreme_14 : decode cX7_extreme 14 = .ok (.iload 6, 2) := by decide +kernel
theorem dX7_extreme_16 : decode cX7_extreme 16 = .ok (.aload_n 0, 1) := by decide +kernel
theorem dX7_extreme_17 : decode cX7_extreme 17 = .ok (.invokevirtual 57, 3) := by decide +kernel
theorem dX7_extreme_20 : decode cX7_extreme 20 = .ok (.if_icmp .ge 74, 3) := by decide +kernel
theorem dX7_extreme_23 : decode cX7_extreme 23 = .ok (.iload_n 3, 1) := by decide +kernel
theorem dX7_extreme_24 : decode cX7_extreme 24 = .ok (.iload 6, 2) := by decide +kernel
theorem dX7_extreme_26 : decode cX7_extreme 26 = .ok (.ishr, 1) := by decide +kernel
theorem dX7_extreme_27 : decode cX7_extreme 27 = .ok (.iconst 1, 1) := by decide +kernel
theorem dX7_extreme_28 : decode cX7_extreme 28 = .ok (.iand, 1) := by decide +kernel
theorem dX7_extreme_29 : decode cX7_extreme 29 = .ok (.iload_n 1, 1) := by decide +kernel
theorem dX7_extreme_30 : decode cX7_extreme 30 = .ok (.ifCond .eq 7, 3) := by decide +kernel
theorem dX7_extreme_33 : decode cX7_extreme 33 = .ok (.iconst 1, 1) := by decide +kernel
theorem dX7_extreme_34 : decode cX7_extreme 34 = .ok (.goto 4, 3) := by decide +kernel
theorem dX7_extreme_37 : decode cX7_extreme 37 = .ok (.iconst 0, 1) := by decide +kernel
theorem dX7_extreme_38 : decode cX7_extreme 38 = .ok (.if_icmp .ne 50, 3) := by decide +kernel
theorem dX7_extreme_41 : decode cX7_extreme 41 = .ok (.aload_n 0, 1) := by decide +kernel
theorem dX7_extreme_42 : decode cX7_extreme 42 = .ok (.iload_n 3, 1) := by decide +kernel
theorem dX7_extreme_43 : decode cX7_extreme 43 = .ok (.iconst 1, 1) := by decide +kernel
theorem dX7_extreme_44 : decode cX7_extreme 44 = .ok (.iload 6, 2) := by decide +kernel
theorem dX7_extreme_46 : decode cX7_extreme 46 = .ok (.ishl, 1) := by decide +kernel
theorem dX7_extreme_47 : decode cX7_extreme 47 = .ok (.ixor, 1) := by decide +kernel
theorem dX7_extreme_48 : decode cX7_extreme 48 = .ok (.invokevirtual 168, 3) := by decide +kernel
theorem dX7_extreme_51 : decode cX7_extreme 51 = .ok (.istore 7, 2) := by decide +kernel
theorem dX7_extreme_53 : decode cX7_extreme 53 = .ok (.iload 5, 2) := by decide +kernel
theorem dX7_extreme_55 : decode cX7_extreme 55 = .ok (.iconst (-1), 1) := by decide +kernel
theorem dX7_extreme_56 : decode cX7_extreme 56 = .ok (.if_icmp .eq 24, 3) := by decide +kernel
theorem dX7_extreme_59 : decode cX7_extreme 59 = .ok (.iload_n 1, 1) := by decide +kernel
theorem dX7_extreme_60 : decode cX7_extreme 60 = .ok (.ifCond .eq 13, 3) := by decide +kernel
theorem dX7_extreme_63 : decode cX7_extreme 63 = .ok (.iload 7, 2) := by decide +kernel
theorem dX7_extreme_65 : decode cX7_extreme 65 = .ok (.iload 4, 2) := by decide +kernel
theorem dX7_extreme_67 : decode cX7_extreme 67 = .ok (.if_icmp .ge 21, 3) := by decide +kernel
theorem dX7_extreme_70 : decode cX7_extreme 70 = .ok (.goto 10, 3) := by decide +kernel
theorem dX7_extreme_73 : decode cX7_extreme 73 = .ok (.iload 7, 2) := by decide +kernel
theorem dX7_extreme_75 : decode cX7_extreme 75 = .ok (.iload 4, 2) := by decide +kernel
theorem dX7_extreme_77 : decode cX7_extreme 77 = .ok (.if_icmp .le 11, 3) := by decide +kernel
theorem dX7_extreme_80 : decode cX7_extreme 80 = .ok (.iload 7, 2) := by decide +kernel
theorem dX7_extreme_82 : decode cX7_extreme 82 = .ok (.istore 4, 2) := by decide +kernel
theorem dX7_extreme_84 : decode cX7_extreme 84 = .ok (.iload 6, 2) := by decide +kernel
theorem dX7_extreme_86 : decode cX7_extreme 86 = .ok (.istore 5, 2) := by decide +kernel
theorem dX7_extreme_88 : decode cX7_extreme 88 = .ok (.iinc 6 1, 3) := by decide +kernel
theorem dX7_extreme_91 : decode cX7_extreme 91 = .ok (.goto (-77), 3) := by decide +kernel
theorem dX7_extreme_94 : decode cX7_extreme 94 = .ok (.iload_n 2, 1) := by decide +kernel
theorem dX7_extreme_95 : decode cX7_extreme 95 = .ok (.ifCond .eq 9, 3) := by decide +kernel
theorem dX7_extreme_98 : decode cX7_extreme 98 = .ok (.iload 5, 2) := by decide +kernel
theorem dX7_extreme_100 : decode cX7_extreme 100 = .ok (.iconst (-1), 1) := by decide +kernel
theorem dX7_extreme_101 : decode cX7_extreme 101 = .ok (.if_icmp .ne 8, 3) := by decide +kernel
theorem dX7_extreme_104 : decode cX7_extreme 104 = .ok (.iload 5, 2) := by decide +kernel
theorem dX7_extreme_106 : decode cX7_extreme 106 = .ok (.goto 5, 3) := by decide +kernel
theorem dX7_extreme_109 : decode cX7_extreme 109 = .ok (.iload 4, 2) := by decide +kernel
theorem dX7_extreme_111 : decode cX7_extreme 111 = .ok (.ireturn, 1) := by decide +kernel
theorem dX7_depthOf_0 : decode cX7_depthOf 0 = .ok (.iconst 0, 1) := by decide +kernel
theorem dX7_depthOf_1 : decode cX7_depthOf 1 = .ok (.istore_n 2, 1) := by decide +kernel
theorem dX7_depthOf_2 : decode cX7_depthOf 2 = .ok (.iconst 0, 1) := by decide +kernel
theorem dX7_depthOf_3 : decode cX7_depthOf 3 = .ok (.istore_n 3, 1) := by decide +kernel
theorem dX7_depthOf_4 : decode cX7_depthOf 4 = .ok (.iload_n 3, 1) := by decide +kernel
theorem dX7_depthOf_5 : decode cX7_depthOf 5 = .ok (.iload_n 1, 1) := by decide +kernel
theorem dX7_depthOf_6 : decode cX7_depthOf 6 = .ok (.if_icmp .ge 39, 3) := by decide +kernel
theorem dX7_depthOf_9 : decode cX7_depthOf 9 = .ok (.aload_n 0, 1) := by decide +kernel
theorem dX7_depthOf_10 : decode cX7_depthOf 10 = .ok (.iload_n 1, 1) := by decide +kernel
theorem dX7_depthOf_11 : decode cX7_depthOf 11 = .ok (.iconst 2, 1) := by decide +kernel
theorem dX7_depthOf_12 : decode cX7_depthOf 12 = .ok (.invokevirtual 53, 3) := by decide +kernel
theorem dX7_depthOf_15 : decode cX7_depthOf 15 = .ok (.iload_n 3, 1) := by decide +kernel
theorem dX7_depthOf_16 : decode cX7_depthOf 16 = .ok (.ishr, 1) := by decide +kernel
theorem dX7_depthOf_17 : decode cX7_depthOf 17 = .ok (.iconst 1, 1) := by decide +kernel
theorem dX7_depthOf_18 : decode cX7_depthOf 18 = .ok (.iand, 1) := by decide +kernel
theorem dX7_depthOf_19 : decode cX7_depthOf 19 = .ok (.iconst 1, 1) := by decide +kernel
theorem dX7_depthOf_20 : decode cX7_depthOf 20 = .ok (.if_icmp .ne 17, 3) := by decide +kernel
theorem dX7_depthOf_23 : decode cX7_depthOf 23 = .ok (.iload_n 2, 1) := by decide +kernel
theorem dX7_depthOf_24 : decode cX7_depthOf 24 = .ok (.iconst 1, 1) := by decide +kernel
theorem dX7_depthOf_25 : decode cX7_depthOf 25 = .ok (.aload_n 0, 1) := by decide +kernel
theorem dX7_depthOf_26 : decode cX7_depthOf 26 = .ok (.iload_n 3, 1) := by decide +kernel
theorem dX7_depthOf_27 : decode cX7_depthOf 27 = .ok (.invokevirtual 201, 3) := by decide +kernel
theorem dX7_depthOf_30 : decode cX7_depthOf 30 = .ok (.iadd, 1) := by decide +kernel
theorem dX7_depthOf_31 : decode cX7_depthOf 31 = .ok (.invokestatic 146, 3) := by decide +kernel
theorem dX7_depthOf_34 : decode cX7_depthOf 34 = .ok (.goto 4, 3) := by decide +kernel
theorem dX7_depthOf_37 : decode cX7_depthOf 37 = .ok (.iload_n 2, 1) := by decide +kernel
theorem dX7_depthOf_38 : decode cX7_depthOf 38 = .ok (.istore_n 2, 1) := by decide +kernel
theorem dX7_depthOf_39 : decode cX7_depthOf 39 = .ok (.iinc 3 1, 3) := by decide +kernel
theorem dX7_depthOf_42 : decode cX7_depthOf 42 = .ok (.goto (-38), 3) := by decide +kernel
theorem dX7_depthOf_45 : decode cX7_depthOf 45 = .ok (.iload_n 2, 1) := by decide +kernel
theorem dX7_depthOf_46 : decode cX7_depthOf 46 = .ok (.ireturn, 1) := by decide +kernel
theorem dX7_depth_0 : decode cX7_depth 0 = .ok (.aload_n 0, 1) := by decide +kernel
theorem dX7_depth_1 : decode cX7_depth 1 = .ok (.iload_n 1, 1) := by decide +kernel
theorem dX7_depth_2 : decode cX7_depth 2 = .ok (.invokevirtual 90, 3) := by decide +kernel
theorem dX7_depth_5 : decode cX7_depth 5 = .ok (.ifCond .eq 11, 3) := by decide +kernel
theorem dX7_depth_8 : decode cX7_depth 8 = .ok (.aload_n 0, 1) := by decide +kernel
theorem dX7_depth_9 : decode cX7_depth 9 = .ok (.iload_n 1, 1) := by decide +kernel
theorem dX7_depth_10 : decode cX7_depth 10 = .ok (.invokevirtual 201, 3) := by decide +kernel
theorem dX7_depth_13 : decode cX7_depth 13 = .ok (.goto 9, 3) := by decide +kernel
theorem dX7_depth_16 : decode cX7_depth 16 = .ok (.aload_n 0, 1) := by decide +kernel
theorem dX7_depth_17 : decode cX7_depth 17 = .ok (.bipush (-2), 2) := by decide +kernel
theorem dX7_depth_19 : decode cX7_depth 19 = .ok (.invokevirtual 81, 3) := by decide +kernel
theorem dX7_depth_22 : decode cX7_depth 22 = .ok (.ireturn, 1) := by decide +kernel
theorem dX7_ends_0 : decode cX7_ends 0 = .ok (.iload_n 1, 1) := by decide +kernel
theorem dX7_ends_1 : decode cX7_ends 1 = .ok (.iconst 0, 1) := by decide +kernel
theorem dX7_ends_2 : decode cX7_ends 2 = .ok (.iconst 1, 1) := by decide +kernel
theorem dX7_ends_3 : decode cX7_ends 3 = .ok (.invokestatic 49, 3) := by decide +kernel
theorem dX7_ends_6 : decode cX7_ends 6 = .ok (.ifCond .ne 10, 3) := by decide +kernel
theorem dX7_ends_9 : decode cX7_ends 9 = .ok (.aload_n 0, 1) := by decide +kernel
theorem dX7_ends_10 : decode cX7_ends 10 = .ok (.bipush (-2), 2) := by decide +kernel
theorem dX7_ends_12 : decode cX7_ends 12 = .ok (.invokevirtual 81, 3) := by decide +kernel
theorem dX7_ends_15 : decode cX7_ends 15 = .ok (.ireturn, 1) := by decide +kernel
theorem dX7_ends_16 : decode cX7_ends 16 = .ok (.iconst 0, 1) := by decide +kernel
theorem dX7_ends_17 : decode cX7_ends 17 = .ok (.istore_n 2, 1) := by decide +kernel
theorem dX7_ends_18 : decode cX7_ends 18 = .ok (.iconst 0, 1) := by decide +kernel
theorem dX7_ends_19 : decode cX7_ends 19 = .ok (.istore_n 3, 1) := by decide +kernel
theorem dX7_ends_20 : decode cX7_ends 20 = .ok (.iconst 0, 1) := by decide +kernel
theorem dX7_ends_21 : decode cX7_ends 21 = .ok (.istore 4, 2) := by decide +kernel
theorem dX7_ends_23 : decode cX7_ends 23 = .ok (.iload 4, 2) := by decide +kernel
theorem dX7_ends_25 : decode cX7_ends 25 = .ok (.aload_n 0, 1) := by decide +kernel
theorem dX7_ends_26 : decode cX7_ends 26 = .ok (.invokevirtual 57, 3) := by decide +kernel
theorem dX7_ends_29 : decode cX7_ends 29 = .ok (.if_icmp .ge 40, 3) := by decide +kernel
theorem dX7_ends_32 : decode cX7_ends 32 = .ok (.iload_n 2, 1) := by decide +kernel
theorem dX7_ends_33 : decode cX7_ends 33 = .ok (.aload_n 0, 1) := by decide +kernel
theorem dX7_ends_34 : decode cX7_ends 34 = .ok (.iload 4, 2) := by decide +kernel
theorem dX7_ends_36 : decode cX7_ends 36 = .ok (.iconst 2, 1) := by decide +kernel
theorem dX7_ends_37 : decode cX7_ends 37 = .ok (.invokevirtual 53, 3) := by decide +kernel
theorem dX7_ends_40 : decode cX7_ends 40 = .ok (.ior, 1) := by decide +kernel
theorem dX7_ends_41 : decode cX7_ends 41 = .ok (.istore_n 2, 1) := by decide +kernel
theorem dX7_ends_42 : decode cX7_ends 42 = .ok (.iload_n 3, 1) := by decide +kernel
theorem dX7_ends_43 : decode cX7_ends 43 = .ok (.aload_n 0, 1) := by decide +kernel
theorem dX7_ends_44 : decode cX7_ends 44 = .ok (.iload 4, 2) := by decide +kernel
theorem dX7_ends_46 : decode cX7_ends 46 = .ok (.iconst 2, 1) := by decide +kernel
theorem dX7_ends_47 : decode cX7_ends 47 = .ok (.invokevirtual 53, 3) := by decide +kernel
theorem dX7_ends_50 : decode cX7_ends 50 = .ok (.ifCond .ne 10, 3) := by decide +kernel
theorem dX7_ends_53 : decode cX7_ends 53 = .ok (.iconst 1, 1) := by decide +kernel
theorem dX7_ends_54 : decode cX7_ends 54 = .ok (.iload 4, 2) := by decide +kernel
theorem dX7_ends_56 : decode cX7_ends 56 = .ok (.ishl, 1) := by decide +kernel
theorem dX7_ends_57 : decode cX7_ends 57 = .ok (.goto 4, 3) := by decide +kernel
theorem dX7_ends_60 : decode cX7_ends 60 = .ok (.iconst 0, 1) := by decide +kernel
theorem dX7_ends_61 : decode cX7_ends 61 = .ok (.ior, 1) := by decide +kernel
theorem dX7_ends_62 : decode cX7_ends 62 = .ok (.istore_n 3, 1) := by decide +kernel
theorem dX7_ends_63 : decode cX7_ends 63 = .ok (.iinc 4 1, 3) := by decide +kernel
theorem dX7_ends_66 : decode cX7_ends 66 = .ok (.goto (-43), 3) := by decide +kernel
theorem dX7_ends_69 : decode cX7_ends 69 = .ok (.iload_n 1, 1) := by decide +kernel
theorem dX7_ends_70 : decode cX7_ends 70 = .ok (.iconst 1, 1) := by decide +kernel
theorem dX7_ends_71 : decode cX7_ends 71 = .ok (.if_icmp .ne 7, 3) := by decide +kernel
theorem dX7_ends_74 : decode cX7_ends 74 = .ok (.iload_n 3, 1) := by decide +kernel
theorem dX7_ends_75 : decode cX7_ends 75 = .ok (.goto 15, 3) := by decide +kernel
theorem dX7_ends_78 : decode cX7_ends 78 = .ok (.iconst 1, 1) := by decide +kernel
theorem dX7_ends_79 : decode cX7_ends 79 = .ok (.aload_n 0, 1) := by decide +kernel
theorem dX7_ends_80 : decode cX7_ends 80 = .ok (.invokevirtual 57, 3) := by decide +kernel
theorem dX7_ends_83 : decode cX7_ends 83 = .ok (.ishl, 1) := by decide +kernel
theorem dX7_ends_84 : decode cX7_ends 84 = .ok (.iconst 1, 1) := by decide +kernel
theorem dX7_ends_85 : decode cX7_ends 85 = .ok (.isub, 1) := by decide +kernel
theorem dX7_ends_86 : decode cX7_ends 86 = .ok (.iload_n 2, 1) := by decide +kernel
theorem dX7_ends_87 : decode cX7_ends 87 = .ok (.iconst (-1), 1) := by decide +kernel
theorem dX7_ends_88 : decode cX7_ends 88 = .ok (.ixor, 1) := by decide +kernel
theorem dX7_ends_89 : decode cX7_ends 89 = .ok (.iand, 1) := by decide +kernel
theorem dX7_ends_90 : decode cX7_ends 90 = .ok (.ireturn, 1) := by decide +kernel
theorem dX7_common_0 : decode cX7_common 0 = .ok (.aload_n 0, 1) := by decide +kernel
theorem dX7_common_1 : decode cX7_common 1 = .ok (.iload_n 1, 1) := by decide +kernel
theorem dX7_common_2 : decode cX7_common 2 = .ok (.invokevirtual 90, 3) := by decide +kernel
theorem dX7_common_5 : decode cX7_common 5 = .ok (.ifCond .eq 25, 3) := by decide +kernel
theorem dX7_common_8 : decode cX7_common 8 = .ok (.aload_n 0, 1) := by decide +kernel
theorem dX7_common_9 : decode cX7_common 9 = .ok (.iload_n 2, 1) := by decide +kernel
theorem dX7_common_10 : decode cX7_common 10 = .ok (.invokevirtual 90, 3) := by decide +kernel
theorem dX7_common_13 : decode cX7_common 13 = .ok (.ifCond .eq 17, 3) := by decide +kernel
theorem dX7_common_16 : decode cX7_common 16 = .ok (.aload_n 0, 1) := by decide +kernel
theorem dX7_common_17 : decode cX7_common 17 = .ok (.iload_n 1, 1) := by decide +kernel
theorem dX7_common_18 : decode cX7_common 18 = .ok (.invokevirtual 177, 3) := by decide +kernel
theorem dX7_common_21 : decode cX7_common 21 = .ok (.aload_n 0, 1) := by decide +kernel
theorem dX7_common_22 : decode cX7_common 22 = .ok (.iload_n 2, 1) := by decide +kernel
theorem dX7_common_23 : decode cX7_common 23 = .ok (.invokevirtual 177, 3) := by decide +kernel
theorem dX7_common_26 : decode cX7_common 26 = .ok (.iand, 1) := by decide +kernel
theorem dX7_common_27 : decode cX7_common 27 = .ok (.goto 9, 3) := by decide +kernel
theorem dX7_common_30 : decode cX7_common 30 = .ok (.aload_n 0, 1) := by decide +kernel
theorem dX7_common_31 : decode cX7_common 31 = .ok (.bipush (-2), 2) := by decide +kernel
theorem dX7_common_33 : decode cX7_common 33 = .ok (.invokevirtual 81, 3) := by decide +kernel
theorem dX7_common_36 : decode cX7_common 36 = .ok (.ireturn, 1) := by decide +kernel
theorem dX7_weatherFor_0 : decode cX7_weatherFor 0 = .ok (.iload_n 1, 1) := by decide +kernel
theorem dX7_weatherFor_1 : decode cX7_weatherFor 1 = .ok (.iconst 0, 1) := by decide +kernel
theorem dX7_weatherFor_2 : decode cX7_weatherFor 2 = .ok (.iconst 1, 1) := by decide +kernel
theorem dX7_weatherFor_3 : decode cX7_weatherFor 3 = .ok (.invokestatic 49, 3) := by decide +kernel
theorem dX7_weatherFor_6 : decode cX7_weatherFor 6 = .ok (.ifCond .ne 10, 3) := by decide +kernel
theorem dX7_weatherFor_9 : decode cX7_weatherFor 9 = .ok (.aload_n 0, 1) := by decide +kernel
theorem dX7_weatherFor_10 : decode cX7_weatherFor 10 = .ok (.bipush (-2), 2) := by decide +kernel
theorem dX7_weatherFor_12 : decode cX7_weatherFor 12 = .ok (.invokevirtual 81, 3) := by decide +kernel
theorem dX7_weatherFor_15 : decode cX7_weatherFor 15 = .ok (.ireturn, 1) := by decide +kernel
theorem dX7_weatherFor_16 : decode cX7_weatherFor 16 = .ok (.iconst 0, 1) := by decide +kernel
theorem dX7_weatherFor_17 : decode cX7_weatherFor 17 = .ok (.istore_n 2, 1) := by decide +kernel
theorem dX7_weatherFor_18 : decode cX7_weatherFor 18 = .ok (.iconst (-1), 1) := by decide +kernel
theorem dX7_weatherFor_19 : decode cX7_weatherFor 19 = .ok (.istore_n 3, 1) := by decide +kernel
theorem dX7_weatherFor_20 : decode cX7_weatherFor 20 = .ok (.iconst 0, 1) := by decide +kernel
theorem dX7_weatherFor_21 : decode cX7_weatherFor 21 = .ok (.istore 4, 2) := by decide +kernel
theorem dX7_weatherFor_23 : decode cX7_weatherFor 23 = .ok (.iload 4, 2) := by decide +kernel
theorem dX7_weatherFor_25 : decode cX7_weatherFor 25 = .ok (.iconst 4, 1) := by decide +kernel
theorem dX7_weatherFor_26 : decode cX7_weatherFor 26 = .ok (.if_icmp .ge 92, 3) := by decide +kernel
theorem dX7_weatherFor_29 : decode cX7_weatherFor 29 = .ok (.iconst 0, 1) := by decide +kernel
theorem dX7_weatherFor_30 : decode cX7_weatherFor 30 = .ok (.istore 5, 2) := by decide +kernel
theorem dX7_weatherFor_32 : decode cX7_weatherFor 32 = .ok (.iconst 0, 1) := by decide +kernel
theorem dX7_weatherFor_33 : decode cX7_weatherFor 33 = .ok (.istore 6, 2) := by decide +kernel
theorem dX7_weatherFor_35 : decode cX7_weatherFor 35 = .ok (.iload 6, 2) := by decide +kernel
theorem dX7_weatherFor_37 : decode cX7_weatherFor 37 = .ok (.aload_n 0, 1) := by decide +kernel
theorem dX7_weatherFor_38 : decode cX7_weatherFor 38 = .ok (.invokevirtual 57, 3) := by decide +kernel
theorem dX7_weatherFor_41 : decode cX7_weatherFor 41 = .ok (.if_icmp .ge 51, 3) := by decide +kernel
theorem dX7_weatherFor_44 : decode cX7_weatherFor 44 = .ok (.iload 5, 2) := by decide +kernel
theorem dX7_weatherFor_46 : decode cX7_weatherFor 46 = .ok (.aload_n 0, 1) := by decide +kernel
theorem dX7_weatherFor_47 : decode cX7_weatherFor 47 = .ok (.iload 6, 2) := by decide +kernel
theorem dX7_weatherFor_49 : decode cX7_weatherFor 49 = .ok (.invokevirtual 61, 3) := by decide +kernel
theorem dX7_weatherFor_52 : decode cX7_weatherFor 52 = .ok (.ifCond .eq 30, 3) := by decide +kernel
theorem dX7_weatherFor_55 : decode cX7_weatherFor 55 = .ok (.aload_n 0, 1) := by decide +kernel
theorem dX7_weatherFor_56 : decode cX7_weatherFor 56 = .ok (.iload 6, 2) := by decide +kernel
theorem dX7_weatherFor_58 : decode cX7_weatherFor 58 = .ok (.iconst 3, 1) := by decide +kernel
theorem dX7_weatherFor_59 : decode cX7_weatherFor 59 = .ok (.invokevirtual 53, 3) := by decide +kernel
theorem dX7_weatherFor_62 : decode cX7_weatherFor 62 = .ok (.iconst 1, 1) := by decide +kernel
theorem dX7_weatherFor_63 : decode cX7_weatherFor 63 = .ok (.if_icmp .ne 19, 3) := by decide +kernel
theorem dX7_weatherFor_66 : decode cX7_weatherFor 66 = .ok (.aload_n 0, 1) := by decide +kernel
theorem dX7_weatherFor_67 : decode cX7_weatherFor 67 = .ok (.iload 6, 2) := by decide +kernel
theorem dX7_weatherFor_69 : decode cX7_weatherFor 69 = .ok (.iconst 1, 1) := by decide +kernel
theorem dX7_weatherFor_70 : decode cX7_weatherFor 70 = .ok (.invokevirtual 53, 3) := by decide +kernel
theorem dX7_weatherFor_73 : decode cX7_weatherFor 73 = .ok (.iload 4, 2) := by decide +kernel
theorem dX7_weatherFor_75 : decode cX7_weatherFor 75 = .ok (.if_icmp .ne 7, 3) := by decide +kernel
theorem dX7_weatherFor_78 : decode cX7_weatherFor 78 = .ok (.iconst 1, 1) := by decide +kernel
theorem dX7_weatherFor_79 : decode cX7_weatherFor 79 = .ok (.goto 4, 3) := by decide +kernel
theorem dX7_weatherFor_82 : decode cX7_weatherFor 82 = .ok (.iconst 0, 1) := by decide +kernel
theorem dX7_weatherFor_83 : decode cX7_weatherFor 83 = .ok (.iadd, 1) := by decide +kernel
theorem dX7_weatherFor_84 : decode cX7_weatherFor 84 = .ok (.istore 5, 2) := by decide +kernel
theorem dX7_weatherFor_86 : decode cX7_weatherFor 86 = .ok (.iinc 6 1, 3) := by decide +kernel
theorem dX7_weatherFor_89 : decode cX7_weatherFor 89 = .ok (.goto (-54), 3) := by decide +kernel
theorem dX7_weatherFor_92 : decode cX7_weatherFor 92 = .ok (.iload 5, 2) := by decide +kernel
theorem dX7_weatherFor_94 : decode cX7_weatherFor 94 = .ok (.iload_n 3, 1) := by decide +kernel
theorem dX7_weatherFor_95 : decode cX7_weatherFor 95 = .ok (.if_icmp .le 8, 3) := by decide +kernel
theorem dX7_weatherFor_98 : decode cX7_weatherFor 98 = .ok (.iload 4, 2) := by decide +kernel
theorem dX7_weatherFor_100 : decode cX7_weatherFor 100 = .ok (.goto 4, 3) := by decide +kernel
theorem dX7_weatherFor_103 : decode cX7_weatherFor 103 = .ok (.iload_n 2, 1) := by decide +kernel
theorem dX7_weatherFor_104 : decode cX7_weatherFor 104 = .ok (.istore_n 2, 1) := by decide +kernel
theorem dX7_weatherFor_105 : decode cX7_weatherFor 105 = .ok (.iload 5, 2) := by decide +kernel
theorem dX7_weatherFor_107 : decode cX7_weatherFor 107 = .ok (.iload_n 3, 1) := by decide +kernel
theorem dX7_weatherFor_108 : decode cX7_weatherFor 108 = .ok (.invokestatic 146, 3) := by decide +kernel
theorem dX7_weatherFor_111 : decode cX7_weatherFor 111 = .ok (.istore_n 3, 1) := by decide +kernel
theorem dX7_weatherFor_112 : decode cX7_weatherFor 112 = .ok (.iinc 4 1, 3) := by decide +kernel
theorem dX7_weatherFor_115 : decode cX7_weatherFor 115 = .ok (.goto (-92), 3) := by decide +kernel
