theorem dX4_load_76 : decode cX4_load 76 = .ok (.iload_n 2, 1) := by decide +kernel
theorem dX4_load_77 : decode cX4_load 77 = .ok (.iconst 4, 1) := by decide +kernel
theorem dX4_load_78 : decode cX4_load 78 = .ok (.iadd, 1) := by decide +kernel
theorem dX4_load_79 : decode cX4_load 79 = .ok (.iload 4, 2) := by decide +kernel
theorem dX4_load_81 : decode cX4_load 81 = .ok (.iload 8, 2) := by decide +kernel
theorem dX4_load_83 : decode cX4_load 83 = .ok (.iconst 4, 1) := by decide +kernel
theorem dX4_load_84 : decode cX4_load 84 = .ok (.isub, 1) := by decide +kernel
theorem dX4_load_85 : decode cX4_load 85 = .ok (.invokevirtual 44, 3) := by decide +kernel
theorem dX4_load_88 : decode cX4_load 88 = .ok (.aload 9, 2) := by decide +kernel
theorem dX4_load_90 : decode cX4_load 90 = .ok (.iload_n 2, 1) := by decide +kernel
theorem dX4_load_91 : decode cX4_load 91 = .ok (.bipush 8, 2) := by decide +kernel
theorem dX4_load_93 : decode cX4_load 93 = .ok (.iadd, 1) := by decide +kernel
theorem dX4_load_94 : decode cX4_load 94 = .ok (.iload 5, 2) := by decide +kernel
theorem dX4_load_96 : decode cX4_load 96 = .ok (.iload 8, 2) := by decide +kernel
theorem dX4_load_98 : decode cX4_load 98 = .ok (.bipush 8, 2) := by decide +kernel
theorem dX4_load_100 : decode cX4_load 100 = .ok (.isub, 1) := by decide +kernel
theorem dX4_load_101 : decode cX4_load 101 = .ok (.invokevirtual 44, 3) := by decide +kernel
theorem dX4_load_104 : decode cX4_load 104 = .ok (.aload 9, 2) := by decide +kernel
theorem dX4_load_106 : decode cX4_load 106 = .ok (.iload_n 2, 1) := by decide +kernel
theorem dX4_load_107 : decode cX4_load 107 = .ok (.bipush 12, 2) := by decide +kernel
theorem dX4_load_109 : decode cX4_load 109 = .ok (.iadd, 1) := by decide +kernel
theorem dX4_load_110 : decode cX4_load 110 = .ok (.iload 6, 2) := by decide +kernel
theorem dX4_load_112 : decode cX4_load 112 = .ok (.iload 8, 2) := by decide +kernel
theorem dX4_load_114 : decode cX4_load 114 = .ok (.bipush 12, 2) := by decide +kernel
theorem dX4_load_116 : decode cX4_load 116 = .ok (.isub, 1) := by decide +kernel
theorem dX4_load_117 : decode cX4_load 117 = .ok (.invokevirtual 44, 3) := by decide +kernel
theorem dX4_load_120 : decode cX4_load 120 = .ok (.aload 9, 2) := by decide +kernel
theorem dX4_load_122 : decode cX4_load 122 = .ok (.iload_n 2, 1) := by decide +kernel
theorem dX4_load_123 : decode cX4_load 123 = .ok (.bipush 16, 2) := by decide +kernel
theorem dX4_load_125 : decode cX4_load 125 = .ok (.iadd, 1) := by decide +kernel
theorem dX4_load_126 : decode cX4_load 126 = .ok (.iload 7, 2) := by decide +kernel
theorem dX4_load_128 : decode cX4_load 128 = .ok (.iload 8, 2) := by decide +kernel
theorem dX4_load_130 : decode cX4_load 130 = .ok (.bipush 16, 2) := by decide +kernel
theorem dX4_load_132 : decode cX4_load 132 = .ok (.isub, 1) := by decide +kernel
theorem dX4_load_133 : decode cX4_load 133 = .ok (.invokevirtual 44, 3) := by decide +kernel
theorem dX4_load_136 : decode cX4_load 136 = .ok (.return_, 1) := by decide +kernel
theorem dX4_byteAt_0 : decode cX4_byteAt 0 = .ok (.iload_n 1, 1) := by decide +kernel
theorem dX4_byteAt_1 : decode cX4_byteAt 1 = .ok (.ifCond .lt 12, 3) := by decide +kernel
theorem dX4_byteAt_4 : decode cX4_byteAt 4 = .ok (.iload_n 1, 1) := by decide +kernel
theorem dX4_byteAt_5 : decode cX4_byteAt 5 = .ok (.iconst 1, 1) := by decide +kernel
theorem dX4_byteAt_6 : decode cX4_byteAt 6 = .ok (.if_icmp .gt 7, 3) := by decide +kernel
theorem dX4_byteAt_9 : decode cX4_byteAt 9 = .ok (.iconst 1, 1) := by decide +kernel
theorem dX4_byteAt_10 : decode cX4_byteAt 10 = .ok (.goto 4, 3) := by decide +kernel
theorem dX4_byteAt_13 : decode cX4_byteAt 13 = .ok (.iconst 0, 1) := by decide +kernel
theorem dX4_byteAt_14 : decode cX4_byteAt 14 = .ok (.invokestatic 28, 3) := by decide +kernel
theorem dX4_byteAt_17 : decode cX4_byteAt 17 = .ok (.iload_n 2, 1) := by decide +kernel
theorem dX4_byteAt_18 : decode cX4_byteAt 18 = .ok (.ifCond .lt 13, 3) := by decide +kernel
theorem dX4_byteAt_21 : decode cX4_byteAt 21 = .ok (.iload_n 2, 1) := by decide +kernel
theorem dX4_byteAt_22 : decode cX4_byteAt 22 = .ok (.ldc 32, 2) := by decide +kernel
theorem dX4_byteAt_24 : decode cX4_byteAt 24 = .ok (.if_icmp .gt 7, 3) := by decide +kernel
theorem dX4_byteAt_27 : decode cX4_byteAt 27 = .ok (.iconst 1, 1) := by decide +kernel
theorem dX4_byteAt_28 : decode cX4_byteAt 28 = .ok (.goto 4, 3) := by decide +kernel
theorem dX4_byteAt_31 : decode cX4_byteAt 31 = .ok (.iconst 0, 1) := by decide +kernel
theorem dX4_byteAt_32 : decode cX4_byteAt 32 = .ok (.invokestatic 28, 3) := by decide +kernel
theorem dX4_byteAt_35 : decode cX4_byteAt 35 = .ok (.aload_n 0, 1) := by decide +kernel
theorem dX4_byteAt_36 : decode cX4_byteAt 36 = .ok (.iload_n 1, 1) := by decide +kernel
theorem dX4_byteAt_37 : decode cX4_byteAt 37 = .ok (.invokevirtual 40, 3) := by decide +kernel
theorem dX4_byteAt_40 : decode cX4_byteAt 40 = .ok (.iload_n 2, 1) := by decide +kernel
theorem dX4_byteAt_41 : decode cX4_byteAt 41 = .ok (.invokevirtual 48, 3) := by decide +kernel
theorem dX4_byteAt_44 : decode cX4_byteAt 44 = .ok (.ireturn, 1) := by decide +kernel
theorem dX4_reset_0 : decode cX4_reset 0 = .ok (.iload_n 1, 1) := by decide +kernel
theorem dX4_reset_1 : decode cX4_reset 1 = .ok (.ifCond .lt 12, 3) := by decide +kernel
theorem dX4_reset_4 : decode cX4_reset 4 = .ok (.iload_n 1, 1) := by decide +kernel
theorem dX4_reset_5 : decode cX4_reset 5 = .ok (.iconst 1, 1) := by decide +kernel
theorem dX4_reset_6 : decode cX4_reset 6 = .ok (.if_icmp .gt 7, 3) := by decide +kernel
theorem dX4_reset_9 : decode cX4_reset 9 = .ok (.iconst 1, 1) := by decide +kernel
theorem dX4_reset_10 : decode cX4_reset 10 = .ok (.goto 4, 3) := by decide +kernel
theorem dX4_reset_13 : decode cX4_reset 13 = .ok (.iconst 0, 1) := by decide +kernel
theorem dX4_reset_14 : decode cX4_reset 14 = .ok (.invokestatic 28, 3) := by decide +kernel
theorem dX4_reset_17 : decode cX4_reset 17 = .ok (.aload_n 0, 1) := by decide +kernel
theorem dX4_reset_18 : decode cX4_reset 18 = .ok (.iload_n 1, 1) := by decide +kernel
theorem dX4_reset_19 : decode cX4_reset 19 = .ok (.invokevirtual 40, 3) := by decide +kernel
theorem dX4_reset_22 : decode cX4_reset 22 = .ok (.invokevirtual 52, 3) := by decide +kernel
theorem dX4_reset_25 : decode cX4_reset 25 = .ok (.return_, 1) := by decide +kernel
theorem dX4_run_0 : decode cX4_run 0 = .ok (.iload_n 1, 1) := by decide +kernel
theorem dX4_run_1 : decode cX4_run 1 = .ok (.ifCond .lt 19, 3) := by decide +kernel
theorem dX4_run_4 : decode cX4_run 4 = .ok (.iload_n 1, 1) := by decide +kernel
theorem dX4_run_5 : decode cX4_run 5 = .ok (.sipush 4000, 3) := by decide +kernel
theorem dX4_run_8 : decode cX4_run 8 = .ok (.if_icmp .gt 12, 3) := by decide +kernel
theorem dX4_run_11 : decode cX4_run 11 = .ok (.iload_n 2, 1) := by decide +kernel
theorem dX4_run_12 : decode cX4_run 12 = .ok (.ifCond .lt 8, 3) := by decide +kernel
theorem dX4_run_15 : decode cX4_run 15 = .ok (.iload_n 2, 1) := by decide +kernel
theorem dX4_run_16 : decode cX4_run 16 = .ok (.iconst 4, 1) := by decide +kernel
theorem dX4_run_17 : decode cX4_run 17 = .ok (.if_icmp .le 13, 3) := by decide +kernel
theorem dX4_run_20 : decode cX4_run 20 = .ok (.new 33, 3) := by decide +kernel
theorem dX4_run_23 : decode cX4_run 23 = .ok (.dup, 1) := by decide +kernel
theorem dX4_run_24 : decode cX4_run 24 = .ok (.ldc 55, 2) := by decide +kernel
theorem dX4_run_26 : decode cX4_run 26 = .ok (.invokespecial 37, 3) := by decide +kernel
theorem dX4_run_29 : decode cX4_run 29 = .ok (.athrow, 1) := by decide +kernel
theorem dX4_run_30 : decode cX4_run 30 = .ok (.iconst 0, 1) := by decide +kernel
theorem dX4_run_31 : decode cX4_run 31 = .ok (.istore_n 3, 1) := by decide +kernel
theorem dX4_run_32 : decode cX4_run 32 = .ok (.iload_n 3, 1) := by decide +kernel
theorem dX4_run_33 : decode cX4_run 33 = .ok (.iload_n 1, 1) := by decide +kernel
theorem dX4_run_34 : decode cX4_run 34 = .ok (.if_icmp .ge 58, 3) := by decide +kernel
theorem dX4_run_37 : decode cX4_run 37 = .ok (.aload_n 0, 1) := by decide +kernel
theorem dX4_run_38 : decode cX4_run 38 = .ok (.getfield 21, 3) := by decide +kernel
theorem dX4_run_41 : decode cX4_run 41 = .ok (.invokevirtual 57, 3) := by decide +kernel
theorem dX4_run_44 : decode cX4_run 44 = .ok (.ifCond .eq 13, 3) := by decide +kernel
theorem dX4_run_47 : decode cX4_run 47 = .ok (.aload_n 0, 1) := by decide +kernel
theorem dX4_run_48 : decode cX4_run 48 = .ok (.getfield 25, 3) := by decide +kernel
theorem dX4_run_51 : decode cX4_run 51 = .ok (.invokevirtual 57, 3) := by decide +kernel
theorem dX4_run_54 : decode cX4_run 54 = .ok (.ifCond .ne 38, 3) := by decide +kernel
theorem dX4_run_57 : decode cX4_run 57 = .ok (.aload_n 0, 1) := by decide +kernel
theorem dX4_run_58 : decode cX4_run 58 = .ok (.getfield 21, 3) := by decide +kernel
theorem dX4_run_61 : decode cX4_run 61 = .ok (.invokevirtual 61, 3) := by decide +kernel
theorem dX4_run_64 : decode cX4_run 64 = .ok (.iconst 0, 1) := by decide +kernel
theorem dX4_run_65 : decode cX4_run 65 = .ok (.istore 4, 2) := by decide +kernel
theorem dX4_run_67 : decode cX4_run 67 = .ok (.iload 4, 2) := by decide +kernel
theorem dX4_run_69 : decode cX4_run 69 = .ok (.iload_n 2, 1) := by decide +kernel
theorem dX4_run_70 : decode cX4_run 70 = .ok (.if_icmp .ge 16, 3) := by decide +kernel
theorem dX4_run_73 : decode cX4_run 73 = .ok (.aload_n 0, 1) := by decide +kernel
theorem dX4_run_74 : decode cX4_run 74 = .ok (.getfield 25, 3) := by decide +kernel
theorem dX4_run_77 : decode cX4_run 77 = .ok (.invokevirtual 61, 3) := by decide +kernel
theorem dX4_run_80 : decode cX4_run 80 = .ok (.iinc 4 1, 3) := by decide +kernel
theorem dX4_run_83 : decode cX4_run 83 = .ok (.goto (-16), 3) := by decide +kernel
theorem dX4_run_86 : decode cX4_run 86 = .ok (.iinc 3 1, 3) := by decide +kernel
theorem dX4_run_89 : decode cX4_run 89 = .ok (.goto (-57), 3) := by decide +kernel
theorem dX4_run_92 : decode cX4_run 92 = .ok (.iload_n 3, 1) := by decide +kernel
theorem dX4_run_93 : decode cX4_run 93 = .ok (.ireturn, 1) := by decide +kernel
theorem dX4_register_0 : decode cX4_register 0 = .ok (.iload_n 1, 1) := by decide +kernel
theorem dX4_register_1 : decode cX4_register 1 = .ok (.ifCond .lt 12, 3) := by decide +kernel
theorem dX4_register_4 : decode cX4_register 4 = .ok (.iload_n 1, 1) := by decide +kernel
theorem dX4_register_5 : decode cX4_register 5 = .ok (.iconst 1, 1) := by decide +kernel
theorem dX4_register_6 : decode cX4_register 6 = .ok (.if_icmp .gt 7, 3) := by decide +kernel
theorem dX4_register_9 : decode cX4_register 9 = .ok (.iconst 1, 1) := by decide +kernel
theorem dX4_register_10 : decode cX4_register 10 = .ok (.goto 4, 3) := by decide +kernel
theorem dX4_register_13 : decode cX4_register 13 = .ok (.iconst 0, 1) := by decide +kernel
theorem dX4_register_14 : decode cX4_register 14 = .ok (.invokestatic 28, 3) := by decide +kernel
theorem dX4_register_17 : decode cX4_register 17 = .ok (.iload_n 2, 1) := by decide +kernel
theorem dX4_register_18 : decode cX4_register 18 = .ok (.ifCond .lt 13, 3) := by decide +kernel
theorem dX4_register_21 : decode cX4_register 21 = .ok (.iload_n 2, 1) := by decide +kernel
theorem dX4_register_22 : decode cX4_register 22 = .ok (.bipush 7, 2) := by decide +kernel
theorem dX4_register_24 : decode cX4_register 24 = .ok (.if_icmp .ge 7, 3) := by decide +kernel
theorem dX4_register_27 : decode cX4_register 27 = .ok (.iconst 1, 1) := by decide +kernel
theorem dX4_register_28 : decode cX4_register 28 = .ok (.goto 4, 3) := by decide +kernel
theorem dX4_register_31 : decode cX4_register 31 = .ok (.iconst 0, 1) := by decide +kernel
theorem dX4_register_32 : decode cX4_register 32 = .ok (.invokestatic 28, 3) := by decide +kernel
theorem dX4_register_35 : decode cX4_register 35 = .ok (.aload_n 0, 1) := by decide +kernel
theorem dX4_register_36 : decode cX4_register 36 = .ok (.iload_n 1, 1) := by decide +kernel
theorem dX4_register_37 : decode cX4_register 37 = .ok (.invokevirtual 40, 3) := by decide +kernel
theorem dX4_register_40 : decode cX4_register 40 = .ok (.iload_n 2, 1) := by decide +kernel
theorem dX4_register_41 : decode cX4_register 41 = .ok (.invokevirtual 64, 3) := by decide +kernel
theorem dX4_register_44 : decode cX4_register 44 = .ok (.ireturn, 1) := by decide +kernel
theorem dX4_port_0 : decode cX4_port 0 = .ok (.iload_n 1, 1) := by decide +kernel
theorem dX4_port_1 : decode cX4_port 1 = .ok (.ifCond .lt 12, 3) := by decide +kernel
theorem dX4_port_4 : decode cX4_port 4 = .ok (.iload_n 1, 1) := by decide +kernel
theorem dX4_port_5 : decode cX4_port 5 = .ok (.iconst 1, 1) := by decide +kernel
theorem dX4_port_6 : decode cX4_port 6 = .ok (.if_icmp .gt 7, 3) := by decide +kernel
theorem dX4_port_9 : decode cX4_port 9 = .ok (.iconst 1, 1) := by decide +kernel
theorem dX4_port_10 : decode cX4_port 10 = .ok (.goto 4, 3) := by decide +kernel
theorem dX4_port_13 : decode cX4_port 13 = .ok (.iconst 0, 1) := by decide +kernel
theorem dX4_port_14 : decode cX4_port 14 = .ok (.invokestatic 28, 3) := by decide +kernel
theorem dX4_port_17 : decode cX4_port 17 = .ok (.iload_n 2, 1) := by decide +kernel
theorem dX4_port_18 : decode cX4_port 18 = .ok (.ifCond .lt 13, 3) := by decide +kernel
theorem dX4_port_21 : decode cX4_port 21 = .ok (.iload_n 2, 1) := by decide +kernel
theorem dX4_port_22 : decode cX4_port 22 = .ok (.bipush 8, 2) := by decide +kernel
theorem dX4_port_24 : decode cX4_port 24 = .ok (.if_icmp .ge 7, 3) := by decide +kernel
theorem dX4_port_27 : decode cX4_port 27 = .ok (.iconst 1, 1) := by decide +kernel
theorem dX4_port_28 : decode cX4_port 28 = .ok (.goto 4, 3) := by decide +kernel
theorem dX4_port_31 : decode cX4_port 31 = .ok (.iconst 0, 1) := by decide +kernel
theorem dX4_port_32 : decode cX4_port 32 = .ok (.invokestatic 28, 3) := by decide +kernel
theorem dX4_port_35 : decode cX4_port 35 = .ok (.aload_n 0, 1) := by decide +kernel
theorem dX4_port_36 : decode cX4_port 36 = .ok (.getfield 10, 3) := by decide +kernel
theorem dX4_port_39 : decode cX4_port 39 = .ok (.iload_n 1, 1) := by decide +kernel
theorem dX4_port_40 : decode cX4_port 40 = .ok (.iload_n 2, 1) := by decide +kernel
theorem dX4_port_41 : decode cX4_port 41 = .ok (.invokevirtual 67, 3) := by decide +kernel
theorem dX4_port_44 : decode cX4_port 44 = .ok (.ireturn, 1) := by decide +kernel
theorem dX4_waits_0 : decode cX4_waits 0 = .ok (.iload_n 1, 1) := by decide +kernel
theorem dX4_waits_1 : decode cX4_waits 1 = .ok (.ifCond .lt 12, 3) := by decide +kernel
theorem dX4_waits_4 : decode cX4_waits 4 = .ok (.iload_n 1, 1) := by decide +kernel
theorem dX4_waits_5 : decode cX4_waits 5 = .ok (.iconst 1, 1) := by decide +kernel
theorem dX4_waits_6 : decode cX4_waits 6 = .ok (.if_icmp .gt 7, 3) := by decide +kernel
theorem dX4_waits_9 : decode cX4_waits 9 = .ok (.iconst 1, 1) := by decide +kernel
theorem dX4_waits_10 : decode cX4_waits 10 = .ok (.goto 4, 3) := by decide +kernel
theorem dX4_waits_13 : decode cX4_waits 13 = .ok (.iconst 0, 1) := by decide +kernel
theorem dX4_waits_14 : decode cX4_waits 14 = .ok (.invokestatic 28, 3) := by decide +kernel
theorem dX4_waits_17 : decode cX4_waits 17 = .ok (.iload_n 2, 1) := by decide +kernel
theorem dX4_waits_18 : decode cX4_waits 18 = .ok (.iconst 1, 1) := by decide +kernel
theorem dX4_waits_19 : decode cX4_waits 19 = .ok (.if_icmp .lt 12, 3) := by decide +kernel
theorem dX4_waits_22 : decode cX4_waits 22 = .ok (.iload_n 2, 1) := by decide +kernel
theorem dX4_waits_23 : decode cX4_waits 23 = .ok (.iconst 4, 1) := by decide +kernel
theorem dX4_waits_24 : decode cX4_waits 24 = .ok (.if_icmp .gt 7, 3) := by decide +kernel
theorem dX4_waits_27 : decode cX4_waits 27 = .ok (.iconst 1, 1) := by decide +kernel
theorem dX4_waits_28 : decode cX4_waits 28 = .ok (.goto 4, 3) := by decide +kernel
theorem dX4_waits_31 : decode cX4_waits 31 = .ok (.iconst 0, 1) := by decide +kernel
theorem dX4_waits_32 : decode cX4_waits 32 = .ok (.invokestatic 28, 3) := by decide +kernel
theorem dX4_waits_35 : decode cX4_waits 35 = .ok (.aload_n 0, 1) := by decide +kernel
theorem dX4_waits_36 : decode cX4_waits 36 = .ok (.getfield 10, 3) := by decide +kernel
theorem dX4_waits_39 : decode cX4_waits 39 = .ok (.iload_n 1, 1) := by decide +kernel
theorem dX4_waits_40 : decode cX4_waits 40 = .ok (.iload_n 2, 1) := by decide +kernel
theorem dX4_waits_41 : decode cX4_waits 41 = .ok (.invokevirtual 71, 3) := by decide +kernel
theorem dX4_waits_44 : decode cX4_waits 44 = .ok (.ireturn, 1) := by decide +kernel
theorem dX4_steps_0 : decode cX4_steps 0 = .ok (.iload_n 1, 1) := by decide +kernel
theorem dX4_steps_1 : decode cX4_steps 1 = .ok (.ifCond .lt 12, 3) := by decide +kernel
theorem dX4_steps_4 : decode cX4_steps 4 = .ok (.iload_n 1, 1) := by decide +kernel
theorem dX4_steps_5 : decode cX4_steps 5 = .ok (.iconst 1, 1) := by decide +kernel
theorem dX4_steps_6 : decode cX4_steps 6 = .ok (.if_icmp .gt 7, 3) := by decide +kernel
theorem dX4_steps_9 : decode cX4_steps 9 = .ok (.iconst 1, 1) := by decide +kernel
theorem dX4_steps_10 : decode cX4_steps 10 = .ok (.goto 4, 3) := by decide +kernel
theorem dX4_steps_13 : decode cX4_steps 13 = .ok (.iconst 0, 1) := by decide +kernel
theorem dX4_steps_14 : decode cX4_steps 14 = .ok (.invokestatic 28, 3) := by decide +kernel
theorem dX4_steps_17 : decode cX4_steps 17 = .ok (.aload_n 0, 1) := by decide +kernel
theorem dX4_steps_18 : decode cX4_steps 18 = .ok (.iload_n 1, 1) := by decide +kernel
theorem dX4_steps_19 : decode cX4_steps 19 = .ok (.invokevirtual 40, 3) := by decide +kernel
theorem dX4_steps_22 : decode cX4_steps 22 = .ok (.invokevirtual 74, 3) := by decide +kernel
theorem dX4_steps_25 : decode cX4_steps 25 = .ok (.lreturn, 1) := by decide +kernel
theorem dX4_clear_0 : decode cX4_clear 0 = .ok (.aload_n 0, 1) := by decide +kernel
theorem dX4_clear_1 : decode cX4_clear 1 = .ok (.getfield 10, 3) := by decide +kernel
theorem dX4_clear_4 : decode cX4_clear 4 = .ok (.invokevirtual 78, 3) := by decide +kernel
theorem dX4_clear_7 : decode cX4_clear 7 = .ok (.aload_n 0, 1) := by decide +kernel
theorem dX4_clear_8 : decode cX4_clear 8 = .ok (.getfield 21, 3) := by decide +kernel
theorem dX4_clear_11 : decode cX4_clear 11 = .ok (.invokevirtual 81, 3) := by decide +kernel
theorem dX4_clear_14 : decode cX4_clear 14 = .ok (.aload_n 0, 1) := by decide +kernel
theorem dX4_clear_15 : decode cX4_clear 15 = .ok (.getfield 25, 3) := by decide +kernel
theorem dX4_clear_18 : decode cX4_clear 18 = .ok (.invokevirtual 81, 3) := by decide +kernel
theorem dX4_clear_21 : decode cX4_clear 21 = .ok (.return_, 1) := by decide +kernel
theorem dX4_machineOf_0 : decode cX4_machineOf 0 = .ok (.iload_n 1, 1) := by decide +kernel
theorem dX4_machineOf_1 : decode cX4_machineOf 1 = .ok (.ifCond .ne 10, 3) := by decide +kernel
theorem dX4_machineOf_4 : decode cX4_machineOf 4 = .ok (.aload_n 0, 1) := by decide +kernel
theorem dX4_machineOf_5 : decode cX4_machineOf 5 = .ok (.getfield 21, 3) := by decide +kernel
theorem dX4_machineOf_8 : decode cX4_machineOf 8 = .ok (.goto 7, 3) := by decide +kernel
theorem dX4_machineOf_11 : decode cX4_machineOf 11 = .ok (.aload_n 0, 1) := by decide +kernel
theorem dX4_machineOf_12 : decode cX4_machineOf 12 = .ok (.getfield 25, 3) := by decide +kernel
theorem dX4_machineOf_15 : decode cX4_machineOf 15 = .ok (.areturn, 1) := by decide +kernel
theorem dX4_refuseUnless_0 : decode cX4_refuseUnless 0 = .ok (.iload_n 0, 1) := by decide +kernel
theorem dX4_refuseUnless_1 : decode cX4_refuseUnless 1 = .ok (.ifCond .ne 13, 3) := by decide +kernel
theorem dX4_refuseUnless_4 : decode cX4_refuseUnless 4 = .ok (.new 82, 3) := by decide +kernel
theorem dX4_refuseUnless_7 : decode cX4_refuseUnless 7 = .ok (.dup, 1) := by decide +kernel
theorem dX4_refuseUnless_8 : decode cX4_refuseUnless 8 = .ok (.ldc 84, 2) := by decide +kernel
theorem dX4_refuseUnless_10 : decode cX4_refuseUnless 10 = .ok (.invokespecial 86, 3) := by decide +kernel
theorem dX4_refuseUnless_13 : decode cX4_refuseUnless 13 = .ok (.athrow, 1) := by decide +kernel
theorem dX4_refuseUnless_14 : decode cX4_refuseUnless 14 = .ok (.return_, 1) := by decide +kernel
theorem dX5_init_0 : decode cX5_init 0 = .ok (.aload_n 0, 1) := by decide +kernel
theorem dX5_init_1 : decode cX5_init 1 = .ok (.invokespecial 1, 3) := by decide +kernel
theorem dX5_init_4 : decode cX5_init 4 = .ok (.aload_n 0, 1) := by decide +kernel
theorem dX5_init_5 : decode cX5_init 5 = .ok (.sipush 8192, 3) := by decide +kernel
theorem dX5_init_8 : decode cX5_init 8 = .ok (.newarray .int, 2) := by decide +kernel
theorem dX5_init_10 : decode cX5_init 10 = .ok (.putfield 7, 3) := by decide +kernel
theorem dX5_init_13 : decode cX5_init 13 = .ok (.aload_n 0, 1) := by decide +kernel
theorem dX5_init_14 : decode cX5_init 14 = .ok (.iconst 2, 1) := by decide +kernel
theorem dX5_init_15 : decode cX5_init 15 = .ok (.newarray .int, 2) := by decide +kernel
theorem dX5_init_17 : decode cX5_init 17 = .ok (.putfield 13, 3) := by decide +kernel
theorem dX5_init_20 : decode cX5_init 20 = .ok (.aload_n 0, 1) := by decide +kernel
theorem dX5_init_21 : decode cX5_init 21 = .ok (.iconst 2, 1) := by decide +kernel
theorem dX5_init_22 : decode cX5_init 22 = .ok (.newarray .int, 2) := by decide +kernel
theorem dX5_init_24 : decode cX5_init 24 = .ok (.putfield 16, 3) := by decide +kernel
theorem dX5_init_27 : decode cX5_init 27 = .ok (.aload_n 0, 1) := by decide +kernel
theorem dX5_init_28 : decode cX5_init 28 = .ok (.iconst 2, 1) := by decide +kernel
theorem dX5_init_29 : decode cX5_init 29 = .ok (.newarray .int, 2) := by decide +kernel
theorem dX5_init_31 : decode cX5_init 31 = .ok (.putfield 19, 3) := by decide +kernel
theorem dX5_init_34 : decode cX5_init 34 = .ok (.aload_n 0, 1) := by decide +kernel
theorem dX5_init_35 : decode cX5_init 35 = .ok (.iconst 2, 1) := by decide +kernel
theorem dX5_init_36 : decode cX5_init 36 = .ok (.newarray .int, 2) := by decide +kernel
theorem dX5_init_38 : decode cX5_init 38 = .ok (.putfield 22, 3) := by decide +kernel
theorem dX5_init_41 : decode cX5_init 41 = .ok (.aload_n 0, 1) := by decide +kernel
theorem dX5_init_42 : decode cX5_init 42 = .ok (.iconst 2, 1) := by decide +kernel
theorem dX5_init_43 : decode cX5_init 43 = .ok (.newarray .int, 2) := by decide +kernel
theorem dX5_init_45 : decode cX5_init 45 = .ok (.putfield 25, 3) := by decide +kernel
theorem dX5_init_48 : decode cX5_init 48 = .ok (.aload_n 0, 1) := by decide +kernel
theorem dX5_init_49 : decode cX5_init 49 = .ok (.iconst 2, 1) := by decide +kernel
theorem dX5_init_50 : decode cX5_init 50 = .ok (.newarray .int, 2) := by decide +kernel
theorem dX5_init_52 : decode cX5_init 52 = .ok (.putfield 28, 3) := by decide +kernel
theorem dX5_init_55 : decode cX5_init 55 = .ok (.aload_n 0, 1) := by decide +kernel
theorem dX5_init_56 : decode cX5_init 56 = .ok (.iconst 2, 1) := by decide +kernel
theorem dX5_init_57 : decode cX5_init 57 = .ok (.newarray .boolean, 2) := by decide +kernel
theorem dX5_init_59 : decode cX5_init 59 = .ok (.putfield 31, 3) := by decide +kernel
theorem dX5_init_62 : decode cX5_init 62 = .ok (.aload_n 0, 1) := by decide +kernel
theorem dX5_init_63 : decode cX5_init 63 = .ok (.iconst 2, 1) := by decide +kernel
theorem dX5_init_64 : decode cX5_init 64 = .ok (.newarray .long, 2) := by decide +kernel
theorem dX5_init_66 : decode cX5_init 66 = .ok (.putfield 35, 3) := by decide +kernel
theorem dX5_init_69 : decode cX5_init 69 = .ok (.aload_n 0, 1) := by decide +kernel
theorem dX5_init_70 : decode cX5_init 70 = .ok (.sipush 192, 3) := by decide +kernel
theorem dX5_init_73 : decode cX5_init 73 = .ok (.newarray .int, 2) := by decide +kernel
theorem dX5_init_75 : decode cX5_init 75 = .ok (.putfield 39, 3) := by decide +kernel
theorem dX5_init_78 : decode cX5_init 78 = .ok (.aload_n 0, 1) := by decide +kernel
theorem dX5_init_79 : decode cX5_init 79 = .ok (.bipush 8, 2) := by decide +kernel
theorem dX5_init_81 : decode cX5_init 81 = .ok (.newarray .int, 2) := by decide +kernel
theorem dX5_init_83 : decode cX5_init 83 = .ok (.putfield 42, 3) := by decide +kernel
theorem dX5_init_86 : decode cX5_init 86 = .ok (.aload_n 0, 1) := by decide +kernel
theorem dX5_init_87 : decode cX5_init 87 = .ok (.bipush 8, 2) := by decide +kernel
theorem dX5_init_89 : decode cX5_init 89 = .ok (.newarray .int, 2) := by decide +kernel
theorem dX5_init_91 : decode cX5_init 91 = .ok (.putfield 45, 3) := by decide +kernel
theorem dX5_init_94 : decode cX5_init 94 = .ok (.aload_n 0, 1) := by decide +kernel
theorem dX5_init_95 : decode cX5_init 95 = .ok (.invokevirtual 48, 3) := by decide +kernel
theorem dX5_init_98 : decode cX5_init 98 = .ok (.return_, 1) := by decide +kernel
theorem dX5_thrown_0 : decode cX5_thrown 0 = .ok (.aload_n 0, 1) := by decide +kernel
theorem dX5_thrown_1 : decode cX5_thrown 1 = .ok (.getfield 51, 3) := by decide +kernel
theorem dX5_thrown_4 : decode cX5_thrown 4 = .ok (.ireturn, 1) := by decide +kernel
theorem dX5_clear_0 : decode cX5_clear 0 = .ok (.aload_n 0, 1) := by decide +kernel
theorem dX5_clear_1 : decode cX5_clear 1 = .ok (.iconst 0, 1) := by decide +kernel
theorem dX5_clear_2 : decode cX5_clear 2 = .ok (.putfield 51, 3) := by decide +kernel
theorem dX5_clear_5 : decode cX5_clear 5 = .ok (.iconst 0, 1) := by decide +kernel
theorem dX5_clear_6 : decode cX5_clear 6 = .ok (.istore_n 1, 1) := by decide +kernel
theorem dX5_clear_7 : decode cX5_clear 7 = .ok (.iload_n 1, 1) := by decide +kernel
theorem dX5_clear_8 : decode cX5_clear 8 = .ok (.sipush 8192, 3) := by decide +kernel
theorem dX5_clear_11 : decode cX5_clear 11 = .ok (.if_icmp .ge 16, 3) := by decide +kernel
theorem dX5_clear_14 : decode cX5_clear 14 = .ok (.aload_n 0, 1) := by decide +kernel
theorem dX5_clear_15 : decode cX5_clear 15 = .ok (.getfield 7, 3) := by decide +kernel
theorem dX5_clear_18 : decode cX5_clear 18 = .ok (.iload_n 1, 1) := by decide +kernel
theorem dX5_clear_19 : decode cX5_clear 19 = .ok (.iconst 0, 1) := by decide +kernel
theorem dX5_clear_20 : decode cX5_clear 20 = .ok (.iastore, 1) := by decide +kernel
theorem dX5_clear_21 : decode cX5_clear 21 = .ok (.iinc 1 1, 3) := by decide +kernel
theorem dX5_clear_24 : decode cX5_clear 24 = .ok (.goto (-17), 3) := by decide +kernel
theorem dX5_clear_27 : decode cX5_clear 27 = .ok (.iconst 0, 1) := by decide +kernel
theorem dX5_clear_28 : decode cX5_clear 28 = .ok (.istore_n 1, 1) := by decide +kernel
theorem dX5_clear_29 : decode cX5_clear 29 = .ok (.iload_n 1, 1) := by decide +kernel
theorem dX5_clear_30 : decode cX5_clear 30 = .ok (.iconst 2, 1) := by decide +kernel
theorem dX5_clear_31 : decode cX5_clear 31 = .ok (.if_icmp .ge 66, 3) := by decide +kernel
theorem dX5_clear_34 : decode cX5_clear 34 = .ok (.aload_n 0, 1) := by decide +kernel
theorem dX5_clear_35 : decode cX5_clear 35 = .ok (.getfield 13, 3) := by decide +kernel
theorem dX5_clear_38 : decode cX5_clear 38 = .ok (.iload_n 1, 1) := by decide +kernel
theorem dX5_clear_39 : decode cX5_clear 39 = .ok (.iconst 0, 1) := by decide +kernel
theorem dX5_clear_40 : decode cX5_clear 40 = .ok (.iastore, 1) := by decide +kernel
theorem dX5_clear_41 : decode cX5_clear 41 = .ok (.aload_n 0, 1) := by decide +kernel
theorem dX5_clear_42 : decode cX5_clear 42 = .ok (.getfield 16, 3) := by decide +kernel
theorem dX5_clear_45 : decode cX5_clear 45 = .ok (.iload_n 1, 1) := by decide +kernel
theorem dX5_clear_46 : decode cX5_clear 46 = .ok (.iconst 0, 1) := by decide +kernel
theorem dX5_clear_47 : decode cX5_clear 47 = .ok (.iastore, 1) := by decide +kernel
theorem dX5_clear_48 : decode cX5_clear 48 = .ok (.aload_n 0, 1) := by decide +kernel
theorem dX5_clear_49 : decode cX5_clear 49 = .ok (.getfield 19, 3) := by decide +kernel
theorem dX5_clear_52 : decode cX5_clear 52 = .ok (.iload_n 1, 1) := by decide +kernel
theorem dX5_clear_53 : decode cX5_clear 53 = .ok (.iconst 0, 1) := by decide +kernel
theorem dX5_clear_54 : decode cX5_clear 54 = .ok (.iastore, 1) := by decide +kernel
theorem dX5_clear_55 : decode cX5_clear 55 = .ok (.aload_n 0, 1) := by decide +kernel
theorem dX5_clear_56 : decode cX5_clear 56 = .ok (.getfield 22, 3) := by decide +kernel
theorem dX5_clear_59 : decode cX5_clear 59 = .ok (.iload_n 1, 1) := by decide +kernel
theorem dX5_clear_60 : decode cX5_clear 60 = .ok (.iconst 0, 1) := by decide +kernel
theorem dX5_clear_61 : decode cX5_clear 61 = .ok (.iastore, 1) := by decide +kernel
theorem dX5_clear_62 : decode cX5_clear 62 = .ok (.aload_n 0, 1) := by decide +kernel
theorem dX5_clear_63 : decode cX5_clear 63 = .ok (.getfield 25, 3) := by decide +kernel
theorem dX5_clear_66 : decode cX5_clear 66 = .ok (.iload_n 1, 1) := by decide +kernel
theorem dX5_clear_67 : decode cX5_clear 67 = .ok (.bipush 32, 2) := by decide +kernel
theorem dX5_clear_69 : decode cX5_clear 69 = .ok (.iastore, 1) := by decide +kernel
theorem dX5_clear_70 : decode cX5_clear 70 = .ok (.aload_n 0, 1) := by decide +kernel
theorem dX5_clear_71 : decode cX5_clear 71 = .ok (.getfield 28, 3) := by decide +kernel
theorem dX5_clear_74 : decode cX5_clear 74 = .ok (.iload_n 1, 1) := by decide +kernel
theorem dX5_clear_75 : decode cX5_clear 75 = .ok (.iconst 0, 1) := by decide +kernel
theorem dX5_clear_76 : decode cX5_clear 76 = .ok (.iastore, 1) := by decide +kernel
theorem dX5_clear_77 : decode cX5_clear 77 = .ok (.aload_n 0, 1) := by decide +kernel
theorem dX5_clear_78 : decode cX5_clear 78 = .ok (.getfield 31, 3) := by decide +kernel
theorem dX5_clear_81 : decode cX5_clear 81 = .ok (.iload_n 1, 1) := by decide +kernel
theorem dX5_clear_82 : decode cX5_clear 82 = .ok (.iconst 1, 1) := by decide +kernel
theorem dX5_clear_83 : decode cX5_clear 83 = .ok (.bastore, 1) := by decide +kernel
theorem dX5_clear_84 : decode cX5_clear 84 = .ok (.aload_n 0, 1) := by decide +kernel
theorem dX5_clear_85 : decode cX5_clear 85 = .ok (.getfield 35, 3) := by decide +kernel
theorem dX5_clear_88 : decode cX5_clear 88 = .ok (.iload_n 1, 1) := by decide +kernel
theorem dX5_clear_89 : decode cX5_clear 89 = .ok (.lconst 0, 1) := by decide +kernel
theorem dX5_clear_90 : decode cX5_clear 90 = .ok (.lastore, 1) := by decide +kernel
theorem dX5_clear_91 : decode cX5_clear 91 = .ok (.iinc 1 1, 3) := by decide +kernel
theorem dX5_clear_94 : decode cX5_clear 94 = .ok (.goto (-65), 3) := by decide +kernel
theorem dX5_clear_97 : decode cX5_clear 97 = .ok (.iconst 0, 1) := by decide +kernel
theorem dX5_clear_98 : decode cX5_clear 98 = .ok (.istore_n 1, 1) := by decide +kernel
theorem dX5_clear_99 : decode cX5_clear 99 = .ok (.iload_n 1, 1) := by decide +kernel
theorem dX5_clear_100 : decode cX5_clear 100 = .ok (.bipush 8, 2) := by decide +kernel
theorem dX5_clear_102 : decode cX5_clear 102 = .ok (.if_icmp .ge 23, 3) := by decide +kernel
theorem dX5_clear_105 : decode cX5_clear 105 = .ok (.aload_n 0, 1) := by decide +kernel
theorem dX5_clear_106 : decode cX5_clear 106 = .ok (.getfield 42, 3) := by decide +kernel
theorem dX5_clear_109 : decode cX5_clear 109 = .ok (.iload_n 1, 1) := by decide +kernel
theorem dX5_clear_110 : decode cX5_clear 110 = .ok (.iconst 0, 1) := by decide +kernel
theorem dX5_clear_111 : decode cX5_clear 111 = .ok (.iastore, 1) := by decide +kernel
theorem dX5_clear_112 : decode cX5_clear 112 = .ok (.aload_n 0, 1) := by decide +kernel
theorem dX5_clear_113 : decode cX5_clear 113 = .ok (.getfield 45, 3) := by decide +kernel
theorem dX5_clear_116 : decode cX5_clear 116 = .ok (.iload_n 1, 1) := by decide +kernel
theorem dX5_clear_117 : decode cX5_clear 117 = .ok (.iconst 0, 1) := by decide +kernel
theorem dX5_clear_118 : decode cX5_clear 118 = .ok (.iastore, 1) := by decide +kernel
theorem dX5_clear_119 : decode cX5_clear 119 = .ok (.iinc 1 1, 3) := by decide +kernel
theorem dX5_clear_122 : decode cX5_clear 122 = .ok (.goto (-23), 3) := by decide +kernel
theorem dX5_clear_125 : decode cX5_clear 125 = .ok (.aload_n 0, 1) := by decide +kernel
theorem dX5_clear_126 : decode cX5_clear 126 = .ok (.iconst 0, 1) := by decide +kernel
theorem dX5_clear_127 : decode cX5_clear 127 = .ok (.putfield 55, 3) := by decide +kernel
theorem dX5_clear_130 : decode cX5_clear 130 = .ok (.aload_n 0, 1) := by decide +kernel
theorem dX5_clear_131 : decode cX5_clear 131 = .ok (.iconst 0, 1) := by decide +kernel
theorem dX5_clear_132 : decode cX5_clear 132 = .ok (.putfield 58, 3) := by decide +kernel
theorem dX5_clear_135 : decode cX5_clear 135 = .ok (.aload_n 0, 1) := by decide +kernel
theorem dX5_clear_136 : decode cX5_clear 136 = .ok (.iconst 0, 1) := by decide +kernel
theorem dX5_clear_137 : decode cX5_clear 137 = .ok (.putfield 62, 3) := by decide +kernel
theorem dX5_clear_140 : decode cX5_clear 140 = .ok (.return_, 1) := by decide +kernel
theorem dX5_isPlace_0 : decode cX5_isPlace 0 = .ok (.iload_n 0, 1) := by decide +kernel
theorem dX5_isPlace_1 : decode cX5_isPlace 1 = .ok (.ifCond .lt 13, 3) := by decide +kernel
theorem dX5_isPlace_4 : decode cX5_isPlace 4 = .ok (.iload_n 0, 1) := by decide +kernel
theorem dX5_isPlace_5 : decode cX5_isPlace 5 = .ok (.ldc 65, 2) := by decide +kernel
theorem dX5_isPlace_7 : decode cX5_isPlace 7 = .ok (.if_icmp .ge 7, 3) := by decide +kernel
theorem dX5_isPlace_10 : decode cX5_isPlace 10 = .ok (.iconst 1, 1) := by decide +kernel
theorem dX5_isPlace_11 : decode cX5_isPlace 11 = .ok (.goto 4, 3) := by decide +kernel
theorem dX5_isPlace_14 : decode cX5_isPlace 14 = .ok (.iconst 0, 1) := by decide +kernel
theorem dX5_isPlace_15 : decode cX5_isPlace 15 = .ok (.ireturn, 1) := by decide +kernel
theorem dX5_isMachine_0 : decode cX5_isMachine 0 = .ok (.iload_n 0, 1) := by decide +kernel
theorem dX5_isMachine_1 : decode cX5_isMachine 1 = .ok (.ifCond .eq 8, 3) := by decide +kernel
theorem dX5_isMachine_4 : decode cX5_isMachine 4 = .ok (.iload_n 0, 1) := by decide +kernel
theorem dX5_isMachine_5 : decode cX5_isMachine 5 = .ok (.iconst 1, 1) := by decide +kernel
theorem dX5_isMachine_6 : decode cX5_isMachine 6 = .ok (.if_icmp .ne 7, 3) := by decide +kernel
theorem dX5_isMachine_9 : decode cX5_isMachine 9 = .ok (.iconst 1, 1) := by decide +kernel
theorem dX5_isMachine_10 : decode cX5_isMachine 10 = .ok (.goto 4, 3) := by decide +kernel
theorem dX5_isMachine_13 : decode cX5_isMachine 13 = .ok (.iconst 0, 1) := by decide +kernel
theorem dX5_isMachine_14 : decode cX5_isMachine 14 = .ok (.ireturn, 1) := by decide +kernel
theorem dX5_load_0 : decode cX5_load 0 = .ok (.aload_n 0, 1) := by decide +kernel
theorem dX5_load_1 : decode cX5_load 1 = .ok (.iload_n 1, 1) := by decide +kernel
theorem dX5_load_2 : decode cX5_load 2 = .ok (.invokestatic 66, 3) := by decide +kernel
theorem dX5_load_5 : decode cX5_load 5 = .ok (.ifCond .eq 10, 3) := by decide +kernel
theorem dX5_load_8 : decode cX5_load 8 = .ok (.iload_n 2, 1) := by decide +kernel
theorem dX5_load_9 : decode cX5_load 9 = .ok (.invokestatic 70, 3) := by decide +kernel
theorem dX5_load_12 : decode cX5_load 12 = .ok (.ifCond .ne 7, 3) := by decide +kernel
theorem dX5_load_15 : decode cX5_load 15 = .ok (.iconst 1, 1) := by decide +kernel
theorem dX5_load_16 : decode cX5_load 16 = .ok (.goto 21, 3) := by decide +kernel
theorem dX5_load_19 : decode cX5_load 19 = .ok (.iload 8, 2) := by decide +kernel
theorem dX5_load_21 : decode cX5_load 21 = .ok (.iconst 1, 1) := by decide +kernel
theorem dX5_load_22 : decode cX5_load 22 = .ok (.if_icmp .lt 10, 3) := by decide +kernel
theorem dX5_load_25 : decode cX5_load 25 = .ok (.iload 8, 2) := by decide +kernel
theorem dX5_load_27 : decode cX5_load 27 = .ok (.bipush 20, 2) := by decide +kernel
theorem dX5_load_29 : decode cX5_load 29 = .ok (.if_icmp .le 7, 3) := by decide +kernel
theorem dX5_load_32 : decode cX5_load 32 = .ok (.iconst 2, 1) := by decide +kernel
theorem dX5_load_33 : decode cX5_load 33 = .ok (.goto 4, 3) := by decide +kernel
theorem dX5_load_36 : decode cX5_load 36 = .ok (.iconst 0, 1) := by decide +kernel
theorem dX5_load_37 : decode cX5_load 37 = .ok (.putfield 51, 3) := by decide +kernel
theorem dX5_load_40 : decode cX5_load 40 = .ok (.iconst 0, 1) := by decide +kernel
theorem dX5_load_41 : decode cX5_load 41 = .ok (.istore 9, 2) := by decide +kernel
theorem dX5_load_43 : decode cX5_load 43 = .ok (.iload 9, 2) := by decide +kernel
theorem dX5_load_45 : decode cX5_load 45 = .ok (.iload 8, 2) := by decide +kernel
theorem dX5_load_47 : decode cX5_load 47 = .ok (.if_icmp .ge 102, 3) := by decide +kernel
theorem dX5_load_50 : decode cX5_load 50 = .ok (.aload_n 0, 1) := by decide +kernel
theorem dX5_load_51 : decode cX5_load 51 = .ok (.getfield 51, 3) := by decide +kernel
theorem dX5_load_54 : decode cX5_load 54 = .ok (.ifCond .ne 95, 3) := by decide +kernel
theorem dX5_load_57 : decode cX5_load 57 = .ok (.iload 9, 2) := by decide +kernel
theorem dX5_load_59 : decode cX5_load 59 = .ok (.iconst 4, 1) := by decide +kernel
theorem dX5_load_60 : decode cX5_load 60 = .ok (.if_icmp .ge 7, 3) := by decide +kernel
theorem dX5_load_63 : decode cX5_load 63 = .ok (.iload_n 3, 1) := by decide +kernel
theorem dX5_load_64 : decode cX5_load 64 = .ok (.goto 41, 3) := by decide +kernel
theorem dX5_load_67 : decode cX5_load 67 = .ok (.iload 9, 2) := by decide +kernel
theorem dX5_load_69 : decode cX5_load 69 = .ok (.bipush 8, 2) := by decide +kernel
theorem dX5_load_71 : decode cX5_load 71 = .ok (.if_icmp .ge 8, 3) := by decide +kernel
theorem dX5_load_74 : decode cX5_load 74 = .ok (.iload 4, 2) := by decide +kernel
theorem dX5_load_76 : decode cX5_load 76 = .ok (.goto 29, 3) := by decide +kernel
theorem dX5_load_79 : decode cX5_load 79 = .ok (.iload 9, 2) := by decide +kernel
theorem dX5_load_81 : decode cX5_load 81 = .ok (.bipush 12, 2) := by decide +kernel
theorem dX5_load_83 : decode cX5_load 83 = .ok (.if_icmp .ge 8, 3) := by decide +kernel
theorem dX5_load_86 : decode cX5_load 86 = .ok (.iload 5, 2) := by decide +kernel
theorem dX5_load_88 : decode cX5_load 88 = .ok (.goto 17, 3) := by decide +kernel
theorem dX5_load_91 : decode cX5_load 91 = .ok (.iload 9, 2) := by decide +kernel
theorem dX5_load_93 : decode cX5_load 93 = .ok (.bipush 16, 2) := by decide +kernel
theorem dX5_load_95 : decode cX5_load 95 = .ok (.if_icmp .ge 8, 3) := by decide +kernel
theorem dX5_load_98 : decode cX5_load 98 = .ok (.iload 6, 2) := by decide +kernel
theorem dX5_load_100 : decode cX5_load 100 = .ok (.goto 5, 3) := by decide +kernel
theorem dX5_load_103 : decode cX5_load 103 = .ok (.iload 7, 2) := by decide +kernel
theorem dX5_load_105 : decode cX5_load 105 = .ok (.istore 10, 2) := by decide +kernel
theorem dX5_load_107 : decode cX5_load 107 = .ok (.aload_n 0, 1) := by decide +kernel
theorem dX5_load_108 : decode cX5_load 108 = .ok (.getfield 7, 3) := by decide +kernel
theorem dX5_load_111 : decode cX5_load 111 = .ok (.sipush 4096, 3) := by decide +kernel
theorem dX5_load_114 : decode cX5_load 114 = .ok (.iload_n 1, 1) := by decide +kernel
theorem dX5_load_115 : decode cX5_load 115 = .ok (.imul, 1) := by decide +kernel
theorem dX5_load_116 : decode cX5_load 116 = .ok (.iload_n 2, 1) := by decide +kernel
theorem dX5_load_117 : decode cX5_load 117 = .ok (.iload 9, 2) := by decide +kernel
theorem dX5_load_119 : decode cX5_load 119 = .ok (.iadd, 1) := by decide +kernel
theorem dX5_load_120 : decode cX5_load 120 = .ok (.sipush 4096, 3) := by decide +kernel
theorem dX5_load_123 : decode cX5_load 123 = .ok (.irem, 1) := by decide +kernel
theorem dX5_load_124 : decode cX5_load 124 = .ok (.iadd, 1) := by decide +kernel
theorem dX5_load_125 : decode cX5_load 125 = .ok (.iload 10, 2) := by decide +kernel
theorem dX5_load_127 : decode cX5_load 127 = .ok (.bipush 24, 2) := by decide +kernel
theorem dX5_load_129 : decode cX5_load 129 = .ok (.bipush 8, 2) := by decide +kernel
theorem dX5_load_131 : decode cX5_load 131 = .ok (.iload 9, 2) := by decide +kernel
theorem dX5_load_133 : decode cX5_load 133 = .ok (.iconst 4, 1) := by decide +kernel
theorem dX5_load_134 : decode cX5_load 134 = .ok (.irem, 1) := by decide +kernel
theorem dX5_load_135 : decode cX5_load 135 = .ok (.imul, 1) := by decide +kernel
theorem dX5_load_136 : decode cX5_load 136 = .ok (.isub, 1) := by decide +kernel
theorem dX5_load_137 : decode cX5_load 137 = .ok (.ishr, 1) := by decide +kernel
theorem dX5_load_138 : decode cX5_load 138 = .ok (.sipush 255, 3) := by decide +kernel
theorem dX5_load_141 : decode cX5_load 141 = .ok (.iand, 1) := by decide +kernel
theorem dX5_load_142 : decode cX5_load 142 = .ok (.iastore, 1) := by decide +kernel
theorem dX5_load_143 : decode cX5_load 143 = .ok (.iinc 9 1, 3) := by decide +kernel
theorem dX5_load_146 : decode cX5_load 146 = .ok (.goto (-103), 3) := by decide +kernel
theorem dX5_load_149 : decode cX5_load 149 = .ok (.return_, 1) := by decide +kernel
theorem dX5_byteAt_0 : decode cX5_byteAt 0 = .ok (.aload_n 0, 1) := by decide +kernel
theorem dX5_byteAt_1 : decode cX5_byteAt 1 = .ok (.iload_n 1, 1) := by decide +kernel
theorem dX5_byteAt_2 : decode cX5_byteAt 2 = .ok (.invokestatic 66, 3) := by decide +kernel
theorem dX5_byteAt_5 : decode cX5_byteAt 5 = .ok (.ifCond .eq 10, 3) := by decide +kernel
theorem dX5_byteAt_8 : decode cX5_byteAt 8 = .ok (.iload_n 2, 1) := by decide +kernel
theorem dX5_byteAt_9 : decode cX5_byteAt 9 = .ok (.invokestatic 70, 3) := by decide +kernel
theorem dX5_byteAt_12 : decode cX5_byteAt 12 = .ok (.ifCond .ne 7, 3) := by decide +kernel
theorem dX5_byteAt_15 : decode cX5_byteAt 15 = .ok (.iconst 1, 1) := by decide +kernel
theorem dX5_byteAt_16 : decode cX5_byteAt 16 = .ok (.goto 4, 3) := by decide +kernel
theorem dX5_byteAt_19 : decode cX5_byteAt 19 = .ok (.iconst 0, 1) := by decide +kernel
theorem dX5_byteAt_20 : decode cX5_byteAt 20 = .ok (.putfield 51, 3) := by decide +kernel
theorem dX5_byteAt_23 : decode cX5_byteAt 23 = .ok (.aload_n 0, 1) := by decide +kernel
theorem dX5_byteAt_24 : decode cX5_byteAt 24 = .ok (.getfield 51, 3) := by decide +kernel
theorem dX5_byteAt_27 : decode cX5_byteAt 27 = .ok (.ifCond .le 7, 3) := by decide +kernel
theorem dX5_byteAt_30 : decode cX5_byteAt 30 = .ok (.iconst 0, 1) := by decide +kernel
theorem dX5_byteAt_31 : decode cX5_byteAt 31 = .ok (.goto 19, 3) := by decide +kernel
theorem dX5_byteAt_34 : decode cX5_byteAt 34 = .ok (.aload_n 0, 1) := by decide +kernel
theorem dX5_byteAt_35 : decode cX5_byteAt 35 = .ok (.getfield 7, 3) := by decide +kernel
theorem dX5_byteAt_38 : decode cX5_byteAt 38 = .ok (.sipush 4096, 3) := by decide +kernel
theorem dX5_byteAt_41 : decode cX5_byteAt 41 = .ok (.iload_n 1, 1) := by decide +kernel
theorem dX5_byteAt_42 : decode cX5_byteAt 42 = .ok (.imul, 1) := by decide +kernel
theorem dX5_byteAt_43 : decode cX5_byteAt 43 = .ok (.iload_n 2, 1) := by decide +kernel
theorem dX5_byteAt_44 : decode cX5_byteAt 44 = .ok (.sipush 4096, 3) := by decide +kernel
theorem dX5_byteAt_47 : decode cX5_byteAt 47 = .ok (.irem, 1) := by decide +kernel
theorem dX5_byteAt_48 : decode cX5_byteAt 48 = .ok (.iadd, 1) := by decide +kernel
theorem dX5_byteAt_49 : decode cX5_byteAt 49 = .ok (.iaload, 1) := by decide +kernel
theorem dX5_byteAt_50 : decode cX5_byteAt 50 = .ok (.ireturn, 1) := by decide +kernel
theorem dX5_room_0 : decode cX5_room 0 = .ok (.iload_n 2, 1) := by decide +kernel
theorem dX5_room_1 : decode cX5_room 1 = .ok (.ifCond .ne 12, 3) := by decide +kernel
theorem dX5_room_4 : decode cX5_room 4 = .ok (.iload_n 1, 1) := by decide +kernel
theorem dX5_room_5 : decode cX5_room 5 = .ok (.ifCond .ne 8, 3) := by decide +kernel
theorem dX5_room_8 : decode cX5_room 8 = .ok (.bipush 24, 2) := by decide +kernel
theorem dX5_room_10 : decode cX5_room 10 = .ok (.goto 23, 3) := by decide +kernel
theorem dX5_room_13 : decode cX5_room 13 = .ok (.iload_n 2, 1) := by decide +kernel
theorem dX5_room_14 : decode cX5_room 14 = .ok (.iconst 2, 1) := by decide +kernel
theorem dX5_room_15 : decode cX5_room 15 = .ok (.if_icmp .ne 17, 3) := by decide +kernel
theorem dX5_room_18 : decode cX5_room 18 = .ok (.aload_n 0, 1) := by decide +kernel
theorem dX5_room_19 : decode cX5_room 19 = .ok (.getfield 55, 3) := by decide +kernel
theorem dX5_room_22 : decode cX5_room 22 = .ok (.bipush 16, 2) := by decide +kernel
theorem dX5_room_24 : decode cX5_room 24 = .ok (.iand, 1) := by decide +kernel
theorem dX5_room_25 : decode cX5_room 25 = .ok (.ifCond .eq 7, 3) := by decide +kernel
theorem dX5_room_28 : decode cX5_room 28 = .ok (.iconst 2, 1) := by decide +kernel
theorem dX5_room_29 : decode cX5_room 29 = .ok (.goto 4, 3) := by decide +kernel
theorem dX5_room_32 : decode cX5_room 32 = .ok (.iconst 1, 1) := by decide +kernel
theorem dX5_room_33 : decode cX5_room 33 = .ok (.ireturn, 1) := by decide +kernel
theorem dX5_peekPort_0 : decode cX5_peekPort 0 = .ok (.iload_n 2, 1) := by decide +kernel
theorem dX5_peekPort_1 : decode cX5_peekPort 1 = .ok (.iconst 2, 1) := by decide +kernel
theorem dX5_peekPort_2 : decode cX5_peekPort 2 = .ok (.idiv, 1) := by decide +kernel
theorem dX5_peekPort_3 : decode cX5_peekPort 3 = .ok (.istore_n 3, 1) := by decide +kernel
theorem dX5_peekPort_4 : decode cX5_peekPort 4 = .ok (.iconst 4, 1) := by decide +kernel
theorem dX5_peekPort_5 : decode cX5_peekPort 5 = .ok (.iload_n 1, 1) := by decide +kernel
theorem dX5_peekPort_6 : decode cX5_peekPort 6 = .ok (.imul, 1) := by decide +kernel
theorem dX5_peekPort_7 : decode cX5_peekPort 7 = .ok (.iload_n 3, 1) := by decide +kernel
theorem dX5_peekPort_8 : decode cX5_peekPort 8 = .ok (.iadd, 1) := by decide +kernel
theorem dX5_peekPort_9 : decode cX5_peekPort 9 = .ok (.istore 4, 2) := by decide +kernel
theorem dX5_peekPort_11 : decode cX5_peekPort 11 = .ok (.iload_n 2, 1) := by decide +kernel
theorem dX5_peekPort_12 : decode cX5_peekPort 12 = .ok (.iconst 2, 1) := by decide +kernel
theorem dX5_peekPort_13 : decode cX5_peekPort 13 = .ok (.irem, 1) := by decide +kernel
theorem dX5_peekPort_14 : decode cX5_peekPort 14 = .ok (.iconst 1, 1) := by decide +kernel
theorem dX5_peekPort_15 : decode cX5_peekPort 15 = .ok (.if_icmp .ne 34, 3) := by decide +kernel
theorem dX5_peekPort_18 : decode cX5_peekPort 18 = .ok (.aload_n 0, 1) := by decide +kernel
theorem dX5_peekPort_19 : decode cX5_peekPort 19 = .ok (.getfield 42, 3) := by decide +kernel
theorem dX5_peekPort_22 : decode cX5_peekPort 22 = .ok (.iload 4, 2) := by decide +kernel
theorem dX5_peekPort_24 : decode cX5_peekPort 24 = .ok (.iaload, 1) := by decide +kernel
theorem dX5_peekPort_25 : decode cX5_peekPort 25 = .ok (.ifCond .le 16, 3) := by decide +kernel
theorem dX5_peekPort_28 : decode cX5_peekPort 28 = .ok (.aload_n 0, 1) := by decide +kernel
theorem dX5_peekPort_29 : decode cX5_peekPort 29 = .ok (.getfield 39, 3) := by decide +kernel
theorem dX5_peekPort_32 : decode cX5_peekPort 32 = .ok (.bipush 24, 2) := by decide +kernel
theorem dX5_peekPort_34 : decode cX5_peekPort 34 = .ok (.iload 4, 2) := by decide +kernel
theorem dX5_peekPort_36 : decode cX5_peekPort 36 = .ok (.imul, 1) := by decide +kernel
theorem dX5_peekPort_37 : decode cX5_peekPort 37 = .ok (.iaload, 1) := by decide +kernel
theorem dX5_peekPort_38 : decode cX5_peekPort 38 = .ok (.goto 10, 3) := by decide +kernel
theorem dX5_peekPort_41 : decode cX5_peekPort 41 = .ok (.aload_n 0, 1) := by decide +kernel
theorem dX5_peekPort_42 : decode cX5_peekPort 42 = .ok (.getfield 45, 3) := by decide +kernel
theorem dX5_peekPort_45 : decode cX5_peekPort 45 = .ok (.iload 4, 2) := by decide +kernel
theorem dX5_peekPort_47 : decode cX5_peekPort 47 = .ok (.iaload, 1) := by decide +kernel
theorem dX5_peekPort_48 : decode cX5_peekPort 48 = .ok (.ireturn, 1) := by decide +kernel
theorem dX5_peekPort_49 : decode cX5_peekPort 49 = .ok (.iconst 4, 1) := by decide +kernel
theorem dX5_peekPort_50 : decode cX5_peekPort 50 = .ok (.iconst 1, 1) := by decide +kernel
theorem dX5_peekPort_51 : decode cX5_peekPort 51 = .ok (.iload_n 1, 1) := by decide +kernel
theorem dX5_peekPort_52 : decode cX5_peekPort 52 = .ok (.isub, 1) := by decide +kernel
theorem dX5_peekPort_53 : decode cX5_peekPort 53 = .ok (.imul, 1) := by decide +kernel
theorem dX5_peekPort_54 : decode cX5_peekPort 54 = .ok (.iload_n 3, 1) := by decide +kernel
theorem dX5_peekPort_55 : decode cX5_peekPort 55 = .ok (.iadd, 1) := by decide +kernel
theorem dX5_peekPort_56 : decode cX5_peekPort 56 = .ok (.istore 5, 2) := by decide +kernel
theorem dX5_peekPort_58 : decode cX5_peekPort 58 = .ok (.aload_n 0, 1) := by decide +kernel
theorem dX5_peekPort_59 : decode cX5_peekPort 59 = .ok (.getfield 42, 3) := by decide +kernel
theorem dX5_peekPort_62 : decode cX5_peekPort 62 = .ok (.iload 5, 2) := by decide +kernel
theorem dX5_peekPort_64 : decode cX5_peekPort 64 = .ok (.iaload, 1) := by decide +kernel
theorem dX5_peekPort_65 : decode cX5_peekPort 65 = .ok (.aload_n 0, 1) := by decide +kernel
theorem dX5_peekPort_66 : decode cX5_peekPort 66 = .ok (.iconst 1, 1) := by decide +kernel
theorem dX5_peekPort_67 : decode cX5_peekPort 67 = .ok (.iload_n 1, 1) := by decide +kernel
theorem dX5_peekPort_68 : decode cX5_peekPort 68 = .ok (.isub, 1) := by decide +kernel
theorem dX5_peekPort_69 : decode cX5_peekPort 69 = .ok (.iload_n 3, 1) := by decide +kernel
theorem dX5_peekPort_70 : decode cX5_peekPort 70 = .ok (.invokevirtual 73, 3) := by decide +kernel
theorem dX5_peekPort_73 : decode cX5_peekPort 73 = .ok (.if_icmp .ge 7, 3) := by decide +kernel
theorem dX5_peekPort_76 : decode cX5_peekPort 76 = .ok (.iconst 1, 1) := by decide +kernel
theorem dX5_peekPort_77 : decode cX5_peekPort 77 = .ok (.goto 4, 3) := by decide +kernel
theorem dX5_peekPort_80 : decode cX5_peekPort 80 = .ok (.iconst 0, 1) := by decide +kernel
theorem dX5_peekPort_81 : decode cX5_peekPort 81 = .ok (.istore 6, 2) := by decide +kernel
theorem dX5_peekPort_83 : decode cX5_peekPort 83 = .ok (.aload_n 0, 1) := by decide +kernel
theorem dX5_peekPort_84 : decode cX5_peekPort 84 = .ok (.getfield 42, 3) := by decide +kernel
theorem dX5_peekPort_87 : decode cX5_peekPort 87 = .ok (.iload 4, 2) := by decide +kernel
theorem dX5_peekPort_89 : decode cX5_peekPort 89 = .ok (.iaload, 1) := by decide +kernel
theorem dX5_peekPort_90 : decode cX5_peekPort 90 = .ok (.ifCond .le 9, 3) := by decide +kernel
theorem dX5_peekPort_93 : decode cX5_peekPort 93 = .ok (.sipush 128, 3) := by decide +kernel
theorem dX5_peekPort_96 : decode cX5_peekPort 96 = .ok (.goto 4, 3) := by decide +kernel
theorem dX5_peekPort_99 : decode cX5_peekPort 99 = .ok (.iconst 0, 1) := by decide +kernel
theorem dX5_peekPort_100 : decode cX5_peekPort 100 = .ok (.iload 6, 2) := by decide +kernel
theorem dX5_peekPort_102 : decode cX5_peekPort 102 = .ok (.ifCond .eq 8, 3) := by decide +kernel
theorem dX5_peekPort_105 : decode cX5_peekPort 105 = .ok (.bipush 64, 2) := by decide +kernel
theorem dX5_peekPort_107 : decode cX5_peekPort 107 = .ok (.goto 4, 3) := by decide +kernel
theorem dX5_peekPort_110 : decode cX5_peekPort 110 = .ok (.iconst 0, 1) := by decide +kernel
theorem dX5_peekPort_111 : decode cX5_peekPort 111 = .ok (.iadd, 1) := by decide +kernel
theorem dX5_peekPort_112 : decode cX5_peekPort 112 = .ok (.iload_n 3, 1) := by decide +kernel
theorem dX5_peekPort_113 : decode cX5_peekPort 113 = .ok (.ifCond .ne 10, 3) := by decide +kernel
theorem dX5_peekPort_116 : decode cX5_peekPort 116 = .ok (.aload_n 0, 1) := by decide +kernel
theorem dX5_peekPort_117 : decode cX5_peekPort 117 = .ok (.getfield 55, 3) := by decide +kernel
theorem dX5_peekPort_120 : decode cX5_peekPort 120 = .ok (.goto 5, 3) := by decide +kernel
theorem dX5_peekPort_123 : decode cX5_peekPort 123 = .ok (.bipush 63, 2) := by decide +kernel
theorem dX5_peekPort_125 : decode cX5_peekPort 125 = .ok (.iadd, 1) := by decide +kernel
theorem dX5_peekPort_126 : decode cX5_peekPort 126 = .ok (.ireturn, 1) := by decide +kernel
theorem dX5_readPort_0 : decode cX5_readPort 0 = .ok (.aload_n 0, 1) := by decide +kernel
theorem dX5_readPort_1 : decode cX5_readPort 1 = .ok (.iload_n 1, 1) := by decide +kernel
theorem dX5_readPort_2 : decode cX5_readPort 2 = .ok (.iload_n 2, 1) := by decide +kernel
theorem dX5_readPort_3 : decode cX5_readPort 3 = .ok (.invokevirtual 77, 3) := by decide +kernel
theorem dX5_readPort_6 : decode cX5_readPort 6 = .ok (.istore_n 3, 1) := by decide +kernel
theorem dX5_readPort_7 : decode cX5_readPort 7 = .ok (.iconst 4, 1) := by decide +kernel
theorem dX5_readPort_8 : decode cX5_readPort 8 = .ok (.iload_n 1, 1) := by decide +kernel
theorem dX5_readPort_9 : decode cX5_readPort 9 = .ok (.imul, 1) := by decide +kernel
theorem dX5_readPort_10 : decode cX5_readPort 10 = .ok (.iload_n 2, 1) := by decide +kernel
theorem dX5_readPort_11 : decode cX5_readPort 11 = .ok (.iconst 2, 1) := by decide +kernel
theorem dX5_readPort_12 : decode cX5_readPort 12 = .ok (.idiv, 1) := by decide +kernel
theorem dX5_readPort_13 : decode cX5_readPort 13 = .ok (.iadd, 1) := by decide +kernel
theorem dX5_readPort_14 : decode cX5_readPort 14 = .ok (.istore 4, 2) := by decide +kernel
theorem dX5_readPort_16 : decode cX5_readPort 16 = .ok (.iload_n 2, 1) := by decide +kernel
theorem dX5_readPort_17 : decode cX5_readPort 17 = .ok (.iconst 2, 1) := by decide +kernel
theorem dX5_readPort_18 : decode cX5_readPort 18 = .ok (.irem, 1) := by decide +kernel
theorem dX5_readPort_19 : decode cX5_readPort 19 = .ok (.iconst 1, 1) := by decide +kernel
theorem dX5_readPort_20 : decode cX5_readPort 20 = .ok (.if_icmp .ne 81, 3) := by decide +kernel
theorem dX5_readPort_23 : decode cX5_readPort 23 = .ok (.aload_n 0, 1) := by decide +kernel
theorem dX5_readPort_24 : decode cX5_readPort 24 = .ok (.getfield 45, 3) := by decide +kernel
theorem dX5_readPort_27 : decode cX5_readPort 27 = .ok (.iload 4, 2) := by decide +kernel
theorem dX5_readPort_29 : decode cX5_readPort 29 = .ok (.iload_n 3, 1) := by decide +kernel
theorem dX5_readPort_30 : decode cX5_readPort 30 = .ok (.iastore, 1) := by decide +kernel
theorem dX5_readPort_31 : decode cX5_readPort 31 = .ok (.aload_n 0, 1) := by decide +kernel
theorem dX5_readPort_32 : decode cX5_readPort 32 = .ok (.getfield 42, 3) := by decide +kernel
theorem dX5_readPort_35 : decode cX5_readPort 35 = .ok (.iload 4, 2) := by decide +kernel
theorem dX5_readPort_37 : decode cX5_readPort 37 = .ok (.iaload, 1) := by decide +kernel
theorem dX5_readPort_38 : decode cX5_readPort 38 = .ok (.ifCond .le 63, 3) := by decide +kernel
theorem dX5_readPort_41 : decode cX5_readPort 41 = .ok (.aload_n 0, 1) := by decide +kernel
theorem dX5_readPort_42 : decode cX5_readPort 42 = .ok (.getfield 42, 3) := by decide +kernel
theorem dX5_readPort_45 : decode cX5_readPort 45 = .ok (.iload 4, 2) := by decide +kernel
theorem dX5_readPort_47 : decode cX5_readPort 47 = .ok (.dup2, 1) := by decide +kernel
theorem dX5_readPort_48 : decode cX5_readPort 48 = .ok (.iaload, 1) := by decide +kernel
theorem dX5_readPort_49 : decode cX5_readPort 49 = .ok (.iconst 1, 1) := by decide +kernel
theorem dX5_readPort_50 : decode cX5_readPort 50 = .ok (.isub, 1) := by decide +kernel
theorem dX5_readPort_51 : decode cX5_readPort 51 = .ok (.iastore, 1) := by decide +kernel
theorem dX5_readPort_52 : decode cX5_readPort 52 = .ok (.iconst 0, 1) := by decide +kernel
theorem dX5_readPort_53 : decode cX5_readPort 53 = .ok (.istore 5, 2) := by decide +kernel
theorem dX5_readPort_55 : decode cX5_readPort 55 = .ok (.iload 5, 2) := by decide +kernel
theorem dX5_readPort_57 : decode cX5_readPort 57 = .ok (.aload_n 0, 1) := by decide +kernel
theorem dX5_readPort_58 : decode cX5_readPort 58 = .ok (.getfield 42, 3) := by decide +kernel
theorem dX5_readPort_61 : decode cX5_readPort 61 = .ok (.iload 4, 2) := by decide +kernel
theorem dX5_readPort_63 : decode cX5_readPort 63 = .ok (.iaload, 1) := by decide +kernel
theorem dX5_readPort_64 : decode cX5_readPort 64 = .ok (.if_icmp .ge 37, 3) := by decide +kernel
theorem dX5_readPort_67 : decode cX5_readPort 67 = .ok (.aload_n 0, 1) := by decide +kernel
theorem dX5_readPort_68 : decode cX5_readPort 68 = .ok (.getfield 39, 3) := by decide +kernel
theorem dX5_readPort_71 : decode cX5_readPort 71 = .ok (.bipush 24, 2) := by decide +kernel
theorem dX5_readPort_73 : decode cX5_readPort 73 = .ok (.iload 4, 2) := by decide +kernel
theorem dX5_readPort_75 : decode cX5_readPort 75 = .ok (.imul, 1) := by decide +kernel
theorem dX5_readPort_76 : decode cX5_readPort 76 = .ok (.iload 5, 2) := by decide +kernel
theorem dX5_readPort_78 : decode cX5_readPort 78 = .ok (.iadd, 1) := by decide +kernel
theorem dX5_readPort_79 : decode cX5_readPort 79 = .ok (.aload_n 0, 1) := by decide +kernel
theorem dX5_readPort_80 : decode cX5_readPort 80 = .ok (.getfield 39, 3) := by decide +kernel
theorem dX5_readPort_83 : decode cX5_readPort 83 = .ok (.bipush 24, 2) := by decide +kernel
theorem dX5_readPort_85 : decode cX5_readPort 85 = .ok (.iload 4, 2) := by decide +kernel
theorem dX5_readPort_87 : decode cX5_readPort 87 = .ok (.imul, 1) := by decide +kernel
theorem dX5_readPort_88 : decode cX5_readPort 88 = .ok (.iload 5, 2) := by decide +kernel
theorem dX5_readPort_90 : decode cX5_readPort 90 = .ok (.iadd, 1) := by decide +kernel
theorem dX5_readPort_91 : decode cX5_readPort 91 = .ok (.iconst 1, 1) := by decide +kernel
theorem dX5_readPort_92 : decode cX5_readPort 92 = .ok (.iadd, 1) := by decide +kernel
theorem dX5_readPort_93 : decode cX5_readPort 93 = .ok (.iaload, 1) := by decide +kernel
theorem dX5_readPort_94 : decode cX5_readPort 94 = .ok (.iastore, 1) := by decide +kernel
theorem dX5_readPort_95 : decode cX5_readPort 95 = .ok (.iinc 5 1, 3) := by decide +kernel
theorem dX5_readPort_98 : decode cX5_readPort 98 = .ok (.goto (-43), 3) := by decide +kernel
theorem dX5_readPort_101 : decode cX5_readPort 101 = .ok (.iload_n 3, 1) := by decide +kernel
theorem dX5_readPort_102 : decode cX5_readPort 102 = .ok (.ireturn, 1) := by decide +kernel
theorem dX5_writePort_0 : decode cX5_writePort 0 = .ok (.iload_n 2, 1) := by decide +kernel
theorem dX5_writePort_1 : decode cX5_writePort 1 = .ok (.iconst 2, 1) := by decide +kernel
theorem dX5_writePort_2 : decode cX5_writePort 2 = .ok (.irem, 1) := by decide +kernel
theorem dX5_writePort_3 : decode cX5_writePort 3 = .ok (.iconst 1, 1) := by decide +kernel
theorem dX5_writePort_4 : decode cX5_writePort 4 = .ok (.if_icmp .ne 67, 3) := by decide +kernel
theorem dX5_writePort_7 : decode cX5_writePort 7 = .ok (.iconst 4, 1) := by decide +kernel
theorem dX5_writePort_8 : decode cX5_writePort 8 = .ok (.iconst 1, 1) := by decide +kernel
theorem dX5_writePort_9 : decode cX5_writePort 9 = .ok (.iload_n 1, 1) := by decide +kernel
theorem dX5_writePort_10 : decode cX5_writePort 10 = .ok (.isub, 1) := by decide +kernel
theorem dX5_writePort_11 : decode cX5_writePort 11 = .ok (.imul, 1) := by decide +kernel
theorem dX5_writePort_12 : decode cX5_writePort 12 = .ok (.iload_n 2, 1) := by decide +kernel
theorem dX5_writePort_13 : decode cX5_writePort 13 = .ok (.iconst 2, 1) := by decide +kernel
theorem dX5_writePort_14 : decode cX5_writePort 14 = .ok (.idiv, 1) := by decide +kernel
theorem dX5_writePort_15 : decode cX5_writePort 15 = .ok (.iadd, 1) := by decide +kernel
theorem dX5_writePort_16 : decode cX5_writePort 16 = .ok (.istore 4, 2) := by decide +kernel
theorem dX5_writePort_18 : decode cX5_writePort 18 = .ok (.aload_n 0, 1) := by decide +kernel
theorem dX5_writePort_19 : decode cX5_writePort 19 = .ok (.getfield 42, 3) := by decide +kernel
theorem dX5_writePort_22 : decode cX5_writePort 22 = .ok (.iload 4, 2) := by decide +kernel
theorem dX5_writePort_24 : decode cX5_writePort 24 = .ok (.iaload, 1) := by decide +kernel
theorem dX5_writePort_25 : decode cX5_writePort 25 = .ok (.aload_n 0, 1) := by decide +kernel
theorem dX5_writePort_26 : decode cX5_writePort 26 = .ok (.iconst 1, 1) := by decide +kernel
theorem dX5_writePort_27 : decode cX5_writePort 27 = .ok (.iload_n 1, 1) := by decide +kernel
theorem dX5_writePort_28 : decode cX5_writePort 28 = .ok (.isub, 1) := by decide +kernel
theorem dX5_writePort_29 : decode cX5_writePort 29 = .ok (.iload_n 2, 1) := by decide +kernel
theorem dX5_writePort_30 : decode cX5_writePort 30 = .ok (.iconst 2, 1) := by decide +kernel
theorem dX5_writePort_31 : decode cX5_writePort 31 = .ok (.idiv, 1) := by decide +kernel
theorem dX5_writePort_32 : decode cX5_writePort 32 = .ok (.invokevirtual 73, 3) := by decide +kernel
theorem dX5_writePort_35 : decode cX5_writePort 35 = .ok (.if_icmp .ge 33, 3) := by decide +kernel
theorem dX5_writePort_38 : decode cX5_writePort 38 = .ok (.aload_n 0, 1) := by decide +kernel
theorem dX5_writePort_39 : decode cX5_writePort 39 = .ok (.getfield 39, 3) := by decide +kernel
theorem dX5_writePort_42 : decode cX5_writePort 42 = .ok (.bipush 24, 2) := by decide +kernel
theorem dX5_writePort_44 : decode cX5_writePort 44 = .ok (.iload 4, 2) := by decide +kernel
theorem dX5_writePort_46 : decode cX5_writePort 46 = .ok (.imul, 1) := by decide +kernel
theorem dX5_writePort_47 : decode cX5_writePort 47 = .ok (.aload_n 0, 1) := by decide +kernel
theorem dX5_writePort_48 : decode cX5_writePort 48 = .ok (.getfield 42, 3) := by decide +kernel
theorem dX5_writePort_51 : decode cX5_writePort 51 = .ok (.iload 4, 2) := by decide +kernel
theorem dX5_writePort_53 : decode cX5_writePort 53 = .ok (.iaload, 1) := by decide +kernel
theorem dX5_writePort_54 : decode cX5_writePort 54 = .ok (.iadd, 1) := by decide +kernel
theorem dX5_writePort_55 : decode cX5_writePort 55 = .ok (.iload_n 3, 1) := by decide +kernel
theorem dX5_writePort_56 : decode cX5_writePort 56 = .ok (.iastore, 1) := by decide +kernel
theorem dX5_writePort_57 : decode cX5_writePort 57 = .ok (.aload_n 0, 1) := by decide +kernel
theorem dX5_writePort_58 : decode cX5_writePort 58 = .ok (.getfield 42, 3) := by decide +kernel
theorem dX5_writePort_61 : decode cX5_writePort 61 = .ok (.iload 4, 2) := by decide +kernel
theorem dX5_writePort_63 : decode cX5_writePort 63 = .ok (.dup2, 1) := by decide +kernel
theorem dX5_writePort_64 : decode cX5_writePort 64 = .ok (.iaload, 1) := by decide +kernel
theorem dX5_writePort_65 : decode cX5_writePort 65 = .ok (.iconst 1, 1) := by decide +kernel
theorem dX5_writePort_66 : decode cX5_writePort 66 = .ok (.iadd, 1) := by decide +kernel
theorem dX5_writePort_67 : decode cX5_writePort 67 = .ok (.iastore, 1) := by decide +kernel
theorem dX5_writePort_68 : decode cX5_writePort 68 = .ok (.goto 72, 3) := by decide +kernel
theorem dX5_writePort_71 : decode cX5_writePort 71 = .ok (.iload_n 2, 1) := by decide +kernel
theorem dX5_writePort_72 : decode cX5_writePort 72 = .ok (.ifCond .ne 68, 3) := by decide +kernel
theorem dX5_writePort_75 : decode cX5_writePort 75 = .ok (.iload_n 1, 1) := by decide +kernel
theorem dX5_writePort_76 : decode cX5_writePort 76 = .ok (.ifCond .ne 64, 3) := by decide +kernel
theorem dX5_writePort_79 : decode cX5_writePort 79 = .ok (.aload_n 0, 1) := by decide +kernel
theorem dX5_writePort_80 : decode cX5_writePort 80 = .ok (.iload_n 3, 1) := by decide +kernel
theorem dX5_writePort_81 : decode cX5_writePort 81 = .ok (.sipush 128, 3) := by decide +kernel
theorem dX5_writePort_84 : decode cX5_writePort 84 = .ok (.iand, 1) := by decide +kernel
theorem dX5_writePort_85 : decode cX5_writePort 85 = .ok (.ifCond .eq 15, 3) := by decide +kernel
theorem dX5_writePort_88 : decode cX5_writePort 88 = .ok (.aload_n 0, 1) := by decide +kernel
theorem dX5_writePort_89 : decode cX5_writePort 89 = .ok (.getfield 55, 3) := by decide +kernel
theorem dX5_writePort_92 : decode cX5_writePort 92 = .ok (.iload_n 3, 1) := by decide +kernel
theorem dX5_writePort_93 : decode cX5_writePort 93 = .ok (.bipush 63, 2) := by decide +kernel
theorem dX5_writePort_95 : decode cX5_writePort 95 = .ok (.iand, 1) := by decide +kernel
theorem dX5_writePort_96 : decode cX5_writePort 96 = .ok (.ior, 1) := by decide +kernel
theorem dX5_writePort_97 : decode cX5_writePort 97 = .ok (.goto 14, 3) := by decide +kernel
theorem dX5_writePort_100 : decode cX5_writePort 100 = .ok (.aload_n 0, 1) := by decide +kernel
theorem dX5_writePort_101 : decode cX5_writePort 101 = .ok (.getfield 55, 3) := by decide +kernel
theorem dX5_writePort_104 : decode cX5_writePort 104 = .ok (.iload_n 3, 1) := by decide +kernel
theorem dX5_writePort_105 : decode cX5_writePort 105 = .ok (.bipush 63, 2) := by decide +kernel
theorem dX5_writePort_107 : decode cX5_writePort 107 = .ok (.iand, 1) := by decide +kernel
theorem dX5_writePort_108 : decode cX5_writePort 108 = .ok (.iconst (-1), 1) := by decide +kernel
theorem dX5_writePort_109 : decode cX5_writePort 109 = .ok (.ixor, 1) := by decide +kernel
theorem dX5_writePort_110 : decode cX5_writePort 110 = .ok (.iand, 1) := by decide +kernel
theorem dX5_writePort_111 : decode cX5_writePort 111 = .ok (.putfield 55, 3) := by decide +kernel
theorem dX5_writePort_114 : decode cX5_writePort 114 = .ok (.aload_n 0, 1) := by decide +kernel
theorem dX5_writePort_115 : decode cX5_writePort 115 = .ok (.aload_n 0, 1) := by decide +kernel
theorem dX5_writePort_116 : decode cX5_writePort 116 = .ok (.getfield 58, 3) := by decide +kernel
theorem dX5_writePort_119 : decode cX5_writePort 119 = .ok (.ifCond .ne 13, 3) := by decide +kernel
theorem dX5_writePort_122 : decode cX5_writePort 122 = .ok (.aload_n 0, 1) := by decide +kernel
theorem dX5_writePort_123 : decode cX5_writePort 123 = .ok (.getfield 55, 3) := by decide +kernel
theorem dX5_writePort_126 : decode cX5_writePort 126 = .ok (.bipush 32, 2) := by decide +kernel
theorem dX5_writePort_128 : decode cX5_writePort 128 = .ok (.iand, 1) := by decide +kernel
theorem dX5_writePort_129 : decode cX5_writePort 129 = .ok (.ifCond .eq 7, 3) := by decide +kernel
theorem dX5_writePort_132 : decode cX5_writePort 132 = .ok (.iconst 1, 1) := by decide +kernel
theorem dX5_writePort_133 : decode cX5_writePort 133 = .ok (.goto 4, 3) := by decide +kernel
theorem dX5_writePort_136 : decode cX5_writePort 136 = .ok (.iconst 0, 1) := by decide +kernel
theorem dX5_writePort_137 : decode cX5_writePort 137 = .ok (.putfield 58, 3) := by decide +kernel
theorem dX5_writePort_140 : decode cX5_writePort 140 = .ok (.return_, 1) := by decide +kernel
theorem dX5_hasLine_0 : decode cX5_hasLine 0 = .ok (.iload_n 1, 1) := by decide +kernel
theorem dX5_hasLine_1 : decode cX5_hasLine 1 = .ok (.ifCond .ne 29, 3) := by decide +kernel
theorem dX5_hasLine_4 : decode cX5_hasLine 4 = .ok (.aload_n 0, 1) := by decide +kernel
theorem dX5_hasLine_5 : decode cX5_hasLine 5 = .ok (.getfield 55, 3) := by decide +kernel
theorem dX5_hasLine_8 : decode cX5_hasLine 8 = .ok (.iconst 1, 1) := by decide +kernel
theorem dX5_hasLine_9 : decode cX5_hasLine 9 = .ok (.iand, 1) := by decide +kernel
theorem dX5_hasLine_10 : decode cX5_hasLine 10 = .ok (.ifCond .eq 16, 3) := by decide +kernel
theorem dX5_hasLine_13 : decode cX5_hasLine 13 = .ok (.aload_n 0, 1) := by decide +kernel
theorem dX5_hasLine_14 : decode cX5_hasLine 14 = .ok (.getfield 42, 3) := by decide +kernel
theorem dX5_hasLine_17 : decode cX5_hasLine 17 = .ok (.iconst 3, 1) := by decide +kernel
theorem dX5_hasLine_18 : decode cX5_hasLine 18 = .ok (.iaload, 1) := by decide +kernel
theorem dX5_hasLine_19 : decode cX5_hasLine 19 = .ok (.ifCond .le 7, 3) := by decide +kernel
theorem dX5_hasLine_22 : decode cX5_hasLine 22 = .ok (.iconst 1, 1) := by decide +kernel
theorem dX5_hasLine_23 : decode cX5_hasLine 23 = .ok (.goto 49, 3) := by decide +kernel
theorem dX5_hasLine_26 : decode cX5_hasLine 26 = .ok (.iconst 0, 1) := by decide +kernel
theorem dX5_hasLine_27 : decode cX5_hasLine 27 = .ok (.goto 45, 3) := by decide +kernel
theorem dX5_hasLine_30 : decode cX5_hasLine 30 = .ok (.aload_n 0, 1) := by decide +kernel
theorem dX5_hasLine_31 : decode cX5_hasLine 31 = .ok (.getfield 55, 3) := by decide +kernel
theorem dX5_hasLine_34 : decode cX5_hasLine 34 = .ok (.iconst 2, 1) := by decide +kernel
theorem dX5_hasLine_35 : decode cX5_hasLine 35 = .ok (.iand, 1) := by decide +kernel
theorem dX5_hasLine_36 : decode cX5_hasLine 36 = .ok (.ifCond .eq 12, 3) := by decide +kernel
theorem dX5_hasLine_39 : decode cX5_hasLine 39 = .ok (.aload_n 0, 1) := by decide +kernel
theorem dX5_hasLine_40 : decode cX5_hasLine 40 = .ok (.getfield 42, 3) := by decide +kernel
theorem dX5_hasLine_43 : decode cX5_hasLine 43 = .ok (.iconst 4, 1) := by decide +kernel
theorem dX5_hasLine_44 : decode cX5_hasLine 44 = .ok (.iaload, 1) := by decide +kernel
theorem dX5_hasLine_45 : decode cX5_hasLine 45 = .ok (.ifCond .gt 22, 3) := by decide +kernel
theorem dX5_hasLine_48 : decode cX5_hasLine 48 = .ok (.aload_n 0, 1) := by decide +kernel
theorem dX5_hasLine_49 : decode cX5_hasLine 49 = .ok (.getfield 55, 3) := by decide +kernel
theorem dX5_hasLine_52 : decode cX5_hasLine 52 = .ok (.iconst 4, 1) := by decide +kernel
theorem dX5_hasLine_53 : decode cX5_hasLine 53 = .ok (.iand, 1) := by decide +kernel
theorem dX5_hasLine_54 : decode cX5_hasLine 54 = .ok (.ifCond .eq 17, 3) := by decide +kernel
theorem dX5_hasLine_57 : decode cX5_hasLine 57 = .ok (.aload_n 0, 1) := by decide +kernel
theorem dX5_hasLine_58 : decode cX5_hasLine 58 = .ok (.getfield 42, 3) := by decide +kernel
theorem dX5_hasLine_61 : decode cX5_hasLine 61 = .ok (.bipush 7, 2) := by decide +kernel
theorem dX5_hasLine_63 : decode cX5_hasLine 63 = .ok (.iaload, 1) := by decide +kernel
theorem dX5_hasLine_64 : decode cX5_hasLine 64 = .ok (.ifCond .le 7, 3) := by decide +kernel
theorem dX5_hasLine_67 : decode cX5_hasLine 67 = .ok (.iconst 1, 1) := by decide +kernel
theorem dX5_hasLine_68 : decode cX5_hasLine 68 = .ok (.goto 4, 3) := by decide +kernel
theorem dX5_hasLine_71 : decode cX5_hasLine 71 = .ok (.iconst 0, 1) := by decide +kernel
theorem dX5_hasLine_72 : decode cX5_hasLine 72 = .ok (.ireturn, 1) := by decide +kernel
theorem dX5_hasSharpLine_0 : decode cX5_hasSharpLine 0 = .ok (.aload_n 0, 1) := by decide +kernel
theorem dX5_hasSharpLine_1 : decode cX5_hasSharpLine 1 = .ok (.getfield 55, 3) := by decide +kernel
theorem dX5_hasSharpLine_4 : decode cX5_hasSharpLine 4 = .ok (.bipush 8, 2) := by decide +kernel
theorem dX5_hasSharpLine_6 : decode cX5_hasSharpLine 6 = .ok (.iand, 1) := by decide +kernel
theorem dX5_hasSharpLine_7 : decode cX5_hasSharpLine 7 = .ok (.ifCond .eq 32, 3) := by decide +kernel
theorem dX5_hasSharpLine_10 : decode cX5_hasSharpLine 10 = .ok (.aload_n 0, 1) := by decide +kernel
theorem dX5_hasSharpLine_11 : decode cX5_hasSharpLine 11 = .ok (.getfield 42, 3) := by decide +kernel
theorem dX5_hasSharpLine_14 : decode cX5_hasSharpLine 14 = .ok (.bipush 6, 2) := by decide +kernel
theorem dX5_hasSharpLine_16 : decode cX5_hasSharpLine 16 = .ok (.iaload, 1) := by decide +kernel
theorem dX5_hasSharpLine_17 : decode cX5_hasSharpLine 17 = .ok (.aload_n 0, 1) := by decide +kernel
theorem dX5_hasSharpLine_18 : decode cX5_hasSharpLine 18 = .ok (.getfield 55, 3) := by decide +kernel
theorem dX5_hasSharpLine_21 : decode cX5_hasSharpLine 21 = .ok (.bipush 16, 2) := by decide +kernel
theorem dX5_hasSharpLine_23 : decode cX5_hasSharpLine 23 = .ok (.iand, 1) := by decide +kernel
theorem dX5_hasSharpLine_24 : decode cX5_hasSharpLine 24 = .ok (.ifCond .eq 7, 3) := by decide +kernel
theorem dX5_hasSharpLine_27 : decode cX5_hasSharpLine 27 = .ok (.iconst 2, 1) := by decide +kernel
theorem dX5_hasSharpLine_28 : decode cX5_hasSharpLine 28 = .ok (.goto 4, 3) := by decide +kernel
theorem dX5_hasSharpLine_31 : decode cX5_hasSharpLine 31 = .ok (.iconst 1, 1) := by decide +kernel
theorem dX5_hasSharpLine_32 : decode cX5_hasSharpLine 32 = .ok (.if_icmp .lt 7, 3) := by decide +kernel
theorem dX5_hasSharpLine_35 : decode cX5_hasSharpLine 35 = .ok (.iconst 1, 1) := by decide +kernel
theorem dX5_hasSharpLine_36 : decode cX5_hasSharpLine 36 = .ok (.goto 4, 3) := by decide +kernel
theorem dX5_hasSharpLine_39 : decode cX5_hasSharpLine 39 = .ok (.iconst 0, 1) := by decide +kernel
theorem dX5_hasSharpLine_40 : decode cX5_hasSharpLine 40 = .ok (.ireturn, 1) := by decide +kernel
theorem dX5_portOf_0 : decode cX5_portOf 0 = .ok (.iload_n 1, 1) := by decide +kernel
theorem dX5_portOf_1 : decode cX5_portOf 1 = .ok (.aload_n 0, 1) := by decide +kernel
theorem dX5_portOf_2 : decode cX5_portOf 2 = .ok (.getfield 80, 3) := by decide +kernel
theorem dX5_portOf_5 : decode cX5_portOf 5 = .ok (.ifCond .ne 8, 3) := by decide +kernel
theorem dX5_portOf_8 : decode cX5_portOf 8 = .ok (.ldc 83, 2) := by decide +kernel
theorem dX5_portOf_10 : decode cX5_portOf 10 = .ok (.goto 5, 3) := by decide +kernel
theorem dX5_portOf_13 : decode cX5_portOf 13 = .ok (.ldc 84, 2) := by decide +kernel
theorem dX5_portOf_15 : decode cX5_portOf 15 = .ok (.isub, 1) := by decide +kernel
theorem dX5_portOf_16 : decode cX5_portOf 16 = .ok (.istore_n 2, 1) := by decide +kernel
theorem dX5_portOf_17 : decode cX5_portOf 17 = .ok (.iload_n 2, 1) := by decide +kernel
theorem dX5_portOf_18 : decode cX5_portOf 18 = .ok (.ifCond .lt 13, 3) := by decide +kernel
theorem dX5_portOf_21 : decode cX5_portOf 21 = .ok (.iload_n 2, 1) := by decide +kernel
theorem dX5_portOf_22 : decode cX5_portOf 22 = .ok (.bipush 8, 2) := by decide +kernel
theorem dX5_portOf_24 : decode cX5_portOf 24 = .ok (.if_icmp .ge 7, 3) := by decide +kernel
theorem dX5_portOf_27 : decode cX5_portOf 27 = .ok (.iload_n 2, 1) := by decide +kernel
theorem dX5_portOf_28 : decode cX5_portOf 28 = .ok (.goto 4, 3) := by decide +kernel
theorem dX5_portOf_31 : decode cX5_portOf 31 = .ok (.iconst (-1), 1) := by decide +kernel
theorem dX5_portOf_32 : decode cX5_portOf 32 = .ok (.ireturn, 1) := by decide +kernel
theorem dX5_read_0 : decode cX5_read 0 = .ok (.aload_n 0, 1) := by decide +kernel
theorem dX5_read_1 : decode cX5_read 1 = .ok (.iload_n 1, 1) := by decide +kernel
theorem dX5_read_2 : decode cX5_read 2 = .ok (.invokevirtual 85, 3) := by decide +kernel
theorem dX5_read_5 : decode cX5_read 5 = .ok (.istore_n 2, 1) := by decide +kernel
theorem dX5_read_6 : decode cX5_read 6 = .ok (.iload_n 2, 1) := by decide +kernel
theorem dX5_read_7 : decode cX5_read 7 = .ok (.iconst (-1), 1) := by decide +kernel
theorem dX5_read_8 : decode cX5_read 8 = .ok (.if_icmp .ne 25, 3) := by decide +kernel
theorem dX5_read_11 : decode cX5_read 11 = .ok (.aload_n 0, 1) := by decide +kernel
theorem dX5_read_12 : decode cX5_read 12 = .ok (.getfield 7, 3) := by decide +kernel
theorem dX5_read_15 : decode cX5_read 15 = .ok (.sipush 4096, 3) := by decide +kernel
theorem dX5_read_18 : decode cX5_read 18 = .ok (.aload_n 0, 1) := by decide +kernel
theorem dX5_read_19 : decode cX5_read 19 = .ok (.getfield 80, 3) := by decide +kernel
theorem dX5_read_22 : decode cX5_read 22 = .ok (.imul, 1) := by decide +kernel
theorem dX5_read_23 : decode cX5_read 23 = .ok (.iload_n 1, 1) := by decide +kernel
theorem dX5_read_24 : decode cX5_read 24 = .ok (.sipush 4096, 3) := by decide +kernel
theorem dX5_read_27 : decode cX5_read 27 = .ok (.irem, 1) := by decide +kernel
theorem dX5_read_28 : decode cX5_read 28 = .ok (.iadd, 1) := by decide +kernel
theorem dX5_read_29 : decode cX5_read 29 = .ok (.iaload, 1) := by decide +kernel
theorem dX5_read_30 : decode cX5_read 30 = .ok (.goto 12, 3) := by decide +kernel
theorem dX5_read_33 : decode cX5_read 33 = .ok (.aload_n 0, 1) := by decide +kernel
theorem dX5_read_34 : decode cX5_read 34 = .ok (.aload_n 0, 1) := by decide +kernel
theorem dX5_read_35 : decode cX5_read 35 = .ok (.getfield 80, 3) := by decide +kernel
theorem dX5_read_38 : decode cX5_read 38 = .ok (.iload_n 2, 1) := by decide +kernel
theorem dX5_read_39 : decode cX5_read 39 = .ok (.invokevirtual 89, 3) := by decide +kernel
theorem dX5_read_42 : decode cX5_read 42 = .ok (.ireturn, 1) := by decide +kernel
theorem dX5_write_0 : decode cX5_write 0 = .ok (.aload_n 0, 1) := by decide +kernel
theorem dX5_write_1 : decode cX5_write 1 = .ok (.iload_n 1, 1) := by decide +kernel
theorem dX5_write_2 : decode cX5_write 2 = .ok (.invokevirtual 85, 3) := by decide +kernel
theorem dX5_write_5 : decode cX5_write 5 = .ok (.istore_n 3, 1) := by decide +kernel
theorem dX5_write_6 : decode cX5_write 6 = .ok (.iload_n 3, 1) := by decide +kernel
theorem dX5_write_7 : decode cX5_write 7 = .ok (.iconst (-1), 1) := by decide +kernel
theorem dX5_write_8 : decode cX5_write 8 = .ok (.if_icmp .ne 30, 3) := by decide +kernel
theorem dX5_write_11 : decode cX5_write 11 = .ok (.aload_n 0, 1) := by decide +kernel
theorem dX5_write_12 : decode cX5_write 12 = .ok (.getfield 7, 3) := by decide +kernel
theorem dX5_write_15 : decode cX5_write 15 = .ok (.sipush 4096, 3) := by decide +kernel
theorem dX5_write_18 : decode cX5_write 18 = .ok (.aload_n 0, 1) := by decide +kernel
theorem dX5_write_19 : decode cX5_write 19 = .ok (.getfield 80, 3) := by decide +kernel
theorem dX5_write_22 : decode cX5_write 22 = .ok (.imul, 1) := by decide +kernel
theorem dX5_write_23 : decode cX5_write 23 = .ok (.iload_n 1, 1) := by decide +kernel
theorem dX5_write_24 : decode cX5_write 24 = .ok (.sipush 4096, 3) := by decide +kernel
theorem dX5_write_27 : decode cX5_write 27 = .ok (.irem, 1) := by decide +kernel
theorem dX5_write_28 : decode cX5_write 28 = .ok (.iadd, 1) := by decide +kernel
theorem dX5_write_29 : decode cX5_write 29 = .ok (.iload_n 2, 1) := by decide +kernel
theorem dX5_write_30 : decode cX5_write 30 = .ok (.sipush 255, 3) := by decide +kernel
theorem dX5_write_33 : decode cX5_write 33 = .ok (.iand, 1) := by decide +kernel
theorem dX5_write_34 : decode cX5_write 34 = .ok (.iastore, 1) := by decide +kernel
theorem dX5_write_35 : decode cX5_write 35 = .ok (.goto 17, 3) := by decide +kernel
theorem dX5_write_38 : decode cX5_write 38 = .ok (.aload_n 0, 1) := by decide +kernel
theorem dX5_write_39 : decode cX5_write 39 = .ok (.aload_n 0, 1) := by decide +kernel
theorem dX5_write_40 : decode cX5_write 40 = .ok (.getfield 80, 3) := by decide +kernel
theorem dX5_write_43 : decode cX5_write 43 = .ok (.iload_n 3, 1) := by decide +kernel
theorem dX5_write_44 : decode cX5_write 44 = .ok (.iload_n 2, 1) := by decide +kernel
theorem dX5_write_45 : decode cX5_write 45 = .ok (.sipush 255, 3) := by decide +kernel
theorem dX5_write_48 : decode cX5_write 48 = .ok (.iand, 1) := by decide +kernel
theorem dX5_write_49 : decode cX5_write 49 = .ok (.invokevirtual 92, 3) := by decide +kernel
theorem dX5_write_52 : decode cX5_write 52 = .ok (.return_, 1) := by decide +kernel
theorem dX5_plain_0 : decode cX5_plain 0 = .ok (.aload_n 0, 1) := by decide +kernel
theorem dX5_plain_1 : decode cX5_plain 1 = .ok (.getfield 7, 3) := by decide +kernel
theorem dX5_plain_4 : decode cX5_plain 4 = .ok (.sipush 4096, 3) := by decide +kernel
theorem dX5_plain_7 : decode cX5_plain 7 = .ok (.aload_n 0, 1) := by decide +kernel
theorem dX5_plain_8 : decode cX5_plain 8 = .ok (.getfield 80, 3) := by decide +kernel
theorem dX5_plain_11 : decode cX5_plain 11 = .ok (.imul, 1) := by decide +kernel
theorem dX5_plain_12 : decode cX5_plain 12 = .ok (.iload_n 1, 1) := by decide +kernel
theorem dX5_plain_13 : decode cX5_plain 13 = .ok (.sipush 4096, 3) := by decide +kernel
theorem dX5_plain_16 : decode cX5_plain 16 = .ok (.irem, 1) := by decide +kernel
theorem dX5_plain_17 : decode cX5_plain 17 = .ok (.iadd, 1) := by decide +kernel
theorem dX5_plain_18 : decode cX5_plain 18 = .ok (.iaload, 1) := by decide +kernel
theorem dX5_plain_19 : decode cX5_plain 19 = .ok (.ireturn, 1) := by decide +kernel
theorem dX5_plainWord_0 : decode cX5_plainWord 0 = .ok (.aload_n 0, 1) := by decide +kernel
theorem dX5_plainWord_1 : decode cX5_plainWord 1 = .ok (.iload_n 1, 1) := by decide +kernel
theorem dX5_plainWord_2 : decode cX5_plainWord 2 = .ok (.invokevirtual 96, 3) := by decide +kernel
theorem dX5_plainWord_5 : decode cX5_plainWord 5 = .ok (.aload_n 0, 1) := by decide +kernel
theorem dX5_plainWord_6 : decode cX5_plainWord 6 = .ok (.iload_n 1, 1) := by decide +kernel
theorem dX5_plainWord_7 : decode cX5_plainWord 7 = .ok (.iconst 1, 1) := by decide +kernel
theorem dX5_plainWord_8 : decode cX5_plainWord 8 = .ok (.iadd, 1) := by decide +kernel
theorem dX5_plainWord_9 : decode cX5_plainWord 9 = .ok (.invokevirtual 96, 3) := by decide +kernel
theorem dX5_plainWord_12 : decode cX5_plainWord 12 = .ok (.bipush 8, 2) := by decide +kernel
theorem dX5_plainWord_14 : decode cX5_plainWord 14 = .ok (.ishl, 1) := by decide +kernel
theorem dX5_plainWord_15 : decode cX5_plainWord 15 = .ok (.ior, 1) := by decide +kernel
theorem dX5_plainWord_16 : decode cX5_plainWord 16 = .ok (.ireturn, 1) := by decide +kernel
theorem dX5_lowWord_0 : decode cX5_lowWord 0 = .ok (.aload_n 0, 1) := by decide +kernel
theorem dX5_lowWord_1 : decode cX5_lowWord 1 = .ok (.iload_n 1, 1) := by decide +kernel
theorem dX5_lowWord_2 : decode cX5_lowWord 2 = .ok (.sipush 255, 3) := by decide +kernel
theorem dX5_lowWord_5 : decode cX5_lowWord 5 = .ok (.iand, 1) := by decide +kernel
theorem dX5_lowWord_6 : decode cX5_lowWord 6 = .ok (.invokevirtual 96, 3) := by decide +kernel
theorem dX5_lowWord_9 : decode cX5_lowWord 9 = .ok (.aload_n 0, 1) := by decide +kernel
theorem dX5_lowWord_10 : decode cX5_lowWord 10 = .ok (.iload_n 1, 1) := by decide +kernel
theorem dX5_lowWord_11 : decode cX5_lowWord 11 = .ok (.iconst 1, 1) := by decide +kernel
theorem dX5_lowWord_12 : decode cX5_lowWord 12 = .ok (.iadd, 1) := by decide +kernel
theorem dX5_lowWord_13 : decode cX5_lowWord 13 = .ok (.sipush 255, 3) := by decide +kernel
theorem dX5_lowWord_16 : decode cX5_lowWord 16 = .ok (.iand, 1) := by decide +kernel
theorem dX5_lowWord_17 : decode cX5_lowWord 17 = .ok (.invokevirtual 96, 3) := by decide +kernel
theorem dX5_lowWord_20 : decode cX5_lowWord 20 = .ok (.bipush 8, 2) := by decide +kernel
theorem dX5_lowWord_22 : decode cX5_lowWord 22 = .ok (.ishl, 1) := by decide +kernel
theorem dX5_lowWord_23 : decode cX5_lowWord 23 = .ok (.ior, 1) := by decide +kernel
theorem dX5_lowWord_24 : decode cX5_lowWord 24 = .ok (.ireturn, 1) := by decide +kernel
theorem dX5_fetch_0 : decode cX5_fetch 0 = .ok (.aload_n 0, 1) := by decide +kernel
theorem dX5_fetch_1 : decode cX5_fetch 1 = .ok (.aload_n 0, 1) := by decide +kernel
theorem dX5_fetch_2 : decode cX5_fetch 2 = .ok (.getfield 28, 3) := by decide +kernel
theorem dX5_fetch_5 : decode cX5_fetch 5 = .ok (.aload_n 0, 1) := by decide +kernel
theorem dX5_fetch_6 : decode cX5_fetch 6 = .ok (.getfield 80, 3) := by decide +kernel
theorem dX5_fetch_9 : decode cX5_fetch 9 = .ok (.iaload, 1) := by decide +kernel
theorem dX5_fetch_10 : decode cX5_fetch 10 = .ok (.invokevirtual 99, 3) := by decide +kernel
theorem dX5_fetch_13 : decode cX5_fetch 13 = .ok (.istore_n 1, 1) := by decide +kernel
theorem dX5_fetch_14 : decode cX5_fetch 14 = .ok (.aload_n 0, 1) := by decide +kernel
theorem dX5_fetch_15 : decode cX5_fetch 15 = .ok (.getfield 28, 3) := by decide +kernel
theorem dX5_fetch_18 : decode cX5_fetch 18 = .ok (.aload_n 0, 1) := by decide +kernel
theorem dX5_fetch_19 : decode cX5_fetch 19 = .ok (.getfield 80, 3) := by decide +kernel
theorem dX5_fetch_22 : decode cX5_fetch 22 = .ok (.aload_n 0, 1) := by decide +kernel
theorem dX5_fetch_23 : decode cX5_fetch 23 = .ok (.getfield 28, 3) := by decide +kernel
theorem dX5_fetch_26 : decode cX5_fetch 26 = .ok (.aload_n 0, 1) := by decide +kernel
theorem dX5_fetch_27 : decode cX5_fetch 27 = .ok (.getfield 80, 3) := by decide +kernel
theorem dX5_fetch_30 : decode cX5_fetch 30 = .ok (.iaload, 1) := by decide +kernel
theorem dX5_fetch_31 : decode cX5_fetch 31 = .ok (.iconst 1, 1) := by decide +kernel
theorem dX5_fetch_32 : decode cX5_fetch 32 = .ok (.iadd, 1) := by decide +kernel
theorem dX5_fetch_33 : decode cX5_fetch 33 = .ok (.ldc 102, 2) := by decide +kernel
theorem dX5_fetch_35 : decode cX5_fetch 35 = .ok (.iand, 1) := by decide +kernel
theorem dX5_fetch_36 : decode cX5_fetch 36 = .ok (.iastore, 1) := by decide +kernel
theorem dX5_fetch_37 : decode cX5_fetch 37 = .ok (.iload_n 1, 1) := by decide +kernel
theorem dX5_fetch_38 : decode cX5_fetch 38 = .ok (.ireturn, 1) := by decide +kernel
theorem dX5_fetchWord_0 : decode cX5_fetchWord 0 = .ok (.aload_n 0, 1) := by decide +kernel
theorem dX5_fetchWord_1 : decode cX5_fetchWord 1 = .ok (.invokevirtual 103, 3) := by decide +kernel
theorem dX5_fetchWord_4 : decode cX5_fetchWord 4 = .ok (.istore_n 1, 1) := by decide +kernel
theorem dX5_fetchWord_5 : decode cX5_fetchWord 5 = .ok (.iload_n 1, 1) := by decide +kernel
theorem dX5_fetchWord_6 : decode cX5_fetchWord 6 = .ok (.aload_n 0, 1) := by decide +kernel
theorem dX5_fetchWord_7 : decode cX5_fetchWord 7 = .ok (.invokevirtual 103, 3) := by decide +kernel
theorem dX5_fetchWord_10 : decode cX5_fetchWord 10 = .ok (.bipush 8, 2) := by decide +kernel
theorem dX5_fetchWord_12 : decode cX5_fetchWord 12 = .ok (.ishl, 1) := by decide +kernel
theorem dX5_fetchWord_13 : decode cX5_fetchWord 13 = .ok (.ior, 1) := by decide +kernel
theorem dX5_fetchWord_14 : decode cX5_fetchWord 14 = .ok (.ireturn, 1) := by decide +kernel
theorem dX5_push_0 : decode cX5_push 0 = .ok (.aload_n 0, 1) := by decide +kernel
theorem dX5_push_1 : decode cX5_push 1 = .ok (.getfield 7, 3) := by decide +kernel
theorem dX5_push_4 : decode cX5_push 4 = .ok (.sipush 4096, 3) := by decide +kernel
theorem dX5_push_7 : decode cX5_push 7 = .ok (.aload_n 0, 1) := by decide +kernel
theorem dX5_push_8 : decode cX5_push 8 = .ok (.getfield 80, 3) := by decide +kernel
theorem dX5_push_11 : decode cX5_push 11 = .ok (.imul, 1) := by decide +kernel
theorem dX5_push_12 : decode cX5_push 12 = .ok (.sipush 256, 3) := by decide +kernel
theorem dX5_push_15 : decode cX5_push 15 = .ok (.iadd, 1) := by decide +kernel
theorem dX5_push_16 : decode cX5_push 16 = .ok (.aload_n 0, 1) := by decide +kernel
theorem dX5_push_17 : decode cX5_push 17 = .ok (.getfield 22, 3) := by decide +kernel
theorem dX5_push_20 : decode cX5_push 20 = .ok (.aload_n 0, 1) := by decide +kernel
theorem dX5_push_21 : decode cX5_push 21 = .ok (.getfield 80, 3) := by decide +kernel
theorem dX5_push_24 : decode cX5_push 24 = .ok (.iaload, 1) := by decide +kernel
theorem dX5_push_25 : decode cX5_push 25 = .ok (.iadd, 1) := by decide +kernel
theorem dX5_push_26 : decode cX5_push 26 = .ok (.iload_n 1, 1) := by decide +kernel
theorem dX5_push_27 : decode cX5_push 27 = .ok (.sipush 255, 3) := by decide +kernel
theorem dX5_push_30 : decode cX5_push 30 = .ok (.iand, 1) := by decide +kernel
theorem dX5_push_31 : decode cX5_push 31 = .ok (.iastore, 1) := by decide +kernel
theorem dX5_push_32 : decode cX5_push 32 = .ok (.aload_n 0, 1) := by decide +kernel
theorem dX5_push_33 : decode cX5_push 33 = .ok (.getfield 22, 3) := by decide +kernel
theorem dX5_push_36 : decode cX5_push 36 = .ok (.aload_n 0, 1) := by decide +kernel
theorem dX5_push_37 : decode cX5_push 37 = .ok (.getfield 80, 3) := by decide +kernel
theorem dX5_push_40 : decode cX5_push 40 = .ok (.aload_n 0, 1) := by decide +kernel
theorem dX5_push_41 : decode cX5_push 41 = .ok (.getfield 22, 3) := by decide +kernel
theorem dX5_push_44 : decode cX5_push 44 = .ok (.aload_n 0, 1) := by decide +kernel
theorem dX5_push_45 : decode cX5_push 45 = .ok (.getfield 80, 3) := by decide +kernel
theorem dX5_push_48 : decode cX5_push 48 = .ok (.iaload, 1) := by decide +kernel
theorem dX5_push_49 : decode cX5_push 49 = .ok (.iconst 1, 1) := by decide +kernel
theorem dX5_push_50 : decode cX5_push 50 = .ok (.isub, 1) := by decide +kernel
theorem dX5_push_51 : decode cX5_push 51 = .ok (.sipush 255, 3) := by decide +kernel
theorem dX5_push_54 : decode cX5_push 54 = .ok (.iand, 1) := by decide +kernel
theorem dX5_push_55 : decode cX5_push 55 = .ok (.iastore, 1) := by decide +kernel
theorem dX5_push_56 : decode cX5_push 56 = .ok (.return_, 1) := by decide +kernel
theorem dX5_pull_0 : decode cX5_pull 0 = .ok (.aload_n 0, 1) := by decide +kernel
theorem dX5_pull_1 : decode cX5_pull 1 = .ok (.getfield 22, 3) := by decide +kernel
theorem dX5_pull_4 : decode cX5_pull 4 = .ok (.aload_n 0, 1) := by decide +kernel
theorem dX5_pull_5 : decode cX5_pull 5 = .ok (.getfield 80, 3) := by decide +kernel
theorem dX5_pull_8 : decode cX5_pull 8 = .ok (.aload_n 0, 1) := by decide +kernel
theorem dX5_pull_9 : decode cX5_pull 9 = .ok (.getfield 22, 3) := by decide +kernel
theorem dX5_pull_12 : decode cX5_pull 12 = .ok (.aload_n 0, 1) := by decide +kernel
theorem dX5_pull_13 : decode cX5_pull 13 = .ok (.getfield 80, 3) := by decide +kernel
theorem dX5_pull_16 : decode cX5_pull 16 = .ok (.iaload, 1) := by decide +kernel
theorem dX5_pull_17 : decode cX5_pull 17 = .ok (.iconst 1, 1) := by decide +kernel
theorem dX5_pull_18 : decode cX5_pull 18 = .ok (.iadd, 1) := by decide +kernel
theorem dX5_pull_19 : decode cX5_pull 19 = .ok (.sipush 255, 3) := by decide +kernel
theorem dX5_pull_22 : decode cX5_pull 22 = .ok (.iand, 1) := by decide +kernel
theorem dX5_pull_23 : decode cX5_pull 23 = .ok (.iastore, 1) := by decide +kernel
theorem dX5_pull_24 : decode cX5_pull 24 = .ok (.aload_n 0, 1) := by decide +kernel
theorem dX5_pull_25 : decode cX5_pull 25 = .ok (.getfield 7, 3) := by decide +kernel
theorem dX5_pull_28 : decode cX5_pull 28 = .ok (.sipush 4096, 3) := by decide +kernel
theorem dX5_pull_31 : decode cX5_pull 31 = .ok (.aload_n 0, 1) := by decide +kernel
theorem dX5_pull_32 : decode cX5_pull 32 = .ok (.getfield 80, 3) := by decide +kernel
theorem dX5_pull_35 : decode cX5_pull 35 = .ok (.imul, 1) := by decide +kernel
theorem dX5_pull_36 : decode cX5_pull 36 = .ok (.sipush 256, 3) := by decide +kernel
theorem dX5_pull_39 : decode cX5_pull 39 = .ok (.iadd, 1) := by decide +kernel
theorem dX5_pull_40 : decode cX5_pull 40 = .ok (.aload_n 0, 1) := by decide +kernel
theorem dX5_pull_41 : decode cX5_pull 41 = .ok (.getfield 22, 3) := by decide +kernel
theorem dX5_pull_44 : decode cX5_pull 44 = .ok (.aload_n 0, 1) := by decide +kernel
theorem dX5_pull_45 : decode cX5_pull 45 = .ok (.getfield 80, 3) := by decide +kernel
theorem dX5_pull_48 : decode cX5_pull 48 = .ok (.iaload, 1) := by decide +kernel
theorem dX5_pull_49 : decode cX5_pull 49 = .ok (.iadd, 1) := by decide +kernel
theorem dX5_pull_50 : decode cX5_pull 50 = .ok (.iaload, 1) := by decide +kernel
theorem dX5_pull_51 : decode cX5_pull 51 = .ok (.ireturn, 1) := by decide +kernel
theorem dX5_pushWord_0 : decode cX5_pushWord 0 = .ok (.aload_n 0, 1) := by decide +kernel
theorem dX5_pushWord_1 : decode cX5_pushWord 1 = .ok (.iload_n 1, 1) := by decide +kernel
theorem dX5_pushWord_2 : decode cX5_pushWord 2 = .ok (.bipush 8, 2) := by decide +kernel
theorem dX5_pushWord_4 : decode cX5_pushWord 4 = .ok (.ishr, 1) := by decide +kernel
theorem dX5_pushWord_5 : decode cX5_pushWord 5 = .ok (.invokevirtual 107, 3) := by decide +kernel
theorem dX5_pushWord_8 : decode cX5_pushWord 8 = .ok (.aload_n 0, 1) := by decide +kernel
theorem dX5_pushWord_9 : decode cX5_pushWord 9 = .ok (.iload_n 1, 1) := by decide +kernel
theorem dX5_pushWord_10 : decode cX5_pushWord 10 = .ok (.invokevirtual 107, 3) := by decide +kernel
theorem dX5_pushWord_13 : decode cX5_pushWord 13 = .ok (.return_, 1) := by decide +kernel
theorem dX5_pullWord_0 : decode cX5_pullWord 0 = .ok (.aload_n 0, 1) := by decide +kernel
theorem dX5_pullWord_1 : decode cX5_pullWord 1 = .ok (.invokevirtual 111, 3) := by decide +kernel
theorem dX5_pullWord_4 : decode cX5_pullWord 4 = .ok (.istore_n 1, 1) := by decide +kernel
theorem dX5_pullWord_5 : decode cX5_pullWord 5 = .ok (.iload_n 1, 1) := by decide +kernel
theorem dX5_pullWord_6 : decode cX5_pullWord 6 = .ok (.aload_n 0, 1) := by decide +kernel
theorem dX5_pullWord_7 : decode cX5_pullWord 7 = .ok (.invokevirtual 111, 3) := by decide +kernel
theorem dX5_pullWord_10 : decode cX5_pullWord 10 = .ok (.bipush 8, 2) := by decide +kernel
theorem dX5_pullWord_12 : decode cX5_pullWord 12 = .ok (.ishl, 1) := by decide +kernel
theorem dX5_pullWord_13 : decode cX5_pullWord 13 = .ok (.ior, 1) := by decide +kernel
theorem dX5_pullWord_14 : decode cX5_pullWord 14 = .ok (.ireturn, 1) := by decide +kernel
theorem dX5_set_0 : decode cX5_set 0 = .ok (.aload_n 0, 1) := by decide +kernel
theorem dX5_set_1 : decode cX5_set 1 = .ok (.getfield 25, 3) := by decide +kernel
theorem dX5_set_4 : decode cX5_set 4 = .ok (.aload_n 0, 1) := by decide +kernel
theorem dX5_set_5 : decode cX5_set 5 = .ok (.getfield 80, 3) := by decide +kernel
theorem dX5_set_8 : decode cX5_set 8 = .ok (.iload_n 2, 1) := by decide +kernel
theorem dX5_set_9 : decode cX5_set 9 = .ok (.ifCond .eq 17, 3) := by decide +kernel
theorem dX5_set_12 : decode cX5_set 12 = .ok (.aload_n 0, 1) := by decide +kernel
theorem dX5_set_13 : decode cX5_set 13 = .ok (.getfield 25, 3) := by decide +kernel
theorem dX5_set_16 : decode cX5_set 16 = .ok (.aload_n 0, 1) := by decide +kernel
theorem dX5_set_17 : decode cX5_set 17 = .ok (.getfield 80, 3) := by decide +kernel
theorem dX5_set_20 : decode cX5_set 20 = .ok (.iaload, 1) := by decide +kernel
theorem dX5_set_21 : decode cX5_set 21 = .ok (.iload_n 1, 1) := by decide +kernel
theorem dX5_set_22 : decode cX5_set 22 = .ok (.ior, 1) := by decide +kernel
theorem dX5_set_23 : decode cX5_set 23 = .ok (.goto 16, 3) := by decide +kernel
theorem dX5_set_26 : decode cX5_set 26 = .ok (.aload_n 0, 1) := by decide +kernel
theorem dX5_set_27 : decode cX5_set 27 = .ok (.getfield 25, 3) := by decide +kernel
theorem dX5_set_30 : decode cX5_set 30 = .ok (.aload_n 0, 1) := by decide +kernel
theorem dX5_set_31 : decode cX5_set 31 = .ok (.getfield 80, 3) := by decide +kernel
theorem dX5_set_34 : decode cX5_set 34 = .ok (.iaload, 1) := by decide +kernel
theorem dX5_set_35 : decode cX5_set 35 = .ok (.iload_n 1, 1) := by decide +kernel
theorem dX5_set_36 : decode cX5_set 36 = .ok (.iconst (-1), 1) := by decide +kernel
theorem dX5_set_37 : decode cX5_set 37 = .ok (.ixor, 1) := by decide +kernel
theorem dX5_set_38 : decode cX5_set 38 = .ok (.iand, 1) := by decide +kernel
theorem dX5_set_39 : decode cX5_set 39 = .ok (.iastore, 1) := by decide +kernel
theorem dX5_set_40 : decode cX5_set 40 = .ok (.return_, 1) := by decide +kernel
theorem dX5_has_0 : decode cX5_has 0 = .ok (.aload_n 0, 1) := by decide +kernel
theorem dX5_has_1 : decode cX5_has 1 = .ok (.getfield 25, 3) := by decide +kernel
theorem dX5_has_4 : decode cX5_has 4 = .ok (.aload_n 0, 1) := by decide +kernel
theorem dX5_has_5 : decode cX5_has 5 = .ok (.getfield 80, 3) := by decide +kernel
theorem dX5_has_8 : decode cX5_has 8 = .ok (.iaload, 1) := by decide +kernel
theorem dX5_has_9 : decode cX5_has 9 = .ok (.iload_n 1, 1) := by decide +kernel
theorem dX5_has_10 : decode cX5_has 10 = .ok (.iand, 1) := by decide +kernel
theorem dX5_has_11 : decode cX5_has 11 = .ok (.ifCond .eq 7, 3) := by decide +kernel
theorem dX5_has_14 : decode cX5_has 14 = .ok (.iconst 1, 1) := by decide +kernel
theorem dX5_has_15 : decode cX5_has 15 = .ok (.goto 4, 3) := by decide +kernel
theorem dX5_has_18 : decode cX5_has 18 = .ok (.iconst 0, 1) := by decide +kernel
theorem dX5_has_19 : decode cX5_has 19 = .ok (.ireturn, 1) := by decide +kernel
theorem dX5_seen_0 : decode cX5_seen 0 = .ok (.iload_n 1, 1) := by decide +kernel
theorem dX5_seen_1 : decode cX5_seen 1 = .ok (.sipush 255, 3) := by decide +kernel
theorem dX5_seen_4 : decode cX5_seen 4 = .ok (.iand, 1) := by decide +kernel
theorem dX5_seen_5 : decode cX5_seen 5 = .ok (.istore_n 2, 1) := by decide +kernel
theorem dX5_seen_6 : decode cX5_seen 6 = .ok (.aload_n 0, 1) := by decide +kernel
theorem dX5_seen_7 : decode cX5_seen 7 = .ok (.sipush 128, 3) := by decide +kernel
theorem dX5_seen_10 : decode cX5_seen 10 = .ok (.iload_n 2, 1) := by decide +kernel
theorem dX5_seen_11 : decode cX5_seen 11 = .ok (.bipush 127, 2) := by decide +kernel
theorem dX5_seen_13 : decode cX5_seen 13 = .ok (.if_icmp .le 7, 3) := by decide +kernel
theorem dX5_seen_16 : decode cX5_seen 16 = .ok (.iconst 1, 1) := by decide +kernel
theorem dX5_seen_17 : decode cX5_seen 17 = .ok (.goto 4, 3) := by decide +kernel
theorem dX5_seen_20 : decode cX5_seen 20 = .ok (.iconst 0, 1) := by decide +kernel
theorem dX5_seen_21 : decode cX5_seen 21 = .ok (.invokevirtual 114, 3) := by decide +kernel
theorem dX5_seen_24 : decode cX5_seen 24 = .ok (.aload_n 0, 1) := by decide +kernel
theorem dX5_seen_25 : decode cX5_seen 25 = .ok (.iconst 2, 1) := by decide +kernel
theorem dX5_seen_26 : decode cX5_seen 26 = .ok (.iload_n 2, 1) := by decide +kernel
theorem dX5_seen_27 : decode cX5_seen 27 = .ok (.ifCond .ne 7, 3) := by decide +kernel
theorem dX5_seen_30 : decode cX5_seen 30 = .ok (.iconst 1, 1) := by decide +kernel
theorem dX5_seen_31 : decode cX5_seen 31 = .ok (.goto 4, 3) := by decide +kernel
theorem dX5_seen_34 : decode cX5_seen 34 = .ok (.iconst 0, 1) := by decide +kernel
theorem dX5_seen_35 : decode cX5_seen 35 = .ok (.invokevirtual 114, 3) := by decide +kernel
theorem dX5_seen_38 : decode cX5_seen 38 = .ok (.iload_n 2, 1) := by decide +kernel
theorem dX5_seen_39 : decode cX5_seen 39 = .ok (.ireturn, 1) := by decide +kernel
theorem dX5_way_0 : decode cX5_way 0 = .ok (.iload_n 0, 1) := by decide +kernel
theorem dX5_way_1 : decode cX5_way 1 = .ok (.iconst 2, 1) := by decide +kernel
theorem dX5_way_2 : decode cX5_way 2 = .ok (.ishr, 1) := by decide +kernel
theorem dX5_way_3 : decode cX5_way 3 = .ok (.bipush 7, 2) := by decide +kernel
theorem dX5_way_5 : decode cX5_way 5 = .ok (.iand, 1) := by decide +kernel
theorem dX5_way_6 : decode cX5_way 6 = .ok (.istore_n 1, 1) := by decide +kernel
theorem dX5_way_7 : decode cX5_way 7 = .ok (.iload_n 0, 1) := by decide +kernel
theorem dX5_way_8 : decode cX5_way 8 = .ok (.iconst 4, 1) := by decide +kernel
theorem dX5_way_9 : decode cX5_way 9 = .ok (.irem, 1) := by decide +kernel
theorem dX5_way_10 : decode cX5_way 10 = .ok (.iconst 1, 1) := by decide +kernel
theorem dX5_way_11 : decode cX5_way 11 = .ok (.if_icmp .ne 72, 3) := by decide +kernel
theorem dX5_way_14 : decode cX5_way 14 = .ok (.iload_n 1, 1) := by decide +kernel
theorem dX5_way_15 : decode cX5_way 15 = .ok (.ifCond .ne 8, 3) := by decide +kernel
theorem dX5_way_18 : decode cX5_way 18 = .ok (.bipush 8, 2) := by decide +kernel
theorem dX5_way_20 : decode cX5_way 20 = .ok (.goto 62, 3) := by decide +kernel
theorem dX5_way_23 : decode cX5_way 23 = .ok (.iload_n 1, 1) := by decide +kernel
theorem dX5_way_24 : decode cX5_way 24 = .ok (.iconst 1, 1) := by decide +kernel
theorem dX5_way_25 : decode cX5_way 25 = .ok (.if_icmp .ne 7, 3) := by decide +kernel
theorem dX5_way_28 : decode cX5_way 28 = .ok (.iconst 2, 1) := by decide +kernel
theorem dX5_way_29 : decode cX5_way 29 = .ok (.goto 53, 3) := by decide +kernel
theorem dX5_way_32 : decode cX5_way 32 = .ok (.iload_n 1, 1) := by decide +kernel
theorem dX5_way_33 : decode cX5_way 33 = .ok (.iconst 2, 1) := by decide +kernel
theorem dX5_way_34 : decode cX5_way 34 = .ok (.if_icmp .ne 7, 3) := by decide +kernel
theorem dX5_way_37 : decode cX5_way 37 = .ok (.iconst 1, 1) := by decide +kernel
theorem dX5_way_38 : decode cX5_way 38 = .ok (.goto 44, 3) := by decide +kernel
theorem dX5_way_41 : decode cX5_way 41 = .ok (.iload_n 1, 1) := by decide +kernel
theorem dX5_way_42 : decode cX5_way 42 = .ok (.iconst 3, 1) := by decide +kernel
theorem dX5_way_43 : decode cX5_way 43 = .ok (.if_icmp .ne 7, 3) := by decide +kernel
theorem dX5_way_46 : decode cX5_way 46 = .ok (.iconst 5, 1) := by decide +kernel
theorem dX5_way_47 : decode cX5_way 47 = .ok (.goto 35, 3) := by decide +kernel
theorem dX5_way_50 : decode cX5_way 50 = .ok (.iload_n 1, 1) := by decide +kernel
theorem dX5_way_51 : decode cX5_way 51 = .ok (.iconst 4, 1) := by decide +kernel
theorem dX5_way_52 : decode cX5_way 52 = .ok (.if_icmp .ne 8, 3) := by decide +kernel
theorem dX5_way_55 : decode cX5_way 55 = .ok (.bipush 9, 2) := by decide +kernel
theorem dX5_way_57 : decode cX5_way 57 = .ok (.goto 25, 3) := by decide +kernel
theorem dX5_way_60 : decode cX5_way 60 = .ok (.iload_n 1, 1) := by decide +kernel
theorem dX5_way_61 : decode cX5_way 61 = .ok (.iconst 5, 1) := by decide +kernel
theorem dX5_way_62 : decode cX5_way 62 = .ok (.if_icmp .ne 7, 3) := by decide +kernel
theorem dX5_way_65 : decode cX5_way 65 = .ok (.iconst 3, 1) := by decide +kernel
theorem dX5_way_66 : decode cX5_way 66 = .ok (.goto 16, 3) := by decide +kernel
theorem dX5_way_69 : decode cX5_way 69 = .ok (.iload_n 1, 1) := by decide +kernel
theorem dX5_way_70 : decode cX5_way 70 = .ok (.bipush 6, 2) := by decide +kernel
theorem dX5_way_72 : decode cX5_way 72 = .ok (.if_icmp .ne 8, 3) := by decide +kernel
theorem dX5_way_75 : decode cX5_way 75 = .ok (.bipush 7, 2) := by decide +kernel
theorem dX5_way_77 : decode cX5_way 77 = .ok (.goto 5, 3) := by decide +kernel
theorem dX5_way_80 : decode cX5_way 80 = .ok (.bipush 6, 2) := by decide +kernel
theorem dX5_way_82 : decode cX5_way 82 = .ok (.ireturn, 1) := by decide +kernel
theorem dX5_way_83 : decode cX5_way 83 = .ok (.iload_n 0, 1) := by decide +kernel
theorem dX5_way_84 : decode cX5_way 84 = .ok (.bipush 32, 2) := by decide +kernel
theorem dX5_way_86 : decode cX5_way 86 = .ok (.idiv, 1) := by decide +kernel
theorem dX5_way_87 : decode cX5_way 87 = .ok (.iconst 4, 1) := by decide +kernel
theorem dX5_way_88 : decode cX5_way 88 = .ok (.if_icmp .ne 10, 3) := by decide +kernel
theorem dX5_way_91 : decode cX5_way 91 = .ok (.iload_n 0, 1) := by decide +kernel
theorem dX5_way_92 : decode cX5_way 92 = .ok (.iconst 4, 1) := by decide +kernel
theorem dX5_way_93 : decode cX5_way 93 = .ok (.irem, 1) := by decide +kernel
theorem dX5_way_94 : decode cX5_way 94 = .ok (.iconst 2, 1) := by decide +kernel
theorem dX5_way_95 : decode cX5_way 95 = .ok (.if_icmp .eq 18, 3) := by decide +kernel
theorem dX5_way_98 : decode cX5_way 98 = .ok (.iload_n 0, 1) := by decide +kernel
theorem dX5_way_99 : decode cX5_way 99 = .ok (.bipush 32, 2) := by decide +kernel
theorem dX5_way_101 : decode cX5_way 101 = .ok (.idiv, 1) := by decide +kernel
theorem dX5_way_102 : decode cX5_way 102 = .ok (.iconst 5, 1) := by decide +kernel
theorem dX5_way_103 : decode cX5_way 103 = .ok (.if_icmp .ne 14, 3) := by decide +kernel
theorem dX5_way_106 : decode cX5_way 106 = .ok (.iload_n 0, 1) := by decide +kernel
theorem dX5_way_107 : decode cX5_way 107 = .ok (.iconst 4, 1) := by decide +kernel
theorem dX5_way_108 : decode cX5_way 108 = .ok (.irem, 1) := by decide +kernel
theorem dX5_way_109 : decode cX5_way 109 = .ok (.iconst 2, 1) := by decide +kernel
theorem dX5_way_110 : decode cX5_way 110 = .ok (.if_icmp .ne 7, 3) := by decide +kernel
theorem dX5_way_113 : decode cX5_way 113 = .ok (.iconst 1, 1) := by decide +kernel
theorem dX5_way_114 : decode cX5_way 114 = .ok (.goto 4, 3) := by decide +kernel
theorem dX5_way_117 : decode cX5_way 117 = .ok (.iconst 0, 1) := by decide +kernel
theorem dX5_way_118 : decode cX5_way 118 = .ok (.istore_n 2, 1) := by decide +kernel
theorem dX5_way_119 : decode cX5_way 119 = .ok (.iload_n 0, 1) := by decide +kernel
theorem dX5_way_120 : decode cX5_way 120 = .ok (.sipush 160, 3) := by decide +kernel
theorem dX5_way_123 : decode cX5_way 123 = .ok (.if_icmp .eq 24, 3) := by decide +kernel
theorem dX5_way_126 : decode cX5_way 126 = .ok (.iload_n 0, 1) := by decide +kernel
theorem dX5_way_127 : decode cX5_way 127 = .ok (.sipush 162, 3) := by decide +kernel
theorem dX5_way_130 : decode cX5_way 130 = .ok (.if_icmp .eq 17, 3) := by decide +kernel
theorem dX5_way_133 : decode cX5_way 133 = .ok (.iload_n 0, 1) := by decide +kernel
theorem dX5_way_134 : decode cX5_way 134 = .ok (.sipush 192, 3) := by decide +kernel
theorem dX5_way_137 : decode cX5_way 137 = .ok (.if_icmp .eq 10, 3) := by decide +kernel
theorem dX5_way_140 : decode cX5_way 140 = .ok (.iload_n 0, 1) := by decide +kernel
theorem dX5_way_141 : decode cX5_way 141 = .ok (.sipush 224, 3) := by decide +kernel
theorem dX5_way_144 : decode cX5_way 144 = .ok (.if_icmp .ne 5, 3) := by decide +kernel
theorem dX5_way_147 : decode cX5_way 147 = .ok (.iconst 1, 1) := by decide +kernel
theorem dX5_way_148 : decode cX5_way 148 = .ok (.ireturn, 1) := by decide +kernel
theorem dX5_way_149 : decode cX5_way 149 = .ok (.iload_n 1, 1) := by decide +kernel
theorem dX5_way_150 : decode cX5_way 150 = .ok (.iconst 1, 1) := by decide +kernel
theorem dX5_way_151 : decode cX5_way 151 = .ok (.if_icmp .ne 5, 3) := by decide +kernel
theorem dX5_way_154 : decode cX5_way 154 = .ok (.iconst 2, 1) := by decide +kernel
theorem dX5_way_155 : decode cX5_way 155 = .ok (.ireturn, 1) := by decide +kernel
theorem dX5_way_156 : decode cX5_way 156 = .ok (.iload_n 1, 1) := by decide +kernel
theorem dX5_way_157 : decode cX5_way 157 = .ok (.iconst 3, 1) := by decide +kernel
theorem dX5_way_158 : decode cX5_way 158 = .ok (.if_icmp .ne 5, 3) := by decide +kernel
theorem dX5_way_161 : decode cX5_way 161 = .ok (.iconst 5, 1) := by decide +kernel
theorem dX5_way_162 : decode cX5_way 162 = .ok (.ireturn, 1) := by decide +kernel
theorem dX5_way_163 : decode cX5_way 163 = .ok (.iload_n 1, 1) := by decide +kernel
theorem dX5_way_164 : decode cX5_way 164 = .ok (.iconst 5, 1) := by decide +kernel
theorem dX5_way_165 : decode cX5_way 165 = .ok (.if_icmp .ne 13, 3) := by decide +kernel
theorem dX5_way_168 : decode cX5_way 168 = .ok (.iload_n 2, 1) := by decide +kernel
theorem dX5_way_169 : decode cX5_way 169 = .ok (.ifCond .eq 7, 3) := by decide +kernel
theorem dX5_way_172 : decode cX5_way 172 = .ok (.iconst 4, 1) := by decide +kernel
theorem dX5_way_173 : decode cX5_way 173 = .ok (.goto 4, 3) := by decide +kernel
theorem dX5_way_176 : decode cX5_way 176 = .ok (.iconst 3, 1) := by decide +kernel
theorem dX5_way_177 : decode cX5_way 177 = .ok (.ireturn, 1) := by decide +kernel
theorem dX5_way_178 : decode cX5_way 178 = .ok (.iload_n 1, 1) := by decide +kernel
theorem dX5_way_179 : decode cX5_way 179 = .ok (.bipush 7, 2) := by decide +kernel
theorem dX5_way_181 : decode cX5_way 181 = .ok (.if_icmp .ne 15, 3) := by decide +kernel
theorem dX5_way_184 : decode cX5_way 184 = .ok (.iload_n 2, 1) := by decide +kernel
theorem dX5_way_185 : decode cX5_way 185 = .ok (.ifCond .eq 8, 3) := by decide +kernel
theorem dX5_way_188 : decode cX5_way 188 = .ok (.bipush 7, 2) := by decide +kernel
theorem dX5_way_190 : decode cX5_way 190 = .ok (.goto 5, 3) := by decide +kernel
theorem dX5_way_193 : decode cX5_way 193 = .ok (.bipush 6, 2) := by decide +kernel
theorem dX5_way_195 : decode cX5_way 195 = .ok (.ireturn, 1) := by decide +kernel
theorem dX5_way_196 : decode cX5_way 196 = .ok (.iload_n 0, 1) := by decide +kernel
theorem dX5_way_197 : decode cX5_way 197 = .ok (.bipush 10, 2) := by decide +kernel
theorem dX5_way_199 : decode cX5_way 199 = .ok (.if_icmp .eq 21, 3) := by decide +kernel
theorem dX5_way_202 : decode cX5_way 202 = .ok (.iload_n 0, 1) := by decide +kernel
theorem dX5_way_203 : decode cX5_way 203 = .ok (.bipush 42, 2) := by decide +kernel
theorem dX5_way_205 : decode cX5_way 205 = .ok (.if_icmp .eq 15, 3) := by decide +kernel
theorem dX5_way_208 : decode cX5_way 208 = .ok (.iload_n 0, 1) := by decide +kernel
theorem dX5_way_209 : decode cX5_way 209 = .ok (.bipush 74, 2) := by decide +kernel
theorem dX5_way_211 : decode cX5_way 211 = .ok (.if_icmp .eq 9, 3) := by decide +kernel
theorem dX5_way_214 : decode cX5_way 214 = .ok (.iload_n 0, 1) := by decide +kernel
theorem dX5_way_215 : decode cX5_way 215 = .ok (.bipush 106, 2) := by decide +kernel
theorem dX5_way_217 : decode cX5_way 217 = .ok (.if_icmp .ne 8, 3) := by decide +kernel
theorem dX5_way_220 : decode cX5_way 220 = .ok (.bipush 10, 2) := by decide +kernel
theorem dX5_way_222 : decode cX5_way 222 = .ok (.goto 4, 3) := by decide +kernel
theorem dX5_way_225 : decode cX5_way 225 = .ok (.iconst 0, 1) := by decide +kernel
theorem dX5_way_226 : decode cX5_way 226 = .ok (.ireturn, 1) := by decide +kernel
theorem dX5_isKnown_0 : decode cX5_isKnown 0 = .ok (.iload_n 0, 1) := by decide +kernel
theorem dX5_isKnown_1 : decode cX5_isKnown 1 = .ok (.iconst 4, 1) := by decide +kernel
theorem dX5_isKnown_2 : decode cX5_isKnown 2 = .ok (.irem, 1) := by decide +kernel
theorem dX5_isKnown_3 : decode cX5_isKnown 3 = .ok (.istore_n 1, 1) := by decide +kernel
theorem dX5_isKnown_4 : decode cX5_isKnown 4 = .ok (.iload_n 0, 1) := by decide +kernel
theorem dX5_isKnown_5 : decode cX5_isKnown 5 = .ok (.iconst 2, 1) := by decide +kernel
theorem dX5_isKnown_6 : decode cX5_isKnown 6 = .ok (.ishr, 1) := by decide +kernel
theorem dX5_isKnown_7 : decode cX5_isKnown 7 = .ok (.bipush 7, 2) := by decide +kernel
theorem dX5_isKnown_9 : decode cX5_isKnown 9 = .ok (.iand, 1) := by decide +kernel
theorem dX5_isKnown_10 : decode cX5_isKnown 10 = .ok (.istore_n 2, 1) := by decide +kernel
theorem dX5_isKnown_11 : decode cX5_isKnown 11 = .ok (.iload_n 0, 1) := by decide +kernel
theorem dX5_isKnown_12 : decode cX5_isKnown 12 = .ok (.bipush 32, 2) := by decide +kernel
theorem dX5_isKnown_14 : decode cX5_isKnown 14 = .ok (.idiv, 1) := by decide +kernel
theorem dX5_isKnown_15 : decode cX5_isKnown 15 = .ok (.istore_n 3, 1) := by decide +kernel
theorem dX5_isKnown_16 : decode cX5_isKnown 16 = .ok (.iload_n 1, 1) := by decide +kernel
theorem dX5_isKnown_17 : decode cX5_isKnown 17 = .ok (.iconst 1, 1) := by decide +kernel
theorem dX5_isKnown_18 : decode cX5_isKnown 18 = .ok (.if_icmp .ne 16, 3) := by decide +kernel
theorem dX5_isKnown_21 : decode cX5_isKnown 21 = .ok (.iload_n 0, 1) := by decide +kernel
theorem dX5_isKnown_22 : decode cX5_isKnown 22 = .ok (.sipush 137, 3) := by decide +kernel
theorem dX5_isKnown_25 : decode cX5_isKnown 25 = .ok (.if_icmp .eq 7, 3) := by decide +kernel
theorem dX5_isKnown_28 : decode cX5_isKnown 28 = .ok (.iconst 1, 1) := by decide +kernel
theorem dX5_isKnown_29 : decode cX5_isKnown 29 = .ok (.goto 4, 3) := by decide +kernel
theorem dX5_isKnown_32 : decode cX5_isKnown 32 = .ok (.iconst 0, 1) := by decide +kernel
theorem dX5_isKnown_33 : decode cX5_isKnown 33 = .ok (.ireturn, 1) := by decide +kernel
theorem dX5_isKnown_34 : decode cX5_isKnown 34 = .ok (.iload_n 1, 1) := by decide +kernel
theorem dX5_isKnown_35 : decode cX5_isKnown 35 = .ok (.iconst 3, 1) := by decide +kernel
theorem dX5_isKnown_36 : decode cX5_isKnown 36 = .ok (.if_icmp .ne 5, 3) := by decide +kernel
theorem dX5_isKnown_39 : decode cX5_isKnown 39 = .ok (.iconst 0, 1) := by decide +kernel
theorem dX5_isKnown_40 : decode cX5_isKnown 40 = .ok (.ireturn, 1) := by decide +kernel
theorem dX5_isKnown_41 : decode cX5_isKnown 41 = .ok (.iload_n 1, 1) := by decide +kernel
theorem dX5_isKnown_42 : decode cX5_isKnown 42 = .ok (.iconst 2, 1) := by decide +kernel
theorem dX5_isKnown_43 : decode cX5_isKnown 43 = .ok (.if_icmp .ne 66, 3) := by decide +kernel
theorem dX5_isKnown_46 : decode cX5_isKnown 46 = .ok (.iload_n 2, 1) := by decide +kernel
theorem dX5_isKnown_47 : decode cX5_isKnown 47 = .ok (.ifCond .ne 16, 3) := by decide +kernel
theorem dX5_isKnown_50 : decode cX5_isKnown 50 = .ok (.iload_n 0, 1) := by decide +kernel
theorem dX5_isKnown_51 : decode cX5_isKnown 51 = .ok (.sipush 162, 3) := by decide +kernel
theorem dX5_isKnown_54 : decode cX5_isKnown 54 = .ok (.if_icmp .ne 7, 3) := by decide +kernel
theorem dX5_isKnown_57 : decode cX5_isKnown 57 = .ok (.iconst 1, 1) := by decide +kernel
theorem dX5_isKnown_58 : decode cX5_isKnown 58 = .ok (.goto 4, 3) := by decide +kernel
theorem dX5_isKnown_61 : decode cX5_isKnown 61 = .ok (.iconst 0, 1) := by decide +kernel
theorem dX5_isKnown_62 : decode cX5_isKnown 62 = .ok (.ireturn, 1) := by decide +kernel
theorem dX5_isKnown_63 : decode cX5_isKnown 63 = .ok (.iload_n 2, 1) := by decide +kernel
theorem dX5_isKnown_64 : decode cX5_isKnown 64 = .ok (.iconst 4, 1) := by decide +kernel
theorem dX5_isKnown_65 : decode cX5_isKnown 65 = .ok (.if_icmp .ne 5, 3) := by decide +kernel
theorem dX5_isKnown_68 : decode cX5_isKnown 68 = .ok (.iconst 0, 1) := by decide +kernel
theorem dX5_isKnown_69 : decode cX5_isKnown 69 = .ok (.ireturn, 1) := by decide +kernel
theorem dX5_isKnown_70 : decode cX5_isKnown 70 = .ok (.iload_n 2, 1) := by decide +kernel
theorem dX5_isKnown_71 : decode cX5_isKnown 71 = .ok (.bipush 6, 2) := by decide +kernel
theorem dX5_isKnown_73 : decode cX5_isKnown 73 = .ok (.if_icmp .ne 23, 3) := by decide +kernel
theorem dX5_isKnown_76 : decode cX5_isKnown 76 = .ok (.iload_n 0, 1) := by decide +kernel
theorem dX5_isKnown_77 : decode cX5_isKnown 77 = .ok (.sipush 154, 3) := by decide +kernel
theorem dX5_isKnown_80 : decode cX5_isKnown 80 = .ok (.if_icmp .eq 10, 3) := by decide +kernel
theorem dX5_isKnown_83 : decode cX5_isKnown 83 = .ok (.iload_n 0, 1) := by decide +kernel
theorem dX5_isKnown_84 : decode cX5_isKnown 84 = .ok (.sipush 186, 3) := by decide +kernel
theorem dX5_isKnown_87 : decode cX5_isKnown 87 = .ok (.if_icmp .ne 7, 3) := by decide +kernel
theorem dX5_isKnown_90 : decode cX5_isKnown 90 = .ok (.iconst 1, 1) := by decide +kernel
theorem dX5_isKnown_91 : decode cX5_isKnown 91 = .ok (.goto 4, 3) := by decide +kernel
theorem dX5_isKnown_94 : decode cX5_isKnown 94 = .ok (.iconst 0, 1) := by decide +kernel
theorem dX5_isKnown_95 : decode cX5_isKnown 95 = .ok (.ireturn, 1) := by decide +kernel
theorem dX5_isKnown_96 : decode cX5_isKnown 96 = .ok (.iload_n 0, 1) := by decide +kernel
theorem dX5_isKnown_97 : decode cX5_isKnown 97 = .ok (.sipush 158, 3) := by decide +kernel
theorem dX5_isKnown_100 : decode cX5_isKnown 100 = .ok (.if_icmp .eq 7, 3) := by decide +kernel
theorem dX5_isKnown_103 : decode cX5_isKnown 103 = .ok (.iconst 1, 1) := by decide +kernel
theorem dX5_isKnown_104 : decode cX5_isKnown 104 = .ok (.goto 4, 3) := by decide +kernel
theorem dX5_isKnown_107 : decode cX5_isKnown 107 = .ok (.iconst 0, 1) := by decide +kernel
theorem dX5_isKnown_108 : decode cX5_isKnown 108 = .ok (.ireturn, 1) := by decide +kernel
theorem dX5_isKnown_109 : decode cX5_isKnown 109 = .ok (.iload_n 2, 1) := by decide +kernel
theorem dX5_isKnown_110 : decode cX5_isKnown 110 = .ok (.iconst 2, 1) := by decide +kernel
theorem dX5_isKnown_111 : decode cX5_isKnown 111 = .ok (.if_icmp .eq 14, 3) := by decide +kernel
theorem dX5_isKnown_114 : decode cX5_isKnown 114 = .ok (.iload_n 2, 1) := by decide +kernel
theorem dX5_isKnown_115 : decode cX5_isKnown 115 = .ok (.iconst 4, 1) := by decide +kernel
theorem dX5_isKnown_116 : decode cX5_isKnown 116 = .ok (.if_icmp .eq 9, 3) := by decide +kernel
theorem dX5_isKnown_119 : decode cX5_isKnown 119 = .ok (.iload_n 2, 1) := by decide +kernel
theorem dX5_isKnown_120 : decode cX5_isKnown 120 = .ok (.bipush 6, 2) := by decide +kernel
theorem dX5_isKnown_122 : decode cX5_isKnown 122 = .ok (.if_icmp .ne 5, 3) := by decide +kernel
theorem dX5_isKnown_125 : decode cX5_isKnown 125 = .ok (.iconst 1, 1) := by decide +kernel
theorem dX5_isKnown_126 : decode cX5_isKnown 126 = .ok (.ireturn, 1) := by decide +kernel
theorem dX5_isKnown_127 : decode cX5_isKnown 127 = .ok (.iload_n 2, 1) := by decide +kernel
theorem dX5_isKnown_128 : decode cX5_isKnown 128 = .ok (.ifCond .ne 16, 3) := by decide +kernel
theorem dX5_isKnown_131 : decode cX5_isKnown 131 = .ok (.iload_n 0, 1) := by decide +kernel
theorem dX5_isKnown_132 : decode cX5_isKnown 132 = .ok (.sipush 128, 3) := by decide +kernel
theorem dX5_isKnown_135 : decode cX5_isKnown 135 = .ok (.if_icmp .eq 7, 3) := by decide +kernel
theorem dX5_isKnown_138 : decode cX5_isKnown 138 = .ok (.iconst 1, 1) := by decide +kernel
theorem dX5_isKnown_139 : decode cX5_isKnown 139 = .ok (.goto 4, 3) := by decide +kernel
theorem dX5_isKnown_142 : decode cX5_isKnown 142 = .ok (.iconst 0, 1) := by decide +kernel
theorem dX5_isKnown_143 : decode cX5_isKnown 143 = .ok (.ireturn, 1) := by decide +kernel
theorem dX5_isKnown_144 : decode cX5_isKnown 144 = .ok (.iload_n 2, 1) := by decide +kernel
theorem dX5_isKnown_145 : decode cX5_isKnown 145 = .ok (.iconst 1, 1) := by decide +kernel
theorem dX5_isKnown_146 : decode cX5_isKnown 146 = .ok (.if_icmp .ne 19, 3) := by decide +kernel
theorem dX5_isKnown_149 : decode cX5_isKnown 149 = .ok (.iload_n 3, 1) := by decide +kernel
theorem dX5_isKnown_150 : decode cX5_isKnown 150 = .ok (.iconst 1, 1) := by decide +kernel
theorem dX5_isKnown_151 : decode cX5_isKnown 151 = .ok (.if_icmp .eq 8, 3) := by decide +kernel
theorem dX5_isKnown_154 : decode cX5_isKnown 154 = .ok (.iload_n 3, 1) := by decide +kernel
theorem dX5_isKnown_155 : decode cX5_isKnown 155 = .ok (.iconst 3, 1) := by decide +kernel
theorem dX5_isKnown_156 : decode cX5_isKnown 156 = .ok (.if_icmp .le 7, 3) := by decide +kernel
theorem dX5_isKnown_159 : decode cX5_isKnown 159 = .ok (.iconst 1, 1) := by decide +kernel
theorem dX5_isKnown_160 : decode cX5_isKnown 160 = .ok (.goto 4, 3) := by decide +kernel
theorem dX5_isKnown_163 : decode cX5_isKnown 163 = .ok (.iconst 0, 1) := by decide +kernel
theorem dX5_isKnown_164 : decode cX5_isKnown 164 = .ok (.ireturn, 1) := by decide +kernel
theorem dX5_isKnown_165 : decode cX5_isKnown 165 = .ok (.iload_n 2, 1) := by decide +kernel
theorem dX5_isKnown_166 : decode cX5_isKnown 166 = .ok (.iconst 3, 1) := by decide +kernel
theorem dX5_isKnown_167 : decode cX5_isKnown 167 = .ok (.if_icmp .ne 13, 3) := by decide +kernel
theorem dX5_isKnown_170 : decode cX5_isKnown 170 = .ok (.iload_n 3, 1) := by decide +kernel
theorem dX5_isKnown_171 : decode cX5_isKnown 171 = .ok (.ifCond .le 7, 3) := by decide +kernel
theorem dX5_isKnown_174 : decode cX5_isKnown 174 = .ok (.iconst 1, 1) := by decide +kernel
theorem dX5_isKnown_175 : decode cX5_isKnown 175 = .ok (.goto 4, 3) := by decide +kernel
theorem dX5_isKnown_178 : decode cX5_isKnown 178 = .ok (.iconst 0, 1) := by decide +kernel
theorem dX5_isKnown_179 : decode cX5_isKnown 179 = .ok (.ireturn, 1) := by decide +kernel
theorem dX5_isKnown_180 : decode cX5_isKnown 180 = .ok (.iload_n 2, 1) := by decide +kernel
theorem dX5_isKnown_181 : decode cX5_isKnown 181 = .ok (.iconst 5, 1) := by decide +kernel
theorem dX5_isKnown_182 : decode cX5_isKnown 182 = .ok (.if_icmp .ne 21, 3) := by decide +kernel
theorem dX5_isKnown_185 : decode cX5_isKnown 185 = .ok (.iload_n 3, 1) := by decide +kernel
theorem dX5_isKnown_186 : decode cX5_isKnown 186 = .ok (.iconst 4, 1) := by decide +kernel
theorem dX5_isKnown_187 : decode cX5_isKnown 187 = .ok (.if_icmp .eq 8, 3) := by decide +kernel
theorem dX5_isKnown_190 : decode cX5_isKnown 190 = .ok (.iload_n 3, 1) := by decide +kernel
theorem dX5_isKnown_191 : decode cX5_isKnown 191 = .ok (.iconst 5, 1) := by decide +kernel
theorem dX5_isKnown_192 : decode cX5_isKnown 192 = .ok (.if_icmp .ne 7, 3) := by decide +kernel
theorem dX5_isKnown_195 : decode cX5_isKnown 195 = .ok (.iconst 1, 1) := by decide +kernel
theorem dX5_isKnown_196 : decode cX5_isKnown 196 = .ok (.goto 17, 3) := by decide +kernel
theorem dX5_isKnown_199 : decode cX5_isKnown 199 = .ok (.iconst 0, 1) := by decide +kernel
theorem dX5_isKnown_200 : decode cX5_isKnown 200 = .ok (.goto 13, 3) := by decide +kernel
theorem dX5_isKnown_203 : decode cX5_isKnown 203 = .ok (.iload_n 3, 1) := by decide +kernel
theorem dX5_isKnown_204 : decode cX5_isKnown 204 = .ok (.iconst 5, 1) := by decide +kernel
theorem dX5_isKnown_205 : decode cX5_isKnown 205 = .ok (.if_icmp .ne 7, 3) := by decide +kernel
theorem dX5_isKnown_208 : decode cX5_isKnown 208 = .ok (.iconst 1, 1) := by decide +kernel
theorem dX5_isKnown_209 : decode cX5_isKnown 209 = .ok (.goto 4, 3) := by decide +kernel
theorem dX5_isKnown_212 : decode cX5_isKnown 212 = .ok (.iconst 0, 1) := by decide +kernel
theorem dX5_isKnown_213 : decode cX5_isKnown 213 = .ok (.ireturn, 1) := by decide +kernel
theorem dX5_placeBy_0 : decode cX5_placeBy 0 = .ok (.iload_n 1, 1) := by decide +kernel
theorem dX5_placeBy_1 : decode cX5_placeBy 1 = .ok (.tableswitch 188 1 8 #[47, 85, 90, 109, 128, 133, 151, 169], 47) := by decide +kernel
theorem dX5_placeBy_48 : decode cX5_placeBy 48 = .ok (.aload_n 0, 1) := by decide +kernel
theorem dX5_placeBy_49 : decode cX5_placeBy 49 = .ok (.getfield 28, 3) := by decide +kernel
theorem dX5_placeBy_52 : decode cX5_placeBy 52 = .ok (.aload_n 0, 1) := by decide +kernel
theorem dX5_placeBy_53 : decode cX5_placeBy 53 = .ok (.getfield 80, 3) := by decide +kernel
theorem dX5_placeBy_56 : decode cX5_placeBy 56 = .ok (.aload_n 0, 1) := by decide +kernel
theorem dX5_placeBy_57 : decode cX5_placeBy 57 = .ok (.getfield 28, 3) := by decide +kernel
theorem dX5_placeBy_60 : decode cX5_placeBy 60 = .ok (.aload_n 0, 1) := by decide +kernel
theorem dX5_placeBy_61 : decode cX5_placeBy 61 = .ok (.getfield 80, 3) := by decide +kernel
theorem dX5_placeBy_64 : decode cX5_placeBy 64 = .ok (.iaload, 1) := by decide +kernel
theorem dX5_placeBy_65 : decode cX5_placeBy 65 = .ok (.iconst 1, 1) := by decide +kernel
theorem dX5_placeBy_66 : decode cX5_placeBy 66 = .ok (.iadd, 1) := by decide +kernel
theorem dX5_placeBy_67 : decode cX5_placeBy 67 = .ok (.ldc 102, 2) := by decide +kernel
theorem dX5_placeBy_69 : decode cX5_placeBy 69 = .ok (.iand, 1) := by decide +kernel
theorem dX5_placeBy_70 : decode cX5_placeBy 70 = .ok (.iastore, 1) := by decide +kernel
theorem dX5_placeBy_71 : decode cX5_placeBy 71 = .ok (.aload_n 0, 1) := by decide +kernel
theorem dX5_placeBy_72 : decode cX5_placeBy 72 = .ok (.getfield 28, 3) := by decide +kernel
theorem dX5_placeBy_75 : decode cX5_placeBy 75 = .ok (.aload_n 0, 1) := by decide +kernel
theorem dX5_placeBy_76 : decode cX5_placeBy 76 = .ok (.getfield 80, 3) := by decide +kernel
theorem dX5_placeBy_79 : decode cX5_placeBy 79 = .ok (.iaload, 1) := by decide +kernel
theorem dX5_placeBy_80 : decode cX5_placeBy 80 = .ok (.iconst 1, 1) := by decide +kernel
theorem dX5_placeBy_81 : decode cX5_placeBy 81 = .ok (.isub, 1) := by decide +kernel
theorem dX5_placeBy_82 : decode cX5_placeBy 82 = .ok (.ldc 102, 2) := by decide +kernel
theorem dX5_placeBy_84 : decode cX5_placeBy 84 = .ok (.iand, 1) := by decide +kernel
theorem dX5_placeBy_85 : decode cX5_placeBy 85 = .ok (.ireturn, 1) := by decide +kernel
theorem dX5_placeBy_86 : decode cX5_placeBy 86 = .ok (.aload_n 0, 1) := by decide +kernel
theorem dX5_placeBy_87 : decode cX5_placeBy 87 = .ok (.invokevirtual 103, 3) := by decide +kernel
theorem dX5_placeBy_90 : decode cX5_placeBy 90 = .ok (.ireturn, 1) := by decide +kernel
theorem dX5_placeBy_91 : decode cX5_placeBy 91 = .ok (.aload_n 0, 1) := by decide +kernel
theorem dX5_placeBy_92 : decode cX5_placeBy 92 = .ok (.invokevirtual 103, 3) := by decide +kernel
theorem dX5_placeBy_95 : decode cX5_placeBy 95 = .ok (.aload_n 0, 1) := by decide +kernel
theorem dX5_placeBy_96 : decode cX5_placeBy 96 = .ok (.getfield 16, 3) := by decide +kernel
theorem dX5_placeBy_99 : decode cX5_placeBy 99 = .ok (.aload_n 0, 1) := by decide +kernel
theorem dX5_placeBy_100 : decode cX5_placeBy 100 = .ok (.getfield 80, 3) := by decide +kernel
theorem dX5_placeBy_103 : decode cX5_placeBy 103 = .ok (.iaload, 1) := by decide +kernel
theorem dX5_placeBy_104 : decode cX5_placeBy 104 = .ok (.iadd, 1) := by decide +kernel
theorem dX5_placeBy_105 : decode cX5_placeBy 105 = .ok (.sipush 255, 3) := by decide +kernel
theorem dX5_placeBy_108 : decode cX5_placeBy 108 = .ok (.iand, 1) := by decide +kernel
theorem dX5_placeBy_109 : decode cX5_placeBy 109 = .ok (.ireturn, 1) := by decide +kernel
theorem dX5_placeBy_110 : decode cX5_placeBy 110 = .ok (.aload_n 0, 1) := by decide +kernel
theorem dX5_placeBy_111 : decode cX5_placeBy 111 = .ok (.invokevirtual 103, 3) := by decide +kernel
theorem dX5_placeBy_114 : decode cX5_placeBy 114 = .ok (.aload_n 0, 1) := by decide +kernel
theorem dX5_placeBy_115 : decode cX5_placeBy 115 = .ok (.getfield 19, 3) := by decide +kernel
theorem dX5_placeBy_118 : decode cX5_placeBy 118 = .ok (.aload_n 0, 1) := by decide +kernel
theorem dX5_placeBy_119 : decode cX5_placeBy 119 = .ok (.getfield 80, 3) := by decide +kernel
theorem dX5_placeBy_122 : decode cX5_placeBy 122 = .ok (.iaload, 1) := by decide +kernel
theorem dX5_placeBy_123 : decode cX5_placeBy 123 = .ok (.iadd, 1) := by decide +kernel
theorem dX5_placeBy_124 : decode cX5_placeBy 124 = .ok (.sipush 255, 3) := by decide +kernel
theorem dX5_placeBy_127 : decode cX5_placeBy 127 = .ok (.iand, 1) := by decide +kernel
theorem dX5_placeBy_128 : decode cX5_placeBy 128 = .ok (.ireturn, 1) := by decide +kernel
theorem dX5_placeBy_129 : decode cX5_placeBy 129 = .ok (.aload_n 0, 1) := by decide +kernel
theorem dX5_placeBy_130 : decode cX5_placeBy 130 = .ok (.invokevirtual 118, 3) := by decide +kernel
theorem dX5_placeBy_133 : decode cX5_placeBy 133 = .ok (.ireturn, 1) := by decide +kernel
theorem dX5_placeBy_134 : decode cX5_placeBy 134 = .ok (.aload_n 0, 1) := by decide +kernel
theorem dX5_placeBy_135 : decode cX5_placeBy 135 = .ok (.invokevirtual 118, 3) := by decide +kernel
theorem dX5_placeBy_138 : decode cX5_placeBy 138 = .ok (.aload_n 0, 1) := by decide +kernel
theorem dX5_placeBy_139 : decode cX5_placeBy 139 = .ok (.getfield 16, 3) := by decide +kernel
theorem dX5_placeBy_142 : decode cX5_placeBy 142 = .ok (.aload_n 0, 1) := by decide +kernel
theorem dX5_placeBy_143 : decode cX5_placeBy 143 = .ok (.getfield 80, 3) := by decide +kernel
theorem dX5_placeBy_146 : decode cX5_placeBy 146 = .ok (.iaload, 1) := by decide +kernel
theorem dX5_placeBy_147 : decode cX5_placeBy 147 = .ok (.iadd, 1) := by decide +kernel
theorem dX5_placeBy_148 : decode cX5_placeBy 148 = .ok (.ldc 102, 2) := by decide +kernel
theorem dX5_placeBy_150 : decode cX5_placeBy 150 = .ok (.iand, 1) := by decide +kernel
theorem dX5_placeBy_151 : decode cX5_placeBy 151 = .ok (.ireturn, 1) := by decide +kernel
theorem dX5_placeBy_152 : decode cX5_placeBy 152 = .ok (.aload_n 0, 1) := by decide +kernel
theorem dX5_placeBy_153 : decode cX5_placeBy 153 = .ok (.invokevirtual 118, 3) := by decide +kernel
theorem dX5_placeBy_156 : decode cX5_placeBy 156 = .ok (.aload_n 0, 1) := by decide +kernel
theorem dX5_placeBy_157 : decode cX5_placeBy 157 = .ok (.getfield 19, 3) := by decide +kernel
theorem dX5_placeBy_160 : decode cX5_placeBy 160 = .ok (.aload_n 0, 1) := by decide +kernel
theorem dX5_placeBy_161 : decode cX5_placeBy 161 = .ok (.getfield 80, 3) := by decide +kernel
theorem dX5_placeBy_164 : decode cX5_placeBy 164 = .ok (.iaload, 1) := by decide +kernel
theorem dX5_placeBy_165 : decode cX5_placeBy 165 = .ok (.iadd, 1) := by decide +kernel
theorem dX5_placeBy_166 : decode cX5_placeBy 166 = .ok (.ldc 102, 2) := by decide +kernel
theorem dX5_placeBy_168 : decode cX5_placeBy 168 = .ok (.iand, 1) := by decide +kernel
theorem dX5_placeBy_169 : decode cX5_placeBy 169 = .ok (.ireturn, 1) := by decide +kernel
theorem dX5_placeBy_170 : decode cX5_placeBy 170 = .ok (.aload_n 0, 1) := by decide +kernel
theorem dX5_placeBy_171 : decode cX5_placeBy 171 = .ok (.aload_n 0, 1) := by decide +kernel
theorem dX5_placeBy_172 : decode cX5_placeBy 172 = .ok (.invokevirtual 103, 3) := by decide +kernel
theorem dX5_placeBy_175 : decode cX5_placeBy 175 = .ok (.aload_n 0, 1) := by decide +kernel
theorem dX5_placeBy_176 : decode cX5_placeBy 176 = .ok (.getfield 16, 3) := by decide +kernel
theorem dX5_placeBy_179 : decode cX5_placeBy 179 = .ok (.aload_n 0, 1) := by decide +kernel
theorem dX5_placeBy_180 : decode cX5_placeBy 180 = .ok (.getfield 80, 3) := by decide +kernel
theorem dX5_placeBy_183 : decode cX5_placeBy 183 = .ok (.iaload, 1) := by decide +kernel
theorem dX5_placeBy_184 : decode cX5_placeBy 184 = .ok (.iadd, 1) := by decide +kernel
theorem dX5_placeBy_185 : decode cX5_placeBy 185 = .ok (.invokevirtual 121, 3) := by decide +kernel
theorem dX5_placeBy_188 : decode cX5_placeBy 188 = .ok (.ireturn, 1) := by decide +kernel
theorem dX5_placeBy_189 : decode cX5_placeBy 189 = .ok (.aload_n 0, 1) := by decide +kernel
theorem dX5_placeBy_190 : decode cX5_placeBy 190 = .ok (.aload_n 0, 1) := by decide +kernel
theorem dX5_placeBy_191 : decode cX5_placeBy 191 = .ok (.invokevirtual 103, 3) := by decide +kernel
theorem dX5_placeBy_194 : decode cX5_placeBy 194 = .ok (.invokevirtual 121, 3) := by decide +kernel
theorem dX5_placeBy_197 : decode cX5_placeBy 197 = .ok (.aload_n 0, 1) := by decide +kernel
theorem dX5_placeBy_198 : decode cX5_placeBy 198 = .ok (.getfield 19, 3) := by decide +kernel
theorem dX5_placeBy_201 : decode cX5_placeBy 201 = .ok (.aload_n 0, 1) := by decide +kernel
theorem dX5_placeBy_202 : decode cX5_placeBy 202 = .ok (.getfield 80, 3) := by decide +kernel
theorem dX5_placeBy_205 : decode cX5_placeBy 205 = .ok (.iaload, 1) := by decide +kernel
theorem dX5_placeBy_206 : decode cX5_placeBy 206 = .ok (.iadd, 1) := by decide +kernel
theorem dX5_placeBy_207 : decode cX5_placeBy 207 = .ok (.ldc 102, 2) := by decide +kernel
theorem dX5_placeBy_209 : decode cX5_placeBy 209 = .ok (.iand, 1) := by decide +kernel
theorem dX5_placeBy_210 : decode cX5_placeBy 210 = .ok (.ireturn, 1) := by decide +kernel
theorem dX5_add_0 : decode cX5_add 0 = .ok (.aload_n 0, 1) := by decide +kernel
theorem dX5_add_1 : decode cX5_add 1 = .ok (.getfield 13, 3) := by decide +kernel
theorem dX5_add_4 : decode cX5_add 4 = .ok (.aload_n 0, 1) := by decide +kernel
theorem dX5_add_5 : decode cX5_add 5 = .ok (.getfield 80, 3) := by decide +kernel
theorem dX5_add_8 : decode cX5_add 8 = .ok (.iaload, 1) := by decide +kernel
theorem dX5_add_9 : decode cX5_add 9 = .ok (.iload_n 1, 1) := by decide +kernel
theorem dX5_add_10 : decode cX5_add 10 = .ok (.iadd, 1) := by decide +kernel
theorem dX5_add_11 : decode cX5_add 11 = .ok (.aload_n 0, 1) := by decide +kernel
theorem dX5_add_12 : decode cX5_add 12 = .ok (.iconst 1, 1) := by decide +kernel
theorem dX5_add_13 : decode cX5_add 13 = .ok (.invokevirtual 124, 3) := by decide +kernel
theorem dX5_add_16 : decode cX5_add 16 = .ok (.ifCond .eq 7, 3) := by decide +kernel
theorem dX5_add_19 : decode cX5_add 19 = .ok (.iconst 1, 1) := by decide +kernel
theorem dX5_add_20 : decode cX5_add 20 = .ok (.goto 4, 3) := by decide +kernel
theorem dX5_add_23 : decode cX5_add 23 = .ok (.iconst 0, 1) := by decide +kernel
theorem dX5_add_24 : decode cX5_add 24 = .ok (.iadd, 1) := by decide +kernel
theorem dX5_add_25 : decode cX5_add 25 = .ok (.istore_n 2, 1) := by decide +kernel
theorem dX5_add_26 : decode cX5_add 26 = .ok (.aload_n 0, 1) := by decide +kernel
theorem dX5_add_27 : decode cX5_add 27 = .ok (.bipush 64, 2) := by decide +kernel
theorem dX5_add_29 : decode cX5_add 29 = .ok (.aload_n 0, 1) := by decide +kernel
theorem dX5_add_30 : decode cX5_add 30 = .ok (.getfield 13, 3) := by decide +kernel
theorem dX5_add_33 : decode cX5_add 33 = .ok (.aload_n 0, 1) := by decide +kernel
theorem dX5_add_34 : decode cX5_add 34 = .ok (.getfield 80, 3) := by decide +kernel
theorem dX5_add_37 : decode cX5_add 37 = .ok (.iaload, 1) := by decide +kernel
theorem dX5_add_38 : decode cX5_add 38 = .ok (.iload_n 2, 1) := by decide +kernel
theorem dX5_add_39 : decode cX5_add 39 = .ok (.ixor, 1) := by decide +kernel
theorem dX5_add_40 : decode cX5_add 40 = .ok (.iload_n 1, 1) := by decide +kernel
theorem dX5_add_41 : decode cX5_add 41 = .ok (.iload_n 2, 1) := by decide +kernel
theorem dX5_add_42 : decode cX5_add 42 = .ok (.ixor, 1) := by decide +kernel
theorem dX5_add_43 : decode cX5_add 43 = .ok (.iand, 1) := by decide +kernel
theorem dX5_add_44 : decode cX5_add 44 = .ok (.sipush 128, 3) := by decide +kernel
theorem dX5_add_47 : decode cX5_add 47 = .ok (.iand, 1) := by decide +kernel
theorem dX5_add_48 : decode cX5_add 48 = .ok (.ifCond .eq 7, 3) := by decide +kernel
theorem dX5_add_51 : decode cX5_add 51 = .ok (.iconst 1, 1) := by decide +kernel
theorem dX5_add_52 : decode cX5_add 52 = .ok (.goto 4, 3) := by decide +kernel
theorem dX5_add_55 : decode cX5_add 55 = .ok (.iconst 0, 1) := by decide +kernel
theorem dX5_add_56 : decode cX5_add 56 = .ok (.invokevirtual 114, 3) := by decide +kernel
theorem dX5_add_59 : decode cX5_add 59 = .ok (.aload_n 0, 1) := by decide +kernel
theorem dX5_add_60 : decode cX5_add 60 = .ok (.iconst 1, 1) := by decide +kernel
theorem dX5_add_61 : decode cX5_add 61 = .ok (.iload_n 2, 1) := by decide +kernel
theorem dX5_add_62 : decode cX5_add 62 = .ok (.sipush 255, 3) := by decide +kernel
theorem dX5_add_65 : decode cX5_add 65 = .ok (.if_icmp .le 7, 3) := by decide +kernel
theorem dX5_add_68 : decode cX5_add 68 = .ok (.iconst 1, 1) := by decide +kernel
theorem dX5_add_69 : decode cX5_add 69 = .ok (.goto 4, 3) := by decide +kernel
theorem dX5_add_72 : decode cX5_add 72 = .ok (.iconst 0, 1) := by decide +kernel
theorem dX5_add_73 : decode cX5_add 73 = .ok (.invokevirtual 114, 3) := by decide +kernel
theorem dX5_add_76 : decode cX5_add 76 = .ok (.aload_n 0, 1) := by decide +kernel
theorem dX5_add_77 : decode cX5_add 77 = .ok (.getfield 13, 3) := by decide +kernel
theorem dX5_add_80 : decode cX5_add 80 = .ok (.aload_n 0, 1) := by decide +kernel
theorem dX5_add_81 : decode cX5_add 81 = .ok (.getfield 80, 3) := by decide +kernel
theorem dX5_add_84 : decode cX5_add 84 = .ok (.aload_n 0, 1) := by decide +kernel
theorem dX5_add_85 : decode cX5_add 85 = .ok (.iload_n 2, 1) := by decide +kernel
theorem dX5_add_86 : decode cX5_add 86 = .ok (.invokevirtual 127, 3) := by decide +kernel
theorem dX5_add_89 : decode cX5_add 89 = .ok (.iastore, 1) := by decide +kernel
theorem dX5_add_90 : decode cX5_add 90 = .ok (.return_, 1) := by decide +kernel
theorem dX5_compare_0 : decode cX5_compare 0 = .ok (.aload_n 0, 1) := by decide +kernel
theorem dX5_compare_1 : decode cX5_compare 1 = .ok (.iconst 1, 1) := by decide +kernel
theorem dX5_compare_2 : decode cX5_compare 2 = .ok (.iload_n 1, 1) := by decide +kernel
theorem dX5_compare_3 : decode cX5_compare 3 = .ok (.iload_n 2, 1) := by decide +kernel
theorem dX5_compare_4 : decode cX5_compare 4 = .ok (.if_icmp .lt 7, 3) := by decide +kernel
theorem dX5_compare_7 : decode cX5_compare 7 = .ok (.iconst 1, 1) := by decide +kernel
theorem dX5_compare_8 : decode cX5_compare 8 = .ok (.goto 4, 3) := by decide +kernel
theorem dX5_compare_11 : decode cX5_compare 11 = .ok (.iconst 0, 1) := by decide +kernel
theorem dX5_compare_12 : decode cX5_compare 12 = .ok (.invokevirtual 114, 3) := by decide +kernel
theorem dX5_compare_15 : decode cX5_compare 15 = .ok (.aload_n 0, 1) := by decide +kernel
theorem dX5_compare_16 : decode cX5_compare 16 = .ok (.iload_n 1, 1) := by decide +kernel
theorem dX5_compare_17 : decode cX5_compare 17 = .ok (.iload_n 2, 1) := by decide +kernel
theorem dX5_compare_18 : decode cX5_compare 18 = .ok (.isub, 1) := by decide +kernel
theorem dX5_compare_19 : decode cX5_compare 19 = .ok (.invokevirtual 127, 3) := by decide +kernel
theorem dX5_compare_22 : decode cX5_compare 22 = .ok (.pop, 1) := by decide +kernel
theorem dX5_compare_23 : decode cX5_compare 23 = .ok (.return_, 1) := by decide +kernel
theorem dX5_withA_0 : decode cX5_withA 0 = .ok (.iload_n 1, 1) := by decide +kernel
theorem dX5_withA_1 : decode cX5_withA 1 = .ok (.bipush 32, 2) := by decide +kernel
theorem dX5_withA_3 : decode cX5_withA 3 = .ok (.idiv, 1) := by decide +kernel
theorem dX5_withA_4 : decode cX5_withA 4 = .ok (.istore_n 2, 1) := by decide +kernel
theorem dX5_withA_5 : decode cX5_withA 5 = .ok (.aload_n 0, 1) := by decide +kernel
theorem dX5_withA_6 : decode cX5_withA 6 = .ok (.iload_n 1, 1) := by decide +kernel
theorem dX5_withA_7 : decode cX5_withA 7 = .ok (.invokestatic 130, 3) := by decide +kernel
theorem dX5_withA_10 : decode cX5_withA 10 = .ok (.invokevirtual 133, 3) := by decide +kernel
theorem dX5_withA_13 : decode cX5_withA 13 = .ok (.istore_n 3, 1) := by decide +kernel
theorem dX5_withA_14 : decode cX5_withA 14 = .ok (.iload_n 2, 1) := by decide +kernel
theorem dX5_withA_15 : decode cX5_withA 15 = .ok (.iconst 4, 1) := by decide +kernel
theorem dX5_withA_16 : decode cX5_withA 16 = .ok (.if_icmp .ne 18, 3) := by decide +kernel
theorem dX5_withA_19 : decode cX5_withA 19 = .ok (.aload_n 0, 1) := by decide +kernel
theorem dX5_withA_20 : decode cX5_withA 20 = .ok (.iload_n 3, 1) := by decide +kernel
theorem dX5_withA_21 : decode cX5_withA 21 = .ok (.aload_n 0, 1) := by decide +kernel
theorem dX5_withA_22 : decode cX5_withA 22 = .ok (.getfield 13, 3) := by decide +kernel
theorem dX5_withA_25 : decode cX5_withA 25 = .ok (.aload_n 0, 1) := by decide +kernel
theorem dX5_withA_26 : decode cX5_withA 26 = .ok (.getfield 80, 3) := by decide +kernel
theorem dX5_withA_29 : decode cX5_withA 29 = .ok (.iaload, 1) := by decide +kernel
theorem dX5_withA_30 : decode cX5_withA 30 = .ok (.invokevirtual 136, 3) := by decide +kernel
theorem dX5_withA_33 : decode cX5_withA 33 = .ok (.return_, 1) := by decide +kernel
theorem dX5_withA_34 : decode cX5_withA 34 = .ok (.aload_n 0, 1) := by decide +kernel
theorem dX5_withA_35 : decode cX5_withA 35 = .ok (.iload_n 3, 1) := by decide +kernel
theorem dX5_withA_36 : decode cX5_withA 36 = .ok (.invokevirtual 99, 3) := by decide +kernel
theorem dX5_withA_39 : decode cX5_withA 39 = .ok (.istore 4, 2) := by decide +kernel
theorem dX5_withA_41 : decode cX5_withA 41 = .ok (.iload_n 2, 1) := by decide +kernel
theorem dX5_withA_42 : decode cX5_withA 42 = .ok (.ifCond .ne 31, 3) := by decide +kernel
theorem dX5_withA_45 : decode cX5_withA 45 = .ok (.aload_n 0, 1) := by decide +kernel
theorem dX5_withA_46 : decode cX5_withA 46 = .ok (.getfield 13, 3) := by decide +kernel
theorem dX5_withA_49 : decode cX5_withA 49 = .ok (.aload_n 0, 1) := by decide +kernel
theorem dX5_withA_50 : decode cX5_withA 50 = .ok (.getfield 80, 3) := by decide +kernel
theorem dX5_withA_53 : decode cX5_withA 53 = .ok (.aload_n 0, 1) := by decide +kernel
theorem dX5_withA_54 : decode cX5_withA 54 = .ok (.aload_n 0, 1) := by decide +kernel
theorem dX5_withA_55 : decode cX5_withA 55 = .ok (.getfield 13, 3) := by decide +kernel
theorem dX5_withA_58 : decode cX5_withA 58 = .ok (.aload_n 0, 1) := by decide +kernel
theorem dX5_withA_59 : decode cX5_withA 59 = .ok (.getfield 80, 3) := by decide +kernel
theorem dX5_withA_62 : decode cX5_withA 62 = .ok (.iaload, 1) := by decide +kernel
theorem dX5_withA_63 : decode cX5_withA 63 = .ok (.iload 4, 2) := by decide +kernel
theorem dX5_withA_65 : decode cX5_withA 65 = .ok (.ior, 1) := by decide +kernel
theorem dX5_withA_66 : decode cX5_withA 66 = .ok (.invokevirtual 127, 3) := by decide +kernel
theorem dX5_withA_69 : decode cX5_withA 69 = .ok (.iastore, 1) := by decide +kernel
theorem dX5_withA_70 : decode cX5_withA 70 = .ok (.goto 140, 3) := by decide +kernel
theorem dX5_withA_73 : decode cX5_withA 73 = .ok (.iload_n 2, 1) := by decide +kernel
theorem dX5_withA_74 : decode cX5_withA 74 = .ok (.iconst 1, 1) := by decide +kernel
theorem dX5_withA_75 : decode cX5_withA 75 = .ok (.if_icmp .ne 31, 3) := by decide +kernel
theorem dX5_withA_78 : decode cX5_withA 78 = .ok (.aload_n 0, 1) := by decide +kernel
theorem dX5_withA_79 : decode cX5_withA 79 = .ok (.getfield 13, 3) := by decide +kernel
theorem dX5_withA_82 : decode cX5_withA 82 = .ok (.aload_n 0, 1) := by decide +kernel
theorem dX5_withA_83 : decode cX5_withA 83 = .ok (.getfield 80, 3) := by decide +kernel
theorem dX5_withA_86 : decode cX5_withA 86 = .ok (.aload_n 0, 1) := by decide +kernel
theorem dX5_withA_87 : decode cX5_withA 87 = .ok (.aload_n 0, 1) := by decide +kernel
theorem dX5_withA_88 : decode cX5_withA 88 = .ok (.getfield 13, 3) := by decide +kernel
theorem dX5_withA_91 : decode cX5_withA 91 = .ok (.aload_n 0, 1) := by decide +kernel
theorem dX5_withA_92 : decode cX5_withA 92 = .ok (.getfield 80, 3) := by decide +kernel
theorem dX5_withA_95 : decode cX5_withA 95 = .ok (.iaload, 1) := by decide +kernel
theorem dX5_withA_96 : decode cX5_withA 96 = .ok (.iload 4, 2) := by decide +kernel
theorem dX5_withA_98 : decode cX5_withA 98 = .ok (.iand, 1) := by decide +kernel
theorem dX5_withA_99 : decode cX5_withA 99 = .ok (.invokevirtual 127, 3) := by decide +kernel
theorem dX5_withA_102 : decode cX5_withA 102 = .ok (.iastore, 1) := by decide +kernel
theorem dX5_withA_103 : decode cX5_withA 103 = .ok (.goto 107, 3) := by decide +kernel
theorem dX5_withA_106 : decode cX5_withA 106 = .ok (.iload_n 2, 1) := by decide +kernel
theorem dX5_withA_107 : decode cX5_withA 107 = .ok (.iconst 2, 1) := by decide +kernel
theorem dX5_withA_108 : decode cX5_withA 108 = .ok (.if_icmp .ne 31, 3) := by decide +kernel
theorem dX5_withA_111 : decode cX5_withA 111 = .ok (.aload_n 0, 1) := by decide +kernel
theorem dX5_withA_112 : decode cX5_withA 112 = .ok (.getfield 13, 3) := by decide +kernel
theorem dX5_withA_115 : decode cX5_withA 115 = .ok (.aload_n 0, 1) := by decide +kernel
theorem dX5_withA_116 : decode cX5_withA 116 = .ok (.getfield 80, 3) := by decide +kernel
theorem dX5_withA_119 : decode cX5_withA 119 = .ok (.aload_n 0, 1) := by decide +kernel
theorem dX5_withA_120 : decode cX5_withA 120 = .ok (.aload_n 0, 1) := by decide +kernel
theorem dX5_withA_121 : decode cX5_withA 121 = .ok (.getfield 13, 3) := by decide +kernel
theorem dX5_withA_124 : decode cX5_withA 124 = .ok (.aload_n 0, 1) := by decide +kernel
theorem dX5_withA_125 : decode cX5_withA 125 = .ok (.getfield 80, 3) := by decide +kernel
theorem dX5_withA_128 : decode cX5_withA 128 = .ok (.iaload, 1) := by decide +kernel
theorem dX5_withA_129 : decode cX5_withA 129 = .ok (.iload 4, 2) := by decide +kernel
theorem dX5_withA_131 : decode cX5_withA 131 = .ok (.ixor, 1) := by decide +kernel
theorem dX5_withA_132 : decode cX5_withA 132 = .ok (.invokevirtual 127, 3) := by decide +kernel
theorem dX5_withA_135 : decode cX5_withA 135 = .ok (.iastore, 1) := by decide +kernel
theorem dX5_withA_136 : decode cX5_withA 136 = .ok (.goto 74, 3) := by decide +kernel
theorem dX5_withA_139 : decode cX5_withA 139 = .ok (.iload_n 2, 1) := by decide +kernel
theorem dX5_withA_140 : decode cX5_withA 140 = .ok (.iconst 3, 1) := by decide +kernel
theorem dX5_withA_141 : decode cX5_withA 141 = .ok (.if_icmp .ne 12, 3) := by decide +kernel
theorem dX5_withA_144 : decode cX5_withA 144 = .ok (.aload_n 0, 1) := by decide +kernel
theorem dX5_withA_145 : decode cX5_withA 145 = .ok (.iload 4, 2) := by decide +kernel
theorem dX5_withA_147 : decode cX5_withA 147 = .ok (.invokevirtual 140, 3) := by decide +kernel
theorem dX5_withA_150 : decode cX5_withA 150 = .ok (.goto 60, 3) := by decide +kernel
theorem dX5_withA_153 : decode cX5_withA 153 = .ok (.iload_n 2, 1) := by decide +kernel
theorem dX5_withA_154 : decode cX5_withA 154 = .ok (.iconst 5, 1) := by decide +kernel
theorem dX5_withA_155 : decode cX5_withA 155 = .ok (.if_icmp .ne 21, 3) := by decide +kernel
theorem dX5_withA_158 : decode cX5_withA 158 = .ok (.aload_n 0, 1) := by decide +kernel
theorem dX5_withA_159 : decode cX5_withA 159 = .ok (.getfield 13, 3) := by decide +kernel
theorem dX5_withA_162 : decode cX5_withA 162 = .ok (.aload_n 0, 1) := by decide +kernel
theorem dX5_withA_163 : decode cX5_withA 163 = .ok (.getfield 80, 3) := by decide +kernel
theorem dX5_withA_166 : decode cX5_withA 166 = .ok (.aload_n 0, 1) := by decide +kernel
theorem dX5_withA_167 : decode cX5_withA 167 = .ok (.iload 4, 2) := by decide +kernel
theorem dX5_withA_169 : decode cX5_withA 169 = .ok (.invokevirtual 127, 3) := by decide +kernel
theorem dX5_withA_172 : decode cX5_withA 172 = .ok (.iastore, 1) := by decide +kernel
theorem dX5_withA_173 : decode cX5_withA 173 = .ok (.goto 37, 3) := by decide +kernel
theorem dX5_withA_176 : decode cX5_withA 176 = .ok (.iload_n 2, 1) := by decide +kernel
theorem dX5_withA_177 : decode cX5_withA 177 = .ok (.bipush 6, 2) := by decide +kernel
theorem dX5_withA_179 : decode cX5_withA 179 = .ok (.if_icmp .ne 21, 3) := by decide +kernel
theorem dX5_withA_182 : decode cX5_withA 182 = .ok (.aload_n 0, 1) := by decide +kernel
theorem dX5_withA_183 : decode cX5_withA 183 = .ok (.aload_n 0, 1) := by decide +kernel
theorem dX5_withA_184 : decode cX5_withA 184 = .ok (.getfield 13, 3) := by decide +kernel
theorem dX5_withA_187 : decode cX5_withA 187 = .ok (.aload_n 0, 1) := by decide +kernel
theorem dX5_withA_188 : decode cX5_withA 188 = .ok (.getfield 80, 3) := by decide +kernel
theorem dX5_withA_191 : decode cX5_withA 191 = .ok (.iaload, 1) := by decide +kernel
theorem dX5_withA_192 : decode cX5_withA 192 = .ok (.iload 4, 2) := by decide +kernel
theorem dX5_withA_194 : decode cX5_withA 194 = .ok (.invokevirtual 143, 3) := by decide +kernel
theorem dX5_withA_197 : decode cX5_withA 197 = .ok (.goto 13, 3) := by decide +kernel
theorem dX5_withA_200 : decode cX5_withA 200 = .ok (.aload_n 0, 1) := by decide +kernel
theorem dX5_withA_201 : decode cX5_withA 201 = .ok (.iload 4, 2) := by decide +kernel
theorem dX5_withA_203 : decode cX5_withA 203 = .ok (.sipush 255, 3) := by decide +kernel
theorem dX5_withA_206 : decode cX5_withA 206 = .ok (.ixor, 1) := by decide +kernel
theorem dX5_withA_207 : decode cX5_withA 207 = .ok (.invokevirtual 140, 3) := by decide +kernel
theorem dX5_withA_210 : decode cX5_withA 210 = .ok (.return_, 1) := by decide +kernel
theorem dX5_changed_0 : decode cX5_changed 0 = .ok (.aload_n 0, 1) := by decide +kernel
theorem dX5_changed_1 : decode cX5_changed 1 = .ok (.iconst 1, 1) := by decide +kernel
theorem dX5_changed_2 : decode cX5_changed 2 = .ok (.invokevirtual 124, 3) := by decide +kernel
theorem dX5_changed_5 : decode cX5_changed 5 = .ok (.ifCond .eq 7, 3) := by decide +kernel
theorem dX5_changed_8 : decode cX5_changed 8 = .ok (.iconst 1, 1) := by decide +kernel
theorem dX5_changed_9 : decode cX5_changed 9 = .ok (.goto 4, 3) := by decide +kernel
theorem dX5_changed_12 : decode cX5_changed 12 = .ok (.iconst 0, 1) := by decide +kernel
theorem dX5_changed_13 : decode cX5_changed 13 = .ok (.istore_n 3, 1) := by decide +kernel
theorem dX5_changed_14 : decode cX5_changed 14 = .ok (.iload_n 1, 1) := by decide +kernel
theorem dX5_changed_15 : decode cX5_changed 15 = .ok (.ifCond .eq 8, 3) := by decide +kernel
theorem dX5_changed_18 : decode cX5_changed 18 = .ok (.iload_n 1, 1) := by decide +kernel
theorem dX5_changed_19 : decode cX5_changed 19 = .ok (.iconst 1, 1) := by decide +kernel
theorem dX5_changed_20 : decode cX5_changed 20 = .ok (.if_icmp .ne 38, 3) := by decide +kernel
theorem dX5_changed_23 : decode cX5_changed 23 = .ok (.aload_n 0, 1) := by decide +kernel
theorem dX5_changed_24 : decode cX5_changed 24 = .ok (.iconst 1, 1) := by decide +kernel
theorem dX5_changed_25 : decode cX5_changed 25 = .ok (.iload_n 2, 1) := by decide +kernel
theorem dX5_changed_26 : decode cX5_changed 26 = .ok (.bipush 127, 2) := by decide +kernel
theorem dX5_changed_28 : decode cX5_changed 28 = .ok (.if_icmp .le 7, 3) := by decide +kernel
theorem dX5_changed_31 : decode cX5_changed 31 = .ok (.iconst 1, 1) := by decide +kernel
theorem dX5_changed_32 : decode cX5_changed 32 = .ok (.goto 4, 3) := by decide +kernel
theorem dX5_changed_35 : decode cX5_changed 35 = .ok (.iconst 0, 1) := by decide +kernel
theorem dX5_changed_36 : decode cX5_changed 36 = .ok (.invokevirtual 114, 3) := by decide +kernel
theorem dX5_changed_39 : decode cX5_changed 39 = .ok (.aload_n 0, 1) := by decide +kernel
theorem dX5_changed_40 : decode cX5_changed 40 = .ok (.iload_n 2, 1) := by decide +kernel
theorem dX5_changed_41 : decode cX5_changed 41 = .ok (.iconst 1, 1) := by decide +kernel
theorem dX5_changed_42 : decode cX5_changed 42 = .ok (.ishl, 1) := by decide +kernel
theorem dX5_changed_43 : decode cX5_changed 43 = .ok (.iload_n 1, 1) := by decide +kernel
theorem dX5_changed_44 : decode cX5_changed 44 = .ok (.iconst 1, 1) := by decide +kernel
theorem dX5_changed_45 : decode cX5_changed 45 = .ok (.if_icmp .ne 7, 3) := by decide +kernel
theorem dX5_changed_48 : decode cX5_changed 48 = .ok (.iload_n 3, 1) := by decide +kernel
theorem dX5_changed_49 : decode cX5_changed 49 = .ok (.goto 4, 3) := by decide +kernel
theorem dX5_changed_52 : decode cX5_changed 52 = .ok (.iconst 0, 1) := by decide +kernel
theorem dX5_changed_53 : decode cX5_changed 53 = .ok (.ior, 1) := by decide +kernel
theorem dX5_changed_54 : decode cX5_changed 54 = .ok (.invokevirtual 127, 3) := by decide +kernel
theorem dX5_changed_57 : decode cX5_changed 57 = .ok (.ireturn, 1) := by decide +kernel
theorem dX5_changed_58 : decode cX5_changed 58 = .ok (.iload_n 1, 1) := by decide +kernel
theorem dX5_changed_59 : decode cX5_changed 59 = .ok (.iconst 2, 1) := by decide +kernel
theorem dX5_changed_60 : decode cX5_changed 60 = .ok (.if_icmp .eq 8, 3) := by decide +kernel
theorem dX5_changed_63 : decode cX5_changed 63 = .ok (.iload_n 1, 1) := by decide +kernel
theorem dX5_changed_64 : decode cX5_changed 64 = .ok (.iconst 3, 1) := by decide +kernel
theorem dX5_changed_65 : decode cX5_changed 65 = .ok (.if_icmp .ne 42, 3) := by decide +kernel
theorem dX5_changed_68 : decode cX5_changed 68 = .ok (.aload_n 0, 1) := by decide +kernel
theorem dX5_changed_69 : decode cX5_changed 69 = .ok (.iconst 1, 1) := by decide +kernel
theorem dX5_changed_70 : decode cX5_changed 70 = .ok (.iload_n 2, 1) := by decide +kernel
theorem dX5_changed_71 : decode cX5_changed 71 = .ok (.iconst 2, 1) := by decide +kernel
theorem dX5_changed_72 : decode cX5_changed 72 = .ok (.irem, 1) := by decide +kernel
theorem dX5_changed_73 : decode cX5_changed 73 = .ok (.iconst 1, 1) := by decide +kernel
theorem dX5_changed_74 : decode cX5_changed 74 = .ok (.if_icmp .ne 7, 3) := by decide +kernel
theorem dX5_changed_77 : decode cX5_changed 77 = .ok (.iconst 1, 1) := by decide +kernel
theorem dX5_changed_78 : decode cX5_changed 78 = .ok (.goto 4, 3) := by decide +kernel
theorem dX5_changed_81 : decode cX5_changed 81 = .ok (.iconst 0, 1) := by decide +kernel
theorem dX5_changed_82 : decode cX5_changed 82 = .ok (.invokevirtual 114, 3) := by decide +kernel
theorem dX5_changed_85 : decode cX5_changed 85 = .ok (.aload_n 0, 1) := by decide +kernel
theorem dX5_changed_86 : decode cX5_changed 86 = .ok (.iload_n 2, 1) := by decide +kernel
theorem dX5_changed_87 : decode cX5_changed 87 = .ok (.iconst 1, 1) := by decide +kernel
theorem dX5_changed_88 : decode cX5_changed 88 = .ok (.ishr, 1) := by decide +kernel
theorem dX5_changed_89 : decode cX5_changed 89 = .ok (.iload_n 1, 1) := by decide +kernel
theorem dX5_changed_90 : decode cX5_changed 90 = .ok (.iconst 3, 1) := by decide +kernel
theorem dX5_changed_91 : decode cX5_changed 91 = .ok (.if_icmp .ne 10, 3) := by decide +kernel
theorem dX5_changed_94 : decode cX5_changed 94 = .ok (.iload_n 3, 1) := by decide +kernel
