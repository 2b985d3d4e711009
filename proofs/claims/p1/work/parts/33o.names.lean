/-! names, printed: 14 -/
theorem dX4_signer_21 : decode cX4_signer 21 = .ok (.invokevirtual 149, 3) := by decide +kernel
theorem dX4_signer_24 : decode cX4_signer 24 = .ok (.ireturn, 1) := by decide +kernel
theorem dX4_signer_25 : decode cX4_signer 25 = .ok (.iconst 0, 1) := by decide +kernel
theorem dX4_signer_26 : decode cX4_signer 26 = .ok (.istore_n 3, 1) := by decide +kernel
theorem dX4_signer_27 : decode cX4_signer 27 = .ok (.iload_n 3, 1) := by decide +kernel
theorem dX4_signer_28 : decode cX4_signer 28 = .ok (.bipush 16, 2) := by decide +kernel
theorem dX4_signer_30 : decode cX4_signer 30 = .ok (.if_icmp .ge 20, 3) := by decide +kernel
theorem dX4_signer_33 : decode cX4_signer 33 = .ok (.iload_n 3, 1) := by decide +kernel
theorem dX4_signer_34 : decode cX4_signer 34 = .ok (.iload_n 2, 1) := by decide +kernel
theorem dX4_signer_35 : decode cX4_signer 35 = .ok (.invokestatic 47, 3) := by decide +kernel
theorem dX4_signer_38 : decode cX4_signer 38 = .ok (.iload_n 1, 1) := by decide +kernel
theorem dX4_signer_39 : decode cX4_signer 39 = .ok (.if_icmp .ne 5, 3) := by decide +kernel
theorem dX4_signer_42 : decode cX4_signer 42 = .ok (.iload_n 3, 1) := by decide +kernel
theorem dX4_signer_43 : decode cX4_signer 43 = .ok (.ireturn, 1) := by decide +kernel
theorem dX4_signer_44 : decode cX4_signer 44 = .ok (.iinc 3 1, 3) := by decide +kernel
theorem dX4_signer_47 : decode cX4_signer 47 = .ok (.goto (-20), 3) := by decide +kernel
theorem dX4_signer_50 : decode cX4_signer 50 = .ok (.iconst (-1), 1) := by decide +kernel
theorem dX4_signer_51 : decode cX4_signer 51 = .ok (.ireturn, 1) := by decide +kernel
theorem dX4_isUnder_0 : decode cX4_isUnder 0 = .ok (.aload_n 0, 1) := by decide +kernel
theorem dX4_isUnder_1 : decode cX4_isUnder 1 = .ok (.iload_n 1, 1) := by decide +kernel
theorem dX4_isUnder_2 : decode cX4_isUnder 2 = .ok (.invokestatic 30, 3) := by decide +kernel
theorem dX4_isUnder_5 : decode cX4_isUnder 5 = .ok (.ifCond .eq 14, 3) := by decide +kernel
theorem dX4_isUnder_8 : decode cX4_isUnder 8 = .ok (.iload_n 2, 1) := by decide +kernel
theorem dX4_isUnder_9 : decode cX4_isUnder 9 = .ok (.invokestatic 163, 3) := by decide +kernel
theorem dX4_isUnder_12 : decode cX4_isUnder 12 = .ok (.ifCond .eq 7, 3) := by decide +kernel
theorem dX4_isUnder_15 : decode cX4_isUnder 15 = .ok (.iconst 0, 1) := by decide +kernel
theorem dX4_isUnder_16 : decode cX4_isUnder 16 = .ok (.goto 4, 3) := by decide +kernel
theorem dX4_isUnder_19 : decode cX4_isUnder 19 = .ok (.iconst 1, 1) := by decide +kernel
theorem dX4_isUnder_20 : decode cX4_isUnder 20 = .ok (.putfield 22, 3) := by decide +kernel
theorem dX4_isUnder_23 : decode cX4_isUnder 23 = .ok (.aload_n 0, 1) := by decide +kernel
theorem dX4_isUnder_24 : decode cX4_isUnder 24 = .ok (.getfield 22, 3) := by decide +kernel
theorem dX4_isUnder_27 : decode cX4_isUnder 27 = .ok (.ifCond .ne 15, 3) := by decide +kernel
theorem dX4_isUnder_30 : decode cX4_isUnder 30 = .ok (.iload_n 1, 1) := by decide +kernel
theorem dX4_isUnder_31 : decode cX4_isUnder 31 = .ok (.iload_n 2, 1) := by decide +kernel
theorem dX4_isUnder_32 : decode cX4_isUnder 32 = .ok (.invokestatic 110, 3) := by decide +kernel
theorem dX4_isUnder_35 : decode cX4_isUnder 35 = .ok (.ifCond .eq 7, 3) := by decide +kernel
theorem dX4_isUnder_38 : decode cX4_isUnder 38 = .ok (.iconst 1, 1) := by decide +kernel
theorem dX4_isUnder_39 : decode cX4_isUnder 39 = .ok (.goto 4, 3) := by decide +kernel
theorem dX4_isUnder_42 : decode cX4_isUnder 42 = .ok (.iconst 0, 1) := by decide +kernel
theorem dX4_isUnder_43 : decode cX4_isUnder 43 = .ok (.ireturn, 1) := by decide +kernel
theorem dX4_backs_0 : decode cX4_backs 0 = .ok (.aload_n 0, 1) := by decide +kernel
theorem dX4_backs_1 : decode cX4_backs 1 = .ok (.aload_n 0, 1) := by decide +kernel
theorem dX4_backs_2 : decode cX4_backs 2 = .ok (.iload_n 1, 1) := by decide +kernel
theorem dX4_backs_3 : decode cX4_backs 3 = .ok (.invokevirtual 156, 3) := by decide +kernel
theorem dX4_backs_6 : decode cX4_backs 6 = .ok (.ifCond .eq 15, 3) := by decide +kernel
theorem dX4_backs_9 : decode cX4_backs 9 = .ok (.aload_n 0, 1) := by decide +kernel
theorem dX4_backs_10 : decode cX4_backs 10 = .ok (.iload_n 2, 1) := by decide +kernel
theorem dX4_backs_11 : decode cX4_backs 11 = .ok (.invokevirtual 156, 3) := by decide +kernel
theorem dX4_backs_14 : decode cX4_backs 14 = .ok (.ifCond .eq 7, 3) := by decide +kernel
theorem dX4_backs_17 : decode cX4_backs 17 = .ok (.iconst 0, 1) := by decide +kernel
theorem dX4_backs_18 : decode cX4_backs 18 = .ok (.goto 4, 3) := by decide +kernel
theorem dX4_backs_21 : decode cX4_backs 21 = .ok (.iconst 1, 1) := by decide +kernel
theorem dX4_backs_22 : decode cX4_backs 22 = .ok (.putfield 22, 3) := by decide +kernel
theorem dX4_backs_25 : decode cX4_backs 25 = .ok (.aload_n 0, 1) := by decide +kernel
theorem dX4_backs_26 : decode cX4_backs 26 = .ok (.getfield 22, 3) := by decide +kernel
theorem dX4_backs_29 : decode cX4_backs 29 = .ok (.ifCond .ne 16, 3) := by decide +kernel
theorem dX4_backs_32 : decode cX4_backs 32 = .ok (.aload_n 0, 1) := by decide +kernel
theorem dX4_backs_33 : decode cX4_backs 33 = .ok (.iload_n 1, 1) := by decide +kernel
theorem dX4_backs_34 : decode cX4_backs 34 = .ok (.iload_n 2, 1) := by decide +kernel
theorem dX4_backs_35 : decode cX4_backs 35 = .ok (.invokevirtual 64, 3) := by decide +kernel
theorem dX4_backs_38 : decode cX4_backs 38 = .ok (.ifCond .eq 7, 3) := by decide +kernel
theorem dX4_backs_41 : decode cX4_backs 41 = .ok (.iconst 1, 1) := by decide +kernel
theorem dX4_backs_42 : decode cX4_backs 42 = .ok (.goto 4, 3) := by decide +kernel
theorem dX4_backs_45 : decode cX4_backs 45 = .ok (.iconst 0, 1) := by decide +kernel
theorem dX4_backs_46 : decode cX4_backs 46 = .ok (.ireturn, 1) := by decide +kernel
theorem dX4_chains_0 : decode cX4_chains 0 = .ok (.aload_n 0, 1) := by decide +kernel
theorem dX4_chains_1 : decode cX4_chains 1 = .ok (.iconst 0, 1) := by decide +kernel
theorem dX4_chains_2 : decode cX4_chains 2 = .ok (.putfield 22, 3) := by decide +kernel
theorem dX4_chains_5 : decode cX4_chains 5 = .ok (.aload_n 0, 1) := by decide +kernel
theorem dX4_chains_6 : decode cX4_chains 6 = .ok (.iload_n 1, 1) := by decide +kernel
theorem dX4_chains_7 : decode cX4_chains 7 = .ok (.invokevirtual 156, 3) := by decide +kernel
theorem dX4_chains_10 : decode cX4_chains 10 = .ok (.ifCond .eq 14, 3) := by decide +kernel
theorem dX4_chains_13 : decode cX4_chains 13 = .ok (.aload_n 0, 1) := by decide +kernel
theorem dX4_chains_14 : decode cX4_chains 14 = .ok (.iload_n 1, 1) := by decide +kernel
theorem dX4_chains_15 : decode cX4_chains 15 = .ok (.invokevirtual 125, 3) := by decide +kernel
theorem dX4_chains_18 : decode cX4_chains 18 = .ok (.invokevirtual 54, 3) := by decide +kernel
theorem dX4_chains_21 : decode cX4_chains 21 = .ok (.goto 8, 3) := by decide +kernel
theorem dX4_chains_24 : decode cX4_chains 24 = .ok (.aload_n 0, 1) := by decide +kernel
theorem dX4_chains_25 : decode cX4_chains 25 = .ok (.iconst 1, 1) := by decide +kernel
theorem dX4_chains_26 : decode cX4_chains 26 = .ok (.invokevirtual 149, 3) := by decide +kernel
theorem dX4_chains_29 : decode cX4_chains 29 = .ok (.ireturn, 1) := by decide +kernel
theorem dX4_verdict_0 : decode cX4_verdict 0 = .ok (.aload_n 0, 1) := by decide +kernel
theorem dX4_verdict_1 : decode cX4_verdict 1 = .ok (.iconst 0, 1) := by decide +kernel
theorem dX4_verdict_2 : decode cX4_verdict 2 = .ok (.putfield 22, 3) := by decide +kernel
theorem dX4_verdict_5 : decode cX4_verdict 5 = .ok (.aload_n 0, 1) := by decide +kernel
theorem dX4_verdict_6 : decode cX4_verdict 6 = .ok (.iload_n 1, 1) := by decide +kernel
theorem dX4_verdict_7 : decode cX4_verdict 7 = .ok (.invokevirtual 156, 3) := by decide +kernel
theorem dX4_verdict_10 : decode cX4_verdict 10 = .ok (.ifCond .ne 9, 3) := by decide +kernel
theorem dX4_verdict_13 : decode cX4_verdict 13 = .ok (.aload_n 0, 1) := by decide +kernel
theorem dX4_verdict_14 : decode cX4_verdict 14 = .ok (.iconst 1, 1) := by decide +kernel
theorem dX4_verdict_15 : decode cX4_verdict 15 = .ok (.invokevirtual 149, 3) := by decide +kernel
theorem dX4_verdict_18 : decode cX4_verdict 18 = .ok (.ireturn, 1) := by decide +kernel
theorem dX4_verdict_19 : decode cX4_verdict 19 = .ok (.iload_n 2, 1) := by decide +kernel
theorem dX4_verdict_20 : decode cX4_verdict 20 = .ok (.iload_n 3, 1) := by decide +kernel
theorem dX4_verdict_21 : decode cX4_verdict 21 = .ok (.invokestatic 190, 3) := by decide +kernel
theorem dX4_verdict_24 : decode cX4_verdict 24 = .ok (.ifCond .eq 13, 3) := by decide +kernel
theorem dX4_verdict_27 : decode cX4_verdict 27 = .ok (.aload_n 0, 1) := by decide +kernel
theorem dX4_verdict_28 : decode cX4_verdict 28 = .ok (.iload_n 1, 1) := by decide +kernel
theorem dX4_verdict_29 : decode cX4_verdict 29 = .ok (.iload_n 2, 1) := by decide +kernel
theorem dX4_verdict_30 : decode cX4_verdict 30 = .ok (.iload_n 3, 1) := by decide +kernel
theorem dX4_verdict_31 : decode cX4_verdict 31 = .ok (.invokevirtual 139, 3) := by decide +kernel
theorem dX4_verdict_34 : decode cX4_verdict 34 = .ok (.goto 8, 3) := by decide +kernel
theorem dX4_verdict_37 : decode cX4_verdict 37 = .ok (.aload_n 0, 1) := by decide +kernel
theorem dX4_verdict_38 : decode cX4_verdict 38 = .ok (.iconst 2, 1) := by decide +kernel
theorem dX4_verdict_39 : decode cX4_verdict 39 = .ok (.invokevirtual 149, 3) := by decide +kernel
theorem dX4_verdict_42 : decode cX4_verdict 42 = .ok (.ireturn, 1) := by decide +kernel
theorem dX4_chain_0 : decode cX4_chain 0 = .ok (.aload_n 0, 1) := by decide +kernel
theorem dX4_chain_1 : decode cX4_chain 1 = .ok (.iconst 0, 1) := by decide +kernel
theorem dX4_chain_2 : decode cX4_chain 2 = .ok (.putfield 22, 3) := by decide +kernel
theorem dX4_chain_5 : decode cX4_chain 5 = .ok (.aload_n 0, 1) := by decide +kernel
theorem dX4_chain_6 : decode cX4_chain 6 = .ok (.iload_n 1, 1) := by decide +kernel
theorem dX4_chain_7 : decode cX4_chain 7 = .ok (.invokevirtual 156, 3) := by decide +kernel
theorem dX4_chain_10 : decode cX4_chain 10 = .ok (.ifCond .ne 9, 3) := by decide +kernel
theorem dX4_chain_13 : decode cX4_chain 13 = .ok (.aload_n 0, 1) := by decide +kernel
theorem dX4_chain_14 : decode cX4_chain 14 = .ok (.iconst 1, 1) := by decide +kernel
theorem dX4_chain_15 : decode cX4_chain 15 = .ok (.invokevirtual 149, 3) := by decide +kernel
theorem dX4_chain_18 : decode cX4_chain 18 = .ok (.ireturn, 1) := by decide +kernel
theorem dX4_chain_19 : decode cX4_chain 19 = .ok (.iload_n 2, 1) := by decide +kernel
theorem dX4_chain_20 : decode cX4_chain 20 = .ok (.iload_n 3, 1) := by decide +kernel
theorem dX4_chain_21 : decode cX4_chain 21 = .ok (.invokestatic 190, 3) := by decide +kernel
theorem dX4_chain_24 : decode cX4_chain 24 = .ok (.ifCond .ne 9, 3) := by decide +kernel
theorem dX4_chain_27 : decode cX4_chain 27 = .ok (.aload_n 0, 1) := by decide +kernel
theorem dX4_chain_28 : decode cX4_chain 28 = .ok (.iconst 2, 1) := by decide +kernel
theorem dX4_chain_29 : decode cX4_chain 29 = .ok (.invokevirtual 149, 3) := by decide +kernel
theorem dX4_chain_32 : decode cX4_chain 32 = .ok (.ireturn, 1) := by decide +kernel
theorem dX4_chain_33 : decode cX4_chain 33 = .ok (.aload_n 0, 1) := by decide +kernel
theorem dX4_chain_34 : decode cX4_chain 34 = .ok (.iload_n 1, 1) := by decide +kernel
theorem dX4_chain_35 : decode cX4_chain 35 = .ok (.iload_n 2, 1) := by decide +kernel
theorem dX4_chain_36 : decode cX4_chain 36 = .ok (.iload_n 3, 1) := by decide +kernel
theorem dX4_chain_37 : decode cX4_chain 37 = .ok (.invokevirtual 132, 3) := by decide +kernel
theorem dX4_chain_40 : decode cX4_chain 40 = .ok (.astore 5, 2) := by decide +kernel
theorem dX4_chain_42 : decode cX4_chain 42 = .ok (.aload 5, 2) := by decide +kernel
theorem dX4_chain_44 : decode cX4_chain 44 = .ok (.ifnonnull 28, 3) := by decide +kernel
theorem dX4_chain_47 : decode cX4_chain 47 = .ok (.aload_n 0, 1) := by decide +kernel
theorem dX4_chain_48 : decode cX4_chain 48 = .ok (.iload_n 1, 1) := by decide +kernel
theorem dX4_chain_49 : decode cX4_chain 49 = .ok (.invokevirtual 125, 3) := by decide +kernel
theorem dX4_chain_52 : decode cX4_chain 52 = .ok (.invokevirtual 136, 3) := by decide +kernel
theorem dX4_chain_55 : decode cX4_chain 55 = .ok (.ifCond .ne 17, 3) := by decide +kernel
theorem dX4_chain_58 : decode cX4_chain 58 = .ok (.aload_n 0, 1) := by decide +kernel
theorem dX4_chain_59 : decode cX4_chain 59 = .ok (.iload_n 1, 1) := by decide +kernel
theorem dX4_chain_60 : decode cX4_chain 60 = .ok (.invokevirtual 125, 3) := by decide +kernel
theorem dX4_chain_63 : decode cX4_chain 63 = .ok (.iconst 0, 1) := by decide +kernel
theorem dX4_chain_64 : decode cX4_chain 64 = .ok (.invokevirtual 38, 3) := by decide +kernel
theorem dX4_chain_67 : decode cX4_chain 67 = .ok (.checkcast 42, 3) := by decide +kernel
theorem dX4_chain_70 : decode cX4_chain 70 = .ok (.astore 5, 2) := by decide +kernel
theorem dX4_chain_72 : decode cX4_chain 72 = .ok (.aload 5, 2) := by decide +kernel
theorem dX4_chain_74 : decode cX4_chain 74 = .ok (.ifnull 25, 3) := by decide +kernel
theorem dX4_chain_77 : decode cX4_chain 77 = .ok (.iload 4, 2) := by decide +kernel
theorem dX4_chain_79 : decode cX4_chain 79 = .ok (.iconst 0, 1) := by decide +kernel
theorem dX4_chain_80 : decode cX4_chain 80 = .ok (.aload 5, 2) := by decide +kernel
theorem dX4_chain_82 : decode cX4_chain 82 = .ok (.arraylength, 1) := by decide +kernel
theorem dX4_chain_83 : decode cX4_chain 83 = .ok (.iconst 1, 1) := by decide +kernel
theorem dX4_chain_84 : decode cX4_chain 84 = .ok (.isub, 1) := by decide +kernel
theorem dX4_chain_85 : decode cX4_chain 85 = .ok (.invokestatic 26, 3) := by decide +kernel
theorem dX4_chain_88 : decode cX4_chain 88 = .ok (.ifCond .eq 11, 3) := by decide +kernel
theorem dX4_chain_91 : decode cX4_chain 91 = .ok (.aload 5, 2) := by decide +kernel
theorem dX4_chain_93 : decode cX4_chain 93 = .ok (.iload 4, 2) := by decide +kernel
theorem dX4_chain_95 : decode cX4_chain 95 = .ok (.iaload, 1) := by decide +kernel
theorem dX4_chain_96 : decode cX4_chain 96 = .ok (.goto 4, 3) := by decide +kernel
theorem dX4_chain_99 : decode cX4_chain 99 = .ok (.iconst (-1), 1) := by decide +kernel
theorem dX4_chain_100 : decode cX4_chain 100 = .ok (.ireturn, 1) := by decide +kernel
theorem dX4_flawAt_0 : decode cX4_flawAt 0 = .ok (.aload_n 0, 1) := by decide +kernel
theorem dX4_flawAt_1 : decode cX4_flawAt 1 = .ok (.iconst 0, 1) := by decide +kernel
theorem dX4_flawAt_2 : decode cX4_flawAt 2 = .ok (.putfield 22, 3) := by decide +kernel
theorem dX4_flawAt_5 : decode cX4_flawAt 5 = .ok (.aload_n 0, 1) := by decide +kernel
theorem dX4_flawAt_6 : decode cX4_flawAt 6 = .ok (.iload_n 1, 1) := by decide +kernel
theorem dX4_flawAt_7 : decode cX4_flawAt 7 = .ok (.invokevirtual 156, 3) := by decide +kernel
theorem dX4_flawAt_10 : decode cX4_flawAt 10 = .ok (.ifCond .ne 9, 3) := by decide +kernel
theorem dX4_flawAt_13 : decode cX4_flawAt 13 = .ok (.aload_n 0, 1) := by decide +kernel
theorem dX4_flawAt_14 : decode cX4_flawAt 14 = .ok (.iconst 1, 1) := by decide +kernel
theorem dX4_flawAt_15 : decode cX4_flawAt 15 = .ok (.invokevirtual 149, 3) := by decide +kernel
theorem dX4_flawAt_18 : decode cX4_flawAt 18 = .ok (.ireturn, 1) := by decide +kernel
theorem dX4_flawAt_19 : decode cX4_flawAt 19 = .ok (.iload_n 2, 1) := by decide +kernel
theorem dX4_flawAt_20 : decode cX4_flawAt 20 = .ok (.iload_n 3, 1) := by decide +kernel
theorem dX4_flawAt_21 : decode cX4_flawAt 21 = .ok (.invokestatic 190, 3) := by decide +kernel
theorem dX4_flawAt_24 : decode cX4_flawAt 24 = .ok (.ifCond .eq 13, 3) := by decide +kernel
theorem dX4_flawAt_27 : decode cX4_flawAt 27 = .ok (.aload_n 0, 1) := by decide +kernel
theorem dX4_flawAt_28 : decode cX4_flawAt 28 = .ok (.iload_n 1, 1) := by decide +kernel
theorem dX4_flawAt_29 : decode cX4_flawAt 29 = .ok (.iload_n 2, 1) := by decide +kernel
theorem dX4_flawAt_30 : decode cX4_flawAt 30 = .ok (.iload_n 3, 1) := by decide +kernel
theorem dX4_flawAt_31 : decode cX4_flawAt 31 = .ok (.invokevirtual 193, 3) := by decide +kernel
theorem dX4_flawAt_34 : decode cX4_flawAt 34 = .ok (.goto 8, 3) := by decide +kernel
theorem dX4_flawAt_37 : decode cX4_flawAt 37 = .ok (.aload_n 0, 1) := by decide +kernel
theorem dX4_flawAt_38 : decode cX4_flawAt 38 = .ok (.iconst 2, 1) := by decide +kernel
theorem dX4_flawAt_39 : decode cX4_flawAt 39 = .ok (.invokevirtual 149, 3) := by decide +kernel
theorem dX4_flawAt_42 : decode cX4_flawAt 42 = .ok (.ireturn, 1) := by decide +kernel
theorem dX4_isOf_0 : decode cX4_isOf 0 = .ok (.aload_n 0, 1) := by decide +kernel
theorem dX4_isOf_1 : decode cX4_isOf 1 = .ok (.iload_n 1, 1) := by decide +kernel
theorem dX4_isOf_2 : decode cX4_isOf 2 = .ok (.invokestatic 30, 3) := by decide +kernel
theorem dX4_isOf_5 : decode cX4_isOf 5 = .ok (.ifCond .eq 23, 3) := by decide +kernel
theorem dX4_isOf_8 : decode cX4_isOf 8 = .ok (.iload_n 2, 1) := by decide +kernel
theorem dX4_isOf_9 : decode cX4_isOf 9 = .ok (.invokestatic 146, 3) := by decide +kernel
theorem dX4_isOf_12 : decode cX4_isOf 12 = .ok (.ifCond .eq 16, 3) := by decide +kernel
theorem dX4_isOf_15 : decode cX4_isOf 15 = .ok (.iload_n 3, 1) := by decide +kernel
theorem dX4_isOf_16 : decode cX4_isOf 16 = .ok (.iload 4, 2) := by decide +kernel
theorem dX4_isOf_18 : decode cX4_isOf 18 = .ok (.invokestatic 190, 3) := by decide +kernel
theorem dX4_isOf_21 : decode cX4_isOf 21 = .ok (.ifCond .eq 7, 3) := by decide +kernel
theorem dX4_isOf_24 : decode cX4_isOf 24 = .ok (.iconst 0, 1) := by decide +kernel
theorem dX4_isOf_25 : decode cX4_isOf 25 = .ok (.goto 4, 3) := by decide +kernel
theorem dX4_isOf_28 : decode cX4_isOf 28 = .ok (.iconst 1, 1) := by decide +kernel
theorem dX4_isOf_29 : decode cX4_isOf 29 = .ok (.putfield 22, 3) := by decide +kernel
theorem dX4_isOf_32 : decode cX4_isOf 32 = .ok (.iconst 0, 1) := by decide +kernel
theorem dX4_isOf_33 : decode cX4_isOf 33 = .ok (.istore 5, 2) := by decide +kernel
theorem dX4_isOf_35 : decode cX4_isOf 35 = .ok (.iconst 0, 1) := by decide +kernel
theorem dX4_isOf_36 : decode cX4_isOf 36 = .ok (.istore 6, 2) := by decide +kernel
theorem dX4_isOf_38 : decode cX4_isOf 38 = .ok (.iload 6, 2) := by decide +kernel
theorem dX4_isOf_40 : decode cX4_isOf 40 = .ok (.aload_n 0, 1) := by decide +kernel
theorem dX4_isOf_41 : decode cX4_isOf 41 = .ok (.getfield 10, 3) := by decide +kernel
theorem dX4_isOf_44 : decode cX4_isOf 44 = .ok (.invokevirtual 54, 3) := by decide +kernel
theorem dX4_isOf_47 : decode cX4_isOf 47 = .ok (.if_icmp .ge 74, 3) := by decide +kernel
theorem dX4_isOf_50 : decode cX4_isOf 50 = .ok (.aload_n 0, 1) := by decide +kernel
theorem dX4_isOf_51 : decode cX4_isOf 51 = .ok (.getfield 22, 3) := by decide +kernel
theorem dX4_isOf_54 : decode cX4_isOf 54 = .ok (.ifCond .ne 67, 3) := by decide +kernel
theorem dX4_isOf_57 : decode cX4_isOf 57 = .ok (.iload 5, 2) := by decide +kernel
theorem dX4_isOf_59 : decode cX4_isOf 59 = .ok (.aload_n 0, 1) := by decide +kernel
theorem dX4_isOf_60 : decode cX4_isOf 60 = .ok (.getfield 10, 3) := by decide +kernel
theorem dX4_isOf_63 : decode cX4_isOf 63 = .ok (.iload 6, 2) := by decide +kernel
theorem dX4_isOf_65 : decode cX4_isOf 65 = .ok (.invokevirtual 38, 3) := by decide +kernel
theorem dX4_isOf_68 : decode cX4_isOf 68 = .ok (.checkcast 42, 3) := by decide +kernel
theorem dX4_isOf_71 : decode cX4_isOf 71 = .ok (.iconst 0, 1) := by decide +kernel
theorem dX4_isOf_72 : decode cX4_isOf 72 = .ok (.iaload, 1) := by decide +kernel
theorem dX4_isOf_73 : decode cX4_isOf 73 = .ok (.iload_n 1, 1) := by decide +kernel
theorem dX4_isOf_74 : decode cX4_isOf 74 = .ok (.if_icmp .ne 37, 3) := by decide +kernel
theorem dX4_isOf_77 : decode cX4_isOf 77 = .ok (.aload_n 0, 1) := by decide +kernel
theorem dX4_isOf_78 : decode cX4_isOf 78 = .ok (.getfield 10, 3) := by decide +kernel
theorem dX4_isOf_81 : decode cX4_isOf 81 = .ok (.iload 6, 2) := by decide +kernel
theorem dX4_isOf_83 : decode cX4_isOf 83 = .ok (.invokevirtual 38, 3) := by decide +kernel
theorem dX4_isOf_86 : decode cX4_isOf 86 = .ok (.checkcast 42, 3) := by decide +kernel
theorem dX4_isOf_89 : decode cX4_isOf 89 = .ok (.iconst 2, 1) := by decide +kernel
theorem dX4_isOf_90 : decode cX4_isOf 90 = .ok (.iaload, 1) := by decide +kernel
theorem dX4_isOf_91 : decode cX4_isOf 91 = .ok (.iload_n 2, 1) := by decide +kernel
theorem dX4_isOf_92 : decode cX4_isOf 92 = .ok (.if_icmp .ne 19, 3) := by decide +kernel
theorem dX4_isOf_95 : decode cX4_isOf 95 = .ok (.aload_n 0, 1) := by decide +kernel
theorem dX4_isOf_96 : decode cX4_isOf 96 = .ok (.iload 6, 2) := by decide +kernel
theorem dX4_isOf_98 : decode cX4_isOf 98 = .ok (.iload_n 3, 1) := by decide +kernel
theorem dX4_isOf_99 : decode cX4_isOf 99 = .ok (.iload 4, 2) := by decide +kernel
theorem dX4_isOf_101 : decode cX4_isOf 101 = .ok (.invokevirtual 139, 3) := by decide +kernel
theorem dX4_isOf_104 : decode cX4_isOf 104 = .ok (.ifCond .ne 7, 3) := by decide +kernel
theorem dX4_isOf_107 : decode cX4_isOf 107 = .ok (.iconst 1, 1) := by decide +kernel
theorem dX4_isOf_108 : decode cX4_isOf 108 = .ok (.goto 4, 3) := by decide +kernel
theorem dX4_isOf_111 : decode cX4_isOf 111 = .ok (.iconst 0, 1) := by decide +kernel
theorem dX4_isOf_112 : decode cX4_isOf 112 = .ok (.ior, 1) := by decide +kernel
theorem dX4_isOf_113 : decode cX4_isOf 113 = .ok (.istore 5, 2) := by decide +kernel
theorem dX4_isOf_115 : decode cX4_isOf 115 = .ok (.iinc 6 1, 3) := by decide +kernel
theorem dX4_isOf_118 : decode cX4_isOf 118 = .ok (.goto (-80), 3) := by decide +kernel
theorem dX4_isOf_121 : decode cX4_isOf 121 = .ok (.iload 5, 2) := by decide +kernel
theorem dX4_isOf_123 : decode cX4_isOf 123 = .ok (.ireturn, 1) := by decide +kernel
theorem dX4_meanChain_0 : decode cX4_meanChain 0 = .ok (.aload_n 0, 1) := by decide +kernel
theorem dX4_meanChain_1 : decode cX4_meanChain 1 = .ok (.iload_n 1, 1) := by decide +kernel
theorem dX4_meanChain_2 : decode cX4_meanChain 2 = .ok (.iload_n 2, 1) := by decide +kernel
theorem dX4_meanChain_3 : decode cX4_meanChain 3 = .ok (.invokestatic 190, 3) := by decide +kernel
theorem dX4_meanChain_6 : decode cX4_meanChain 6 = .ok (.ifCond .eq 7, 3) := by decide +kernel
theorem dX4_meanChain_9 : decode cX4_meanChain 9 = .ok (.iconst 0, 1) := by decide +kernel
theorem dX4_meanChain_10 : decode cX4_meanChain 10 = .ok (.goto 4, 3) := by decide +kernel
theorem dX4_meanChain_13 : decode cX4_meanChain 13 = .ok (.iconst 1, 1) := by decide +kernel
theorem dX4_meanChain_14 : decode cX4_meanChain 14 = .ok (.putfield 22, 3) := by decide +kernel
theorem dX4_meanChain_17 : decode cX4_meanChain 17 = .ok (.iconst 0, 1) := by decide +kernel
theorem dX4_meanChain_18 : decode cX4_meanChain 18 = .ok (.istore_n 3, 1) := by decide +kernel
theorem dX4_meanChain_19 : decode cX4_meanChain 19 = .ok (.iconst 0, 1) := by decide +kernel
theorem dX4_meanChain_20 : decode cX4_meanChain 20 = .ok (.istore 4, 2) := by decide +kernel
theorem dX4_meanChain_22 : decode cX4_meanChain 22 = .ok (.iconst 0, 1) := by decide +kernel
theorem dX4_meanChain_23 : decode cX4_meanChain 23 = .ok (.istore 5, 2) := by decide +kernel
theorem dX4_meanChain_25 : decode cX4_meanChain 25 = .ok (.iload 5, 2) := by decide +kernel
theorem dX4_meanChain_27 : decode cX4_meanChain 27 = .ok (.aload_n 0, 1) := by decide +kernel
theorem dX4_meanChain_28 : decode cX4_meanChain 28 = .ok (.getfield 10, 3) := by decide +kernel
theorem dX4_meanChain_31 : decode cX4_meanChain 31 = .ok (.invokevirtual 54, 3) := by decide +kernel
theorem dX4_meanChain_34 : decode cX4_meanChain 34 = .ok (.if_icmp .ge 56, 3) := by decide +kernel
theorem dX4_meanChain_37 : decode cX4_meanChain 37 = .ok (.aload_n 0, 1) := by decide +kernel
theorem dX4_meanChain_38 : decode cX4_meanChain 38 = .ok (.getfield 22, 3) := by decide +kernel
theorem dX4_meanChain_41 : decode cX4_meanChain 41 = .ok (.ifCond .ne 49, 3) := by decide +kernel
theorem dX4_meanChain_44 : decode cX4_meanChain 44 = .ok (.aload_n 0, 1) := by decide +kernel
theorem dX4_meanChain_45 : decode cX4_meanChain 45 = .ok (.iload 5, 2) := by decide +kernel
theorem dX4_meanChain_47 : decode cX4_meanChain 47 = .ok (.iload_n 1, 1) := by decide +kernel
theorem dX4_meanChain_48 : decode cX4_meanChain 48 = .ok (.iload_n 2, 1) := by decide +kernel
theorem dX4_meanChain_49 : decode cX4_meanChain 49 = .ok (.invokevirtual 132, 3) := by decide +kernel
theorem dX4_meanChain_52 : decode cX4_meanChain 52 = .ok (.astore 6, 2) := by decide +kernel
theorem dX4_meanChain_54 : decode cX4_meanChain 54 = .ok (.iload_n 3, 1) := by decide +kernel
theorem dX4_meanChain_55 : decode cX4_meanChain 55 = .ok (.aload 6, 2) := by decide +kernel
theorem dX4_meanChain_57 : decode cX4_meanChain 57 = .ok (.ifnonnull 7, 3) := by decide +kernel
theorem dX4_meanChain_60 : decode cX4_meanChain 60 = .ok (.iconst 0, 1) := by decide +kernel
theorem dX4_meanChain_61 : decode cX4_meanChain 61 = .ok (.goto 4, 3) := by decide +kernel
theorem dX4_meanChain_64 : decode cX4_meanChain 64 = .ok (.iconst 1, 1) := by decide +kernel
theorem dX4_meanChain_65 : decode cX4_meanChain 65 = .ok (.iadd, 1) := by decide +kernel
theorem dX4_meanChain_66 : decode cX4_meanChain 66 = .ok (.istore_n 3, 1) := by decide +kernel
theorem dX4_meanChain_67 : decode cX4_meanChain 67 = .ok (.iload 4, 2) := by decide +kernel
theorem dX4_meanChain_69 : decode cX4_meanChain 69 = .ok (.aload 6, 2) := by decide +kernel
theorem dX4_meanChain_71 : decode cX4_meanChain 71 = .ok (.ifnonnull 7, 3) := by decide +kernel
theorem dX4_meanChain_74 : decode cX4_meanChain 74 = .ok (.iconst 0, 1) := by decide +kernel
theorem dX4_meanChain_75 : decode cX4_meanChain 75 = .ok (.goto 6, 3) := by decide +kernel
theorem dX4_meanChain_78 : decode cX4_meanChain 78 = .ok (.aload 6, 2) := by decide +kernel
theorem dX4_meanChain_80 : decode cX4_meanChain 80 = .ok (.arraylength, 1) := by decide +kernel
theorem dX4_meanChain_81 : decode cX4_meanChain 81 = .ok (.iadd, 1) := by decide +kernel
theorem dX4_meanChain_82 : decode cX4_meanChain 82 = .ok (.istore 4, 2) := by decide +kernel
theorem dX4_meanChain_84 : decode cX4_meanChain 84 = .ok (.iinc 5 1, 3) := by decide +kernel
theorem dX4_meanChain_87 : decode cX4_meanChain 87 = .ok (.goto (-62), 3) := by decide +kernel
theorem dX4_meanChain_90 : decode cX4_meanChain 90 = .ok (.iload_n 3, 1) := by decide +kernel
theorem dX4_meanChain_91 : decode cX4_meanChain 91 = .ok (.ifCond .ne 7, 3) := by decide +kernel
theorem dX4_meanChain_94 : decode cX4_meanChain 94 = .ok (.dconst 0, 1) := by decide +kernel
theorem dX4_meanChain_95 : decode cX4_meanChain 95 = .ok (.goto 9, 3) := by decide +kernel
theorem dX4_meanChain_98 : decode cX4_meanChain 98 = .ok (.iload 4, 2) := by decide +kernel
theorem dX4_meanChain_100 : decode cX4_meanChain 100 = .ok (.i2d, 1) := by decide +kernel
theorem dX4_meanChain_101 : decode cX4_meanChain 101 = .ok (.iload_n 3, 1) := by decide +kernel
theorem dX4_meanChain_102 : decode cX4_meanChain 102 = .ok (.i2d, 1) := by decide +kernel
theorem dX4_meanChain_103 : decode cX4_meanChain 103 = .ok (.ddiv, 1) := by decide +kernel
theorem dX4_meanChain_104 : decode cX4_meanChain 104 = .ok (.dreturn, 1) := by decide +kernel
theorem dX4_holdsTo_0 : decode cX4_holdsTo 0 = .ok (.aload_n 0, 1) := by decide +kernel
theorem dX4_holdsTo_1 : decode cX4_holdsTo 1 = .ok (.iconst 0, 1) := by decide +kernel
theorem dX4_holdsTo_2 : decode cX4_holdsTo 2 = .ok (.putfield 22, 3) := by decide +kernel
theorem dX4_holdsTo_5 : decode cX4_holdsTo 5 = .ok (.aload_n 0, 1) := by decide +kernel
theorem dX4_holdsTo_6 : decode cX4_holdsTo 6 = .ok (.iload_n 1, 1) := by decide +kernel
theorem dX4_holdsTo_7 : decode cX4_holdsTo 7 = .ok (.invokevirtual 156, 3) := by decide +kernel
theorem dX4_holdsTo_10 : decode cX4_holdsTo 10 = .ok (.ifCond .ne 9, 3) := by decide +kernel
theorem dX4_holdsTo_13 : decode cX4_holdsTo 13 = .ok (.aload_n 0, 1) := by decide +kernel
theorem dX4_holdsTo_14 : decode cX4_holdsTo 14 = .ok (.iconst 1, 1) := by decide +kernel
theorem dX4_holdsTo_15 : decode cX4_holdsTo 15 = .ok (.invokevirtual 149, 3) := by decide +kernel
theorem dX4_holdsTo_18 : decode cX4_holdsTo 18 = .ok (.ireturn, 1) := by decide +kernel
theorem dX4_holdsTo_19 : decode cX4_holdsTo 19 = .ok (.iload_n 2, 1) := by decide +kernel
theorem dX4_holdsTo_20 : decode cX4_holdsTo 20 = .ok (.iload_n 3, 1) := by decide +kernel
theorem dX4_holdsTo_21 : decode cX4_holdsTo 21 = .ok (.invokestatic 190, 3) := by decide +kernel
theorem dX4_holdsTo_24 : decode cX4_holdsTo 24 = .ok (.ifCond .ne 9, 3) := by decide +kernel
theorem dX4_holdsTo_27 : decode cX4_holdsTo 27 = .ok (.aload_n 0, 1) := by decide +kernel
theorem dX4_holdsTo_28 : decode cX4_holdsTo 28 = .ok (.iconst 2, 1) := by decide +kernel
theorem dX4_holdsTo_29 : decode cX4_holdsTo 29 = .ok (.invokevirtual 149, 3) := by decide +kernel
theorem dX4_holdsTo_32 : decode cX4_holdsTo 32 = .ok (.ireturn, 1) := by decide +kernel
theorem dX4_holdsTo_33 : decode cX4_holdsTo 33 = .ok (.iload_n 2, 1) := by decide +kernel
theorem dX4_holdsTo_34 : decode cX4_holdsTo 34 = .ok (.istore 4, 2) := by decide +kernel
theorem dX4_holdsTo_36 : decode cX4_holdsTo 36 = .ok (.iload 4, 2) := by decide +kernel
theorem dX4_holdsTo_38 : decode cX4_holdsTo 38 = .ok (.sipush 1000, 3) := by decide +kernel
theorem dX4_holdsTo_41 : decode cX4_holdsTo 41 = .ok (.if_icmp .ge 20, 3) := by decide +kernel
theorem dX4_holdsTo_44 : decode cX4_holdsTo 44 = .ok (.aload_n 0, 1) := by decide +kernel
theorem dX4_holdsTo_45 : decode cX4_holdsTo 45 = .ok (.iload_n 1, 1) := by decide +kernel
theorem dX4_holdsTo_46 : decode cX4_holdsTo 46 = .ok (.iload 4, 2) := by decide +kernel
theorem dX4_holdsTo_48 : decode cX4_holdsTo 48 = .ok (.iload_n 3, 1) := by decide +kernel
theorem dX4_holdsTo_49 : decode cX4_holdsTo 49 = .ok (.invokevirtual 132, 3) := by decide +kernel
theorem dX4_holdsTo_52 : decode cX4_holdsTo 52 = .ok (.ifnull 9, 3) := by decide +kernel
theorem dX4_holdsTo_55 : decode cX4_holdsTo 55 = .ok (.iinc 4 1, 3) := by decide +kernel
theorem dX4_holdsTo_58 : decode cX4_holdsTo 58 = .ok (.goto (-22), 3) := by decide +kernel
theorem dX4_holdsTo_61 : decode cX4_holdsTo 61 = .ok (.iload 4, 2) := by decide +kernel
theorem dX4_holdsTo_63 : decode cX4_holdsTo 63 = .ok (.iload_n 2, 1) := by decide +kernel
theorem dX4_holdsTo_64 : decode cX4_holdsTo 64 = .ok (.if_icmp .ne 7, 3) := by decide +kernel
theorem dX4_holdsTo_67 : decode cX4_holdsTo 67 = .ok (.iconst (-1), 1) := by decide +kernel
theorem dX4_holdsTo_68 : decode cX4_holdsTo 68 = .ok (.goto 7, 3) := by decide +kernel
theorem dX4_holdsTo_71 : decode cX4_holdsTo 71 = .ok (.iload 4, 2) := by decide +kernel
theorem dX4_holdsTo_73 : decode cX4_holdsTo 73 = .ok (.iconst 1, 1) := by decide +kernel
theorem dX4_holdsTo_74 : decode cX4_holdsTo 74 = .ok (.isub, 1) := by decide +kernel
theorem dX4_holdsTo_75 : decode cX4_holdsTo 75 = .ok (.ireturn, 1) := by decide +kernel
theorem dX4_verdicts_0 : decode cX4_verdicts 0 = .ok (.aload_n 0, 1) := by decide +kernel
theorem dX4_verdicts_1 : decode cX4_verdicts 1 = .ok (.getfield 10, 3) := by decide +kernel
theorem dX4_verdicts_4 : decode cX4_verdicts 4 = .ok (.invokevirtual 54, 3) := by decide +kernel
theorem dX4_verdicts_7 : decode cX4_verdicts 7 = .ok (.newarray .int, 2) := by decide +kernel
theorem dX4_verdicts_9 : decode cX4_verdicts 9 = .ok (.astore_n 3, 1) := by decide +kernel
theorem dX4_verdicts_10 : decode cX4_verdicts 10 = .ok (.iconst 0, 1) := by decide +kernel
theorem dX4_verdicts_11 : decode cX4_verdicts 11 = .ok (.istore 4, 2) := by decide +kernel
theorem dX4_verdicts_13 : decode cX4_verdicts 13 = .ok (.iload 4, 2) := by decide +kernel
theorem dX4_verdicts_15 : decode cX4_verdicts 15 = .ok (.aload_n 3, 1) := by decide +kernel
theorem dX4_verdicts_16 : decode cX4_verdicts 16 = .ok (.arraylength, 1) := by decide +kernel
theorem dX4_verdicts_17 : decode cX4_verdicts 17 = .ok (.if_icmp .ge 21, 3) := by decide +kernel
theorem dX4_verdicts_20 : decode cX4_verdicts 20 = .ok (.aload_n 3, 1) := by decide +kernel
theorem dX4_verdicts_21 : decode cX4_verdicts 21 = .ok (.iload 4, 2) := by decide +kernel
theorem dX4_verdicts_23 : decode cX4_verdicts 23 = .ok (.aload_n 0, 1) := by decide +kernel
theorem dX4_verdicts_24 : decode cX4_verdicts 24 = .ok (.iload 4, 2) := by decide +kernel
theorem dX4_verdicts_26 : decode cX4_verdicts 26 = .ok (.iload_n 1, 1) := by decide +kernel
theorem dX4_verdicts_27 : decode cX4_verdicts 27 = .ok (.iload_n 2, 1) := by decide +kernel
theorem dX4_verdicts_28 : decode cX4_verdicts 28 = .ok (.invokevirtual 139, 3) := by decide +kernel
theorem dX4_verdicts_31 : decode cX4_verdicts 31 = .ok (.iastore, 1) := by decide +kernel
theorem dX4_verdicts_32 : decode cX4_verdicts 32 = .ok (.iinc 4 1, 3) := by decide +kernel
theorem dX4_verdicts_35 : decode cX4_verdicts 35 = .ok (.goto (-22), 3) := by decide +kernel
theorem dX4_verdicts_38 : decode cX4_verdicts 38 = .ok (.aload_n 3, 1) := by decide +kernel
theorem dX4_verdicts_39 : decode cX4_verdicts 39 = .ok (.areturn, 1) := by decide +kernel
theorem dX4_otherwise_0 : decode cX4_otherwise 0 = .ok (.aload_n 0, 1) := by decide +kernel
theorem dX4_otherwise_1 : decode cX4_otherwise 1 = .ok (.iconst 0, 1) := by decide +kernel
theorem dX4_otherwise_2 : decode cX4_otherwise 2 = .ok (.putfield 22, 3) := by decide +kernel
theorem dX4_otherwise_5 : decode cX4_otherwise 5 = .ok (.aload_n 0, 1) := by decide +kernel
theorem dX4_otherwise_6 : decode cX4_otherwise 6 = .ok (.iload_n 1, 1) := by decide +kernel
theorem dX4_otherwise_7 : decode cX4_otherwise 7 = .ok (.invokevirtual 156, 3) := by decide +kernel
theorem dX4_otherwise_10 : decode cX4_otherwise 10 = .ok (.ifCond .ne 9, 3) := by decide +kernel
theorem dX4_otherwise_13 : decode cX4_otherwise 13 = .ok (.aload_n 0, 1) := by decide +kernel
theorem dX4_otherwise_14 : decode cX4_otherwise 14 = .ok (.iconst 1, 1) := by decide +kernel
theorem dX4_otherwise_15 : decode cX4_otherwise 15 = .ok (.invokevirtual 149, 3) := by decide +kernel
theorem dX4_otherwise_18 : decode cX4_otherwise 18 = .ok (.ireturn, 1) := by decide +kernel
theorem dX4_otherwise_19 : decode cX4_otherwise 19 = .ok (.iload_n 2, 1) := by decide +kernel
theorem dX4_otherwise_20 : decode cX4_otherwise 20 = .ok (.iload_n 3, 1) := by decide +kernel
theorem dX4_otherwise_21 : decode cX4_otherwise 21 = .ok (.invokestatic 190, 3) := by decide +kernel
theorem dX4_otherwise_24 : decode cX4_otherwise 24 = .ok (.ifCond .ne 9, 3) := by decide +kernel
theorem dX4_otherwise_27 : decode cX4_otherwise 27 = .ok (.aload_n 0, 1) := by decide +kernel
theorem dX4_otherwise_28 : decode cX4_otherwise 28 = .ok (.iconst 2, 1) := by decide +kernel
theorem dX4_otherwise_29 : decode cX4_otherwise 29 = .ok (.invokevirtual 149, 3) := by decide +kernel
theorem dX4_otherwise_32 : decode cX4_otherwise 32 = .ok (.ireturn, 1) := by decide +kernel
theorem dX4_otherwise_33 : decode cX4_otherwise 33 = .ok (.aload_n 0, 1) := by decide +kernel
theorem dX4_otherwise_34 : decode cX4_otherwise 34 = .ok (.iload_n 2, 1) := by decide +kernel
theorem dX4_otherwise_35 : decode cX4_otherwise 35 = .ok (.iload_n 3, 1) := by decide +kernel
theorem dX4_otherwise_36 : decode cX4_otherwise 36 = .ok (.invokevirtual 196, 3) := by decide +kernel
theorem dX4_otherwise_39 : decode cX4_otherwise 39 = .ok (.astore 4, 2) := by decide +kernel
theorem dX4_otherwise_41 : decode cX4_otherwise 41 = .ok (.aload_n 0, 1) := by decide +kernel
theorem dX4_otherwise_42 : decode cX4_otherwise 42 = .ok (.getfield 10, 3) := by decide +kernel
theorem dX4_otherwise_45 : decode cX4_otherwise 45 = .ok (.iload_n 1, 1) := by decide +kernel
theorem dX4_otherwise_46 : decode cX4_otherwise 46 = .ok (.invokevirtual 38, 3) := by decide +kernel
theorem dX4_otherwise_49 : decode cX4_otherwise 49 = .ok (.checkcast 42, 3) := by decide +kernel
theorem dX4_otherwise_52 : decode cX4_otherwise 52 = .ok (.bipush 12, 2) := by decide +kernel
theorem dX4_otherwise_54 : decode cX4_otherwise 54 = .ok (.dup2, 1) := by decide +kernel
theorem dX4_otherwise_55 : decode cX4_otherwise 55 = .ok (.iaload, 1) := by decide +kernel
theorem dX4_otherwise_56 : decode cX4_otherwise 56 = .ok (.iconst 1, 1) := by decide +kernel
theorem dX4_otherwise_57 : decode cX4_otherwise 57 = .ok (.ixor, 1) := by decide +kernel
theorem dX4_otherwise_58 : decode cX4_otherwise 58 = .ok (.iastore, 1) := by decide +kernel
theorem dX4_otherwise_59 : decode cX4_otherwise 59 = .ok (.aload_n 0, 1) := by decide +kernel
theorem dX4_otherwise_60 : decode cX4_otherwise 60 = .ok (.invokevirtual 153, 3) := by decide +kernel
theorem dX4_otherwise_63 : decode cX4_otherwise 63 = .ok (.aload_n 0, 1) := by decide +kernel
theorem dX4_otherwise_64 : decode cX4_otherwise 64 = .ok (.iload_n 2, 1) := by decide +kernel
theorem dX4_otherwise_65 : decode cX4_otherwise 65 = .ok (.iload_n 3, 1) := by decide +kernel
theorem dX4_otherwise_66 : decode cX4_otherwise 66 = .ok (.invokevirtual 196, 3) := by decide +kernel
theorem dX4_otherwise_69 : decode cX4_otherwise 69 = .ok (.astore 5, 2) := by decide +kernel
theorem dX4_otherwise_71 : decode cX4_otherwise 71 = .ok (.aload_n 0, 1) := by decide +kernel
theorem dX4_otherwise_72 : decode cX4_otherwise 72 = .ok (.getfield 10, 3) := by decide +kernel
theorem dX4_otherwise_75 : decode cX4_otherwise 75 = .ok (.iload_n 1, 1) := by decide +kernel
theorem dX4_otherwise_76 : decode cX4_otherwise 76 = .ok (.invokevirtual 38, 3) := by decide +kernel
theorem dX4_otherwise_79 : decode cX4_otherwise 79 = .ok (.checkcast 42, 3) := by decide +kernel
theorem dX4_otherwise_82 : decode cX4_otherwise 82 = .ok (.bipush 12, 2) := by decide +kernel
theorem dX4_otherwise_84 : decode cX4_otherwise 84 = .ok (.dup2, 1) := by decide +kernel
theorem dX4_otherwise_85 : decode cX4_otherwise 85 = .ok (.iaload, 1) := by decide +kernel
theorem dX4_otherwise_86 : decode cX4_otherwise 86 = .ok (.iconst 1, 1) := by decide +kernel
theorem dX4_otherwise_87 : decode cX4_otherwise 87 = .ok (.ixor, 1) := by decide +kernel
theorem dX4_otherwise_88 : decode cX4_otherwise 88 = .ok (.iastore, 1) := by decide +kernel
theorem dX4_otherwise_89 : decode cX4_otherwise 89 = .ok (.aload_n 0, 1) := by decide +kernel
theorem dX4_otherwise_90 : decode cX4_otherwise 90 = .ok (.invokevirtual 153, 3) := by decide +kernel
theorem dX4_otherwise_93 : decode cX4_otherwise 93 = .ok (.iconst 0, 1) := by decide +kernel
theorem dX4_otherwise_94 : decode cX4_otherwise 94 = .ok (.istore 6, 2) := by decide +kernel
theorem dX4_otherwise_96 : decode cX4_otherwise 96 = .ok (.iconst 0, 1) := by decide +kernel
theorem dX4_otherwise_97 : decode cX4_otherwise 97 = .ok (.istore 7, 2) := by decide +kernel
theorem dX4_otherwise_99 : decode cX4_otherwise 99 = .ok (.iload 7, 2) := by decide +kernel
theorem dX4_otherwise_101 : decode cX4_otherwise 101 = .ok (.aload 4, 2) := by decide +kernel
theorem dX4_otherwise_103 : decode cX4_otherwise 103 = .ok (.arraylength, 1) := by decide +kernel
theorem dX4_otherwise_104 : decode cX4_otherwise 104 = .ok (.if_icmp .ge 32, 3) := by decide +kernel
theorem dX4_otherwise_107 : decode cX4_otherwise 107 = .ok (.iload 6, 2) := by decide +kernel
theorem dX4_otherwise_109 : decode cX4_otherwise 109 = .ok (.aload 4, 2) := by decide +kernel
theorem dX4_otherwise_111 : decode cX4_otherwise 111 = .ok (.iload 7, 2) := by decide +kernel
theorem dX4_otherwise_113 : decode cX4_otherwise 113 = .ok (.iaload, 1) := by decide +kernel
theorem dX4_otherwise_114 : decode cX4_otherwise 114 = .ok (.aload 5, 2) := by decide +kernel
theorem dX4_otherwise_116 : decode cX4_otherwise 116 = .ok (.iload 7, 2) := by decide +kernel
theorem dX4_otherwise_118 : decode cX4_otherwise 118 = .ok (.iaload, 1) := by decide +kernel
theorem dX4_otherwise_119 : decode cX4_otherwise 119 = .ok (.if_icmp .ne 7, 3) := by decide +kernel
theorem dX4_otherwise_122 : decode cX4_otherwise 122 = .ok (.iconst 0, 1) := by decide +kernel
theorem dX4_otherwise_123 : decode cX4_otherwise 123 = .ok (.goto 4, 3) := by decide +kernel
theorem dX4_otherwise_126 : decode cX4_otherwise 126 = .ok (.iconst 1, 1) := by decide +kernel
theorem dX4_otherwise_127 : decode cX4_otherwise 127 = .ok (.iadd, 1) := by decide +kernel
theorem dX4_otherwise_128 : decode cX4_otherwise 128 = .ok (.istore 6, 2) := by decide +kernel
theorem dX4_otherwise_130 : decode cX4_otherwise 130 = .ok (.iinc 7 1, 3) := by decide +kernel
theorem dX4_otherwise_133 : decode cX4_otherwise 133 = .ok (.goto (-34), 3) := by decide +kernel
theorem dX4_otherwise_136 : decode cX4_otherwise 136 = .ok (.iload 6, 2) := by decide +kernel
theorem dX4_otherwise_138 : decode cX4_otherwise 138 = .ok (.ireturn, 1) := by decide +kernel
theorem dX4_stolen_0 : decode cX4_stolen 0 = .ok (.aload_n 0, 1) := by decide +kernel
theorem dX4_stolen_1 : decode cX4_stolen 1 = .ok (.iconst 0, 1) := by decide +kernel
theorem dX4_stolen_2 : decode cX4_stolen 2 = .ok (.putfield 22, 3) := by decide +kernel
theorem dX4_stolen_5 : decode cX4_stolen 5 = .ok (.iload_n 1, 1) := by decide +kernel
theorem dX4_stolen_6 : decode cX4_stolen 6 = .ok (.invokestatic 146, 3) := by decide +kernel
theorem dX4_stolen_9 : decode cX4_stolen 9 = .ok (.ifCond .eq 11, 3) := by decide +kernel
theorem dX4_stolen_12 : decode cX4_stolen 12 = .ok (.iload_n 2, 1) := by decide +kernel
theorem dX4_stolen_13 : decode cX4_stolen 13 = .ok (.iload_n 3, 1) := by decide +kernel
theorem dX4_stolen_14 : decode cX4_stolen 14 = .ok (.invokestatic 190, 3) := by decide +kernel
theorem dX4_stolen_17 : decode cX4_stolen 17 = .ok (.ifCond .ne 9, 3) := by decide +kernel
theorem dX4_stolen_20 : decode cX4_stolen 20 = .ok (.aload_n 0, 1) := by decide +kernel
theorem dX4_stolen_21 : decode cX4_stolen 21 = .ok (.iconst 1, 1) := by decide +kernel
theorem dX4_stolen_22 : decode cX4_stolen 22 = .ok (.invokevirtual 149, 3) := by decide +kernel
theorem dX4_stolen_25 : decode cX4_stolen 25 = .ok (.ireturn, 1) := by decide +kernel
theorem dX4_stolen_26 : decode cX4_stolen 26 = .ok (.iconst 0, 1) := by decide +kernel
theorem dX4_stolen_27 : decode cX4_stolen 27 = .ok (.istore 4, 2) := by decide +kernel
theorem dX4_stolen_29 : decode cX4_stolen 29 = .ok (.iconst 0, 1) := by decide +kernel
theorem dX4_stolen_30 : decode cX4_stolen 30 = .ok (.istore 5, 2) := by decide +kernel
theorem dX4_stolen_32 : decode cX4_stolen 32 = .ok (.iload 5, 2) := by decide +kernel
theorem dX4_stolen_34 : decode cX4_stolen 34 = .ok (.aload_n 0, 1) := by decide +kernel
theorem dX4_stolen_35 : decode cX4_stolen 35 = .ok (.getfield 10, 3) := by decide +kernel
theorem dX4_stolen_38 : decode cX4_stolen 38 = .ok (.invokevirtual 54, 3) := by decide +kernel
theorem dX4_stolen_41 : decode cX4_stolen 41 = .ok (.if_icmp .ge 90, 3) := by decide +kernel
theorem dX4_stolen_44 : decode cX4_stolen 44 = .ok (.aload_n 0, 1) := by decide +kernel
theorem dX4_stolen_45 : decode cX4_stolen 45 = .ok (.iload 5, 2) := by decide +kernel
theorem dX4_stolen_47 : decode cX4_stolen 47 = .ok (.iload_n 2, 1) := by decide +kernel
theorem dX4_stolen_48 : decode cX4_stolen 48 = .ok (.iload_n 3, 1) := by decide +kernel
theorem dX4_stolen_49 : decode cX4_stolen 49 = .ok (.invokevirtual 132, 3) := by decide +kernel
theorem dX4_stolen_52 : decode cX4_stolen 52 = .ok (.astore 6, 2) := by decide +kernel
theorem dX4_stolen_54 : decode cX4_stolen 54 = .ok (.iconst 0, 1) := by decide +kernel
theorem dX4_stolen_55 : decode cX4_stolen 55 = .ok (.istore 7, 2) := by decide +kernel
theorem dX4_stolen_57 : decode cX4_stolen 57 = .ok (.iconst 0, 1) := by decide +kernel
theorem dX4_stolen_58 : decode cX4_stolen 58 = .ok (.istore 8, 2) := by decide +kernel
theorem dX4_stolen_60 : decode cX4_stolen 60 = .ok (.aload 6, 2) := by decide +kernel
theorem dX4_stolen_62 : decode cX4_stolen 62 = .ok (.ifnull 48, 3) := by decide +kernel
theorem dX4_stolen_65 : decode cX4_stolen 65 = .ok (.iload 8, 2) := by decide +kernel
theorem dX4_stolen_67 : decode cX4_stolen 67 = .ok (.aload 6, 2) := by decide +kernel
theorem dX4_stolen_69 : decode cX4_stolen 69 = .ok (.arraylength, 1) := by decide +kernel
theorem dX4_stolen_70 : decode cX4_stolen 70 = .ok (.if_icmp .ge 40, 3) := by decide +kernel
theorem dX4_stolen_73 : decode cX4_stolen 73 = .ok (.iload 7, 2) := by decide +kernel
theorem dX4_stolen_75 : decode cX4_stolen 75 = .ok (.aload_n 0, 1) := by decide +kernel
theorem dX4_stolen_76 : decode cX4_stolen 76 = .ok (.getfield 10, 3) := by decide +kernel
theorem dX4_stolen_79 : decode cX4_stolen 79 = .ok (.aload 6, 2) := by decide +kernel
theorem dX4_stolen_81 : decode cX4_stolen 81 = .ok (.iload 8, 2) := by decide +kernel
theorem dX4_stolen_83 : decode cX4_stolen 83 = .ok (.iaload, 1) := by decide +kernel
theorem dX4_stolen_84 : decode cX4_stolen 84 = .ok (.invokevirtual 38, 3) := by decide +kernel
theorem dX4_stolen_87 : decode cX4_stolen 87 = .ok (.checkcast 42, 3) := by decide +kernel
theorem dX4_stolen_90 : decode cX4_stolen 90 = .ok (.iconst 2, 1) := by decide +kernel
theorem dX4_stolen_91 : decode cX4_stolen 91 = .ok (.iaload, 1) := by decide +kernel
theorem dX4_stolen_92 : decode cX4_stolen 92 = .ok (.iload_n 1, 1) := by decide +kernel
theorem dX4_stolen_93 : decode cX4_stolen 93 = .ok (.if_icmp .ne 7, 3) := by decide +kernel
theorem dX4_stolen_96 : decode cX4_stolen 96 = .ok (.iconst 1, 1) := by decide +kernel
theorem dX4_stolen_97 : decode cX4_stolen 97 = .ok (.goto 4, 3) := by decide +kernel
theorem dX4_stolen_100 : decode cX4_stolen 100 = .ok (.iconst 0, 1) := by decide +kernel
theorem dX4_stolen_101 : decode cX4_stolen 101 = .ok (.ior, 1) := by decide +kernel
theorem dX4_stolen_102 : decode cX4_stolen 102 = .ok (.istore 7, 2) := by decide +kernel
theorem dX4_stolen_104 : decode cX4_stolen 104 = .ok (.iinc 8 1, 3) := by decide +kernel
theorem dX4_stolen_107 : decode cX4_stolen 107 = .ok (.goto (-47), 3) := by decide +kernel
theorem dX4_stolen_110 : decode cX4_stolen 110 = .ok (.iload 4, 2) := by decide +kernel
theorem dX4_stolen_112 : decode cX4_stolen 112 = .ok (.iload 7, 2) := by decide +kernel
theorem dX4_stolen_114 : decode cX4_stolen 114 = .ok (.ifCond .eq 7, 3) := by decide +kernel
theorem dX4_stolen_117 : decode cX4_stolen 117 = .ok (.iconst 1, 1) := by decide +kernel
theorem dX4_stolen_118 : decode cX4_stolen 118 = .ok (.goto 4, 3) := by decide +kernel
theorem dX4_stolen_121 : decode cX4_stolen 121 = .ok (.iconst 0, 1) := by decide +kernel
theorem dX4_stolen_122 : decode cX4_stolen 122 = .ok (.iadd, 1) := by decide +kernel
theorem dX4_stolen_123 : decode cX4_stolen 123 = .ok (.istore 4, 2) := by decide +kernel
theorem dX4_stolen_125 : decode cX4_stolen 125 = .ok (.iinc 5 1, 3) := by decide +kernel
theorem dX4_stolen_128 : decode cX4_stolen 128 = .ok (.goto (-96), 3) := by decide +kernel
theorem dX4_stolen_131 : decode cX4_stolen 131 = .ok (.iload 4, 2) := by decide +kernel
theorem dX4_stolen_133 : decode cX4_stolen 133 = .ok (.ireturn, 1) := by decide +kernel
theorem dX4_add_0 : decode cX4_add 0 = .ok (.aload_n 0, 1) := by decide +kernel
theorem dX4_add_1 : decode cX4_add 1 = .ok (.aload_n 0, 1) := by decide +kernel
theorem dX4_add_2 : decode cX4_add 2 = .ok (.getfield 200, 3) := by decide +kernel
theorem dX4_add_5 : decode cX4_add 5 = .ok (.ldc2_w 204, 3) := by decide +kernel
theorem dX4_add_8 : decode cX4_add 8 = .ok (.lmul, 1) := by decide +kernel
theorem dX4_add_9 : decode cX4_add 9 = .ok (.iload_n 1, 1) := by decide +kernel
theorem dX4_add_10 : decode cX4_add 10 = .ok (.i2l, 1) := by decide +kernel
theorem dX4_add_11 : decode cX4_add 11 = .ok (.ladd, 1) := by decide +kernel
theorem dX4_add_12 : decode cX4_add 12 = .ok (.putfield 200, 3) := by decide +kernel
theorem dX4_add_15 : decode cX4_add 15 = .ok (.return_, 1) := by decide +kernel
theorem dX4_digest_0 : decode cX4_digest 0 = .ok (.aload_n 0, 1) := by decide +kernel
theorem dX4_digest_1 : decode cX4_digest 1 = .ok (.iconst 0, 1) := by decide +kernel
theorem dX4_digest_2 : decode cX4_digest 2 = .ok (.putfield 22, 3) := by decide +kernel
theorem dX4_digest_5 : decode cX4_digest 5 = .ok (.aload_n 0, 1) := by decide +kernel
theorem dX4_digest_6 : decode cX4_digest 6 = .ok (.ldc2_w 206, 3) := by decide +kernel
theorem dX4_digest_9 : decode cX4_digest 9 = .ok (.putfield 200, 3) := by decide +kernel
theorem dX4_digest_12 : decode cX4_digest 12 = .ok (.iconst 0, 1) := by decide +kernel
theorem dX4_digest_13 : decode cX4_digest 13 = .ok (.istore_n 1, 1) := by decide +kernel
theorem dX4_digest_14 : decode cX4_digest 14 = .ok (.iload_n 1, 1) := by decide +kernel
theorem dX4_digest_15 : decode cX4_digest 15 = .ok (.iconst 4, 1) := by decide +kernel
theorem dX4_digest_16 : decode cX4_digest 16 = .ok (.if_icmp .ge 18, 3) := by decide +kernel
theorem dX4_digest_19 : decode cX4_digest 19 = .ok (.aload_n 0, 1) := by decide +kernel
theorem dX4_digest_20 : decode cX4_digest 20 = .ok (.aload_n 0, 1) := by decide +kernel
theorem dX4_digest_21 : decode cX4_digest 21 = .ok (.iload_n 1, 1) := by decide +kernel
theorem dX4_digest_22 : decode cX4_digest 22 = .ok (.invokevirtual 177, 3) := by decide +kernel
theorem dX4_digest_25 : decode cX4_digest 25 = .ok (.invokevirtual 208, 3) := by decide +kernel
theorem dX4_digest_28 : decode cX4_digest 28 = .ok (.iinc 1 1, 3) := by decide +kernel
theorem dX4_digest_31 : decode cX4_digest 31 = .ok (.goto (-17), 3) := by decide +kernel
theorem dX4_digest_34 : decode cX4_digest 34 = .ok (.iconst 0, 1) := by decide +kernel
theorem dX4_digest_35 : decode cX4_digest 35 = .ok (.istore_n 1, 1) := by decide +kernel
theorem dX4_digest_36 : decode cX4_digest 36 = .ok (.iload_n 1, 1) := by decide +kernel
theorem dX4_digest_37 : decode cX4_digest 37 = .ok (.aload_n 0, 1) := by decide +kernel
theorem dX4_digest_38 : decode cX4_digest 38 = .ok (.getfield 10, 3) := by decide +kernel
theorem dX4_digest_41 : decode cX4_digest 41 = .ok (.invokevirtual 54, 3) := by decide +kernel
theorem dX4_digest_44 : decode cX4_digest 44 = .ok (.if_icmp .ge 121, 3) := by decide +kernel
theorem dX4_digest_47 : decode cX4_digest 47 = .ok (.iconst 0, 1) := by decide +kernel
theorem dX4_digest_48 : decode cX4_digest 48 = .ok (.istore_n 2, 1) := by decide +kernel
theorem dX4_digest_49 : decode cX4_digest 49 = .ok (.iload_n 2, 1) := by decide +kernel
theorem dX4_digest_50 : decode cX4_digest 50 = .ok (.bipush 13, 2) := by decide +kernel
theorem dX4_digest_52 : decode cX4_digest 52 = .ok (.if_icmp .ge 28, 3) := by decide +kernel
theorem dX4_digest_55 : decode cX4_digest 55 = .ok (.aload_n 0, 1) := by decide +kernel
theorem dX4_digest_56 : decode cX4_digest 56 = .ok (.aload_n 0, 1) := by decide +kernel
theorem dX4_digest_57 : decode cX4_digest 57 = .ok (.getfield 10, 3) := by decide +kernel
theorem dX4_digest_60 : decode cX4_digest 60 = .ok (.iload_n 1, 1) := by decide +kernel
theorem dX4_digest_61 : decode cX4_digest 61 = .ok (.invokevirtual 38, 3) := by decide +kernel
theorem dX4_digest_64 : decode cX4_digest 64 = .ok (.checkcast 42, 3) := by decide +kernel
theorem dX4_digest_67 : decode cX4_digest 67 = .ok (.iload_n 2, 1) := by decide +kernel
theorem dX4_digest_68 : decode cX4_digest 68 = .ok (.invokestatic 180, 3) := by decide +kernel
theorem dX4_digest_71 : decode cX4_digest 71 = .ok (.invokevirtual 208, 3) := by decide +kernel
theorem dX4_digest_74 : decode cX4_digest 74 = .ok (.iinc 2 1, 3) := by decide +kernel
theorem dX4_digest_77 : decode cX4_digest 77 = .ok (.goto (-28), 3) := by decide +kernel
theorem dX4_digest_80 : decode cX4_digest 80 = .ok (.aload_n 0, 1) := by decide +kernel
theorem dX4_digest_81 : decode cX4_digest 81 = .ok (.aload_n 0, 1) := by decide +kernel
theorem dX4_digest_82 : decode cX4_digest 82 = .ok (.iload_n 1, 1) := by decide +kernel
theorem dX4_digest_83 : decode cX4_digest 83 = .ok (.invokevirtual 125, 3) := by decide +kernel
theorem dX4_digest_86 : decode cX4_digest 86 = .ok (.invokevirtual 54, 3) := by decide +kernel
theorem dX4_digest_89 : decode cX4_digest 89 = .ok (.invokevirtual 208, 3) := by decide +kernel
theorem dX4_digest_92 : decode cX4_digest 92 = .ok (.iconst 0, 1) := by decide +kernel
theorem dX4_digest_93 : decode cX4_digest 93 = .ok (.istore_n 2, 1) := by decide +kernel
theorem dX4_digest_94 : decode cX4_digest 94 = .ok (.iload_n 2, 1) := by decide +kernel
theorem dX4_digest_95 : decode cX4_digest 95 = .ok (.iconst 4, 1) := by decide +kernel
theorem dX4_digest_96 : decode cX4_digest 96 = .ok (.if_icmp .ge 63, 3) := by decide +kernel
theorem dX4_digest_99 : decode cX4_digest 99 = .ok (.aload_n 0, 1) := by decide +kernel
theorem dX4_digest_100 : decode cX4_digest 100 = .ok (.aload_n 0, 1) := by decide +kernel
theorem dX4_digest_101 : decode cX4_digest 101 = .ok (.iload_n 1, 1) := by decide +kernel
theorem dX4_digest_102 : decode cX4_digest 102 = .ok (.iload_n 2, 1) := by decide +kernel
theorem dX4_digest_103 : decode cX4_digest 103 = .ok (.iconst 2, 1) := by decide +kernel
theorem dX4_digest_104 : decode cX4_digest 104 = .ok (.if_icmp .ge 8, 3) := by decide +kernel
theorem dX4_digest_107 : decode cX4_digest 107 = .ok (.bipush 100, 2) := by decide +kernel
theorem dX4_digest_109 : decode cX4_digest 109 = .ok (.goto 6, 3) := by decide +kernel
theorem dX4_digest_112 : decode cX4_digest 112 = .ok (.sipush 500, 3) := by decide +kernel
theorem dX4_digest_115 : decode cX4_digest 115 = .ok (.iload_n 2, 1) := by decide +kernel
theorem dX4_digest_116 : decode cX4_digest 116 = .ok (.iconst 2, 1) := by decide +kernel
theorem dX4_digest_117 : decode cX4_digest 117 = .ok (.irem, 1) := by decide +kernel
theorem dX4_digest_118 : decode cX4_digest 118 = .ok (.iconst 2, 1) := by decide +kernel
theorem dX4_digest_119 : decode cX4_digest 119 = .ok (.imul, 1) := by decide +kernel
theorem dX4_digest_120 : decode cX4_digest 120 = .ok (.invokevirtual 139, 3) := by decide +kernel
theorem dX4_digest_123 : decode cX4_digest 123 = .ok (.invokevirtual 208, 3) := by decide +kernel
theorem dX4_digest_126 : decode cX4_digest 126 = .ok (.aload_n 0, 1) := by decide +kernel
theorem dX4_digest_127 : decode cX4_digest 127 = .ok (.aload_n 0, 1) := by decide +kernel
theorem dX4_digest_128 : decode cX4_digest 128 = .ok (.iload_n 1, 1) := by decide +kernel
theorem dX4_digest_129 : decode cX4_digest 129 = .ok (.iload_n 2, 1) := by decide +kernel
theorem dX4_digest_130 : decode cX4_digest 130 = .ok (.iconst 2, 1) := by decide +kernel
theorem dX4_digest_131 : decode cX4_digest 131 = .ok (.if_icmp .ge 8, 3) := by decide +kernel
theorem dX4_digest_134 : decode cX4_digest 134 = .ok (.bipush 100, 2) := by decide +kernel
theorem dX4_digest_136 : decode cX4_digest 136 = .ok (.goto 6, 3) := by decide +kernel
theorem dX4_digest_139 : decode cX4_digest 139 = .ok (.sipush 500, 3) := by decide +kernel
theorem dX4_digest_142 : decode cX4_digest 142 = .ok (.iload_n 2, 1) := by decide +kernel
theorem dX4_digest_143 : decode cX4_digest 143 = .ok (.iconst 2, 1) := by decide +kernel
theorem dX4_digest_144 : decode cX4_digest 144 = .ok (.irem, 1) := by decide +kernel
theorem dX4_digest_145 : decode cX4_digest 145 = .ok (.iconst 2, 1) := by decide +kernel
theorem dX4_digest_146 : decode cX4_digest 146 = .ok (.imul, 1) := by decide +kernel
theorem dX4_digest_147 : decode cX4_digest 147 = .ok (.invokevirtual 193, 3) := by decide +kernel
theorem dX4_digest_150 : decode cX4_digest 150 = .ok (.invokevirtual 208, 3) := by decide +kernel
theorem dX4_digest_153 : decode cX4_digest 153 = .ok (.iinc 2 1, 3) := by decide +kernel
theorem dX4_digest_156 : decode cX4_digest 156 = .ok (.goto (-62), 3) := by decide +kernel
theorem dX4_digest_159 : decode cX4_digest 159 = .ok (.iinc 1 1, 3) := by decide +kernel
theorem dX4_digest_162 : decode cX4_digest 162 = .ok (.goto (-126), 3) := by decide +kernel
theorem dX4_digest_165 : decode cX4_digest 165 = .ok (.aload_n 0, 1) := by decide +kernel
theorem dX4_digest_166 : decode cX4_digest 166 = .ok (.getfield 16, 3) := by decide +kernel
theorem dX4_digest_169 : decode cX4_digest 169 = .ok (.invokevirtual 89, 3) := by decide +kernel
theorem dX4_digest_172 : decode cX4_digest 172 = .ok (.astore_n 1, 1) := by decide +kernel
theorem dX4_digest_173 : decode cX4_digest 173 = .ok (.aload_n 1, 1) := by decide +kernel
theorem dX4_digest_174 : decode cX4_digest 174 = .ok (.invokeinterface 93 1, 5) := by decide +kernel
theorem dX4_digest_179 : decode cX4_digest 179 = .ok (.ifCond .eq 39, 3) := by decide +kernel
theorem dX4_digest_182 : decode cX4_digest 182 = .ok (.aload_n 1, 1) := by decide +kernel
theorem dX4_digest_183 : decode cX4_digest 183 = .ok (.invokeinterface 99 1, 5) := by decide +kernel
theorem dX4_digest_188 : decode cX4_digest 188 = .ok (.checkcast 42, 3) := by decide +kernel
theorem dX4_digest_191 : decode cX4_digest 191 = .ok (.astore_n 2, 1) := by decide +kernel
theorem dX4_digest_192 : decode cX4_digest 192 = .ok (.iconst 0, 1) := by decide +kernel
theorem dX4_digest_193 : decode cX4_digest 193 = .ok (.istore_n 3, 1) := by decide +kernel
theorem dX4_digest_194 : decode cX4_digest 194 = .ok (.iload_n 3, 1) := by decide +kernel
theorem dX4_digest_195 : decode cX4_digest 195 = .ok (.bipush 6, 2) := by decide +kernel
theorem dX4_digest_197 : decode cX4_digest 197 = .ok (.if_icmp .ge 18, 3) := by decide +kernel
theorem dX4_digest_200 : decode cX4_digest 200 = .ok (.aload_n 0, 1) := by decide +kernel
theorem dX4_digest_201 : decode cX4_digest 201 = .ok (.aload_n 2, 1) := by decide +kernel
theorem dX4_digest_202 : decode cX4_digest 202 = .ok (.iload_n 3, 1) := by decide +kernel
theorem dX4_digest_203 : decode cX4_digest 203 = .ok (.invokestatic 184, 3) := by decide +kernel
theorem dX4_digest_206 : decode cX4_digest 206 = .ok (.invokevirtual 208, 3) := by decide +kernel
theorem dX4_digest_209 : decode cX4_digest 209 = .ok (.iinc 3 1, 3) := by decide +kernel
theorem dX4_digest_212 : decode cX4_digest 212 = .ok (.goto (-18), 3) := by decide +kernel
theorem dX4_digest_215 : decode cX4_digest 215 = .ok (.goto (-42), 3) := by decide +kernel
theorem dX4_digest_218 : decode cX4_digest 218 = .ok (.aload_n 0, 1) := by decide +kernel
theorem dX4_digest_219 : decode cX4_digest 219 = .ok (.getfield 200, 3) := by decide +kernel
theorem dX4_digest_222 : decode cX4_digest 222 = .ok (.lreturn, 1) := by decide +kernel
theorem dJ9_max_7cf53_0 : decode cJ9_max_7cf53 0 = .ok (.iload_n 0, 1) := by decide +kernel
theorem dJ9_max_7cf53_1 : decode cJ9_max_7cf53 1 = .ok (.iload_n 1, 1) := by decide +kernel
theorem dJ9_max_7cf53_2 : decode cJ9_max_7cf53 2 = .ok (.if_icmp .lt 7, 3) := by decide +kernel
theorem dJ9_max_7cf53_5 : decode cJ9_max_7cf53 5 = .ok (.iload_n 0, 1) := by decide +kernel
theorem dJ9_max_7cf53_6 : decode cJ9_max_7cf53 6 = .ok (.goto 4, 3) := by decide +kernel
theorem dJ9_max_7cf53_9 : decode cJ9_max_7cf53 9 = .ok (.iload_n 1, 1) := by decide +kernel
theorem dJ9_max_7cf53_10 : decode cJ9_max_7cf53 10 = .ok (.ireturn, 1) := by decide +kernel
theorem dJ9_min_7cf53_0 : decode cJ9_min_7cf53 0 = .ok (.iload_n 0, 1) := by decide +kernel
theorem dJ9_min_7cf53_1 : decode cJ9_min_7cf53 1 = .ok (.iload_n 1, 1) := by decide +kernel
theorem dJ9_min_7cf53_2 : decode cJ9_min_7cf53 2 = .ok (.if_icmp .gt 7, 3) := by decide +kernel
theorem dJ9_min_7cf53_5 : decode cJ9_min_7cf53 5 = .ok (.iload_n 0, 1) := by decide +kernel
theorem dJ9_min_7cf53_6 : decode cJ9_min_7cf53 6 = .ok (.goto 4, 3) := by decide +kernel
theorem dJ9_min_7cf53_9 : decode cJ9_min_7cf53 9 = .ok (.iload_n 1, 1) := by decide +kernel
theorem dJ9_min_7cf53_10 : decode cJ9_min_7cf53 10 = .ok (.ireturn, 1) := by decide +kernel
theorem dJxa1e45_init_da8c8_0 : decode cJxa1e45_init_da8c8 0 = .ok (.aload_n 0, 1) := by decide +kernel
theorem dJxa1e45_init_da8c8_1 : decode cJxa1e45_init_da8c8 1 = .ok (.invokespecial 1, 3) := by decide +kernel
theorem dJxa1e45_init_da8c8_4 : decode cJxa1e45_init_da8c8 4 = .ok (.return_, 1) := by decide +kernel
theorem dJxc12de_init_da8c8_0 : decode cJxc12de_init_da8c8 0 = .ok (.aload_n 0, 1) := by decide +kernel
theorem dJxc12de_init_da8c8_1 : decode cJxc12de_init_da8c8 1 = .ok (.invokespecial 1, 3) := by decide +kernel
theorem dJxc12de_init_da8c8_4 : decode cJxc12de_init_da8c8 4 = .ok (.aload_n 0, 1) := by decide +kernel
theorem dJxc12de_init_da8c8_5 : decode cJxc12de_init_da8c8 5 = .ok (.iconst 0, 1) := by decide +kernel
theorem dJxc12de_init_da8c8_6 : decode cJxc12de_init_da8c8 6 = .ok (.putfield 7, 3) := by decide +kernel
theorem dJxc12de_init_da8c8_9 : decode cJxc12de_init_da8c8 9 = .ok (.return_, 1) := by decide +kernel
theorem dJx35411_init_45d68_0 : decode cJx35411_init_45d68 0 = .ok (.aload_n 0, 1) := by decide +kernel
theorem dJx35411_init_45d68_1 : decode cJx35411_init_45d68 1 = .ok (.aload_n 1, 1) := by decide +kernel
theorem dJx35411_init_45d68_2 : decode cJx35411_init_45d68 2 = .ok (.putfield 1, 3) := by decide +kernel
theorem dJx35411_init_45d68_5 : decode cJx35411_init_45d68 5 = .ok (.aload_n 0, 1) := by decide +kernel
theorem dJx35411_init_45d68_6 : decode cJx35411_init_45d68 6 = .ok (.invokespecial 7, 3) := by decide +kernel
theorem dJx35411_init_45d68_9 : decode cJx35411_init_45d68 9 = .ok (.aload_n 0, 1) := by decide +kernel
theorem dJx35411_init_45d68_10 : decode cJx35411_init_45d68 10 = .ok (.iconst (-1), 1) := by decide +kernel
theorem dJx35411_init_45d68_11 : decode cJx35411_init_45d68 11 = .ok (.putfield 13, 3) := by decide +kernel
theorem dJx35411_init_45d68_14 : decode cJx35411_init_45d68 14 = .ok (.aload_n 0, 1) := by decide +kernel
theorem dJx35411_init_45d68_15 : decode cJx35411_init_45d68 15 = .ok (.aload_n 0, 1) := by decide +kernel
theorem dJx35411_init_45d68_16 : decode cJx35411_init_45d68 16 = .ok (.getfield 1, 3) := by decide +kernel
theorem dJx35411_init_45d68_19 : decode cJx35411_init_45d68 19 = .ok (.getfield 17, 3) := by decide +kernel
theorem dJx35411_init_45d68_22 : decode cJx35411_init_45d68 22 = .ok (.putfield 22, 3) := by decide +kernel
theorem dJx35411_init_45d68_25 : decode cJx35411_init_45d68 25 = .ok (.return_, 1) := by decide +kernel
theorem dJx35411_hasNext_aae02_0 : decode cJx35411_hasNext_aae02 0 = .ok (.aload_n 0, 1) := by decide +kernel
theorem dJx35411_hasNext_aae02_1 : decode cJx35411_hasNext_aae02 1 = .ok (.getfield 25, 3) := by decide +kernel
theorem dJx35411_hasNext_aae02_4 : decode cJx35411_hasNext_aae02 4 = .ok (.aload_n 0, 1) := by decide +kernel
theorem dJx35411_hasNext_aae02_5 : decode cJx35411_hasNext_aae02 5 = .ok (.getfield 1, 3) := by decide +kernel
theorem dJx35411_hasNext_aae02_8 : decode cJx35411_hasNext_aae02 8 = .ok (.getfield 28, 3) := by decide +kernel
theorem dJx35411_hasNext_aae02_11 : decode cJx35411_hasNext_aae02 11 = .ok (.if_icmp .eq 7, 3) := by decide +kernel
theorem dJx35411_hasNext_aae02_14 : decode cJx35411_hasNext_aae02 14 = .ok (.iconst 1, 1) := by decide +kernel
theorem dJx35411_hasNext_aae02_15 : decode cJx35411_hasNext_aae02 15 = .ok (.goto 4, 3) := by decide +kernel
theorem dJx35411_hasNext_aae02_18 : decode cJx35411_hasNext_aae02 18 = .ok (.iconst 0, 1) := by decide +kernel
theorem dJx35411_hasNext_aae02_19 : decode cJx35411_hasNext_aae02 19 = .ok (.ireturn, 1) := by decide +kernel
theorem dJx35411_next_0502b_0 : decode cJx35411_next_0502b 0 = .ok (.aload_n 0, 1) := by decide +kernel
theorem dJx35411_next_0502b_1 : decode cJx35411_next_0502b 1 = .ok (.invokevirtual 31, 3) := by decide +kernel
theorem dJx35411_next_0502b_4 : decode cJx35411_next_0502b 4 = .ok (.aload_n 0, 1) := by decide +kernel
theorem dJx35411_next_0502b_5 : decode cJx35411_next_0502b 5 = .ok (.getfield 25, 3) := by decide +kernel
theorem dJx35411_next_0502b_8 : decode cJx35411_next_0502b 8 = .ok (.istore_n 1, 1) := by decide +kernel
theorem dJx35411_next_0502b_9 : decode cJx35411_next_0502b 9 = .ok (.iload_n 1, 1) := by decide +kernel
theorem dJx35411_next_0502b_10 : decode cJx35411_next_0502b 10 = .ok (.aload_n 0, 1) := by decide +kernel
theorem dJx35411_next_0502b_11 : decode cJx35411_next_0502b 11 = .ok (.getfield 1, 3) := by decide +kernel
theorem dJx35411_next_0502b_14 : decode cJx35411_next_0502b 14 = .ok (.getfield 28, 3) := by decide +kernel
theorem dJx35411_next_0502b_17 : decode cJx35411_next_0502b 17 = .ok (.if_icmp .lt 11, 3) := by decide +kernel
theorem dJx35411_next_0502b_20 : decode cJx35411_next_0502b 20 = .ok (.new 34, 3) := by decide +kernel
theorem dJx35411_next_0502b_23 : decode cJx35411_next_0502b 23 = .ok (.dup, 1) := by decide +kernel
theorem dJx35411_next_0502b_24 : decode cJx35411_next_0502b 24 = .ok (.invokespecial 36, 3) := by decide +kernel
theorem dJx35411_next_0502b_27 : decode cJx35411_next_0502b 27 = .ok (.athrow, 1) := by decide +kernel
theorem dJx35411_next_0502b_28 : decode cJx35411_next_0502b 28 = .ok (.aload_n 0, 1) := by decide +kernel
theorem dJx35411_next_0502b_29 : decode cJx35411_next_0502b 29 = .ok (.getfield 1, 3) := by decide +kernel
theorem dJx35411_next_0502b_32 : decode cJx35411_next_0502b 32 = .ok (.getfield 37, 3) := by decide +kernel
theorem dJx35411_next_0502b_35 : decode cJx35411_next_0502b 35 = .ok (.astore_n 2, 1) := by decide +kernel
theorem dJx35411_next_0502b_36 : decode cJx35411_next_0502b 36 = .ok (.iload_n 1, 1) := by decide +kernel
theorem dJx35411_next_0502b_37 : decode cJx35411_next_0502b 37 = .ok (.aload_n 2, 1) := by decide +kernel
theorem dJx35411_next_0502b_38 : decode cJx35411_next_0502b 38 = .ok (.arraylength, 1) := by decide +kernel
theorem dJx35411_next_0502b_39 : decode cJx35411_next_0502b 39 = .ok (.if_icmp .lt 11, 3) := by decide +kernel
theorem dJx35411_next_0502b_42 : decode cJx35411_next_0502b 42 = .ok (.new 41, 3) := by decide +kernel
theorem dJx35411_next_0502b_45 : decode cJx35411_next_0502b 45 = .ok (.dup, 1) := by decide +kernel
theorem dJx35411_next_0502b_46 : decode cJx35411_next_0502b 46 = .ok (.invokespecial 43, 3) := by decide +kernel
theorem dJx35411_next_0502b_49 : decode cJx35411_next_0502b 49 = .ok (.athrow, 1) := by decide +kernel
theorem dJx35411_next_0502b_50 : decode cJx35411_next_0502b 50 = .ok (.aload_n 0, 1) := by decide +kernel
theorem dJx35411_next_0502b_51 : decode cJx35411_next_0502b 51 = .ok (.iload_n 1, 1) := by decide +kernel
theorem dJx35411_next_0502b_52 : decode cJx35411_next_0502b 52 = .ok (.iconst 1, 1) := by decide +kernel
theorem dJx35411_next_0502b_53 : decode cJx35411_next_0502b 53 = .ok (.iadd, 1) := by decide +kernel
theorem dJx35411_next_0502b_54 : decode cJx35411_next_0502b 54 = .ok (.putfield 25, 3) := by decide +kernel
theorem dJx35411_next_0502b_57 : decode cJx35411_next_0502b 57 = .ok (.aload_n 2, 1) := by decide +kernel
theorem dJx35411_next_0502b_58 : decode cJx35411_next_0502b 58 = .ok (.aload_n 0, 1) := by decide +kernel
theorem dJx35411_next_0502b_59 : decode cJx35411_next_0502b 59 = .ok (.iload_n 1, 1) := by decide +kernel
theorem dJx35411_next_0502b_60 : decode cJx35411_next_0502b 60 = .ok (.dup_x1, 1) := by decide +kernel
theorem dJx35411_next_0502b_61 : decode cJx35411_next_0502b 61 = .ok (.putfield 13, 3) := by decide +kernel
theorem dJx35411_next_0502b_64 : decode cJx35411_next_0502b 64 = .ok (.aaload, 1) := by decide +kernel
theorem dJx35411_next_0502b_65 : decode cJx35411_next_0502b 65 = .ok (.areturn, 1) := by decide +kernel
theorem dJx35411_checkForComodification_da8c8_0 : decode cJx35411_checkForComodification_da8c8 0 = .ok (.aload_n 0, 1) := by decide +kernel
theorem dJx35411_checkForComodification_da8c8_1 : decode cJx35411_checkForComodification_da8c8 1 = .ok (.getfield 1, 3) := by decide +kernel
theorem dJx35411_checkForComodification_da8c8_4 : decode cJx35411_checkForComodification_da8c8 4 = .ok (.getfield 17, 3) := by decide +kernel
theorem dJx35411_checkForComodification_da8c8_7 : decode cJx35411_checkForComodification_da8c8 7 = .ok (.aload_n 0, 1) := by decide +kernel
theorem dJx35411_checkForComodification_da8c8_8 : decode cJx35411_checkForComodification_da8c8 8 = .ok (.getfield 22, 3) := by decide +kernel
theorem dJx35411_checkForComodification_da8c8_11 : decode cJx35411_checkForComodification_da8c8 11 = .ok (.if_icmp .eq 11, 3) := by decide +kernel
theorem dJx35411_checkForComodification_da8c8_14 : decode cJx35411_checkForComodification_da8c8 14 = .ok (.new 41, 3) := by decide +kernel
theorem dJx35411_checkForComodification_da8c8_17 : decode cJx35411_checkForComodification_da8c8 17 = .ok (.dup, 1) := by decide +kernel
theorem dJx35411_checkForComodification_da8c8_18 : decode cJx35411_checkForComodification_da8c8 18 = .ok (.invokespecial 43, 3) := by decide +kernel
theorem dJx35411_checkForComodification_da8c8_21 : decode cJx35411_checkForComodification_da8c8 21 = .ok (.athrow, 1) := by decide +kernel
theorem dJx35411_checkForComodification_da8c8_22 : decode cJx35411_checkForComodification_da8c8 22 = .ok (.return_, 1) := by decide +kernel
theorem dJx4a65c_init_da8c8_0 : decode cJx4a65c_init_da8c8 0 = .ok (.aload_n 0, 1) := by decide +kernel
theorem dJx4a65c_init_da8c8_1 : decode cJx4a65c_init_da8c8 1 = .ok (.invokespecial 1, 3) := by decide +kernel
theorem dJx4a65c_init_da8c8_4 : decode cJx4a65c_init_da8c8 4 = .ok (.aload_n 0, 1) := by decide +kernel
theorem dJx4a65c_init_da8c8_5 : decode cJx4a65c_init_da8c8 5 = .ok (.getstatic 39, 3) := by decide +kernel
theorem dJx4a65c_init_da8c8_8 : decode cJx4a65c_init_da8c8 8 = .ok (.putfield 9, 3) := by decide +kernel
theorem dJx4a65c_init_da8c8_11 : decode cJx4a65c_init_da8c8 11 = .ok (.return_, 1) := by decide +kernel
theorem dJx4a65c_grow_92f84_0 : decode cJx4a65c_grow_92f84 0 = .ok (.aload_n 0, 1) := by decide +kernel
theorem dJx4a65c_grow_92f84_1 : decode cJx4a65c_grow_92f84 1 = .ok (.getfield 9, 3) := by decide +kernel
theorem dJx4a65c_grow_92f84_4 : decode cJx4a65c_grow_92f84 4 = .ok (.arraylength, 1) := by decide +kernel
theorem dJx4a65c_grow_92f84_5 : decode cJx4a65c_grow_92f84 5 = .ok (.istore_n 2, 1) := by decide +kernel
theorem dJx4a65c_grow_92f84_6 : decode cJx4a65c_grow_92f84 6 = .ok (.iload_n 2, 1) := by decide +kernel
theorem dJx4a65c_grow_92f84_7 : decode cJx4a65c_grow_92f84 7 = .ok (.ifCond .gt 13, 3) := by decide +kernel
theorem dJx4a65c_grow_92f84_10 : decode cJx4a65c_grow_92f84 10 = .ok (.aload_n 0, 1) := by decide +kernel
theorem dJx4a65c_grow_92f84_11 : decode cJx4a65c_grow_92f84 11 = .ok (.getfield 9, 3) := by decide +kernel
theorem dJx4a65c_grow_92f84_14 : decode cJx4a65c_grow_92f84 14 = .ok (.getstatic 39, 3) := by decide +kernel
theorem dJx4a65c_grow_92f84_17 : decode cJx4a65c_grow_92f84 17 = .ok (.if_acmp .eq 28, 3) := by decide +kernel
theorem dJx4a65c_grow_92f84_20 : decode cJx4a65c_grow_92f84 20 = .ok (.iload_n 2, 1) := by decide +kernel
theorem dJx4a65c_grow_92f84_21 : decode cJx4a65c_grow_92f84 21 = .ok (.iload_n 1, 1) := by decide +kernel
theorem dJx4a65c_grow_92f84_22 : decode cJx4a65c_grow_92f84 22 = .ok (.iload_n 2, 1) := by decide +kernel
theorem dJx4a65c_grow_92f84_23 : decode cJx4a65c_grow_92f84 23 = .ok (.isub, 1) := by decide +kernel
theorem dJx4a65c_grow_92f84_24 : decode cJx4a65c_grow_92f84 24 = .ok (.iload_n 2, 1) := by decide +kernel
theorem dJx4a65c_grow_92f84_25 : decode cJx4a65c_grow_92f84 25 = .ok (.iconst 1, 1) := by decide +kernel
theorem dJx4a65c_grow_92f84_26 : decode cJx4a65c_grow_92f84 26 = .ok (.ishr, 1) := by decide +kernel
theorem dJx4a65c_grow_92f84_27 : decode cJx4a65c_grow_92f84 27 = .ok (.invokestatic 73, 3) := by decide +kernel
theorem dJx4a65c_grow_92f84_30 : decode cJx4a65c_grow_92f84 30 = .ok (.istore_n 3, 1) := by decide +kernel
theorem dJx4a65c_grow_92f84_31 : decode cJx4a65c_grow_92f84 31 = .ok (.aload_n 0, 1) := by decide +kernel
theorem dJx4a65c_grow_92f84_32 : decode cJx4a65c_grow_92f84 32 = .ok (.aload_n 0, 1) := by decide +kernel
theorem dJx4a65c_grow_92f84_33 : decode cJx4a65c_grow_92f84 33 = .ok (.getfield 9, 3) := by decide +kernel
theorem dJx4a65c_grow_92f84_36 : decode cJx4a65c_grow_92f84 36 = .ok (.iload_n 3, 1) := by decide +kernel
theorem dJx4a65c_grow_92f84_37 : decode cJx4a65c_grow_92f84 37 = .ok (.invokestatic 66, 3) := by decide +kernel
theorem dJx4a65c_grow_92f84_40 : decode cJx4a65c_grow_92f84 40 = .ok (.dup_x1, 1) := by decide +kernel
theorem dJx4a65c_grow_92f84_41 : decode cJx4a65c_grow_92f84 41 = .ok (.putfield 9, 3) := by decide +kernel
theorem dJx4a65c_grow_92f84_44 : decode cJx4a65c_grow_92f84 44 = .ok (.areturn, 1) := by decide +kernel
theorem dJx4a65c_grow_92f84_45 : decode cJx4a65c_grow_92f84 45 = .ok (.aload_n 0, 1) := by decide +kernel
theorem dJx4a65c_grow_92f84_46 : decode cJx4a65c_grow_92f84 46 = .ok (.bipush 10, 2) := by decide +kernel
theorem dJx4a65c_grow_92f84_48 : decode cJx4a65c_grow_92f84 48 = .ok (.iload_n 1, 1) := by decide +kernel
theorem dJx4a65c_grow_92f84_49 : decode cJx4a65c_grow_92f84 49 = .ok (.invokestatic 79, 3) := by decide +kernel
theorem dJx4a65c_grow_92f84_52 : decode cJx4a65c_grow_92f84 52 = .ok (.anewarray 7, 3) := by decide +kernel
theorem dJx4a65c_grow_92f84_55 : decode cJx4a65c_grow_92f84 55 = .ok (.dup_x1, 1) := by decide +kernel
theorem dJx4a65c_grow_92f84_56 : decode cJx4a65c_grow_92f84 56 = .ok (.putfield 9, 3) := by decide +kernel
theorem dJx4a65c_grow_92f84_59 : decode cJx4a65c_grow_92f84 59 = .ok (.areturn, 1) := by decide +kernel
theorem dJx4a65c_grow_d5877_0 : decode cJx4a65c_grow_d5877 0 = .ok (.aload_n 0, 1) := by decide +kernel
theorem dJx4a65c_grow_d5877_1 : decode cJx4a65c_grow_d5877 1 = .ok (.aload_n 0, 1) := by decide +kernel
theorem dJx4a65c_grow_d5877_2 : decode cJx4a65c_grow_d5877 2 = .ok (.getfield 48, 3) := by decide +kernel
theorem dJx4a65c_grow_d5877_5 : decode cJx4a65c_grow_d5877 5 = .ok (.iconst 1, 1) := by decide +kernel
theorem dJx4a65c_grow_d5877_6 : decode cJx4a65c_grow_d5877 6 = .ok (.iadd, 1) := by decide +kernel
theorem dJx4a65c_grow_d5877_7 : decode cJx4a65c_grow_d5877 7 = .ok (.invokevirtual 69, 3) := by decide +kernel
theorem dJx4a65c_grow_d5877_10 : decode cJx4a65c_grow_d5877 10 = .ok (.areturn, 1) := by decide +kernel
theorem dJx4a65c_size_8abf5_0 : decode cJx4a65c_size_8abf5 0 = .ok (.aload_n 0, 1) := by decide +kernel
theorem dJx4a65c_size_8abf5_1 : decode cJx4a65c_size_8abf5 1 = .ok (.getfield 48, 3) := by decide +kernel
theorem dJx4a65c_size_8abf5_4 : decode cJx4a65c_size_8abf5 4 = .ok (.ireturn, 1) := by decide +kernel
theorem dJx4a65c_isEmpty_aae02_0 : decode cJx4a65c_isEmpty_aae02 0 = .ok (.aload_n 0, 1) := by decide +kernel
theorem dJx4a65c_isEmpty_aae02_1 : decode cJx4a65c_isEmpty_aae02 1 = .ok (.getfield 48, 3) := by decide +kernel
theorem dJx4a65c_isEmpty_aae02_4 : decode cJx4a65c_isEmpty_aae02 4 = .ok (.ifCond .ne 7, 3) := by decide +kernel
theorem dJx4a65c_isEmpty_aae02_7 : decode cJx4a65c_isEmpty_aae02 7 = .ok (.iconst 1, 1) := by decide +kernel
theorem dJx4a65c_isEmpty_aae02_8 : decode cJx4a65c_isEmpty_aae02 8 = .ok (.goto 4, 3) := by decide +kernel
theorem dJx4a65c_isEmpty_aae02_11 : decode cJx4a65c_isEmpty_aae02 11 = .ok (.iconst 0, 1) := by decide +kernel
theorem dJx4a65c_isEmpty_aae02_12 : decode cJx4a65c_isEmpty_aae02 12 = .ok (.ireturn, 1) := by decide +kernel
theorem dJx4a65c_elementData_915e3_0 : decode cJx4a65c_elementData_915e3 0 = .ok (.aload_n 0, 1) := by decide +kernel
theorem dJx4a65c_elementData_915e3_1 : decode cJx4a65c_elementData_915e3 1 = .ok (.getfield 9, 3) := by decide +kernel
theorem dJx4a65c_elementData_915e3_4 : decode cJx4a65c_elementData_915e3 4 = .ok (.iload_n 1, 1) := by decide +kernel
theorem dJx4a65c_elementData_915e3_5 : decode cJx4a65c_elementData_915e3 5 = .ok (.aaload, 1) := by decide +kernel
theorem dJx4a65c_elementData_915e3_6 : decode cJx4a65c_elementData_915e3 6 = .ok (.areturn, 1) := by decide +kernel
theorem dJx4a65c_get_915e3_0 : decode cJx4a65c_get_915e3 0 = .ok (.iload_n 1, 1) := by decide +kernel
theorem dJx4a65c_get_915e3_1 : decode cJx4a65c_get_915e3 1 = .ok (.aload_n 0, 1) := by decide +kernel
theorem dJx4a65c_get_915e3_2 : decode cJx4a65c_get_915e3 2 = .ok (.getfield 48, 3) := by decide +kernel
theorem dJx4a65c_get_915e3_5 : decode cJx4a65c_get_915e3 5 = .ok (.invokestatic 118, 3) := by decide +kernel
theorem dJx4a65c_get_915e3_8 : decode cJx4a65c_get_915e3 8 = .ok (.pop, 1) := by decide +kernel
theorem dJx4a65c_get_915e3_9 : decode cJx4a65c_get_915e3 9 = .ok (.aload_n 0, 1) := by decide +kernel
theorem dJx4a65c_get_915e3_10 : decode cJx4a65c_get_915e3 10 = .ok (.iload_n 1, 1) := by decide +kernel
theorem dJx4a65c_get_915e3_11 : decode cJx4a65c_get_915e3 11 = .ok (.invokevirtual 123, 3) := by decide +kernel
theorem dJx4a65c_get_915e3_14 : decode cJx4a65c_get_915e3 14 = .ok (.areturn, 1) := by decide +kernel
theorem dJx4a65c_set_bcc79_0 : decode cJx4a65c_set_bcc79 0 = .ok (.iload_n 1, 1) := by decide +kernel
theorem dJx4a65c_set_bcc79_1 : decode cJx4a65c_set_bcc79 1 = .ok (.aload_n 0, 1) := by decide +kernel
theorem dJx4a65c_set_bcc79_2 : decode cJx4a65c_set_bcc79 2 = .ok (.getfield 48, 3) := by decide +kernel
theorem dJx4a65c_set_bcc79_5 : decode cJx4a65c_set_bcc79 5 = .ok (.invokestatic 118, 3) := by decide +kernel
theorem dJx4a65c_set_bcc79_8 : decode cJx4a65c_set_bcc79 8 = .ok (.pop, 1) := by decide +kernel
theorem dJx4a65c_set_bcc79_9 : decode cJx4a65c_set_bcc79 9 = .ok (.aload_n 0, 1) := by decide +kernel
theorem dJx4a65c_set_bcc79_10 : decode cJx4a65c_set_bcc79 10 = .ok (.iload_n 1, 1) := by decide +kernel
theorem dJx4a65c_set_bcc79_11 : decode cJx4a65c_set_bcc79 11 = .ok (.invokevirtual 123, 3) := by decide +kernel
theorem dJx4a65c_set_bcc79_14 : decode cJx4a65c_set_bcc79 14 = .ok (.astore_n 3, 1) := by decide +kernel
theorem dJx4a65c_set_bcc79_15 : decode cJx4a65c_set_bcc79 15 = .ok (.aload_n 0, 1) := by decide +kernel
theorem dJx4a65c_set_bcc79_16 : decode cJx4a65c_set_bcc79 16 = .ok (.getfield 9, 3) := by decide +kernel
theorem dJx4a65c_set_bcc79_19 : decode cJx4a65c_set_bcc79 19 = .ok (.iload_n 1, 1) := by decide +kernel
theorem dJx4a65c_set_bcc79_20 : decode cJx4a65c_set_bcc79 20 = .ok (.aload_n 2, 1) := by decide +kernel
theorem dJx4a65c_set_bcc79_21 : decode cJx4a65c_set_bcc79 21 = .ok (.aastore, 1) := by decide +kernel
theorem dJx4a65c_set_bcc79_22 : decode cJx4a65c_set_bcc79 22 = .ok (.aload_n 3, 1) := by decide +kernel
theorem dJx4a65c_set_bcc79_23 : decode cJx4a65c_set_bcc79 23 = .ok (.areturn, 1) := by decide +kernel
theorem dJx4a65c_add_72be8_0 : decode cJx4a65c_add_72be8 0 = .ok (.iload_n 3, 1) := by decide +kernel
theorem dJx4a65c_add_72be8_1 : decode cJx4a65c_add_72be8 1 = .ok (.aload_n 2, 1) := by decide +kernel
theorem dJx4a65c_add_72be8_2 : decode cJx4a65c_add_72be8 2 = .ok (.arraylength, 1) := by decide +kernel
theorem dJx4a65c_add_72be8_3 : decode cJx4a65c_add_72be8 3 = .ok (.if_icmp .ne 8, 3) := by decide +kernel
theorem dJx4a65c_add_72be8_6 : decode cJx4a65c_add_72be8 6 = .ok (.aload_n 0, 1) := by decide +kernel
theorem dJx4a65c_add_72be8_7 : decode cJx4a65c_add_72be8 7 = .ok (.invokevirtual 129, 3) := by decide +kernel
theorem dJx4a65c_add_72be8_10 : decode cJx4a65c_add_72be8 10 = .ok (.astore_n 2, 1) := by decide +kernel
theorem dJx4a65c_add_72be8_11 : decode cJx4a65c_add_72be8 11 = .ok (.aload_n 2, 1) := by decide +kernel
theorem dJx4a65c_add_72be8_12 : decode cJx4a65c_add_72be8 12 = .ok (.iload_n 3, 1) := by decide +kernel
theorem dJx4a65c_add_72be8_13 : decode cJx4a65c_add_72be8 13 = .ok (.aload_n 1, 1) := by decide +kernel
theorem dJx4a65c_add_72be8_14 : decode cJx4a65c_add_72be8 14 = .ok (.aastore, 1) := by decide +kernel
theorem dJx4a65c_add_72be8_15 : decode cJx4a65c_add_72be8 15 = .ok (.aload_n 0, 1) := by decide +kernel
theorem dJx4a65c_add_72be8_16 : decode cJx4a65c_add_72be8 16 = .ok (.iload_n 3, 1) := by decide +kernel
theorem dJx4a65c_add_72be8_17 : decode cJx4a65c_add_72be8 17 = .ok (.iconst 1, 1) := by decide +kernel
theorem dJx4a65c_add_72be8_18 : decode cJx4a65c_add_72be8 18 = .ok (.iadd, 1) := by decide +kernel
theorem dJx4a65c_add_72be8_19 : decode cJx4a65c_add_72be8 19 = .ok (.putfield 48, 3) := by decide +kernel
theorem dJx4a65c_add_72be8_22 : decode cJx4a65c_add_72be8 22 = .ok (.return_, 1) := by decide +kernel
theorem dJx4a65c_add_9ea2d_0 : decode cJx4a65c_add_9ea2d 0 = .ok (.aload_n 0, 1) := by decide +kernel
theorem dJx4a65c_add_9ea2d_1 : decode cJx4a65c_add_9ea2d 1 = .ok (.dup, 1) := by decide +kernel
theorem dJx4a65c_add_9ea2d_2 : decode cJx4a65c_add_9ea2d 2 = .ok (.getfield 63, 3) := by decide +kernel
theorem dJx4a65c_add_9ea2d_5 : decode cJx4a65c_add_9ea2d 5 = .ok (.iconst 1, 1) := by decide +kernel
theorem dJx4a65c_add_9ea2d_6 : decode cJx4a65c_add_9ea2d 6 = .ok (.iadd, 1) := by decide +kernel
theorem dJx4a65c_add_9ea2d_7 : decode cJx4a65c_add_9ea2d 7 = .ok (.putfield 63, 3) := by decide +kernel
theorem dJx4a65c_add_9ea2d_10 : decode cJx4a65c_add_9ea2d 10 = .ok (.aload_n 0, 1) := by decide +kernel
theorem dJx4a65c_add_9ea2d_11 : decode cJx4a65c_add_9ea2d 11 = .ok (.aload_n 1, 1) := by decide +kernel
theorem dJx4a65c_add_9ea2d_12 : decode cJx4a65c_add_9ea2d 12 = .ok (.aload_n 0, 1) := by decide +kernel
theorem dJx4a65c_add_9ea2d_13 : decode cJx4a65c_add_9ea2d 13 = .ok (.getfield 9, 3) := by decide +kernel
theorem dJx4a65c_add_9ea2d_16 : decode cJx4a65c_add_9ea2d 16 = .ok (.aload_n 0, 1) := by decide +kernel
theorem dJx4a65c_add_9ea2d_17 : decode cJx4a65c_add_9ea2d 17 = .ok (.getfield 48, 3) := by decide +kernel
theorem dJx4a65c_add_9ea2d_20 : decode cJx4a65c_add_9ea2d 20 = .ok (.invokevirtual 131, 3) := by decide +kernel
theorem dJx4a65c_add_9ea2d_23 : decode cJx4a65c_add_9ea2d 23 = .ok (.iconst 1, 1) := by decide +kernel
theorem dJx4a65c_add_9ea2d_24 : decode cJx4a65c_add_9ea2d 24 = .ok (.ireturn, 1) := by decide +kernel
theorem dJx4a65c_clear_da8c8_0 : decode cJx4a65c_clear_da8c8 0 = .ok (.aload_n 0, 1) := by decide +kernel
theorem dJx4a65c_clear_da8c8_1 : decode cJx4a65c_clear_da8c8 1 = .ok (.dup, 1) := by decide +kernel
theorem dJx4a65c_clear_da8c8_2 : decode cJx4a65c_clear_da8c8 2 = .ok (.getfield 63, 3) := by decide +kernel
theorem dJx4a65c_clear_da8c8_5 : decode cJx4a65c_clear_da8c8 5 = .ok (.iconst 1, 1) := by decide +kernel
theorem dJx4a65c_clear_da8c8_6 : decode cJx4a65c_clear_da8c8 6 = .ok (.iadd, 1) := by decide +kernel
theorem dJx4a65c_clear_da8c8_7 : decode cJx4a65c_clear_da8c8 7 = .ok (.putfield 63, 3) := by decide +kernel
theorem dJx4a65c_clear_da8c8_10 : decode cJx4a65c_clear_da8c8 10 = .ok (.aload_n 0, 1) := by decide +kernel
theorem dJx4a65c_clear_da8c8_11 : decode cJx4a65c_clear_da8c8 11 = .ok (.getfield 9, 3) := by decide +kernel
theorem dJx4a65c_clear_da8c8_14 : decode cJx4a65c_clear_da8c8 14 = .ok (.astore_n 1, 1) := by decide +kernel
theorem dJx4a65c_clear_da8c8_15 : decode cJx4a65c_clear_da8c8 15 = .ok (.aload_n 0, 1) := by decide +kernel
theorem dJx4a65c_clear_da8c8_16 : decode cJx4a65c_clear_da8c8 16 = .ok (.getfield 48, 3) := by decide +kernel
theorem dJx4a65c_clear_da8c8_19 : decode cJx4a65c_clear_da8c8 19 = .ok (.istore_n 2, 1) := by decide +kernel
theorem dJx4a65c_clear_da8c8_20 : decode cJx4a65c_clear_da8c8 20 = .ok (.aload_n 0, 1) := by decide +kernel
theorem dJx4a65c_clear_da8c8_21 : decode cJx4a65c_clear_da8c8 21 = .ok (.iconst 0, 1) := by decide +kernel
theorem dJx4a65c_clear_da8c8_22 : decode cJx4a65c_clear_da8c8 22 = .ok (.dup_x1, 1) := by decide +kernel
theorem dJx4a65c_clear_da8c8_23 : decode cJx4a65c_clear_da8c8 23 = .ok (.putfield 48, 3) := by decide +kernel
theorem dJx4a65c_clear_da8c8_26 : decode cJx4a65c_clear_da8c8 26 = .ok (.istore_n 3, 1) := by decide +kernel
theorem dJx4a65c_clear_da8c8_27 : decode cJx4a65c_clear_da8c8 27 = .ok (.iload_n 3, 1) := by decide +kernel
theorem dJx4a65c_clear_da8c8_28 : decode cJx4a65c_clear_da8c8 28 = .ok (.iload_n 2, 1) := by decide +kernel
theorem dJx4a65c_clear_da8c8_29 : decode cJx4a65c_clear_da8c8 29 = .ok (.if_icmp .ge 13, 3) := by decide +kernel
theorem dJx4a65c_clear_da8c8_32 : decode cJx4a65c_clear_da8c8 32 = .ok (.aload_n 1, 1) := by decide +kernel
theorem dJx4a65c_clear_da8c8_33 : decode cJx4a65c_clear_da8c8 33 = .ok (.iload_n 3, 1) := by decide +kernel
theorem dJx4a65c_clear_da8c8_34 : decode cJx4a65c_clear_da8c8 34 = .ok (.aconst_null, 1) := by decide +kernel
theorem dJx4a65c_clear_da8c8_35 : decode cJx4a65c_clear_da8c8 35 = .ok (.aastore, 1) := by decide +kernel
theorem dJx4a65c_clear_da8c8_36 : decode cJx4a65c_clear_da8c8 36 = .ok (.iinc 3 1, 3) := by decide +kernel
theorem dJx4a65c_clear_da8c8_39 : decode cJx4a65c_clear_da8c8 39 = .ok (.goto (-12), 3) := by decide +kernel
theorem dJx4a65c_clear_da8c8_42 : decode cJx4a65c_clear_da8c8 42 = .ok (.return_, 1) := by decide +kernel
theorem dJx4a65c_iterator_32c93_0 : decode cJx4a65c_iterator_32c93 0 = .ok (.new 267, 3) := by decide +kernel
theorem dJx4a65c_iterator_32c93_3 : decode cJx4a65c_iterator_32c93 3 = .ok (.dup, 1) := by decide +kernel
theorem dJx4a65c_iterator_32c93_4 : decode cJx4a65c_iterator_32c93 4 = .ok (.aload_n 0, 1) := by decide +kernel
theorem dJx4a65c_iterator_32c93_5 : decode cJx4a65c_iterator_32c93 5 = .ok (.invokespecial 269, 3) := by decide +kernel
theorem dJx4a65c_iterator_32c93_8 : decode cJx4a65c_iterator_32c93 8 = .ok (.areturn, 1) := by decide +kernel
theorem dJ7_copyOf_1904c_0 : decode cJ7_copyOf_1904c 0 = .ok (.aload_n 0, 1) := by decide +kernel
theorem dJ7_copyOf_1904c_1 : decode cJ7_copyOf_1904c 1 = .ok (.iload_n 1, 1) := by decide +kernel
theorem dJ7_copyOf_1904c_2 : decode cJ7_copyOf_1904c 2 = .ok (.aload_n 0, 1) := by decide +kernel
theorem dJ7_copyOf_1904c_3 : decode cJ7_copyOf_1904c 3 = .ok (.invokevirtual 86, 3) := by decide +kernel
theorem dJ7_copyOf_1904c_6 : decode cJ7_copyOf_1904c 6 = .ok (.invokestatic 300, 3) := by decide +kernel
theorem dJ7_copyOf_1904c_9 : decode cJ7_copyOf_1904c 9 = .ok (.areturn, 1) := by decide +kernel
theorem dJ7_copyOf_6403c_0 : decode cJ7_copyOf_6403c 0 = .ok (.aload_n 2, 1) := by decide +kernel
theorem dJ7_copyOf_6403c_1 : decode cJ7_copyOf_6403c 1 = .ok (.ldc 110, 2) := by decide +kernel
theorem dJ7_copyOf_6403c_3 : decode cJ7_copyOf_6403c 3 = .ok (.if_acmp .ne 10, 3) := by decide +kernel
theorem dJ7_copyOf_6403c_6 : decode cJ7_copyOf_6403c 6 = .ok (.iload_n 1, 1) := by decide +kernel
theorem dJ7_copyOf_6403c_7 : decode cJ7_copyOf_6403c 7 = .ok (.anewarray 2, 3) := by decide +kernel
theorem dJ7_copyOf_6403c_10 : decode cJ7_copyOf_6403c 10 = .ok (.goto 14, 3) := by decide +kernel
theorem dJ7_copyOf_6403c_13 : decode cJ7_copyOf_6403c 13 = .ok (.aload_n 2, 1) := by decide +kernel
theorem dJ7_copyOf_6403c_14 : decode cJ7_copyOf_6403c 14 = .ok (.invokevirtual 90, 3) := by decide +kernel
theorem dJ7_copyOf_6403c_17 : decode cJ7_copyOf_6403c 17 = .ok (.iload_n 1, 1) := by decide +kernel
theorem dJ7_copyOf_6403c_18 : decode cJ7_copyOf_6403c 18 = .ok (.invokestatic 95, 3) := by decide +kernel
theorem dJ7_copyOf_6403c_21 : decode cJ7_copyOf_6403c 21 = .ok (.checkcast 110, 3) := by decide +kernel
theorem dJ7_copyOf_6403c_24 : decode cJ7_copyOf_6403c 24 = .ok (.astore_n 3, 1) := by decide +kernel
theorem dJ7_copyOf_6403c_25 : decode cJ7_copyOf_6403c 25 = .ok (.aload_n 0, 1) := by decide +kernel
theorem dJ7_copyOf_6403c_26 : decode cJ7_copyOf_6403c 26 = .ok (.iconst 0, 1) := by decide +kernel
theorem dJ7_copyOf_6403c_27 : decode cJ7_copyOf_6403c 27 = .ok (.aload_n 3, 1) := by decide +kernel
theorem dJ7_copyOf_6403c_28 : decode cJ7_copyOf_6403c 28 = .ok (.iconst 0, 1) := by decide +kernel
theorem dJ7_copyOf_6403c_29 : decode cJ7_copyOf_6403c 29 = .ok (.aload_n 0, 1) := by decide +kernel
theorem dJ7_copyOf_6403c_30 : decode cJ7_copyOf_6403c 30 = .ok (.arraylength, 1) := by decide +kernel
theorem dJ7_copyOf_6403c_31 : decode cJ7_copyOf_6403c 31 = .ok (.iload_n 1, 1) := by decide +kernel
theorem dJ7_copyOf_6403c_32 : decode cJ7_copyOf_6403c 32 = .ok (.invokestatic 304, 3) := by decide +kernel
theorem dJ7_copyOf_6403c_35 : decode cJ7_copyOf_6403c 35 = .ok (.invokestatic 150, 3) := by decide +kernel
theorem dJ7_copyOf_6403c_38 : decode cJ7_copyOf_6403c 38 = .ok (.aload_n 3, 1) := by decide +kernel
theorem dJ7_copyOf_6403c_39 : decode cJ7_copyOf_6403c 39 = .ok (.areturn, 1) := by decide +kernel
theorem dJ15_checkIndex_7cf53_0 : decode cJ15_checkIndex_7cf53 0 = .ok (.iload_n 0, 1) := by decide +kernel
theorem dJ15_checkIndex_7cf53_1 : decode cJ15_checkIndex_7cf53 1 = .ok (.iload_n 1, 1) := by decide +kernel
theorem dJ15_checkIndex_7cf53_2 : decode cJ15_checkIndex_7cf53 2 = .ok (.aconst_null, 1) := by decide +kernel
theorem dJ15_checkIndex_7cf53_3 : decode cJ15_checkIndex_7cf53 3 = .ok (.invokestatic 105, 3) := by decide +kernel
theorem dJ15_checkIndex_7cf53_6 : decode cJ15_checkIndex_7cf53 6 = .ok (.ireturn, 1) := by decide +kernel
theorem dJ8_newLength_cabcc_0 : decode cJ8_newLength_cabcc 0 = .ok (.iload_n 0, 1) := by decide +kernel
theorem dJ8_newLength_cabcc_1 : decode cJ8_newLength_cabcc 1 = .ok (.iload_n 1, 1) := by decide +kernel
theorem dJ8_newLength_cabcc_2 : decode cJ8_newLength_cabcc 2 = .ok (.iload_n 2, 1) := by decide +kernel
theorem dJ8_newLength_cabcc_3 : decode cJ8_newLength_cabcc 3 = .ok (.invokestatic 194, 3) := by decide +kernel
theorem dJ8_newLength_cabcc_6 : decode cJ8_newLength_cabcc 6 = .ok (.iadd, 1) := by decide +kernel
theorem dJ8_newLength_cabcc_7 : decode cJ8_newLength_cabcc 7 = .ok (.istore_n 3, 1) := by decide +kernel
theorem dJ8_newLength_cabcc_8 : decode cJ8_newLength_cabcc 8 = .ok (.iconst 0, 1) := by decide +kernel
theorem dJ8_newLength_cabcc_9 : decode cJ8_newLength_cabcc 9 = .ok (.iload_n 3, 1) := by decide +kernel
theorem dJ8_newLength_cabcc_10 : decode cJ8_newLength_cabcc 10 = .ok (.if_icmp .ge 11, 3) := by decide +kernel
theorem dJ8_newLength_cabcc_13 : decode cJ8_newLength_cabcc 13 = .ok (.iload_n 3, 1) := by decide +kernel
theorem dJ8_newLength_cabcc_14 : decode cJ8_newLength_cabcc 14 = .ok (.ldc 200, 2) := by decide +kernel
theorem dJ8_newLength_cabcc_16 : decode cJ8_newLength_cabcc 16 = .ok (.if_icmp .gt 5, 3) := by decide +kernel
theorem dJ8_newLength_cabcc_19 : decode cJ8_newLength_cabcc 19 = .ok (.iload_n 3, 1) := by decide +kernel
theorem dJ8_newLength_cabcc_20 : decode cJ8_newLength_cabcc 20 = .ok (.ireturn, 1) := by decide +kernel
theorem dJ8_newLength_cabcc_21 : decode cJ8_newLength_cabcc 21 = .ok (.iload_n 0, 1) := by decide +kernel
theorem dJ8_newLength_cabcc_22 : decode cJ8_newLength_cabcc 22 = .ok (.iload_n 1, 1) := by decide +kernel
theorem dJ8_newLength_cabcc_23 : decode cJ8_newLength_cabcc 23 = .ok (.invokestatic 201, 3) := by decide +kernel
theorem dJ8_newLength_cabcc_26 : decode cJ8_newLength_cabcc 26 = .ok (.ireturn, 1) := by decide +kernel
theorem dJ8_hugeLength_7cf53_0 : decode cJ8_hugeLength_7cf53 0 = .ok (.iload_n 0, 1) := by decide +kernel
theorem dJ8_hugeLength_7cf53_1 : decode cJ8_hugeLength_7cf53 1 = .ok (.iload_n 1, 1) := by decide +kernel
theorem dJ8_hugeLength_7cf53_2 : decode cJ8_hugeLength_7cf53 2 = .ok (.iadd, 1) := by decide +kernel
theorem dJ8_hugeLength_7cf53_3 : decode cJ8_hugeLength_7cf53 3 = .ok (.istore_n 2, 1) := by decide +kernel
theorem dJ8_hugeLength_7cf53_4 : decode cJ8_hugeLength_7cf53 4 = .ok (.iload_n 2, 1) := by decide +kernel
theorem dJ8_hugeLength_7cf53_5 : decode cJ8_hugeLength_7cf53 5 = .ok (.ifCond .ge 44, 3) := by decide +kernel
theorem dJ8_hugeLength_7cf53_8 : decode cJ8_hugeLength_7cf53 8 = .ok (.new 204, 3) := by decide +kernel
theorem dJ8_hugeLength_7cf53_11 : decode cJ8_hugeLength_7cf53 11 = .ok (.dup, 1) := by decide +kernel
theorem dJ8_hugeLength_7cf53_12 : decode cJ8_hugeLength_7cf53 12 = .ok (.new 89, 3) := by decide +kernel
theorem dJ8_hugeLength_7cf53_15 : decode cJ8_hugeLength_7cf53 15 = .ok (.dup, 1) := by decide +kernel
theorem dJ8_hugeLength_7cf53_16 : decode cJ8_hugeLength_7cf53 16 = .ok (.invokespecial 91, 3) := by decide +kernel
theorem dJ8_hugeLength_7cf53_19 : decode cJ8_hugeLength_7cf53 19 = .ok (.ldc 206, 2) := by decide +kernel
theorem dJ8_hugeLength_7cf53_21 : decode cJ8_hugeLength_7cf53 21 = .ok (.invokevirtual 94, 3) := by decide +kernel
theorem dJ8_hugeLength_7cf53_24 : decode cJ8_hugeLength_7cf53 24 = .ok (.iload_n 0, 1) := by decide +kernel
theorem dJ8_hugeLength_7cf53_25 : decode cJ8_hugeLength_7cf53 25 = .ok (.invokevirtual 98, 3) := by decide +kernel
theorem dJ8_hugeLength_7cf53_28 : decode cJ8_hugeLength_7cf53 28 = .ok (.ldc 208, 2) := by decide +kernel
theorem dJ8_hugeLength_7cf53_30 : decode cJ8_hugeLength_7cf53 30 = .ok (.invokevirtual 94, 3) := by decide +kernel
theorem dJ8_hugeLength_7cf53_33 : decode cJ8_hugeLength_7cf53 33 = .ok (.iload_n 1, 1) := by decide +kernel
theorem dJ8_hugeLength_7cf53_34 : decode cJ8_hugeLength_7cf53 34 = .ok (.invokevirtual 98, 3) := by decide +kernel
theorem dJ8_hugeLength_7cf53_37 : decode cJ8_hugeLength_7cf53 37 = .ok (.ldc 210, 2) := by decide +kernel
theorem dJ8_hugeLength_7cf53_39 : decode cJ8_hugeLength_7cf53 39 = .ok (.invokevirtual 94, 3) := by decide +kernel
theorem dJ8_hugeLength_7cf53_42 : decode cJ8_hugeLength_7cf53 42 = .ok (.invokevirtual 101, 3) := by decide +kernel
theorem dJ8_hugeLength_7cf53_45 : decode cJ8_hugeLength_7cf53 45 = .ok (.invokespecial 212, 3) := by decide +kernel
theorem dJ8_hugeLength_7cf53_48 : decode cJ8_hugeLength_7cf53 48 = .ok (.athrow, 1) := by decide +kernel
theorem dJ8_hugeLength_7cf53_49 : decode cJ8_hugeLength_7cf53 49 = .ok (.iload_n 2, 1) := by decide +kernel
theorem dJ8_hugeLength_7cf53_50 : decode cJ8_hugeLength_7cf53 50 = .ok (.ldc 200, 2) := by decide +kernel
theorem dJ8_hugeLength_7cf53_52 : decode cJ8_hugeLength_7cf53 52 = .ok (.if_icmp .gt 6, 3) := by decide +kernel
theorem dJ8_hugeLength_7cf53_55 : decode cJ8_hugeLength_7cf53 55 = .ok (.ldc 200, 2) := by decide +kernel
theorem dJ8_hugeLength_7cf53_57 : decode cJ8_hugeLength_7cf53 57 = .ok (.ireturn, 1) := by decide +kernel
theorem dJ8_hugeLength_7cf53_58 : decode cJ8_hugeLength_7cf53 58 = .ok (.iload_n 2, 1) := by decide +kernel
theorem dJ8_hugeLength_7cf53_59 : decode cJ8_hugeLength_7cf53 59 = .ok (.ireturn, 1) := by decide +kernel
theorem dJ3_checkIndex_8e157_0 : decode cJ3_checkIndex_8e157 0 = .ok (.iload_n 0, 1) := by decide +kernel
theorem dJ3_checkIndex_8e157_1 : decode cJ3_checkIndex_8e157 1 = .ok (.ifCond .lt 8, 3) := by decide +kernel
theorem dJ3_checkIndex_8e157_4 : decode cJ3_checkIndex_8e157 4 = .ok (.iload_n 0, 1) := by decide +kernel
theorem dJ3_checkIndex_8e157_5 : decode cJ3_checkIndex_8e157 5 = .ok (.iload_n 1, 1) := by decide +kernel
theorem dJ3_checkIndex_8e157_6 : decode cJ3_checkIndex_8e157 6 = .ok (.if_icmp .lt 10, 3) := by decide +kernel
theorem dJ3_checkIndex_8e157_9 : decode cJ3_checkIndex_8e157 9 = .ok (.aload_n 2, 1) := by decide +kernel
theorem dJ3_checkIndex_8e157_10 : decode cJ3_checkIndex_8e157 10 = .ok (.iload_n 0, 1) := by decide +kernel
theorem dJ3_checkIndex_8e157_11 : decode cJ3_checkIndex_8e157 11 = .ok (.iload_n 1, 1) := by decide +kernel
theorem dJ3_checkIndex_8e157_12 : decode cJ3_checkIndex_8e157 12 = .ok (.invokestatic 95, 3) := by decide +kernel
theorem dJ3_checkIndex_8e157_15 : decode cJ3_checkIndex_8e157 15 = .ok (.athrow, 1) := by decide +kernel
theorem dJ3_checkIndex_8e157_16 : decode cJ3_checkIndex_8e157 16 = .ok (.iload_n 0, 1) := by decide +kernel
theorem dJ3_checkIndex_8e157_17 : decode cJ3_checkIndex_8e157 17 = .ok (.ireturn, 1) := by decide +kernel
theorem dL_letter_0 : decode cL_letter 0 = .ok (.aload 5, 2) := by decide +kernel
theorem dL_letter_2 : decode cL_letter 2 = .ok (.iconst 0, 1) := by decide +kernel
theorem dL_letter_3 : decode cL_letter 3 = .ok (.aload_n 0, 1) := by decide +kernel
theorem dL_letter_4 : decode cL_letter 4 = .ok (.iload_n 1, 1) := by decide +kernel
theorem dL_letter_5 : decode cL_letter 5 = .ok (.iload_n 2, 1) := by decide +kernel
theorem dL_letter_6 : decode cL_letter 6 = .ok (.iload_n 3, 1) := by decide +kernel
theorem dL_letter_7 : decode cL_letter 7 = .ok (.iload 4, 2) := by decide +kernel
theorem dL_letter_9 : decode cL_letter 9 = .ok (.invokevirtual 7, 3) := by decide +kernel
theorem dL_letter_12 : decode cL_letter 12 = .ok (.i2l, 1) := by decide +kernel
theorem dL_letter_13 : decode cL_letter 13 = .ok (.lastore, 1) := by decide +kernel
theorem dL_letter_14 : decode cL_letter 14 = .ok (.goto 11, 3) := by decide +kernel
theorem dL_letter_17 : decode cL_letter 17 = .ok (.astore 6, 2) := by decide +kernel
theorem dL_letter_19 : decode cL_letter 19 = .ok (.iconst 1, 1) := by decide +kernel
theorem dL_letter_20 : decode cL_letter 20 = .ok (.ireturn, 1) := by decide +kernel
theorem dL_letter_21 : decode cL_letter 21 = .ok (.astore 6, 2) := by decide +kernel
theorem dL_letter_23 : decode cL_letter 23 = .ok (.iconst 2, 1) := by decide +kernel
theorem dL_letter_24 : decode cL_letter 24 = .ok (.ireturn, 1) := by decide +kernel
theorem dL_letter_25 : decode cL_letter 25 = .ok (.iconst 0, 1) := by decide +kernel
theorem dL_letter_26 : decode cL_letter 26 = .ok (.ireturn, 1) := by decide +kernel
theorem dL_times_0 : decode cL_times 0 = .ok (.aload 4, 2) := by decide +kernel
theorem dL_times_2 : decode cL_times 2 = .ok (.iconst 0, 1) := by decide +kernel
theorem dL_times_3 : decode cL_times 3 = .ok (.aload_n 0, 1) := by decide +kernel
theorem dL_times_4 : decode cL_times 4 = .ok (.iload_n 1, 1) := by decide +kernel
theorem dL_times_5 : decode cL_times 5 = .ok (.iload_n 2, 1) := by decide +kernel
theorem dL_times_6 : decode cL_times 6 = .ok (.iload_n 3, 1) := by decide +kernel
theorem dL_times_7 : decode cL_times 7 = .ok (.invokevirtual 17, 3) := by decide +kernel
theorem dL_times_10 : decode cL_times 10 = .ok (.i2l, 1) := by decide +kernel
theorem dL_times_11 : decode cL_times 11 = .ok (.lastore, 1) := by decide +kernel
theorem dL_times_12 : decode cL_times 12 = .ok (.goto 11, 3) := by decide +kernel
theorem dL_times_15 : decode cL_times 15 = .ok (.astore 5, 2) := by decide +kernel
theorem dL_times_17 : decode cL_times 17 = .ok (.iconst 1, 1) := by decide +kernel
theorem dL_times_18 : decode cL_times 18 = .ok (.ireturn, 1) := by decide +kernel
theorem dL_times_19 : decode cL_times 19 = .ok (.astore 5, 2) := by decide +kernel
theorem dL_times_21 : decode cL_times 21 = .ok (.iconst 2, 1) := by decide +kernel
theorem dL_times_22 : decode cL_times 22 = .ok (.ireturn, 1) := by decide +kernel
theorem dL_times_23 : decode cL_times 23 = .ok (.iconst 0, 1) := by decide +kernel
theorem dL_times_24 : decode cL_times 24 = .ok (.ireturn, 1) := by decide +kernel
theorem dL_master_0 : decode cL_master 0 = .ok (.aload 4, 2) := by decide +kernel
theorem dL_master_2 : decode cL_master 2 = .ok (.iconst 0, 1) := by decide +kernel
theorem dL_master_3 : decode cL_master 3 = .ok (.aload_n 0, 1) := by decide +kernel
theorem dL_master_4 : decode cL_master 4 = .ok (.iload_n 1, 1) := by decide +kernel
theorem dL_master_5 : decode cL_master 5 = .ok (.iload_n 2, 1) := by decide +kernel
theorem dL_master_6 : decode cL_master 6 = .ok (.iload_n 3, 1) := by decide +kernel
theorem dL_master_7 : decode cL_master 7 = .ok (.invokevirtual 23, 3) := by decide +kernel
theorem dL_master_10 : decode cL_master 10 = .ok (.i2l, 1) := by decide +kernel
theorem dL_master_11 : decode cL_master 11 = .ok (.lastore, 1) := by decide +kernel
theorem dL_master_12 : decode cL_master 12 = .ok (.goto 11, 3) := by decide +kernel
theorem dL_master_15 : decode cL_master 15 = .ok (.astore 5, 2) := by decide +kernel
theorem dL_master_17 : decode cL_master 17 = .ok (.iconst 1, 1) := by decide +kernel
theorem dL_master_18 : decode cL_master 18 = .ok (.ireturn, 1) := by decide +kernel
theorem dL_master_19 : decode cL_master 19 = .ok (.astore 5, 2) := by decide +kernel
theorem dL_master_21 : decode cL_master 21 = .ok (.iconst 2, 1) := by decide +kernel
theorem dL_master_22 : decode cL_master 22 = .ok (.ireturn, 1) := by decide +kernel
theorem dL_master_23 : decode cL_master 23 = .ok (.iconst 0, 1) := by decide +kernel
theorem dL_master_24 : decode cL_master 24 = .ok (.ireturn, 1) := by decide +kernel
theorem dL_good_0 : decode cL_good 0 = .ok (.aload 4, 2) := by decide +kernel
theorem dL_good_2 : decode cL_good 2 = .ok (.iconst 0, 1) := by decide +kernel
theorem dL_good_3 : decode cL_good 3 = .ok (.aload_n 0, 1) := by decide +kernel
theorem dL_good_4 : decode cL_good 4 = .ok (.iload_n 1, 1) := by decide +kernel
theorem dL_good_5 : decode cL_good 5 = .ok (.iload_n 2, 1) := by decide +kernel
theorem dL_good_6 : decode cL_good 6 = .ok (.iload_n 3, 1) := by decide +kernel
theorem dL_good_7 : decode cL_good 7 = .ok (.invokevirtual 27, 3) := by decide +kernel
theorem dL_good_10 : decode cL_good 10 = .ok (.i2l, 1) := by decide +kernel
theorem dL_good_11 : decode cL_good 11 = .ok (.lastore, 1) := by decide +kernel
theorem dL_good_12 : decode cL_good 12 = .ok (.goto 11, 3) := by decide +kernel
theorem dL_good_15 : decode cL_good 15 = .ok (.astore 5, 2) := by decide +kernel
theorem dL_good_17 : decode cL_good 17 = .ok (.iconst 1, 1) := by decide +kernel
theorem dL_good_18 : decode cL_good 18 = .ok (.ireturn, 1) := by decide +kernel
theorem dL_good_19 : decode cL_good 19 = .ok (.astore 5, 2) := by decide +kernel
theorem dL_good_21 : decode cL_good 21 = .ok (.iconst 2, 1) := by decide +kernel
theorem dL_good_22 : decode cL_good 22 = .ok (.ireturn, 1) := by decide +kernel
theorem dL_good_23 : decode cL_good 23 = .ok (.iconst 0, 1) := by decide +kernel
theorem dL_good_24 : decode cL_good 24 = .ok (.ireturn, 1) := by decide +kernel
theorem dL_sign_0 : decode cL_sign 0 = .ok (.aload_n 3, 1) := by decide +kernel
theorem dL_sign_1 : decode cL_sign 1 = .ok (.iconst 0, 1) := by decide +kernel
theorem dL_sign_2 : decode cL_sign 2 = .ok (.aload_n 0, 1) := by decide +kernel
theorem dL_sign_3 : decode cL_sign 3 = .ok (.iload_n 1, 1) := by decide +kernel
theorem dL_sign_4 : decode cL_sign 4 = .ok (.iload_n 2, 1) := by decide +kernel
theorem dL_sign_5 : decode cL_sign 5 = .ok (.invokevirtual 30, 3) := by decide +kernel
theorem dL_sign_8 : decode cL_sign 8 = .ok (.i2l, 1) := by decide +kernel
theorem dL_sign_9 : decode cL_sign 9 = .ok (.lastore, 1) := by decide +kernel
theorem dL_sign_10 : decode cL_sign 10 = .ok (.goto 11, 3) := by decide +kernel
theorem dL_sign_13 : decode cL_sign 13 = .ok (.astore 4, 2) := by decide +kernel
theorem dL_sign_15 : decode cL_sign 15 = .ok (.iconst 1, 1) := by decide +kernel
theorem dL_sign_16 : decode cL_sign 16 = .ok (.ireturn, 1) := by decide +kernel
theorem dL_sign_17 : decode cL_sign 17 = .ok (.astore 4, 2) := by decide +kernel
theorem dL_sign_19 : decode cL_sign 19 = .ok (.iconst 2, 1) := by decide +kernel
theorem dL_sign_20 : decode cL_sign 20 = .ok (.ireturn, 1) := by decide +kernel
theorem dL_sign_21 : decode cL_sign 21 = .ok (.iconst 0, 1) := by decide +kernel
theorem dL_sign_22 : decode cL_sign 22 = .ok (.ireturn, 1) := by decide +kernel
theorem dL_anchor_0 : decode cL_anchor 0 = .ok (.aload_n 3, 1) := by decide +kernel
theorem dL_anchor_1 : decode cL_anchor 1 = .ok (.iconst 0, 1) := by decide +kernel
theorem dL_anchor_2 : decode cL_anchor 2 = .ok (.aload_n 0, 1) := by decide +kernel
theorem dL_anchor_3 : decode cL_anchor 3 = .ok (.iload_n 1, 1) := by decide +kernel
theorem dL_anchor_4 : decode cL_anchor 4 = .ok (.iload_n 2, 1) := by decide +kernel
theorem dL_anchor_5 : decode cL_anchor 5 = .ok (.invokevirtual 34, 3) := by decide +kernel
theorem dL_anchor_8 : decode cL_anchor 8 = .ok (.i2l, 1) := by decide +kernel
theorem dL_anchor_9 : decode cL_anchor 9 = .ok (.lastore, 1) := by decide +kernel
theorem dL_anchor_10 : decode cL_anchor 10 = .ok (.goto 7, 3) := by decide +kernel
theorem dL_anchor_13 : decode cL_anchor 13 = .ok (.astore 4, 2) := by decide +kernel
theorem dL_anchor_15 : decode cL_anchor 15 = .ok (.iconst 1, 1) := by decide +kernel
theorem dL_anchor_16 : decode cL_anchor 16 = .ok (.ireturn, 1) := by decide +kernel
theorem dL_anchor_17 : decode cL_anchor 17 = .ok (.iconst 0, 1) := by decide +kernel
theorem dL_anchor_18 : decode cL_anchor 18 = .ok (.ireturn, 1) := by decide +kernel
theorem dL_list_0 : decode cL_list 0 = .ok (.aload 4, 2) := by decide +kernel
theorem dL_list_2 : decode cL_list 2 = .ok (.iconst 0, 1) := by decide +kernel
theorem dL_list_3 : decode cL_list 3 = .ok (.aload_n 0, 1) := by decide +kernel
theorem dL_list_4 : decode cL_list 4 = .ok (.iload_n 1, 1) := by decide +kernel
theorem dL_list_5 : decode cL_list 5 = .ok (.iload_n 2, 1) := by decide +kernel
theorem dL_list_6 : decode cL_list 6 = .ok (.iload_n 3, 1) := by decide +kernel
theorem dL_list_7 : decode cL_list 7 = .ok (.invokevirtual 38, 3) := by decide +kernel
theorem dL_list_10 : decode cL_list 10 = .ok (.i2l, 1) := by decide +kernel
theorem dL_list_11 : decode cL_list 11 = .ok (.lastore, 1) := by decide +kernel
theorem dL_list_12 : decode cL_list 12 = .ok (.goto 11, 3) := by decide +kernel
theorem dL_list_15 : decode cL_list 15 = .ok (.astore 5, 2) := by decide +kernel
theorem dL_list_17 : decode cL_list 17 = .ok (.iconst 1, 1) := by decide +kernel
theorem dL_list_18 : decode cL_list 18 = .ok (.ireturn, 1) := by decide +kernel
theorem dL_list_19 : decode cL_list 19 = .ok (.astore 5, 2) := by decide +kernel
theorem dL_list_21 : decode cL_list 21 = .ok (.iconst 2, 1) := by decide +kernel
theorem dL_list_22 : decode cL_list 22 = .ok (.ireturn, 1) := by decide +kernel
theorem dL_list_23 : decode cL_list 23 = .ok (.iconst 0, 1) := by decide +kernel
theorem dL_list_24 : decode cL_list 24 = .ok (.ireturn, 1) := by decide +kernel
theorem dL_call_0 : decode cL_call 0 = .ok (.aload_n 3, 1) := by decide +kernel
theorem dL_call_1 : decode cL_call 1 = .ok (.iconst 0, 1) := by decide +kernel
theorem dL_call_2 : decode cL_call 2 = .ok (.aload_n 0, 1) := by decide +kernel
theorem dL_call_3 : decode cL_call 3 = .ok (.iload_n 1, 1) := by decide +kernel
theorem dL_call_4 : decode cL_call 4 = .ok (.iload_n 2, 1) := by decide +kernel
theorem dL_call_5 : decode cL_call 5 = .ok (.invokevirtual 41, 3) := by decide +kernel
theorem dL_call_8 : decode cL_call 8 = .ok (.i2l, 1) := by decide +kernel
theorem dL_call_9 : decode cL_call 9 = .ok (.lastore, 1) := by decide +kernel
theorem dL_call_10 : decode cL_call 10 = .ok (.goto 11, 3) := by decide +kernel
theorem dL_call_13 : decode cL_call 13 = .ok (.astore 4, 2) := by decide +kernel
theorem dL_call_15 : decode cL_call 15 = .ok (.iconst 1, 1) := by decide +kernel
theorem dL_call_16 : decode cL_call 16 = .ok (.ireturn, 1) := by decide +kernel
theorem dL_call_17 : decode cL_call 17 = .ok (.astore 4, 2) := by decide +kernel
theorem dL_call_19 : decode cL_call 19 = .ok (.iconst 2, 1) := by decide +kernel
theorem dL_call_20 : decode cL_call 20 = .ok (.ireturn, 1) := by decide +kernel
theorem dL_call_21 : decode cL_call 21 = .ok (.iconst 0, 1) := by decide +kernel
theorem dL_call_22 : decode cL_call 22 = .ok (.ireturn, 1) := by decide +kernel
theorem dL_signList_0 : decode cL_signList 0 = .ok (.aload_n 3, 1) := by decide +kernel
theorem dL_signList_1 : decode cL_signList 1 = .ok (.iconst 0, 1) := by decide +kernel
theorem dL_signList_2 : decode cL_signList 2 = .ok (.aload_n 0, 1) := by decide +kernel
theorem dL_signList_3 : decode cL_signList 3 = .ok (.iload_n 1, 1) := by decide +kernel
theorem dL_signList_4 : decode cL_signList 4 = .ok (.iload_n 2, 1) := by decide +kernel
theorem dL_signList_5 : decode cL_signList 5 = .ok (.invokevirtual 44, 3) := by decide +kernel
theorem dL_signList_8 : decode cL_signList 8 = .ok (.i2l, 1) := by decide +kernel
theorem dL_signList_9 : decode cL_signList 9 = .ok (.lastore, 1) := by decide +kernel
theorem dL_signList_10 : decode cL_signList 10 = .ok (.goto 11, 3) := by decide +kernel
theorem dL_signList_13 : decode cL_signList 13 = .ok (.astore 4, 2) := by decide +kernel
theorem dL_signList_15 : decode cL_signList 15 = .ok (.iconst 1, 1) := by decide +kernel
theorem dL_signList_16 : decode cL_signList 16 = .ok (.ireturn, 1) := by decide +kernel
theorem dL_signList_17 : decode cL_signList 17 = .ok (.astore 4, 2) := by decide +kernel
theorem dL_signList_19 : decode cL_signList 19 = .ok (.iconst 2, 1) := by decide +kernel
theorem dL_signList_20 : decode cL_signList 20 = .ok (.ireturn, 1) := by decide +kernel
theorem dL_signList_21 : decode cL_signList 21 = .ok (.iconst 0, 1) := by decide +kernel
theorem dL_signList_22 : decode cL_signList 22 = .ok (.ireturn, 1) := by decide +kernel
theorem dL_many_0 : decode cL_many 0 = .ok (.aload_n 2, 1) := by decide +kernel
theorem dL_many_1 : decode cL_many 1 = .ok (.iconst 0, 1) := by decide +kernel
theorem dL_many_2 : decode cL_many 2 = .ok (.aload_n 0, 1) := by decide +kernel
theorem dL_many_3 : decode cL_many 3 = .ok (.iload_n 1, 1) := by decide +kernel
theorem dL_many_4 : decode cL_many 4 = .ok (.invokevirtual 47, 3) := by decide +kernel
theorem dL_many_7 : decode cL_many 7 = .ok (.i2l, 1) := by decide +kernel
theorem dL_many_8 : decode cL_many 8 = .ok (.lastore, 1) := by decide +kernel
theorem dL_many_9 : decode cL_many 9 = .ok (.goto 6, 3) := by decide +kernel
theorem dL_many_12 : decode cL_many 12 = .ok (.astore_n 3, 1) := by decide +kernel
theorem dL_many_13 : decode cL_many 13 = .ok (.iconst 1, 1) := by decide +kernel
theorem dL_many_14 : decode cL_many 14 = .ok (.ireturn, 1) := by decide +kernel
theorem dL_many_15 : decode cL_many 15 = .ok (.iconst 0, 1) := by decide +kernel
theorem dL_many_16 : decode cL_many 16 = .ok (.ireturn, 1) := by decide +kernel
theorem dL_ofLetter_0 : decode cL_ofLetter 0 = .ok (.aload_n 3, 1) := by decide +kernel
theorem dL_ofLetter_1 : decode cL_ofLetter 1 = .ok (.iconst 0, 1) := by decide +kernel
theorem dL_ofLetter_2 : decode cL_ofLetter 2 = .ok (.aload_n 0, 1) := by decide +kernel
theorem dL_ofLetter_3 : decode cL_ofLetter 3 = .ok (.iload_n 1, 1) := by decide +kernel
theorem dL_ofLetter_4 : decode cL_ofLetter 4 = .ok (.iload_n 2, 1) := by decide +kernel
theorem dL_ofLetter_5 : decode cL_ofLetter 5 = .ok (.invokevirtual 51, 3) := by decide +kernel
theorem dL_ofLetter_8 : decode cL_ofLetter 8 = .ok (.i2l, 1) := by decide +kernel
theorem dL_ofLetter_9 : decode cL_ofLetter 9 = .ok (.lastore, 1) := by decide +kernel
theorem dL_ofLetter_10 : decode cL_ofLetter 10 = .ok (.goto 11, 3) := by decide +kernel
theorem dL_ofLetter_13 : decode cL_ofLetter 13 = .ok (.astore 4, 2) := by decide +kernel
theorem dL_ofLetter_15 : decode cL_ofLetter 15 = .ok (.iconst 1, 1) := by decide +kernel
theorem dL_ofLetter_16 : decode cL_ofLetter 16 = .ok (.ireturn, 1) := by decide +kernel
theorem dL_ofLetter_17 : decode cL_ofLetter 17 = .ok (.astore 4, 2) := by decide +kernel
theorem dL_ofLetter_19 : decode cL_ofLetter 19 = .ok (.iconst 2, 1) := by decide +kernel
theorem dL_ofLetter_20 : decode cL_ofLetter 20 = .ok (.ireturn, 1) := by decide +kernel
theorem dL_ofLetter_21 : decode cL_ofLetter 21 = .ok (.iconst 0, 1) := by decide +kernel
theorem dL_ofLetter_22 : decode cL_ofLetter 22 = .ok (.ireturn, 1) := by decide +kernel
theorem dL_ofList_0 : decode cL_ofList 0 = .ok (.aload_n 3, 1) := by decide +kernel
theorem dL_ofList_1 : decode cL_ofList 1 = .ok (.iconst 0, 1) := by decide +kernel
theorem dL_ofList_2 : decode cL_ofList 2 = .ok (.aload_n 0, 1) := by decide +kernel
theorem dL_ofList_3 : decode cL_ofList 3 = .ok (.iload_n 1, 1) := by decide +kernel
theorem dL_ofList_4 : decode cL_ofList 4 = .ok (.iload_n 2, 1) := by decide +kernel
theorem dL_ofList_5 : decode cL_ofList 5 = .ok (.invokevirtual 54, 3) := by decide +kernel
theorem dL_ofList_8 : decode cL_ofList 8 = .ok (.i2l, 1) := by decide +kernel
theorem dL_ofList_9 : decode cL_ofList 9 = .ok (.lastore, 1) := by decide +kernel
theorem dL_ofList_10 : decode cL_ofList 10 = .ok (.goto 11, 3) := by decide +kernel
theorem dL_ofList_13 : decode cL_ofList 13 = .ok (.astore 4, 2) := by decide +kernel
theorem dL_ofList_15 : decode cL_ofList 15 = .ok (.iconst 1, 1) := by decide +kernel
theorem dL_ofList_16 : decode cL_ofList 16 = .ok (.ireturn, 1) := by decide +kernel
theorem dL_ofList_17 : decode cL_ofList 17 = .ok (.astore 4, 2) := by decide +kernel
theorem dL_ofList_19 : decode cL_ofList 19 = .ok (.iconst 2, 1) := by decide +kernel
theorem dL_ofList_20 : decode cL_ofList 20 = .ok (.ireturn, 1) := by decide +kernel
theorem dL_ofList_21 : decode cL_ofList 21 = .ok (.iconst 0, 1) := by decide +kernel
theorem dL_ofList_22 : decode cL_ofList 22 = .ok (.ireturn, 1) := by decide +kernel
theorem dL_signed_0 : decode cL_signed 0 = .ok (.aload_n 3, 1) := by decide +kernel
theorem dL_signed_1 : decode cL_signed 1 = .ok (.iconst 0, 1) := by decide +kernel
theorem dL_signed_2 : decode cL_signed 2 = .ok (.aload_n 0, 1) := by decide +kernel
theorem dL_signed_3 : decode cL_signed 3 = .ok (.iload_n 1, 1) := by decide +kernel
theorem dL_signed_4 : decode cL_signed 4 = .ok (.iload_n 2, 1) := by decide +kernel
theorem dL_signed_5 : decode cL_signed 5 = .ok (.invokevirtual 57, 3) := by decide +kernel
theorem dL_signed_8 : decode cL_signed 8 = .ok (.i2l, 1) := by decide +kernel
theorem dL_signed_9 : decode cL_signed 9 = .ok (.lastore, 1) := by decide +kernel
theorem dL_signed_10 : decode cL_signed 10 = .ok (.goto 7, 3) := by decide +kernel
theorem dL_signed_13 : decode cL_signed 13 = .ok (.astore 4, 2) := by decide +kernel
theorem dL_signed_15 : decode cL_signed 15 = .ok (.iconst 1, 1) := by decide +kernel
theorem dL_signed_16 : decode cL_signed 16 = .ok (.ireturn, 1) := by decide +kernel
theorem dL_signed_17 : decode cL_signed 17 = .ok (.iconst 0, 1) := by decide +kernel
theorem dL_signed_18 : decode cL_signed 18 = .ok (.ireturn, 1) := by decide +kernel
theorem dL_signer_0 : decode cL_signer 0 = .ok (.aload_n 3, 1) := by decide +kernel
theorem dL_signer_1 : decode cL_signer 1 = .ok (.iconst 0, 1) := by decide +kernel
theorem dL_signer_2 : decode cL_signer 2 = .ok (.aload_n 0, 1) := by decide +kernel
theorem dL_signer_3 : decode cL_signer 3 = .ok (.iload_n 1, 1) := by decide +kernel
theorem dL_signer_4 : decode cL_signer 4 = .ok (.iload_n 2, 1) := by decide +kernel
theorem dL_signer_5 : decode cL_signer 5 = .ok (.invokevirtual 60, 3) := by decide +kernel
theorem dL_signer_8 : decode cL_signer 8 = .ok (.i2l, 1) := by decide +kernel
theorem dL_signer_9 : decode cL_signer 9 = .ok (.lastore, 1) := by decide +kernel
theorem dL_signer_10 : decode cL_signer 10 = .ok (.goto 7, 3) := by decide +kernel
theorem dL_signer_13 : decode cL_signer 13 = .ok (.astore 4, 2) := by decide +kernel
theorem dL_signer_15 : decode cL_signer 15 = .ok (.iconst 1, 1) := by decide +kernel
theorem dL_signer_16 : decode cL_signer 16 = .ok (.ireturn, 1) := by decide +kernel
theorem dL_signer_17 : decode cL_signer 17 = .ok (.iconst 0, 1) := by decide +kernel
theorem dL_signer_18 : decode cL_signer 18 = .ok (.ireturn, 1) := by decide +kernel
theorem dL_isUnder_0 : decode cL_isUnder 0 = .ok (.aload_n 3, 1) := by decide +kernel
theorem dL_isUnder_1 : decode cL_isUnder 1 = .ok (.iconst 0, 1) := by decide +kernel
theorem dL_isUnder_2 : decode cL_isUnder 2 = .ok (.aload_n 0, 1) := by decide +kernel
theorem dL_isUnder_3 : decode cL_isUnder 3 = .ok (.iload_n 1, 1) := by decide +kernel
theorem dL_isUnder_4 : decode cL_isUnder 4 = .ok (.iload_n 2, 1) := by decide +kernel
theorem dL_isUnder_5 : decode cL_isUnder 5 = .ok (.invokevirtual 63, 3) := by decide +kernel
theorem dL_isUnder_8 : decode cL_isUnder 8 = .ok (.ifCond .eq 7, 3) := by decide +kernel
theorem dL_isUnder_11 : decode cL_isUnder 11 = .ok (.lconst 1, 1) := by decide +kernel
theorem dL_isUnder_12 : decode cL_isUnder 12 = .ok (.goto 4, 3) := by decide +kernel
theorem dL_isUnder_15 : decode cL_isUnder 15 = .ok (.lconst 0, 1) := by decide +kernel
theorem dL_isUnder_16 : decode cL_isUnder 16 = .ok (.lastore, 1) := by decide +kernel
theorem dL_isUnder_17 : decode cL_isUnder 17 = .ok (.goto 7, 3) := by decide +kernel
theorem dL_isUnder_20 : decode cL_isUnder 20 = .ok (.astore 4, 2) := by decide +kernel
theorem dL_isUnder_22 : decode cL_isUnder 22 = .ok (.iconst 1, 1) := by decide +kernel
theorem dL_isUnder_23 : decode cL_isUnder 23 = .ok (.ireturn, 1) := by decide +kernel
theorem dL_isUnder_24 : decode cL_isUnder 24 = .ok (.iconst 0, 1) := by decide +kernel
theorem dL_isUnder_25 : decode cL_isUnder 25 = .ok (.ireturn, 1) := by decide +kernel
theorem dL_backs_0 : decode cL_backs 0 = .ok (.aload_n 3, 1) := by decide +kernel
theorem dL_backs_1 : decode cL_backs 1 = .ok (.iconst 0, 1) := by decide +kernel
theorem dL_backs_2 : decode cL_backs 2 = .ok (.aload_n 0, 1) := by decide +kernel
theorem dL_backs_3 : decode cL_backs 3 = .ok (.iload_n 1, 1) := by decide +kernel
theorem dL_backs_4 : decode cL_backs 4 = .ok (.iload_n 2, 1) := by decide +kernel
theorem dL_backs_5 : decode cL_backs 5 = .ok (.invokevirtual 67, 3) := by decide +kernel
theorem dL_backs_8 : decode cL_backs 8 = .ok (.ifCond .eq 7, 3) := by decide +kernel
theorem dL_backs_11 : decode cL_backs 11 = .ok (.lconst 1, 1) := by decide +kernel
theorem dL_backs_12 : decode cL_backs 12 = .ok (.goto 4, 3) := by decide +kernel
theorem dL_backs_15 : decode cL_backs 15 = .ok (.lconst 0, 1) := by decide +kernel
theorem dL_backs_16 : decode cL_backs 16 = .ok (.lastore, 1) := by decide +kernel
theorem dL_backs_17 : decode cL_backs 17 = .ok (.goto 7, 3) := by decide +kernel
theorem dL_backs_20 : decode cL_backs 20 = .ok (.astore 4, 2) := by decide +kernel
theorem dL_backs_22 : decode cL_backs 22 = .ok (.iconst 1, 1) := by decide +kernel
theorem dL_backs_23 : decode cL_backs 23 = .ok (.ireturn, 1) := by decide +kernel
theorem dL_backs_24 : decode cL_backs 24 = .ok (.iconst 0, 1) := by decide +kernel
theorem dL_backs_25 : decode cL_backs 25 = .ok (.ireturn, 1) := by decide +kernel
theorem dL_chains_0 : decode cL_chains 0 = .ok (.aload_n 2, 1) := by decide +kernel
theorem dL_chains_1 : decode cL_chains 1 = .ok (.iconst 0, 1) := by decide +kernel
theorem dL_chains_2 : decode cL_chains 2 = .ok (.aload_n 0, 1) := by decide +kernel
theorem dL_chains_3 : decode cL_chains 3 = .ok (.iload_n 1, 1) := by decide +kernel
theorem dL_chains_4 : decode cL_chains 4 = .ok (.invokevirtual 70, 3) := by decide +kernel
theorem dL_chains_7 : decode cL_chains 7 = .ok (.i2l, 1) := by decide +kernel
theorem dL_chains_8 : decode cL_chains 8 = .ok (.lastore, 1) := by decide +kernel
theorem dL_chains_9 : decode cL_chains 9 = .ok (.goto 6, 3) := by decide +kernel
theorem dL_chains_12 : decode cL_chains 12 = .ok (.astore_n 3, 1) := by decide +kernel
theorem dL_chains_13 : decode cL_chains 13 = .ok (.iconst 1, 1) := by decide +kernel
theorem dL_chains_14 : decode cL_chains 14 = .ok (.ireturn, 1) := by decide +kernel
theorem dL_chains_15 : decode cL_chains 15 = .ok (.iconst 0, 1) := by decide +kernel
theorem dL_chains_16 : decode cL_chains 16 = .ok (.ireturn, 1) := by decide +kernel
theorem dL_verdict_0 : decode cL_verdict 0 = .ok (.aload 4, 2) := by decide +kernel
theorem dL_verdict_2 : decode cL_verdict 2 = .ok (.iconst 0, 1) := by decide +kernel
theorem dL_verdict_3 : decode cL_verdict 3 = .ok (.aload_n 0, 1) := by decide +kernel
theorem dL_verdict_4 : decode cL_verdict 4 = .ok (.iload_n 1, 1) := by decide +kernel
theorem dL_verdict_5 : decode cL_verdict 5 = .ok (.iload_n 2, 1) := by decide +kernel
theorem dL_verdict_6 : decode cL_verdict 6 = .ok (.iload_n 3, 1) := by decide +kernel
theorem dL_verdict_7 : decode cL_verdict 7 = .ok (.invokevirtual 73, 3) := by decide +kernel
theorem dL_verdict_10 : decode cL_verdict 10 = .ok (.i2l, 1) := by decide +kernel
theorem dL_verdict_11 : decode cL_verdict 11 = .ok (.lastore, 1) := by decide +kernel
theorem dL_verdict_12 : decode cL_verdict 12 = .ok (.goto 11, 3) := by decide +kernel
theorem dL_verdict_15 : decode cL_verdict 15 = .ok (.astore 5, 2) := by decide +kernel
theorem dL_verdict_17 : decode cL_verdict 17 = .ok (.iconst 1, 1) := by decide +kernel
theorem dL_verdict_18 : decode cL_verdict 18 = .ok (.ireturn, 1) := by decide +kernel
theorem dL_verdict_19 : decode cL_verdict 19 = .ok (.astore 5, 2) := by decide +kernel
theorem dL_verdict_21 : decode cL_verdict 21 = .ok (.iconst 2, 1) := by decide +kernel
theorem dL_verdict_22 : decode cL_verdict 22 = .ok (.ireturn, 1) := by decide +kernel
theorem dL_verdict_23 : decode cL_verdict 23 = .ok (.iconst 0, 1) := by decide +kernel
theorem dL_verdict_24 : decode cL_verdict 24 = .ok (.ireturn, 1) := by decide +kernel
theorem dL_chain_0 : decode cL_chain 0 = .ok (.aload 5, 2) := by decide +kernel
theorem dL_chain_2 : decode cL_chain 2 = .ok (.iconst 0, 1) := by decide +kernel
theorem dL_chain_3 : decode cL_chain 3 = .ok (.aload_n 0, 1) := by decide +kernel
theorem dL_chain_4 : decode cL_chain 4 = .ok (.iload_n 1, 1) := by decide +kernel
theorem dL_chain_5 : decode cL_chain 5 = .ok (.iload_n 2, 1) := by decide +kernel
theorem dL_chain_6 : decode cL_chain 6 = .ok (.iload_n 3, 1) := by decide +kernel
theorem dL_chain_7 : decode cL_chain 7 = .ok (.iload 4, 2) := by decide +kernel
theorem dL_chain_9 : decode cL_chain 9 = .ok (.invokevirtual 76, 3) := by decide +kernel
theorem dL_chain_12 : decode cL_chain 12 = .ok (.i2l, 1) := by decide +kernel
theorem dL_chain_13 : decode cL_chain 13 = .ok (.lastore, 1) := by decide +kernel
theorem dL_chain_14 : decode cL_chain 14 = .ok (.goto 11, 3) := by decide +kernel
theorem dL_chain_17 : decode cL_chain 17 = .ok (.astore 6, 2) := by decide +kernel
theorem dL_chain_19 : decode cL_chain 19 = .ok (.iconst 1, 1) := by decide +kernel
theorem dL_chain_20 : decode cL_chain 20 = .ok (.ireturn, 1) := by decide +kernel
theorem dL_chain_21 : decode cL_chain 21 = .ok (.astore 6, 2) := by decide +kernel
theorem dL_chain_23 : decode cL_chain 23 = .ok (.iconst 2, 1) := by decide +kernel
theorem dL_chain_24 : decode cL_chain 24 = .ok (.ireturn, 1) := by decide +kernel
theorem dL_chain_25 : decode cL_chain 25 = .ok (.iconst 0, 1) := by decide +kernel
theorem dL_chain_26 : decode cL_chain 26 = .ok (.ireturn, 1) := by decide +kernel
theorem dL_flawAt_0 : decode cL_flawAt 0 = .ok (.aload 4, 2) := by decide +kernel
theorem dL_flawAt_2 : decode cL_flawAt 2 = .ok (.iconst 0, 1) := by decide +kernel
theorem dL_flawAt_3 : decode cL_flawAt 3 = .ok (.aload_n 0, 1) := by decide +kernel
theorem dL_flawAt_4 : decode cL_flawAt 4 = .ok (.iload_n 1, 1) := by decide +kernel
theorem dL_flawAt_5 : decode cL_flawAt 5 = .ok (.iload_n 2, 1) := by decide +kernel
theorem dL_flawAt_6 : decode cL_flawAt 6 = .ok (.iload_n 3, 1) := by decide +kernel
theorem dL_flawAt_7 : decode cL_flawAt 7 = .ok (.invokevirtual 79, 3) := by decide +kernel
theorem dL_flawAt_10 : decode cL_flawAt 10 = .ok (.i2l, 1) := by decide +kernel
theorem dL_flawAt_11 : decode cL_flawAt 11 = .ok (.lastore, 1) := by decide +kernel
theorem dL_flawAt_12 : decode cL_flawAt 12 = .ok (.goto 11, 3) := by decide +kernel
theorem dL_flawAt_15 : decode cL_flawAt 15 = .ok (.astore 5, 2) := by decide +kernel
theorem dL_flawAt_17 : decode cL_flawAt 17 = .ok (.iconst 1, 1) := by decide +kernel
theorem dL_flawAt_18 : decode cL_flawAt 18 = .ok (.ireturn, 1) := by decide +kernel
theorem dL_flawAt_19 : decode cL_flawAt 19 = .ok (.astore 5, 2) := by decide +kernel
theorem dL_flawAt_21 : decode cL_flawAt 21 = .ok (.iconst 2, 1) := by decide +kernel
theorem dL_flawAt_22 : decode cL_flawAt 22 = .ok (.ireturn, 1) := by decide +kernel
theorem dL_flawAt_23 : decode cL_flawAt 23 = .ok (.iconst 0, 1) := by decide +kernel
theorem dL_flawAt_24 : decode cL_flawAt 24 = .ok (.ireturn, 1) := by decide +kernel
theorem dL_isOf_0 : decode cL_isOf 0 = .ok (.aload 5, 2) := by decide +kernel
theorem dL_isOf_2 : decode cL_isOf 2 = .ok (.iconst 0, 1) := by decide +kernel
theorem dL_isOf_3 : decode cL_isOf 3 = .ok (.aload_n 0, 1) := by decide +kernel
theorem dL_isOf_4 : decode cL_isOf 4 = .ok (.iload_n 1, 1) := by decide +kernel
theorem dL_isOf_5 : decode cL_isOf 5 = .ok (.iload_n 2, 1) := by decide +kernel
theorem dL_isOf_6 : decode cL_isOf 6 = .ok (.iload_n 3, 1) := by decide +kernel
theorem dL_isOf_7 : decode cL_isOf 7 = .ok (.iload 4, 2) := by decide +kernel
theorem dL_isOf_9 : decode cL_isOf 9 = .ok (.invokevirtual 82, 3) := by decide +kernel
theorem dL_isOf_12 : decode cL_isOf 12 = .ok (.ifCond .eq 7, 3) := by decide +kernel
theorem dL_isOf_15 : decode cL_isOf 15 = .ok (.lconst 1, 1) := by decide +kernel
theorem dL_isOf_16 : decode cL_isOf 16 = .ok (.goto 4, 3) := by decide +kernel
theorem dL_isOf_19 : decode cL_isOf 19 = .ok (.lconst 0, 1) := by decide +kernel
theorem dL_isOf_20 : decode cL_isOf 20 = .ok (.lastore, 1) := by decide +kernel
theorem dL_isOf_21 : decode cL_isOf 21 = .ok (.goto 7, 3) := by decide +kernel
theorem dL_isOf_24 : decode cL_isOf 24 = .ok (.astore 6, 2) := by decide +kernel
theorem dL_isOf_26 : decode cL_isOf 26 = .ok (.iconst 1, 1) := by decide +kernel
theorem dL_isOf_27 : decode cL_isOf 27 = .ok (.ireturn, 1) := by decide +kernel
theorem dL_isOf_28 : decode cL_isOf 28 = .ok (.iconst 0, 1) := by decide +kernel
theorem dL_isOf_29 : decode cL_isOf 29 = .ok (.ireturn, 1) := by decide +kernel
theorem dL_meanChain_0 : decode cL_meanChain 0 = .ok (.aload_n 3, 1) := by decide +kernel
theorem dL_meanChain_1 : decode cL_meanChain 1 = .ok (.iconst 0, 1) := by decide +kernel
theorem dL_meanChain_2 : decode cL_meanChain 2 = .ok (.aload_n 0, 1) := by decide +kernel
theorem dL_meanChain_3 : decode cL_meanChain 3 = .ok (.iload_n 1, 1) := by decide +kernel
theorem dL_meanChain_4 : decode cL_meanChain 4 = .ok (.iload_n 2, 1) := by decide +kernel
theorem dL_meanChain_5 : decode cL_meanChain 5 = .ok (.invokevirtual 86, 3) := by decide +kernel
theorem dL_meanChain_8 : decode cL_meanChain 8 = .ok (.dastore, 1) := by decide +kernel
theorem dL_meanChain_9 : decode cL_meanChain 9 = .ok (.goto 7, 3) := by decide +kernel
theorem dL_meanChain_12 : decode cL_meanChain 12 = .ok (.astore 4, 2) := by decide +kernel
theorem dL_meanChain_14 : decode cL_meanChain 14 = .ok (.iconst 1, 1) := by decide +kernel
theorem dL_meanChain_15 : decode cL_meanChain 15 = .ok (.ireturn, 1) := by decide +kernel
theorem dL_meanChain_16 : decode cL_meanChain 16 = .ok (.iconst 0, 1) := by decide +kernel
theorem dL_meanChain_17 : decode cL_meanChain 17 = .ok (.ireturn, 1) := by decide +kernel
theorem dL_holdsTo_0 : decode cL_holdsTo 0 = .ok (.aload 4, 2) := by decide +kernel
theorem dL_holdsTo_2 : decode cL_holdsTo 2 = .ok (.iconst 0, 1) := by decide +kernel
theorem dL_holdsTo_3 : decode cL_holdsTo 3 = .ok (.aload_n 0, 1) := by decide +kernel
theorem dL_holdsTo_4 : decode cL_holdsTo 4 = .ok (.iload_n 1, 1) := by decide +kernel
theorem dL_holdsTo_5 : decode cL_holdsTo 5 = .ok (.iload_n 2, 1) := by decide +kernel
theorem dL_holdsTo_6 : decode cL_holdsTo 6 = .ok (.iload_n 3, 1) := by decide +kernel
theorem dL_holdsTo_7 : decode cL_holdsTo 7 = .ok (.invokevirtual 90, 3) := by decide +kernel
theorem dL_holdsTo_10 : decode cL_holdsTo 10 = .ok (.i2l, 1) := by decide +kernel
theorem dL_holdsTo_11 : decode cL_holdsTo 11 = .ok (.lastore, 1) := by decide +kernel
theorem dL_holdsTo_12 : decode cL_holdsTo 12 = .ok (.goto 11, 3) := by decide +kernel
theorem dL_holdsTo_15 : decode cL_holdsTo 15 = .ok (.astore 5, 2) := by decide +kernel
theorem dL_holdsTo_17 : decode cL_holdsTo 17 = .ok (.iconst 1, 1) := by decide +kernel
theorem dL_holdsTo_18 : decode cL_holdsTo 18 = .ok (.ireturn, 1) := by decide +kernel
theorem dL_holdsTo_19 : decode cL_holdsTo 19 = .ok (.astore 5, 2) := by decide +kernel
theorem dL_holdsTo_21 : decode cL_holdsTo 21 = .ok (.iconst 2, 1) := by decide +kernel
theorem dL_holdsTo_22 : decode cL_holdsTo 22 = .ok (.ireturn, 1) := by decide +kernel
theorem dL_holdsTo_23 : decode cL_holdsTo 23 = .ok (.iconst 0, 1) := by decide +kernel
theorem dL_holdsTo_24 : decode cL_holdsTo 24 = .ok (.ireturn, 1) := by decide +kernel
theorem dL_otherwise_0 : decode cL_otherwise 0 = .ok (.aload 4, 2) := by decide +kernel
theorem dL_otherwise_2 : decode cL_otherwise 2 = .ok (.iconst 0, 1) := by decide +kernel
theorem dL_otherwise_3 : decode cL_otherwise 3 = .ok (.aload_n 0, 1) := by decide +kernel
theorem dL_otherwise_4 : decode cL_otherwise 4 = .ok (.iload_n 1, 1) := by decide +kernel
theorem dL_otherwise_5 : decode cL_otherwise 5 = .ok (.iload_n 2, 1) := by decide +kernel
theorem dL_otherwise_6 : decode cL_otherwise 6 = .ok (.iload_n 3, 1) := by decide +kernel
theorem dL_otherwise_7 : decode cL_otherwise 7 = .ok (.invokevirtual 93, 3) := by decide +kernel
theorem dL_otherwise_10 : decode cL_otherwise 10 = .ok (.i2l, 1) := by decide +kernel
theorem dL_otherwise_11 : decode cL_otherwise 11 = .ok (.lastore, 1) := by decide +kernel
theorem dL_otherwise_12 : decode cL_otherwise 12 = .ok (.goto 11, 3) := by decide +kernel
theorem dL_otherwise_15 : decode cL_otherwise 15 = .ok (.astore 5, 2) := by decide +kernel
theorem dL_otherwise_17 : decode cL_otherwise 17 = .ok (.iconst 1, 1) := by decide +kernel
theorem dL_otherwise_18 : decode cL_otherwise 18 = .ok (.ireturn, 1) := by decide +kernel
theorem dL_otherwise_19 : decode cL_otherwise 19 = .ok (.astore 5, 2) := by decide +kernel
theorem dL_otherwise_21 : decode cL_otherwise 21 = .ok (.iconst 2, 1) := by decide +kernel
theorem dL_otherwise_22 : decode cL_otherwise 22 = .ok (.ireturn, 1) := by decide +kernel
theorem dL_otherwise_23 : decode cL_otherwise 23 = .ok (.iconst 0, 1) := by decide +kernel
theorem dL_otherwise_24 : decode cL_otherwise 24 = .ok (.ireturn, 1) := by decide +kernel
theorem dL_stolen_0 : decode cL_stolen 0 = .ok (.aload 4, 2) := by decide +kernel
theorem dL_stolen_2 : decode cL_stolen 2 = .ok (.iconst 0, 1) := by decide +kernel
theorem dL_stolen_3 : decode cL_stolen 3 = .ok (.aload_n 0, 1) := by decide +kernel
theorem dL_stolen_4 : decode cL_stolen 4 = .ok (.iload_n 1, 1) := by decide +kernel
theorem dL_stolen_5 : decode cL_stolen 5 = .ok (.iload_n 2, 1) := by decide +kernel
theorem dL_stolen_6 : decode cL_stolen 6 = .ok (.iload_n 3, 1) := by decide +kernel
theorem dL_stolen_7 : decode cL_stolen 7 = .ok (.invokevirtual 96, 3) := by decide +kernel
theorem dL_stolen_10 : decode cL_stolen 10 = .ok (.i2l, 1) := by decide +kernel
theorem dL_stolen_11 : decode cL_stolen 11 = .ok (.lastore, 1) := by decide +kernel
theorem dL_stolen_12 : decode cL_stolen 12 = .ok (.goto 7, 3) := by decide +kernel
theorem dL_stolen_15 : decode cL_stolen 15 = .ok (.astore 5, 2) := by decide +kernel
theorem dL_stolen_17 : decode cL_stolen 17 = .ok (.iconst 1, 1) := by decide +kernel
theorem dL_stolen_18 : decode cL_stolen 18 = .ok (.ireturn, 1) := by decide +kernel
theorem dL_stolen_19 : decode cL_stolen 19 = .ok (.iconst 0, 1) := by decide +kernel
theorem dL_stolen_20 : decode cL_stolen 20 = .ok (.ireturn, 1) := by decide +kernel
theorem dL_law_0 : decode cL_law 0 = .ok (.new 8, 3) := by decide +kernel
theorem dL_law_3 : decode cL_law 3 = .ok (.dup, 1) := by decide +kernel
theorem dL_law_4 : decode cL_law 4 = .ok (.invokespecial 99, 3) := by decide +kernel
theorem dL_law_7 : decode cL_law 7 = .ok (.astore_n 1, 1) := by decide +kernel
theorem dL_law_8 : decode cL_law 8 = .ok (.new 100, 3) := by decide +kernel
theorem dL_law_11 : decode cL_law 11 = .ok (.dup, 1) := by decide +kernel
theorem dL_law_12 : decode cL_law 12 = .ok (.invokespecial 102, 3) := by decide +kernel
theorem dL_law_15 : decode cL_law 15 = .ok (.astore_n 2, 1) := by decide +kernel
theorem dL_law_16 : decode cL_law 16 = .ok (.iconst 1, 1) := by decide +kernel
theorem dL_law_17 : decode cL_law 17 = .ok (.newarray .long, 2) := by decide +kernel
theorem dL_law_19 : decode cL_law 19 = .ok (.astore_n 3, 1) := by decide +kernel
theorem dL_law_20 : decode cL_law 20 = .ok (.iconst 1, 1) := by decide +kernel
theorem dL_law_21 : decode cL_law 21 = .ok (.newarray .double, 2) := by decide +kernel
theorem dL_law_23 : decode cL_law 23 = .ok (.astore 4, 2) := by decide +kernel
theorem dL_law_25 : decode cL_law 25 = .ok (.iconst 0, 1) := by decide +kernel
theorem dL_law_26 : decode cL_law 26 = .ok (.istore 5, 2) := by decide +kernel
theorem dL_law_28 : decode cL_law 28 = .ok (.iload 5, 2) := by decide +kernel
theorem dL_law_30 : decode cL_law 30 = .ok (.aload_n 0, 1) := by decide +kernel
theorem dL_law_31 : decode cL_law 31 = .ok (.arraylength, 1) := by decide +kernel
theorem dL_law_32 : decode cL_law 32 = .ok (.iconst 5, 1) := by decide +kernel
theorem dL_law_33 : decode cL_law 33 = .ok (.isub, 1) := by decide +kernel
theorem dL_law_34 : decode cL_law 34 = .ok (.if_icmp .gt 2125, 3) := by decide +kernel
theorem dL_law_37 : decode cL_law 37 = .ok (.aload_n 0, 1) := by decide +kernel
theorem dL_law_38 : decode cL_law 38 = .ok (.iload 5, 2) := by decide +kernel
theorem dL_law_40 : decode cL_law 40 = .ok (.iaload, 1) := by decide +kernel
theorem dL_law_41 : decode cL_law 41 = .ok (.bipush 31, 2) := by decide +kernel
theorem dL_law_43 : decode cL_law 43 = .ok (.iand, 1) := by decide +kernel
theorem dL_law_44 : decode cL_law 44 = .ok (.tableswitch 2109 0 26 #[124, 216, 296, 392, 472, 540, 624, 704, 772, 840, 881, 937, 1005, 1073, 1141, 1209, 1284, 1359, 1415, 1495, 1587, 1667, 1766, 1855, 1935, 2015, 2095], 124) := by decide +kernel
theorem dL_law_168 : decode cL_law 168 = .ok (.aload_n 1, 1) := by decide +kernel
theorem dL_law_169 : decode cL_law 169 = .ok (.aload_n 0, 1) := by decide +kernel
theorem dL_law_170 : decode cL_law 170 = .ok (.iload 5, 2) := by decide +kernel
theorem dL_law_172 : decode cL_law 172 = .ok (.iconst 1, 1) := by decide +kernel
theorem dL_law_173 : decode cL_law 173 = .ok (.iadd, 1) := by decide +kernel
theorem dL_law_174 : decode cL_law 174 = .ok (.iaload, 1) := by decide +kernel
theorem dL_law_175 : decode cL_law 175 = .ok (.aload_n 0, 1) := by decide +kernel
theorem dL_law_176 : decode cL_law 176 = .ok (.iload 5, 2) := by decide +kernel
theorem dL_law_178 : decode cL_law 178 = .ok (.iconst 2, 1) := by decide +kernel
theorem dL_law_179 : decode cL_law 179 = .ok (.iadd, 1) := by decide +kernel
theorem dL_law_180 : decode cL_law 180 = .ok (.iaload, 1) := by decide +kernel
theorem dL_law_181 : decode cL_law 181 = .ok (.aload_n 0, 1) := by decide +kernel
theorem dL_law_182 : decode cL_law 182 = .ok (.iload 5, 2) := by decide +kernel
theorem dL_law_184 : decode cL_law 184 = .ok (.iconst 3, 1) := by decide +kernel
theorem dL_law_185 : decode cL_law 185 = .ok (.iadd, 1) := by decide +kernel
theorem dL_law_186 : decode cL_law 186 = .ok (.iaload, 1) := by decide +kernel
theorem dL_law_187 : decode cL_law 187 = .ok (.aload_n 0, 1) := by decide +kernel
theorem dL_law_188 : decode cL_law 188 = .ok (.iload 5, 2) := by decide +kernel
theorem dL_law_190 : decode cL_law 190 = .ok (.iconst 4, 1) := by decide +kernel
theorem dL_law_191 : decode cL_law 191 = .ok (.iadd, 1) := by decide +kernel
theorem dL_law_192 : decode cL_law 192 = .ok (.iaload, 1) := by decide +kernel
theorem dL_law_193 : decode cL_law 193 = .ok (.aload_n 3, 1) := by decide +kernel
theorem dL_law_194 : decode cL_law 194 = .ok (.invokestatic 103, 3) := by decide +kernel
theorem dL_law_197 : decode cL_law 197 = .ok (.istore 6, 2) := by decide +kernel
theorem dL_law_199 : decode cL_law 199 = .ok (.aload_n 2, 1) := by decide +kernel
theorem dL_law_200 : decode cL_law 200 = .ok (.aload_n 0, 1) := by decide +kernel
theorem dL_law_201 : decode cL_law 201 = .ok (.iload 5, 2) := by decide +kernel
theorem dL_law_203 : decode cL_law 203 = .ok (.iconst 1, 1) := by decide +kernel
theorem dL_law_204 : decode cL_law 204 = .ok (.iadd, 1) := by decide +kernel
theorem dL_law_205 : decode cL_law 205 = .ok (.iaload, 1) := by decide +kernel
theorem dL_law_206 : decode cL_law 206 = .ok (.aload_n 0, 1) := by decide +kernel
theorem dL_law_207 : decode cL_law 207 = .ok (.iload 5, 2) := by decide +kernel
theorem dL_law_209 : decode cL_law 209 = .ok (.iconst 2, 1) := by decide +kernel
theorem dL_law_210 : decode cL_law 210 = .ok (.iadd, 1) := by decide +kernel
theorem dL_law_211 : decode cL_law 211 = .ok (.iaload, 1) := by decide +kernel
theorem dL_law_212 : decode cL_law 212 = .ok (.aload_n 0, 1) := by decide +kernel
theorem dL_law_213 : decode cL_law 213 = .ok (.iload 5, 2) := by decide +kernel
theorem dL_law_215 : decode cL_law 215 = .ok (.iconst 3, 1) := by decide +kernel
theorem dL_law_216 : decode cL_law 216 = .ok (.iadd, 1) := by decide +kernel
theorem dL_law_217 : decode cL_law 217 = .ok (.iaload, 1) := by decide +kernel
theorem dL_law_218 : decode cL_law 218 = .ok (.aload_n 0, 1) := by decide +kernel
theorem dL_law_219 : decode cL_law 219 = .ok (.iload 5, 2) := by decide +kernel
theorem dL_law_221 : decode cL_law 221 = .ok (.iconst 4, 1) := by decide +kernel
theorem dL_law_222 : decode cL_law 222 = .ok (.iadd, 1) := by decide +kernel
theorem dL_law_223 : decode cL_law 223 = .ok (.iaload, 1) := by decide +kernel
theorem dL_law_224 : decode cL_law 224 = .ok (.invokevirtual 108, 3) := by decide +kernel
theorem dL_law_227 : decode cL_law 227 = .ok (.istore 7, 2) := by decide +kernel
theorem dL_law_229 : decode cL_law 229 = .ok (.aload_n 2, 1) := by decide +kernel
theorem dL_law_230 : decode cL_law 230 = .ok (.invokevirtual 109, 3) := by decide +kernel
theorem dL_law_233 : decode cL_law 233 = .ok (.iload 6, 2) := by decide +kernel
theorem dL_law_235 : decode cL_law 235 = .ok (.if_icmp .eq 5, 3) := by decide +kernel
theorem dL_law_238 : decode cL_law 238 = .ok (.iconst 0, 1) := by decide +kernel
theorem dL_law_239 : decode cL_law 239 = .ok (.ireturn, 1) := by decide +kernel
theorem dL_law_240 : decode cL_law 240 = .ok (.iload 6, 2) := by decide +kernel
theorem dL_law_242 : decode cL_law 242 = .ok (.ifCond .ne 15, 3) := by decide +kernel
theorem dL_law_245 : decode cL_law 245 = .ok (.aload_n 3, 1) := by decide +kernel
theorem dL_law_246 : decode cL_law 246 = .ok (.iconst 0, 1) := by decide +kernel
theorem dL_law_247 : decode cL_law 247 = .ok (.laload, 1) := by decide +kernel
theorem dL_law_248 : decode cL_law 248 = .ok (.iload 7, 2) := by decide +kernel
theorem dL_law_250 : decode cL_law 250 = .ok (.i2l, 1) := by decide +kernel
theorem dL_law_251 : decode cL_law 251 = .ok (.lcmp, 1) := by decide +kernel
theorem dL_law_252 : decode cL_law 252 = .ok (.ifCond .eq 5, 3) := by decide +kernel
theorem dL_law_255 : decode cL_law 255 = .ok (.iconst 0, 1) := by decide +kernel
theorem dL_law_256 : decode cL_law 256 = .ok (.ireturn, 1) := by decide +kernel
theorem dL_law_257 : decode cL_law 257 = .ok (.goto 1896, 3) := by decide +kernel
theorem dL_law_260 : decode cL_law 260 = .ok (.aload_n 1, 1) := by decide +kernel
theorem dL_law_261 : decode cL_law 261 = .ok (.aload_n 0, 1) := by decide +kernel
theorem dL_law_262 : decode cL_law 262 = .ok (.iload 5, 2) := by decide +kernel
theorem dL_law_264 : decode cL_law 264 = .ok (.iconst 1, 1) := by decide +kernel
