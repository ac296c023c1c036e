theorem dX11_noOrder_21 : decode cX11_noOrder 21 = .ok (.return_, 1) := by decide +kernel
theorem dX11_noOrder_2 : decode cX11_noOrder 2 = .ok (.iload_n 1, 1) := by decide +kernel
theorem dX11_noOrder_3 : decode cX11_noOrder 3 = .ok (.bipush 10, 2) := by decide +kernel
theorem dX11_noOrder_5 : decode cX11_noOrder 5 = .ok (.if_icmp .ge 16, 3) := by decide +kernel
theorem dX11_noOrder_8 : decode cX11_noOrder 8 = .ok (.aload_n 0, 1) := by decide +kernel
theorem dX11_noOrder_9 : decode cX11_noOrder 9 = .ok (.getfield 57, 3) := by decide +kernel
theorem dX11_noOrder_12 : decode cX11_noOrder 12 = .ok (.iload_n 1, 1) := by decide +kernel
theorem dX11_noOrder_13 : decode cX11_noOrder 13 = .ok (.iconst 0, 1) := by decide +kernel
theorem dX11_noOrder_14 : decode cX11_noOrder 14 = .ok (.iastore, 1) := by decide +kernel
theorem dX11_noOrder_15 : decode cX11_noOrder 15 = .ok (.iinc 1 1, 3) := by decide +kernel
theorem dX11_noOrder_18 : decode cX11_noOrder 18 = .ok (.goto (-16), 3) := by decide +kernel
theorem dX11_noOrder_0 : decode cX11_noOrder 0 = .ok (.iconst 0, 1) := by decide +kernel
theorem dX11_noOrder_1 : decode cX11_noOrder 1 = .ok (.istore_n 1, 1) := by decide +kernel
theorem dX11_puts__41 : decode cX11_puts_ 41 = .ok (.istore 4, 2) := by decide +kernel
theorem dX11_puts__43 : decode cX11_puts_ 43 = .ok (.aload_n 0, 1) := by decide +kernel
theorem dX11_puts__44 : decode cX11_puts_ 44 = .ok (.getfield 57, 3) := by decide +kernel
theorem dX11_puts__47 : decode cX11_puts_ 47 = .ok (.iload_n 3, 1) := by decide +kernel
theorem dX11_puts__48 : decode cX11_puts_ 48 = .ok (.dup2, 1) := by decide +kernel
theorem dX11_puts__49 : decode cX11_puts_ 49 = .ok (.iaload, 1) := by decide +kernel
theorem dX11_puts__50 : decode cX11_puts_ 50 = .ok (.iconst 1, 1) := by decide +kernel
theorem dX11_puts__51 : decode cX11_puts_ 51 = .ok (.iload 4, 2) := by decide +kernel
theorem dX11_puts__53 : decode cX11_puts_ 53 = .ok (.ishl, 1) := by decide +kernel
theorem dX11_puts__54 : decode cX11_puts_ 54 = .ok (.ior, 1) := by decide +kernel
theorem dX11_puts__55 : decode cX11_puts_ 55 = .ok (.iastore, 1) := by decide +kernel
theorem dX11_puts__56 : decode cX11_puts_ 56 = .ok (.return_, 1) := by decide +kernel
theorem dX11_puts__35 : decode cX11_puts_ 35 = .ok (.aload_n 0, 1) := by decide +kernel
theorem dX11_puts__36 : decode cX11_puts_ 36 = .ok (.getfield 26, 3) := by decide +kernel
theorem dX11_puts__39 : decode cX11_puts_ 39 = .ok (.iload_n 1, 1) := by decide +kernel
theorem dX11_puts__40 : decode cX11_puts_ 40 = .ok (.iaload, 1) := by decide +kernel
theorem dX11_puts__20 : decode cX11_puts_ 20 = .ok (.istore_n 3, 1) := by decide +kernel
theorem dX11_puts__21 : decode cX11_puts_ 21 = .ok (.iload_n 2, 1) := by decide +kernel
theorem dX11_puts__22 : decode cX11_puts_ 22 = .ok (.iconst 1, 1) := by decide +kernel
theorem dX11_puts__23 : decode cX11_puts_ 23 = .ok (.if_icmp .ne 12, 3) := by decide +kernel
theorem dX11_puts__26 : decode cX11_puts_ 26 = .ok (.aload_n 0, 1) := by decide +kernel
theorem dX11_puts__27 : decode cX11_puts_ 27 = .ok (.getfield 29, 3) := by decide +kernel
theorem dX11_puts__30 : decode cX11_puts_ 30 = .ok (.iload_n 1, 1) := by decide +kernel
theorem dX11_puts__31 : decode cX11_puts_ 31 = .ok (.iaload, 1) := by decide +kernel
theorem dX11_puts__32 : decode cX11_puts_ 32 = .ok (.goto 9, 3) := by decide +kernel
theorem dX11_puts__14 : decode cX11_puts_ 14 = .ok (.aload_n 0, 1) := by decide +kernel
theorem dX11_puts__15 : decode cX11_puts_ 15 = .ok (.getfield 29, 3) := by decide +kernel
theorem dX11_puts__18 : decode cX11_puts_ 18 = .ok (.iload_n 1, 1) := by decide +kernel
theorem dX11_puts__19 : decode cX11_puts_ 19 = .ok (.iaload, 1) := by decide +kernel
theorem dX11_puts__0 : decode cX11_puts_ 0 = .ok (.iload_n 2, 1) := by decide +kernel
theorem dX11_puts__1 : decode cX11_puts_ 1 = .ok (.iconst 1, 1) := by decide +kernel
theorem dX11_puts__2 : decode cX11_puts_ 2 = .ok (.if_icmp .ne 12, 3) := by decide +kernel
theorem dX11_puts__5 : decode cX11_puts_ 5 = .ok (.aload_n 0, 1) := by decide +kernel
theorem dX11_puts__6 : decode cX11_puts_ 6 = .ok (.getfield 26, 3) := by decide +kernel
theorem dX11_puts__9 : decode cX11_puts_ 9 = .ok (.iload_n 1, 1) := by decide +kernel
theorem dX11_puts__10 : decode cX11_puts_ 10 = .ok (.iaload, 1) := by decide +kernel
theorem dX11_puts__11 : decode cX11_puts_ 11 = .ok (.goto 9, 3) := by decide +kernel
theorem dX11_putsHeard_44 : decode cX11_putsHeard 44 = .ok (.return_, 1) := by decide +kernel
theorem dX11_putsHeard_2 : decode cX11_putsHeard 2 = .ok (.iload_n 1, 1) := by decide +kernel
theorem dX11_putsHeard_3 : decode cX11_putsHeard 3 = .ok (.aload_n 0, 1) := by decide +kernel
theorem dX11_putsHeard_4 : decode cX11_putsHeard 4 = .ok (.getfield 17, 3) := by decide +kernel
theorem dX11_putsHeard_7 : decode cX11_putsHeard 7 = .ok (.sipush 161, 3) := by decide +kernel
theorem dX11_putsHeard_10 : decode cX11_putsHeard 10 = .ok (.iaload, 1) := by decide +kernel
theorem dX11_putsHeard_11 : decode cX11_putsHeard 11 = .ok (.if_icmp .ge 33, 3) := by decide +kernel
theorem dX11_putsHeard_14 : decode cX11_putsHeard 14 = .ok (.aload_n 0, 1) := by decide +kernel
theorem dX11_putsHeard_15 : decode cX11_putsHeard 15 = .ok (.aload_n 0, 1) := by decide +kernel
theorem dX11_putsHeard_16 : decode cX11_putsHeard 16 = .ok (.getfield 17, 3) := by decide +kernel
theorem dX11_putsHeard_19 : decode cX11_putsHeard 19 = .ok (.sipush 162, 3) := by decide +kernel
theorem dX11_putsHeard_22 : decode cX11_putsHeard 22 = .ok (.iload_n 1, 1) := by decide +kernel
theorem dX11_putsHeard_23 : decode cX11_putsHeard 23 = .ok (.iadd, 1) := by decide +kernel
theorem dX11_putsHeard_24 : decode cX11_putsHeard 24 = .ok (.iaload, 1) := by decide +kernel
theorem dX11_putsHeard_25 : decode cX11_putsHeard 25 = .ok (.aload_n 0, 1) := by decide +kernel
theorem dX11_putsHeard_26 : decode cX11_putsHeard 26 = .ok (.getfield 17, 3) := by decide +kernel
theorem dX11_putsHeard_29 : decode cX11_putsHeard 29 = .ok (.sipush 190, 3) := by decide +kernel
theorem dX11_putsHeard_32 : decode cX11_putsHeard 32 = .ok (.iload_n 1, 1) := by decide +kernel
theorem dX11_putsHeard_33 : decode cX11_putsHeard 33 = .ok (.iadd, 1) := by decide +kernel
theorem dX11_putsHeard_34 : decode cX11_putsHeard 34 = .ok (.iaload, 1) := by decide +kernel
theorem dX11_putsHeard_35 : decode cX11_putsHeard 35 = .ok (.invokevirtual 332, 3) := by decide +kernel
theorem dX11_putsHeard_38 : decode cX11_putsHeard 38 = .ok (.iinc 1 1, 3) := by decide +kernel
theorem dX11_putsHeard_41 : decode cX11_putsHeard 41 = .ok (.goto (-39), 3) := by decide +kernel
theorem dX11_putsHeard_0 : decode cX11_putsHeard 0 = .ok (.iconst 0, 1) := by decide +kernel
theorem dX11_putsHeard_1 : decode cX11_putsHeard 1 = .ok (.istore_n 1, 1) := by decide +kernel
theorem dX11_follows_78 : decode cX11_follows 78 = .ok (.ireturn, 1) := by decide +kernel
theorem dX11_follows_77 : decode cX11_follows 77 = .ok (.iconst 0, 1) := by decide +kernel
theorem dX11_follows_69 : decode cX11_follows 69 = .ok (.iload_n 2, 1) := by decide +kernel
theorem dX11_follows_70 : decode cX11_follows 70 = .ok (.ifCond .eq 7, 3) := by decide +kernel
theorem dX11_follows_73 : decode cX11_follows 73 = .ok (.iconst 1, 1) := by decide +kernel
theorem dX11_follows_74 : decode cX11_follows 74 = .ok (.goto 4, 3) := by decide +kernel
theorem dX11_follows_59 : decode cX11_follows 59 = .ok (.istore_n 3, 1) := by decide +kernel
theorem dX11_follows_60 : decode cX11_follows 60 = .ok (.iload_n 2, 1) := by decide +kernel
theorem dX11_follows_61 : decode cX11_follows 61 = .ok (.iload_n 3, 1) := by decide +kernel
theorem dX11_follows_62 : decode cX11_follows 62 = .ok (.if_icmp .ne 7, 3) := by decide +kernel
theorem dX11_follows_65 : decode cX11_follows 65 = .ok (.iconst (-1), 1) := by decide +kernel
theorem dX11_follows_66 : decode cX11_follows 66 = .ok (.goto 12, 3) := by decide +kernel
theorem dX11_follows_58 : decode cX11_follows 58 = .ok (.iconst 0, 1) := by decide +kernel
theorem dX11_follows_29 : decode cX11_follows 29 = .ok (.istore_n 2, 1) := by decide +kernel
theorem dX11_follows_30 : decode cX11_follows 30 = .ok (.aload_n 0, 1) := by decide +kernel
theorem dX11_follows_31 : decode cX11_follows 31 = .ok (.getfield 57, 3) := by decide +kernel
theorem dX11_follows_34 : decode cX11_follows 34 = .ok (.aload_n 0, 1) := by decide +kernel
theorem dX11_follows_35 : decode cX11_follows 35 = .ok (.getfield 29, 3) := by decide +kernel
theorem dX11_follows_38 : decode cX11_follows 38 = .ok (.iload_n 1, 1) := by decide +kernel
theorem dX11_follows_39 : decode cX11_follows 39 = .ok (.iaload, 1) := by decide +kernel
theorem dX11_follows_40 : decode cX11_follows 40 = .ok (.iaload, 1) := by decide +kernel
theorem dX11_follows_41 : decode cX11_follows 41 = .ok (.aload_n 0, 1) := by decide +kernel
theorem dX11_follows_42 : decode cX11_follows 42 = .ok (.getfield 26, 3) := by decide +kernel
theorem dX11_follows_45 : decode cX11_follows 45 = .ok (.iload_n 1, 1) := by decide +kernel
theorem dX11_follows_46 : decode cX11_follows 46 = .ok (.iaload, 1) := by decide +kernel
theorem dX11_follows_47 : decode cX11_follows 47 = .ok (.ishr, 1) := by decide +kernel
theorem dX11_follows_48 : decode cX11_follows 48 = .ok (.iconst 1, 1) := by decide +kernel
theorem dX11_follows_49 : decode cX11_follows 49 = .ok (.iand, 1) := by decide +kernel
theorem dX11_follows_50 : decode cX11_follows 50 = .ok (.iconst 1, 1) := by decide +kernel
theorem dX11_follows_51 : decode cX11_follows 51 = .ok (.if_icmp .ne 7, 3) := by decide +kernel
theorem dX11_follows_54 : decode cX11_follows 54 = .ok (.iconst 1, 1) := by decide +kernel
theorem dX11_follows_55 : decode cX11_follows 55 = .ok (.goto 4, 3) := by decide +kernel
theorem dX11_follows_28 : decode cX11_follows 28 = .ok (.iconst 0, 1) := by decide +kernel
theorem dX11_follows_0 : decode cX11_follows 0 = .ok (.aload_n 0, 1) := by decide +kernel
theorem dX11_follows_1 : decode cX11_follows 1 = .ok (.getfield 57, 3) := by decide +kernel
theorem dX11_follows_4 : decode cX11_follows 4 = .ok (.aload_n 0, 1) := by decide +kernel
theorem dX11_follows_5 : decode cX11_follows 5 = .ok (.getfield 26, 3) := by decide +kernel
theorem dX11_follows_8 : decode cX11_follows 8 = .ok (.iload_n 1, 1) := by decide +kernel
theorem dX11_follows_9 : decode cX11_follows 9 = .ok (.iaload, 1) := by decide +kernel
theorem dX11_follows_10 : decode cX11_follows 10 = .ok (.iaload, 1) := by decide +kernel
theorem dX11_follows_11 : decode cX11_follows 11 = .ok (.aload_n 0, 1) := by decide +kernel
theorem dX11_follows_12 : decode cX11_follows 12 = .ok (.getfield 29, 3) := by decide +kernel
theorem dX11_follows_15 : decode cX11_follows 15 = .ok (.iload_n 1, 1) := by decide +kernel
theorem dX11_follows_16 : decode cX11_follows 16 = .ok (.iaload, 1) := by decide +kernel
theorem dX11_follows_17 : decode cX11_follows 17 = .ok (.ishr, 1) := by decide +kernel
theorem dX11_follows_18 : decode cX11_follows 18 = .ok (.iconst 1, 1) := by decide +kernel
theorem dX11_follows_19 : decode cX11_follows 19 = .ok (.iand, 1) := by decide +kernel
theorem dX11_follows_20 : decode cX11_follows 20 = .ok (.iconst 1, 1) := by decide +kernel
theorem dX11_follows_21 : decode cX11_follows 21 = .ok (.if_icmp .ne 7, 3) := by decide +kernel
theorem dX11_follows_24 : decode cX11_follows 24 = .ok (.iconst 1, 1) := by decide +kernel
theorem dX11_follows_25 : decode cX11_follows 25 = .ok (.goto 4, 3) := by decide +kernel
theorem dX11_closes_61 : decode cX11_closes 61 = .ok (.return_, 1) := by decide +kernel
theorem dX11_closes_55 : decode cX11_closes 55 = .ok (.iinc 1 1, 3) := by decide +kernel
theorem dX11_closes_58 : decode cX11_closes 58 = .ok (.goto (-56), 3) := by decide +kernel
theorem dX11_closes_49 : decode cX11_closes 49 = .ok (.iinc 2 1, 3) := by decide +kernel
theorem dX11_closes_52 : decode cX11_closes 52 = .ok (.goto (-40), 3) := by decide +kernel
theorem dX11_closes_12 : decode cX11_closes 12 = .ok (.iload_n 2, 1) := by decide +kernel
theorem dX11_closes_13 : decode cX11_closes 13 = .ok (.aload_n 0, 1) := by decide +kernel
theorem dX11_closes_14 : decode cX11_closes 14 = .ok (.getfield 224, 3) := by decide +kernel
theorem dX11_closes_17 : decode cX11_closes 17 = .ok (.if_icmp .ge 38, 3) := by decide +kernel
theorem dX11_closes_20 : decode cX11_closes 20 = .ok (.aload_n 0, 1) := by decide +kernel
theorem dX11_closes_21 : decode cX11_closes 21 = .ok (.getfield 57, 3) := by decide +kernel
theorem dX11_closes_24 : decode cX11_closes 24 = .ok (.iload_n 2, 1) := by decide +kernel
theorem dX11_closes_25 : decode cX11_closes 25 = .ok (.iaload, 1) := by decide +kernel
theorem dX11_closes_26 : decode cX11_closes 26 = .ok (.iload_n 1, 1) := by decide +kernel
theorem dX11_closes_27 : decode cX11_closes 27 = .ok (.ishr, 1) := by decide +kernel
theorem dX11_closes_28 : decode cX11_closes 28 = .ok (.iconst 1, 1) := by decide +kernel
theorem dX11_closes_29 : decode cX11_closes 29 = .ok (.iand, 1) := by decide +kernel
theorem dX11_closes_30 : decode cX11_closes 30 = .ok (.iconst 1, 1) := by decide +kernel
theorem dX11_closes_31 : decode cX11_closes 31 = .ok (.if_icmp .ne 18, 3) := by decide +kernel
theorem dX11_closes_34 : decode cX11_closes 34 = .ok (.aload_n 0, 1) := by decide +kernel
theorem dX11_closes_35 : decode cX11_closes 35 = .ok (.getfield 57, 3) := by decide +kernel
theorem dX11_closes_38 : decode cX11_closes 38 = .ok (.iload_n 2, 1) := by decide +kernel
theorem dX11_closes_39 : decode cX11_closes 39 = .ok (.dup2, 1) := by decide +kernel
theorem dX11_closes_40 : decode cX11_closes 40 = .ok (.iaload, 1) := by decide +kernel
theorem dX11_closes_41 : decode cX11_closes 41 = .ok (.aload_n 0, 1) := by decide +kernel
theorem dX11_closes_42 : decode cX11_closes 42 = .ok (.getfield 57, 3) := by decide +kernel
theorem dX11_closes_45 : decode cX11_closes 45 = .ok (.iload_n 1, 1) := by decide +kernel
theorem dX11_closes_46 : decode cX11_closes 46 = .ok (.iaload, 1) := by decide +kernel
theorem dX11_closes_47 : decode cX11_closes 47 = .ok (.ior, 1) := by decide +kernel
theorem dX11_closes_48 : decode cX11_closes 48 = .ok (.iastore, 1) := by decide +kernel
theorem dX11_closes_2 : decode cX11_closes 2 = .ok (.iload_n 1, 1) := by decide +kernel
theorem dX11_closes_3 : decode cX11_closes 3 = .ok (.aload_n 0, 1) := by decide +kernel
theorem dX11_closes_4 : decode cX11_closes 4 = .ok (.getfield 224, 3) := by decide +kernel
theorem dX11_closes_7 : decode cX11_closes 7 = .ok (.if_icmp .ge 54, 3) := by decide +kernel
theorem dX11_closes_10 : decode cX11_closes 10 = .ok (.iconst 0, 1) := by decide +kernel
theorem dX11_closes_11 : decode cX11_closes 11 = .ok (.istore_n 2, 1) := by decide +kernel
theorem dX11_closes_0 : decode cX11_closes 0 = .ok (.iconst 0, 1) := by decide +kernel
theorem dX11_closes_1 : decode cX11_closes 1 = .ok (.istore_n 1, 1) := by decide +kernel
theorem dX11_isRound_32 : decode cX11_isRound 32 = .ok (.iconst 0, 1) := by decide +kernel
theorem dX11_isRound_33 : decode cX11_isRound 33 = .ok (.ireturn, 1) := by decide +kernel
theorem dX11_isRound_26 : decode cX11_isRound 26 = .ok (.iinc 1 1, 3) := by decide +kernel
theorem dX11_isRound_29 : decode cX11_isRound 29 = .ok (.goto (-27), 3) := by decide +kernel
theorem dX11_isRound_2 : decode cX11_isRound 2 = .ok (.iload_n 1, 1) := by decide +kernel
theorem dX11_isRound_3 : decode cX11_isRound 3 = .ok (.aload_n 0, 1) := by decide +kernel
theorem dX11_isRound_4 : decode cX11_isRound 4 = .ok (.getfield 224, 3) := by decide +kernel
theorem dX11_isRound_7 : decode cX11_isRound 7 = .ok (.if_icmp .ge 25, 3) := by decide +kernel
theorem dX11_isRound_10 : decode cX11_isRound 10 = .ok (.aload_n 0, 1) := by decide +kernel
theorem dX11_isRound_11 : decode cX11_isRound 11 = .ok (.getfield 57, 3) := by decide +kernel
theorem dX11_isRound_14 : decode cX11_isRound 14 = .ok (.iload_n 1, 1) := by decide +kernel
theorem dX11_isRound_15 : decode cX11_isRound 15 = .ok (.iaload, 1) := by decide +kernel
theorem dX11_isRound_16 : decode cX11_isRound 16 = .ok (.iload_n 1, 1) := by decide +kernel
theorem dX11_isRound_17 : decode cX11_isRound 17 = .ok (.ishr, 1) := by decide +kernel
theorem dX11_isRound_18 : decode cX11_isRound 18 = .ok (.iconst 1, 1) := by decide +kernel
theorem dX11_isRound_19 : decode cX11_isRound 19 = .ok (.iand, 1) := by decide +kernel
theorem dX11_isRound_20 : decode cX11_isRound 20 = .ok (.iconst 1, 1) := by decide +kernel
theorem dX11_isRound_21 : decode cX11_isRound 21 = .ok (.if_icmp .ne 5, 3) := by decide +kernel
theorem dX11_isRound_24 : decode cX11_isRound 24 = .ok (.iconst 1, 1) := by decide +kernel
theorem dX11_isRound_25 : decode cX11_isRound 25 = .ok (.ireturn, 1) := by decide +kernel
theorem dX11_isRound_0 : decode cX11_isRound 0 = .ok (.iconst 0, 1) := by decide +kernel
theorem dX11_isRound_1 : decode cX11_isRound 1 = .ok (.istore_n 1, 1) := by decide +kernel
theorem dX11_laysHeard_0 : decode cX11_laysHeard 0 = .ok (.aload_n 0, 1) := by decide +kernel
theorem dX11_laysHeard_1 : decode cX11_laysHeard 1 = .ok (.invokevirtual 334, 3) := by decide +kernel
theorem dX11_laysHeard_4 : decode cX11_laysHeard 4 = .ok (.aload_n 0, 1) := by decide +kernel
theorem dX11_laysHeard_5 : decode cX11_laysHeard 5 = .ok (.invokevirtual 337, 3) := by decide +kernel
theorem dX11_laysHeard_8 : decode cX11_laysHeard 8 = .ok (.aload_n 0, 1) := by decide +kernel
theorem dX11_laysHeard_9 : decode cX11_laysHeard 9 = .ok (.invokevirtual 340, 3) := by decide +kernel
theorem dX11_laysHeard_12 : decode cX11_laysHeard 12 = .ok (.return_, 1) := by decide +kernel
theorem dX11_followsNow_0 : decode cX11_followsNow 0 = .ok (.aload_n 0, 1) := by decide +kernel
theorem dX11_followsNow_1 : decode cX11_followsNow 1 = .ok (.invokevirtual 343, 3) := by decide +kernel
theorem dX11_followsNow_4 : decode cX11_followsNow 4 = .ok (.aload_n 0, 1) := by decide +kernel
theorem dX11_followsNow_5 : decode cX11_followsNow 5 = .ok (.iload_n 1, 1) := by decide +kernel
theorem dX11_followsNow_6 : decode cX11_followsNow 6 = .ok (.invokevirtual 346, 3) := by decide +kernel
theorem dX11_followsNow_9 : decode cX11_followsNow 9 = .ok (.ireturn, 1) := by decide +kernel
theorem dX11_followMany_35 : decode cX11_followMany 35 = .ok (.iload_n 1, 1) := by decide +kernel
theorem dX11_followMany_36 : decode cX11_followMany 36 = .ok (.ireturn, 1) := by decide +kernel
theorem dX11_followMany_27 : decode cX11_followMany 27 = .ok (.iadd, 1) := by decide +kernel
theorem dX11_followMany_28 : decode cX11_followMany 28 = .ok (.istore_n 1, 1) := by decide +kernel
theorem dX11_followMany_29 : decode cX11_followMany 29 = .ok (.iinc 2 1, 3) := by decide +kernel
theorem dX11_followMany_32 : decode cX11_followMany 32 = .ok (.goto (-28), 3) := by decide +kernel
theorem dX11_followMany_26 : decode cX11_followMany 26 = .ok (.iconst 1, 1) := by decide +kernel
theorem dX11_followMany_4 : decode cX11_followMany 4 = .ok (.iload_n 2, 1) := by decide +kernel
theorem dX11_followMany_5 : decode cX11_followMany 5 = .ok (.aload_n 0, 1) := by decide +kernel
theorem dX11_followMany_6 : decode cX11_followMany 6 = .ok (.getfield 103, 3) := by decide +kernel
theorem dX11_followMany_9 : decode cX11_followMany 9 = .ok (.if_icmp .ge 26, 3) := by decide +kernel
theorem dX11_followMany_12 : decode cX11_followMany 12 = .ok (.iload_n 1, 1) := by decide +kernel
theorem dX11_followMany_13 : decode cX11_followMany 13 = .ok (.aload_n 0, 1) := by decide +kernel
theorem dX11_followMany_14 : decode cX11_followMany 14 = .ok (.iload_n 2, 1) := by decide +kernel
theorem dX11_followMany_15 : decode cX11_followMany 15 = .ok (.invokevirtual 346, 3) := by decide +kernel
theorem dX11_followMany_18 : decode cX11_followMany 18 = .ok (.iconst (-1), 1) := by decide +kernel
theorem dX11_followMany_19 : decode cX11_followMany 19 = .ok (.if_icmp .ne 7, 3) := by decide +kernel
theorem dX11_followMany_22 : decode cX11_followMany 22 = .ok (.iconst 0, 1) := by decide +kernel
theorem dX11_followMany_23 : decode cX11_followMany 23 = .ok (.goto 4, 3) := by decide +kernel
theorem dX11_followMany_0 : decode cX11_followMany 0 = .ok (.iconst 0, 1) := by decide +kernel
theorem dX11_followMany_1 : decode cX11_followMany 1 = .ok (.istore_n 1, 1) := by decide +kernel
theorem dX11_followMany_2 : decode cX11_followMany 2 = .ok (.iconst 0, 1) := by decide +kernel
theorem dX11_followMany_3 : decode cX11_followMany 3 = .ok (.istore_n 2, 1) := by decide +kernel
/-! the reference's order -/
def rmo (B : Nat → Nat) (h : zH) (y : Nat) : Prop := ∀ i, i < 10 → h.1 (y + 14) i = nI (B i) ∧ B i < 1024
def oM (B : Nat → Nat) (h : zH) (y : Nat) (h' : zH) : Prop := ∃ f : Nat → Int32, h' = zsW h (y + 14) f ∧ ∀ i, i < 10 → f i = nI (B i) ∧ B i < 1024
theorem oM_o {B : Nat → Nat} {h h' : zH} {y : Nat} (a : oM B h y h') : rmo B h' y := by
  obtain ⟨f, rfl, hf⟩ := a
  intro i hi
  rw [zsW_s]; exact hf i hi
theorem oM_t {B C : Nat → Nat} {h h1 h2 : zH} {y : Nat} (a : oM B h y h1) (b : oM C h1 y h2) : oM C h y h2 := by
  obtain ⟨f, rfl, hf⟩ := a
  obtain ⟨g, rfl, hg⟩ := b
  exact ⟨g, zsW_W _ _ _ _, hg⟩
theorem oM_f {B : Nat → Nat} {h h' : zH} {y : Nat} (a : oM B h y h') : fm y h h' := by
  obtain ⟨f, rfl, hf⟩ := a
  exact fm_W (j := 14) _ _ (by decide)
theorem oM_r {B : Nat → Nat} {h : zH} {y : Nat} (a : rmo B h y) : oM B h y h := ⟨h.1 (y + 14), (zsW_self _ _).symm, a⟩
def mput (B : Nat → Nat) (a b : Nat) : Nat → Nat := fun i => if i = a then B i ||| 2 ^ b else B i
def mpuP (S : zD) (B : Nat → Nat) (p : Nat) (w : Bool) : Nat → Nat := if w then mput B (dF S p) (dS S p) else mput B (dS S p) (dF S p)
def mlay (S : zD) (M : zG) : Nat → (Nat → Nat)
  | 0 => fun _ => 0
  | i + 1 => mpuP S (mlay S M i) (gP M i) (gB M i)
def mhr (S : zD) (M : zG) (B : Nat → Nat) : Nat → (Nat → Nat)
  | 0 => B
  | i + 1 => mpuP S (mhr S M B i) (gP M i) (gB M i)
def mst (B : Nat → Nat) (k r : Nat) : Nat → Nat := if (B r).testBit k then fun i => if i = r then B i ||| B k else B i else B
def mrw (B : Nat → Nat) (k : Nat) : Nat → (Nat → Nat)
  | 0 => B
  | r + 1 => mst (mrw B k r) k r
def mcl (N : Nat) (B : Nat → Nat) : Nat → (Nat → Nat)
  | 0 => B
  | k + 1 => mrw (mcl N B k) k N
theorem or10 {a b : Nat} (ha : a < 1024) (hb : b < 1024) : a ||| b < 1024 := Nat.or_lt_two_pow (n := 10) ha hb
theorem p10 {b : Nat} (hb : b < 10) : 2 ^ b < 1024 := Nat.pow_lt_pow_right (by decide) hb
def ca_X11_noOrder : (Nat) → List zV := fun y => [vR 20 0 y]
def cp_X11_noOrder : (Nat) → zH → Prop := fun _ _ => True
def cq_X11_noOrder : (Nat) → zH → Option zV → zH → Prop := fun y h r h' => r = none ∧ oM (fun _ => 0) h y h'
theorem rc_X11_noOrder : ∀ x : (Nat), ∃ (j a : Nat) (As : List zV), ca_X11_noOrder x = vR (10 + 10) j a :: As := by
  rintro y
  exact ⟨_, _, _, rfl⟩
set_option maxHeartbeats 4000000 in
set_option maxRecDepth 100000 in
theorem m_X11_noOrder : zM yX11_noOrder cX11_noOrder 2 none ({ frames := 0, cells := 0, slots := 0, locals := 0 } : Room) ((ca_X11_noOrder, cp_X11_noOrder, cq_X11_noOrder) : zC (Nat)) := by
  refine zM_of (by decide) ?_
  rintro X Y y h _ O E hR
  have B_21 := zr_return (X := X) (Y := Y) (u := 0) (v := 0) O E (Nat.le_refl _) (Nat.le_refl _) dX11_noOrder_21
  have L_2 : ∀ nn : Nat, zSd X Y 0 0 2 ((fun d ls st h1 => ∃ (k : Nat) (z : Int32) (f : Nat → Int32), d = 10 - k ∧ k ≤ 10 ∧ ls = [some (vR 20 0 y), some (vI z)] ∧ z = nI k ∧ st = [] ∧ h1 = zsW h (y + 14) f ∧ ∀ j, j < k → f j = 0 : Nat → zT) nn) := by
    refine zSd_loop (fun nn ih => ?_)
    have B_2 := zr_iload_n (X := X) (Y := Y) (u := 0) (v := 0) O dX11_noOrder_2 rfl (zr_bipush (x := (10)) O dX11_noOrder_3 (by decide) (zr_icge (tgt := 21) O dX11_noOrder_5 rfl B_21 (zr_aload_n O dX11_noOrder_8 rfl (zr_gS (ci := 10) (j := 31) (off := 14) (t := 1) (n := 10) O zc_10 (by decide) rfl tw_1218 dX11_noOrder_9 (zr_iload_n O dX11_noOrder_12 rfl (zr_iconst (x := 0) O dX11_noOrder_13 rfl (zr_iast O dX11_noOrder_14 (zr_iinc (c := 1) O dX11_noOrder_15 rfl (zr_goto (tgt := 2) O dX11_noOrder_18 rfl ih)))))))))
    refine zSd_weak B_2 (fun ls st h1 t => ?_)
    obtain ⟨k, z, f, rfl, hk, rfl, rfl, rfl, rfl, hf⟩ := t
    refine ⟨fun cq => ?_, fun cq => ?_⟩
    · have := (nI_leI (a := 10) (by omega) (by omega)).mp cq
      exact ⟨rfl, f, rfl, fun i hi => ⟨hf i (by omega), by show (0 : Nat) < 1024; decide⟩⟩
    · have hk2 : k < 10 := Nat.not_le.mp (fun z => cq ((nI_leI (a := 10) (by omega) (by omega)).mpr z))
      refine ⟨k, rfl, hk2, 10 - (k + 1), by omega, k + 1, _, va_up f k 0, rfl, by omega, rfl, nI_1 k, rfl, ?_, fun j hj => ?_⟩
      · rw [zsI_W, zsW_W, zsW_s]
      · by_cases e : j = k
        · rw [e, zup_s]
        · rw [zup_n _ _ e]; exact hf j (by omega)
  have B_2 := zSd_any L_2
  have B_0 := zr_iconst (X := X) (Y := Y) (u := 0) (v := 0) (x := 0) O dX11_noOrder_0 rfl (zr_istore_n O dX11_noOrder_1 rfl (B_2))
  refine ⟨rfl, Nat.le_of_ble_eq_true rfl, _, B_0, ?_⟩
  exact ⟨10 - 0, 0, _, h.1 (y + 14), rfl, Nat.zero_le _, rfl, rfl, rfl, (zsW_self _ _).symm, fun j hj => absurd hj (Nat.not_lt_zero _)⟩
theorem mput_M {B : Nat → Nat} {h : zH} {y a b : Nat} (ha : a < 10) (hb : b < 10) (hB : rmo B h y) : oM (mput B a b) h y (zsI h (y + 14) a (h.1 (y + 14) a ||| ((1 : Int32) <<< (nI b &&& 31)))) := by
  refine ⟨_, zsI_W _ _ _ _, fun i hi => ?_⟩
  have hp := p10 hb
  unfold mput
  by_cases e : i = a
  · rw [e, zup_s, if_pos rfl, (hB a ha).1, nI_pow (by omega), fa_or]
    exact ⟨rfl, or10 (hB a ha).2 hp⟩
  · rw [zup_n _ _ e, if_neg e]; exact hB i hi
def ca_X11_puts_ : (zD × (Nat → Nat) × Nat × Nat × Bool) → List zV := fun (S, B, y, p, w) => [vR 20 0 y, vI (nI p), vI (bI w)]
def cp_X11_puts_ : (zD × (Nat → Nat) × Nat × Nat × Bool) → zH → Prop := fun (S, B, y, p, w) h => rmS S h y ∧ rmo B h y ∧ p < dP S
def cq_X11_puts_ : (zD × (Nat → Nat) × Nat × Nat × Bool) → zH → Option zV → zH → Prop := fun (S, B, y, p, w) h r h' => r = none ∧ oM (mpuP S B p w) h y h'
theorem rc_X11_puts_ : ∀ x : (zD × (Nat → Nat) × Nat × Nat × Bool), ∃ (j a : Nat) (As : List zV), ca_X11_puts_ x = vR (10 + 10) j a :: As := by
  rintro ⟨S, B, y, p, w⟩
  exact ⟨_, _, _, rfl⟩
set_option maxHeartbeats 4000000 in
set_option maxRecDepth 100000 in
theorem m_X11_puts_ : zM yX11_puts_ cX11_puts_ 5 none ({ frames := 0, cells := 0, slots := 0, locals := 0 } : Room) ((ca_X11_puts_, cp_X11_puts_, cq_X11_puts_) : zC (zD × (Nat → Nat) × Nat × Nat × Bool)) := by
  refine zM_of (by decide) ?_
  rintro X Y ⟨S, B, y, p, w⟩ h ⟨hS, hB, hp⟩ O E hR
  have B_41 := zr_istore (X := X) (Y := Y) (u := 0) (v := 0) O dX11_puts__41 (zr_aload_n O dX11_puts__43 rfl (zr_gS (ci := 10) (j := 31) (off := 14) (t := 1) (n := 10) O zc_10 (by decide) rfl tw_1218 dX11_puts__44 (zr_iload_n O dX11_puts__47 rfl (zr_dup2 O dX11_puts__48 (zr_iald O dX11_puts__49 (zr_iconst (x := 1) O dX11_puts__50 rfl (zr_iload O dX11_puts__51 (zr_ishl O dX11_puts__53 (zr_ior O dX11_puts__54 (zr_iast O dX11_puts__55 (zr_return O E (Nat.le_refl _) (Nat.le_refl _) dX11_puts__56)))))))))))
  have B_35 := zr_aload_n (X := X) (Y := Y) (u := 0) (v := 0) O dX11_puts__35 rfl (zr_gS (ci := 10) (j := 5) (off := 5) (t := 1) (n := 28) O zc_10 (by decide) rfl tw_1192 dX11_puts__36 (zr_iload_n O dX11_puts__39 rfl (zr_iald O dX11_puts__40 (B_41))))
  have B_20 := zr_istore_n (X := X) (Y := Y) (u := 0) (v := 0) O dX11_puts__20 rfl (zr_iload_n O dX11_puts__21 rfl (zr_iconst (x := 1) O dX11_puts__22 rfl (zr_icne (tgt := 35) O dX11_puts__23 rfl B_35 (zr_aload_n O dX11_puts__26 rfl (zr_gS (ci := 10) (j := 6) (off := 6) (t := 1) (n := 28) O zc_10 (by decide) rfl tw_1193 dX11_puts__27 (zr_iload_n O dX11_puts__30 rfl (zr_iald O dX11_puts__31 (zr_goto (tgt := 41) O dX11_puts__32 rfl B_41))))))))
  have B_14 := zr_aload_n (X := X) (Y := Y) (u := 0) (v := 0) O dX11_puts__14 rfl (zr_gS (ci := 10) (j := 6) (off := 6) (t := 1) (n := 28) O zc_10 (by decide) rfl tw_1193 dX11_puts__15 (zr_iload_n O dX11_puts__18 rfl (zr_iald O dX11_puts__19 (B_20))))
  have B_0 := zr_iload_n (X := X) (Y := Y) (u := 0) (v := 0) O dX11_puts__0 rfl (zr_iconst (x := 1) O dX11_puts__1 rfl (zr_icne (tgt := 14) O dX11_puts__2 rfl B_14 (zr_aload_n O dX11_puts__5 rfl (zr_gS (ci := 10) (j := 5) (off := 5) (t := 1) (n := 28) O zc_10 (by decide) rfl tw_1192 dX11_puts__6 (zr_iload_n O dX11_puts__9 rfl (zr_iald O dX11_puts__10 (zr_goto (tgt := 20) O dX11_puts__11 rfl B_20)))))))
  refine ⟨rfl, Nat.le_of_ble_eq_true rfl, _, B_0, ?_⟩
  have hS : rmS S h y := hS
  have hB : rmo B h y := hB
  have hp : p < dP S := hp
  obtain ⟨⟨f1, f2⟩, s1, s2⟩ := hS.2.2.2.1 p hp
  have hN := hS.1.2
  have hp28 : p < 28 := Nat.lt_of_lt_of_le hp hS.2.1.2
  refine ⟨fun c => ?_, fun c => ?_⟩
  · have hw : w = false := by
      cases w with
      | true => exact absurd rfl c
      | false => rfl
    subst hw
    refine ⟨p, rfl, hp28, fun c2 => ?_, fun c2 => absurd c2 c⟩
    refine ⟨p, rfl, hp28, dS S p, s1, by omega, dS S p, s1, by omega, rfl, ?_⟩
    have := mput_M (a := dS S p) (b := dF S p) (by omega) (by omega) hB
    rw [← f1] at this
    exact this
  · have hw : w = true := (bI_1 _).mp c
    subst hw
    refine ⟨p, rfl, hp28, fun c2 => absurd rfl c2, fun c2 => ?_⟩
    refine ⟨p, rfl, hp28, dF S p, f1, by omega, dF S p, f1, by omega, rfl, ?_⟩
    have := mput_M (a := dF S p) (b := dS S p) (by omega) (by omega) hB
    rw [← s1] at this
    exact this
def ca_X11_putsHeard : (zD × zG × (Nat → Nat) × Nat) → List zV := fun (S, M, B, y) => [vR 20 0 y]
def cp_X11_putsHeard : (zD × zG × (Nat → Nat) × Nat) → zH → Prop := fun (S, M, B, y) h => rmS S h y ∧ rmL M (h.1 (y + 2)) ∧ rmo B h y ∧ ∀ i, i < gN M → gP M i < dP S
def cq_X11_putsHeard : (zD × zG × (Nat → Nat) × Nat) → zH → Option zV → zH → Prop := fun (S, M, B, y) h r h' => r = none ∧ oM (mhr S M B (gN M)) h y h'
theorem rc_X11_putsHeard : ∀ x : (zD × zG × (Nat → Nat) × Nat), ∃ (j a : Nat) (As : List zV), ca_X11_putsHeard x = vR (10 + 10) j a :: As := by
  rintro ⟨S, M, B, y⟩
  exact ⟨_, _, _, rfl⟩
set_option maxHeartbeats 4000000 in
set_option maxRecDepth 100000 in
theorem m_X11_putsHeard : zM yX11_putsHeard cX11_putsHeard 2 none ({ frames := 1, cells := 0, slots := 0, locals := 24 } : Room) ((ca_X11_putsHeard, cp_X11_putsHeard, cq_X11_putsHeard) : zC (zD × zG × (Nat → Nat) × Nat)) := by
  refine zM_of (by decide) ?_
  rintro X Y ⟨S, M, B, y⟩ h ⟨hS, hL, hB, hG⟩ O E hR
  have hS : rmS S h y := hS
  have hL : rmL M (h.1 (y + 2)) := hL
  have hB : rmo B h y := hB
  have hG : ∀ i, i < gN M → gP M i < dP S := hG
  have h28 := hL.1.2
  have B_44 := zr_return (X := X) (Y := Y) (u := 0) (v := 0) O E (Nat.le_refl _) (Nat.le_refl _) dX11_putsHeard_44
  have L_2 : ∀ nn : Nat, zSd X Y 0 0 2 ((fun d ls st h1 => ∃ (k : Nat) (z : Int32), d = gN M - k ∧ k ≤ gN M ∧ ls = [some (vR 20 0 y), some (vI z)] ∧ z = nI k ∧ st = [] ∧ oM (mhr S M B k) h y h1 : Nat → zT) nn) := by
    refine zSd_loop (fun nn ih => ?_)
    have B_2 := zr_iload_n (X := X) (Y := Y) (u := 0) (v := 0) O dX11_putsHeard_2 rfl (zr_aload_n O dX11_putsHeard_3 rfl (zr_gS (ci := 10) (j := 2) (off := 2) (t := 1) (n := 218) O zc_10 (by decide) rfl tw_1189 dX11_putsHeard_4 (zr_sipush (x := (161)) O dX11_putsHeard_7 (by decide) (zr_iald O dX11_putsHeard_10 (zr_icge (tgt := 44) O dX11_putsHeard_11 rfl B_44 (zr_aload_n O dX11_putsHeard_14 rfl (zr_aload_n O dX11_putsHeard_15 rfl (zr_gS (ci := 10) (j := 2) (off := 2) (t := 1) (n := 218) O zc_10 (by decide) rfl tw_1189 dX11_putsHeard_16 (zr_sipush (x := (162)) O dX11_putsHeard_19 (by decide) (zr_iload_n O dX11_putsHeard_22 rfl (zr_iadd O dX11_putsHeard_23 (zr_iald O dX11_putsHeard_24 (zr_aload_n O dX11_putsHeard_25 rfl (zr_gS (ci := 10) (j := 2) (off := 2) (t := 1) (n := 218) O zc_10 (by decide) rfl tw_1189 dX11_putsHeard_26 (zr_sipush (x := (190)) O dX11_putsHeard_29 (by decide) (zr_iload_n O dX11_putsHeard_32 rfl (zr_iadd O dX11_putsHeard_33 (zr_iald O dX11_putsHeard_34 (zr_cV (ci := 10) (n := 2) O m_X11_puts_ (bn_X11_puts_ _ ⟨rfl, rfl⟩) vw_X11_puts_ tw_1551 rc_X11_puts_ (zrm hR rfl rfl) dX11_putsHeard_35 (zr_iinc (c := 1) O dX11_putsHeard_38 rfl (zr_goto (tgt := 2) O dX11_putsHeard_41 rfl ih)))))))))))))))))))))
    refine zSd_weak B_2 (fun ls st h1 t => ?_)
    obtain ⟨k, z, rfl, hk, rfl, rfl, rfl, ho⟩ := t
    have f1 := oM_f ho
    have m1 : h1.1 (y + 2) = h.1 (y + 2) := f1.2.2.2 2 (by omega)
    refine ⟨161, rfl, by decide, fun cq => ?_, fun cq => ?_⟩
    · rw [m1, hL.1.1] at cq
      have := (nI_leI (by omega) (by omega)).mp cq
      have hk2 : k = gN M := by omega
      subst hk2
      exact ⟨rfl, ho⟩
    · rw [m1, hL.1.1] at cq
      have hk2 : k < gN M := Nat.not_le.mp (fun z => cq ((nI_leI (by omega) (by omega)).mpr z))
      obtain ⟨⟨p1, p2⟩, p3⟩ := hL.2.1 k hk2
      refine ⟨162 + k, lI 162 k, by omega, 190 + k, lI 190 k, by omega, (S, mhr S M B k, y, gP M k, gB M k), by rw [m1, p1, p3]; rfl, ⟨rmS_fm f1 hS, oM_o ho, hG k hk2⟩, fun r h2 hq => ?_⟩
      obtain ⟨rfl, o2⟩ := hq
      exact ⟨gN M - (k + 1), by omega, k + 1, _, rfl, by omega, rfl, nI_1 k, rfl, oM_t ho o2⟩
  have B_2 := zSd_any L_2
  have B_0 := zr_iconst (X := X) (Y := Y) (u := 0) (v := 0) (x := 0) O dX11_putsHeard_0 rfl (zr_istore_n O dX11_putsHeard_1 rfl (B_2))
  refine ⟨rfl, Nat.le_of_ble_eq_true rfl, _, B_0, ?_⟩
  exact ⟨gN M - 0, 0, _, rfl, Nat.zero_le _, rfl, rfl, rfl, oM_r hB⟩
def ca_X11_follows : (zD × (Nat → Nat) × Nat × Nat) → List zV := fun (S, B, y, p) => [vR 20 0 y, vI (nI p)]
def cp_X11_follows : (zD × (Nat → Nat) × Nat × Nat) → zH → Prop := fun (S, B, y, p) h => rmS S h y ∧ rmo B h y ∧ p < dP S
def cf_X11_follows : (zD × (Nat → Nat) × Nat × Nat) → zH → Int32 := fun (S, B, y, p) _ => otl B (dF S p) (dS S p)
theorem rc_X11_follows : ∀ x : (zD × (Nat → Nat) × Nat × Nat), ∃ (j a : Nat) (As : List zV), ca_X11_follows x = vR (10 + 10) j a :: As := by
  rintro ⟨S, B, y, p⟩
  exact ⟨_, _, _, rfl⟩
set_option maxHeartbeats 4000000 in
set_option maxRecDepth 100000 in
theorem m_X11_follows : zM yX11_follows cX11_follows 4 (some .int) ({ frames := 0, cells := 0, slots := 0, locals := 0 } : Room) (zcI ca_X11_follows cp_X11_follows cf_X11_follows) := by
  refine zM_of (by decide) ?_
  rintro X Y ⟨S, B, y, p⟩ h ⟨hS, hB, hp⟩ O E hR
  have hS : rmS S h y := hS
  have hB : rmo B h y := hB
  have hp : p < dP S := hp
  obtain ⟨⟨f1, f2⟩, s1, s2⟩ := hS.2.2.2.1 p hp
  have hN := hS.1.2
  have hp28 : p < 28 := Nat.lt_of_lt_of_le hp hS.2.1.2
  obtain ⟨b1, b2⟩ := hB (dF S p) (by omega)
  obtain ⟨b3, b4⟩ := hB (dS S p) (by omega)
  have e1 : (h.1 (y + 14) (dF S p) >>> (h.1 (y + 6) p &&& 31)) &&& 1 = bI ((B (dF S p)).testBit (dS S p)) := by rw [b1, s1]; exact bI_in (by omega) (by omega)
  have e2 : (h.1 (y + 14) (dS S p) >>> (h.1 (y + 5) p &&& 31)) &&& 1 = bI ((B (dS S p)).testBit (dF S p)) := by rw [b3, f1]; exact bI_in (by omega) (by omega)
  have B_78 := zr_ireturn (X := X) (Y := Y) (u := 0) (v := 0) O E (Nat.le_refl _) (Nat.le_refl _) dX11_follows_78
  have B_77 := zr_iconst (X := X) (Y := Y) (u := 0) (v := 0) (x := 0) O dX11_follows_77 rfl (B_78)
  have B_69 := zr_iload_n (X := X) (Y := Y) (u := 0) (v := 0) O dX11_follows_69 rfl (zr_ifeq (tgt := 77) O dX11_follows_70 rfl B_77 (zr_iconst (x := 1) O dX11_follows_73 rfl (zr_goto (tgt := 78) O dX11_follows_74 rfl B_78)))
  have B_59 := zr_istore_n (X := X) (Y := Y) (u := 0) (v := 0) O dX11_follows_59 rfl (zr_iload_n O dX11_follows_60 rfl (zr_iload_n O dX11_follows_61 rfl (zr_icne (tgt := 69) O dX11_follows_62 rfl B_69 (zr_iconst (x := (-1)) O dX11_follows_65 rfl (zr_goto (tgt := 78) O dX11_follows_66 rfl B_78)))))
  have C_59 : zSd X Y 0 0 59 (fun ls st h1 => ∃ u v : Int32, ls = [some (vR 20 0 y), some (vI (nI p)), some (vI u), none] ∧ st = [vI v] ∧ u = bI ((B (dF S p)).testBit (dS S p)) ∧ v = bI ((B (dS S p)).testBit (dF S p)) ∧ h = h1) := by
    refine zSd_weak B_59 (fun ls st h1 t => ?_)
    obtain ⟨u, v, rfl, rfl, rfl, rfl, rfl⟩ := t
    refine ⟨fun c => ⟨fun d => ⟨zri ?_, rfl⟩, fun d => ⟨zri ?_, rfl⟩⟩, fun c => ⟨zri ?_, rfl⟩⟩
    · show (0 : Int32) = otl B (dF S p) (dS S p)
      rw [otl, if_neg (fun z => c (by rw [z])), d]
    · show (1 : Int32) = otl B (dF S p) (dS S p)
      rw [otl, if_neg (fun z => c (by rw [z]))]
      cases hz : (B (dF S p)).testBit (dS S p) with
      | true => rfl
      | false => rw [hz] at d; exact absurd rfl d
    · show (-1 : Int32) = otl B (dF S p) (dS S p)
      rw [otl, if_pos]
      cases hz : (B (dF S p)).testBit (dS S p) <;> cases hy : (B (dS S p)).testBit (dF S p) <;> rw [hz, hy] at c <;> first | rfl | exact absurd c (by decide)
  have B_58 := zr_iconst (X := X) (Y := Y) (u := 0) (v := 0) (x := 0) O dX11_follows_58 rfl (C_59)
  have B_29 := zr_istore_n (X := X) (Y := Y) (u := 0) (v := 0) O dX11_follows_29 rfl (zr_aload_n O dX11_follows_30 rfl (zr_gS (ci := 10) (j := 31) (off := 14) (t := 1) (n := 10) O zc_10 (by decide) rfl tw_1218 dX11_follows_31 (zr_aload_n O dX11_follows_34 rfl (zr_gS (ci := 10) (j := 6) (off := 6) (t := 1) (n := 28) O zc_10 (by decide) rfl tw_1193 dX11_follows_35 (zr_iload_n O dX11_follows_38 rfl (zr_iald O dX11_follows_39 (zr_iald O dX11_follows_40 (zr_aload_n O dX11_follows_41 rfl (zr_gS (ci := 10) (j := 5) (off := 5) (t := 1) (n := 28) O zc_10 (by decide) rfl tw_1192 dX11_follows_42 (zr_iload_n O dX11_follows_45 rfl (zr_iald O dX11_follows_46 (zr_ishr O dX11_follows_47 (zr_iconst (x := 1) O dX11_follows_48 rfl (zr_iand O dX11_follows_49 (zr_iconst (x := 1) O dX11_follows_50 rfl (zr_icne (tgt := 58) O dX11_follows_51 rfl B_58 (zr_iconst (x := 1) O dX11_follows_54 rfl (zr_goto (tgt := 59) O dX11_follows_55 rfl C_59))))))))))))))))))
  have C_29 : zSd X Y 0 0 29 (fun ls st h1 => ∃ u : Int32, ls = [some (vR 20 0 y), some (vI (nI p)), none, none] ∧ st = [vI u] ∧ u = bI ((B (dF S p)).testBit (dS S p)) ∧ h = h1) := by
    refine zSd_weak B_29 (fun ls st h1 t => ?_)
    obtain ⟨u, rfl, rfl, rfl, rfl⟩ := t
    refine ⟨p, rfl, hp28, dS S p, s1, by omega, p, rfl, hp28, fun c => ?_, fun c => ?_⟩
    · rw [e2] at c
      refine ⟨_, _, rfl, rfl, rfl, ?_, rfl⟩
      cases hz : (B (dS S p)).testBit (dF S p) with
      | true => rw [hz] at c; exact absurd rfl c
      | false => rfl
    · rw [e2] at c
      exact ⟨_, _, rfl, rfl, rfl, c.symm, rfl⟩
  have B_28 := zr_iconst (X := X) (Y := Y) (u := 0) (v := 0) (x := 0) O dX11_follows_28 rfl (C_29)
  have B_0 := zr_aload_n (X := X) (Y := Y) (u := 0) (v := 0) O dX11_follows_0 rfl (zr_gS (ci := 10) (j := 31) (off := 14) (t := 1) (n := 10) O zc_10 (by decide) rfl tw_1218 dX11_follows_1 (zr_aload_n O dX11_follows_4 rfl (zr_gS (ci := 10) (j := 5) (off := 5) (t := 1) (n := 28) O zc_10 (by decide) rfl tw_1192 dX11_follows_5 (zr_iload_n O dX11_follows_8 rfl (zr_iald O dX11_follows_9 (zr_iald O dX11_follows_10 (zr_aload_n O dX11_follows_11 rfl (zr_gS (ci := 10) (j := 6) (off := 6) (t := 1) (n := 28) O zc_10 (by decide) rfl tw_1193 dX11_follows_12 (zr_iload_n O dX11_follows_15 rfl (zr_iald O dX11_follows_16 (zr_ishr O dX11_follows_17 (zr_iconst (x := 1) O dX11_follows_18 rfl (zr_iand O dX11_follows_19 (zr_iconst (x := 1) O dX11_follows_20 rfl (zr_icne (tgt := 28) O dX11_follows_21 rfl B_28 (zr_iconst (x := 1) O dX11_follows_24 rfl (zr_goto (tgt := 29) O dX11_follows_25 rfl C_29)))))))))))))))))
  refine ⟨rfl, Nat.le_of_ble_eq_true rfl, _, B_0, ?_⟩
  refine ⟨p, rfl, hp28, dF S p, f1, by omega, p, rfl, hp28, fun c => ?_, fun c => ?_⟩
  · rw [e1] at c
    refine ⟨_, rfl, rfl, ?_, rfl⟩
    cases hz : (B (dF S p)).testBit (dS S p) with
    | true => rw [hz] at c; exact absurd rfl c
    | false => rfl
  · rw [e1] at c
    exact ⟨_, rfl, rfl, c.symm, rfl⟩
theorem mst_lt {B : Nat → Nat} {k r : Nat} (hk : k < 10) (hB : ∀ i, i < 10 → B i < 1024) : ∀ i, i < 10 → mst B k r i < 1024 := by
  intro i hi
  unfold mst
  split
  · show (if i = r then B i ||| B k else B i) < 1024
    split
    · exact or10 (hB i hi) (hB k hk)
    · exact hB i hi
  · exact hB i hi
def ca_X11_closes : (zD × (Nat → Nat) × Nat) → List zV := fun (S, B, y) => [vR 20 0 y]
def cp_X11_closes : (zD × (Nat → Nat) × Nat) → zH → Prop := fun (S, B, y) h => rmS S h y ∧ rmo B h y
def cq_X11_closes : (zD × (Nat → Nat) × Nat) → zH → Option zV → zH → Prop := fun (S, B, y) h r h' => r = none ∧ oM (mcl (dN S) B (dN S)) h y h'
theorem rc_X11_closes : ∀ x : (zD × (Nat → Nat) × Nat), ∃ (j a : Nat) (As : List zV), ca_X11_closes x = vR (10 + 10) j a :: As := by
  rintro ⟨S, B, y⟩
  exact ⟨_, _, _, rfl⟩
set_option maxHeartbeats 4000000 in
set_option maxRecDepth 100000 in
theorem m_X11_closes : zM yX11_closes cX11_closes 3 none ({ frames := 0, cells := 0, slots := 0, locals := 0 } : Room) ((ca_X11_closes, cp_X11_closes, cq_X11_closes) : zC (zD × (Nat → Nat) × Nat)) := by
  refine zM_of (by decide) ?_
  rintro X Y ⟨S, B, y⟩ h ⟨hS, hB⟩ O E hR
  have hS : rmS S h y := hS
  have hB : rmo B h y := hB
  have hN := hS.1.2
  have B_61 := zr_return (X := X) (Y := Y) (u := 0) (v := 0) O E (Nat.le_refl _) (Nat.le_refl _) dX11_closes_61
  have L_2 : ∀ nn : Nat, zSd X Y 0 0 2 ((fun d ls st h1 => ∃ (k : Nat) (z : Int32) (y2 : Option zV), d = dN S - k ∧ k ≤ dN S ∧ ls = [some (vR 20 0 y), some (vI z), y2] ∧ z = nI k ∧ st = [] ∧ oM (mcl (dN S) B k) h y h1 : Nat → zT) nn) := by
    refine zSd_loop (fun nn ih => ?_)
    have B_55 := zr_iinc (X := X) (Y := Y) (u := 0) (v := 0) (c := 1) O dX11_closes_55 rfl (zr_goto (tgt := 2) O dX11_closes_58 rfl ih)
    have L_12 : ∀ nn12 : Nat, zSd X Y 0 0 12 ((fun d ls st h1 => ∃ (k r : Nat) (z u : Int32), d = dN S - r ∧ r ≤ dN S ∧ nn = dN S - k ∧ k < dN S ∧ ls = [some (vR 20 0 y), some (vI z), some (vI u)] ∧ z = nI k ∧ u = nI r ∧ st = [] ∧ oM (mrw (mcl (dN S) B k) k r) h y h1 : Nat → zT) nn12) := by
      refine zSd_loop (fun nn12 ih12 => ?_)
      have B_49 := zr_iinc (X := X) (Y := Y) (u := 0) (v := 0) (c := 1) O dX11_closes_49 rfl (zr_goto (tgt := 12) O dX11_closes_52 rfl ih12)
      have B_12 := zr_iload_n (X := X) (Y := Y) (u := 0) (v := 0) O dX11_closes_12 rfl (zr_aload_n O dX11_closes_13 rfl (zr_gI (ci := 10) (j := 10) O zc_10 (by decide) rfl tw_1197 dX11_closes_14 (zr_icge (tgt := 55) O dX11_closes_17 rfl B_55 (zr_aload_n O dX11_closes_20 rfl (zr_gS (ci := 10) (j := 31) (off := 14) (t := 1) (n := 10) O zc_10 (by decide) rfl tw_1218 dX11_closes_21 (zr_iload_n O dX11_closes_24 rfl (zr_iald O dX11_closes_25 (zr_iload_n O dX11_closes_26 rfl (zr_ishr O dX11_closes_27 (zr_iconst (x := 1) O dX11_closes_28 rfl (zr_iand O dX11_closes_29 (zr_iconst (x := 1) O dX11_closes_30 rfl (zr_icne (tgt := 49) O dX11_closes_31 rfl B_49 (zr_aload_n O dX11_closes_34 rfl (zr_gS (ci := 10) (j := 31) (off := 14) (t := 1) (n := 10) O zc_10 (by decide) rfl tw_1218 dX11_closes_35 (zr_iload_n O dX11_closes_38 rfl (zr_dup2 O dX11_closes_39 (zr_iald O dX11_closes_40 (zr_aload_n O dX11_closes_41 rfl (zr_gS (ci := 10) (j := 31) (off := 14) (t := 1) (n := 10) O zc_10 (by decide) rfl tw_1218 dX11_closes_42 (zr_iload_n O dX11_closes_45 rfl (zr_iald O dX11_closes_46 (zr_ior O dX11_closes_47 (zr_iast O dX11_closes_48 (B_49)))))))))))))))))))))))))
      refine zSd_weak B_12 (fun ls st h1 t => ?_)
      obtain ⟨k, r, z, u, rfl, hr, en, hk, rfl, rfl, rfl, rfl, ho⟩ := t
      have hS1 := rmS_fm (oM_f ho) hS
      have o1 := oM_o ho
      obtain ⟨C, eC2⟩ : ∃ C : Nat → Nat, C = mrw (mcl (dN S) B k) k r := ⟨_, rfl⟩
      rw [← eC2] at ho o1
      refine ⟨fun cq => ?_, fun cq => ?_⟩
      · rw [hS1.1.1] at cq
        have := (nI_leI (by omega) (by omega)).mp cq
        have hr2 : r = dN S := by omega
        refine ⟨dN S - (k + 1), by omega, k + 1, _, _, rfl, by omega, rfl, nI_1 k, rfl, ?_⟩
        rw [hr2] at eC2
        rw [mcl, ← eC2]
        exact ho
      · rw [hS1.1.1] at cq
        have hr2 : r < dN S := Nat.not_le.mp (fun z => cq ((nI_leI (by omega) (by omega)).mpr z))
        obtain ⟨b1, b2⟩ := o1 r (by omega)
        obtain ⟨b3, b4⟩ := o1 k (by omega)
        have e1 : (h1.1 (y + 14) r >>> (nI k &&& 31)) &&& 1 = bI ((C r).testBit k) := by rw [b1]; exact bI_in (by omega) (by omega)
        have em : mrw (mcl (dN S) B k) k (r + 1) = mst C k r := by rw [mrw, ← eC2]
        refine ⟨r, rfl, by omega, fun c => ?_, fun c => ?_⟩
        · rw [e1] at c
          refine ⟨dN S - (r + 1), by omega, k, r + 1, _, _, rfl, by omega, en, hk, rfl, rfl, nI_1 r, rfl, ?_⟩
          rw [em, mst, if_neg (fun z => c (by rw [z]; rfl))]
          exact ho
        · rw [e1] at c
          have hb := (bI_1 _).mp c
          refine ⟨r, rfl, by omega, k, rfl, by omega, r, rfl, by omega, dN S - (r + 1), by omega, k, r + 1, _, _, rfl, by omega, en, hk, rfl, rfl, nI_1 r, rfl, ?_⟩
          rw [em]
          refine oM_t ho ⟨_, zsI_W _ _ _ _, fun i hi => ⟨?_, mst_lt (by omega) (fun j hj => (o1 j hj).2) i hi⟩⟩
          rw [mst, if_pos hb]
          by_cases e : i = r
          · rw [e, zup_s, if_pos rfl, b1, b3, fa_or]
          · rw [zup_n _ _ e, if_neg e]; exact (o1 i hi).1
    have B_12 := zSd_any L_12
    have B_2 := zr_iload_n (X := X) (Y := Y) (u := 0) (v := 0) O dX11_closes_2 rfl (zr_aload_n O dX11_closes_3 rfl (zr_gI (ci := 10) (j := 10) O zc_10 (by decide) rfl tw_1197 dX11_closes_4 (zr_icge (tgt := 61) O dX11_closes_7 rfl B_61 (zr_iconst (x := 0) O dX11_closes_10 rfl (zr_istore_n O dX11_closes_11 rfl (B_12))))))
    refine zSd_weak B_2 (fun ls st h1 t => ?_)
    obtain ⟨k, z, y2, rfl, hk, rfl, rfl, rfl, ho⟩ := t
    have hS1 := rmS_fm (oM_f ho) hS
    refine ⟨fun cq => ?_, fun cq => ?_⟩
    · rw [hS1.1.1] at cq
      have := (nI_leI (by omega) (by omega)).mp cq
      have hk2 : k = dN S := by omega
      refine ⟨rfl, ?_⟩
      rw [hk2] at ho
      exact ho
    · rw [hS1.1.1] at cq
      have hk2 : k < dN S := Nat.not_le.mp (fun z => cq ((nI_leI (by omega) (by omega)).mpr z))
      exact ⟨dN S - 0, k, 0, _, _, rfl, Nat.zero_le _, rfl, hk2, rfl, rfl, rfl, rfl, ho⟩
  have B_2 := zSd_any L_2
  have B_0 := zr_iconst (X := X) (Y := Y) (u := 0) (v := 0) (x := 0) O dX11_closes_0 rfl (zr_istore_n O dX11_closes_1 rfl (B_2))
  refine ⟨rfl, Nat.le_of_ble_eq_true rfl, _, B_0, ?_⟩
  exact ⟨dN S - 0, 0, _, _, rfl, Nat.zero_le _, rfl, rfl, rfl, oM_r hB⟩
def mrd (N : Nat) (B : Nat → Nat) : Bool := decide (0 < fb_ct (fun i => (B i).testBit i) N)
def ca_X11_isRound : (zD × (Nat → Nat) × Nat) → List zV := fun (S, B, y) => [vR 20 0 y]
def cp_X11_isRound : (zD × (Nat → Nat) × Nat) → zH → Prop := fun (S, B, y) h => rmS S h y ∧ rmo B h y
def cf_X11_isRound : (zD × (Nat → Nat) × Nat) → zH → Int32 := fun (S, B, y) _ => bI (mrd (dN S) B)
theorem rc_X11_isRound : ∀ x : (zD × (Nat → Nat) × Nat), ∃ (j a : Nat) (As : List zV), ca_X11_isRound x = vR (10 + 10) j a :: As := by
  rintro ⟨S, B, y⟩
  exact ⟨_, _, _, rfl⟩
set_option maxHeartbeats 4000000 in
set_option maxRecDepth 100000 in
theorem m_X11_isRound : zM yX11_isRound cX11_isRound 2 (some .boolean) ({ frames := 0, cells := 0, slots := 0, locals := 0 } : Room) (zcI ca_X11_isRound cp_X11_isRound cf_X11_isRound) := by
  refine zM_of (by decide) ?_
  rintro X Y ⟨S, B, y⟩ h ⟨hS, hB⟩ O E hR
  have hS : rmS S h y := hS
  have hB : rmo B h y := hB
  have hN := hS.1.2
  have B_32 := zr_iconst (X := X) (Y := Y) (u := 0) (v := 0) (x := 0) O dX11_isRound_32 rfl (zr_zreturn O E (Nat.le_refl _) (Nat.le_refl _) dX11_isRound_33)
  have L_2 : ∀ nn : Nat, zSd X Y 0 0 2 ((fun d ls st h1 => ∃ (k : Nat) (z : Int32), d = dN S - k ∧ k ≤ dN S ∧ ls = [some (vR 20 0 y), some (vI z)] ∧ z = nI k ∧ st = [] ∧ h = h1 ∧ ∀ j, j < k → (B j).testBit j = false : Nat → zT) nn) := by
    refine zSd_loop (fun nn ih => ?_)
    have B_26 := zr_iinc (X := X) (Y := Y) (u := 0) (v := 0) (c := 1) O dX11_isRound_26 rfl (zr_goto (tgt := 2) O dX11_isRound_29 rfl ih)
    have B_2 := zr_iload_n (X := X) (Y := Y) (u := 0) (v := 0) O dX11_isRound_2 rfl (zr_aload_n O dX11_isRound_3 rfl (zr_gI (ci := 10) (j := 10) O zc_10 (by decide) rfl tw_1197 dX11_isRound_4 (zr_icge (tgt := 32) O dX11_isRound_7 rfl B_32 (zr_aload_n O dX11_isRound_10 rfl (zr_gS (ci := 10) (j := 31) (off := 14) (t := 1) (n := 10) O zc_10 (by decide) rfl tw_1218 dX11_isRound_11 (zr_iload_n O dX11_isRound_14 rfl (zr_iald O dX11_isRound_15 (zr_iload_n O dX11_isRound_16 rfl (zr_ishr O dX11_isRound_17 (zr_iconst (x := 1) O dX11_isRound_18 rfl (zr_iand O dX11_isRound_19 (zr_iconst (x := 1) O dX11_isRound_20 rfl (zr_icne (tgt := 26) O dX11_isRound_21 rfl B_26 (zr_iconst (x := 1) O dX11_isRound_24 rfl (zr_zreturn O E (Nat.le_refl _) (Nat.le_refl _) dX11_isRound_25)))))))))))))))
    refine zSd_weak B_2 (fun ls st h1 t => ?_)
    obtain ⟨k, z, rfl, hk, rfl, rfl, rfl, rfl, hb⟩ := t
    refine ⟨fun cq => ⟨Or.inl rfl, zri ?_, rfl⟩, fun cq => ?_⟩
    · rw [hS.1.1] at cq
      have := (nI_leI (by omega) (by omega)).mp cq
      have hk2 : k = dN S := by omega
      subst hk2
      show (0 : Int32) = bI (mrd (dN S) B)
      rw [mrd, fb_ct_zero.mpr hb]; rfl
    · rw [hS.1.1] at cq
      have hk2 : k < dN S := Nat.not_le.mp (fun z => cq ((nI_leI (by omega) (by omega)).mpr z))
      obtain ⟨b1, b2⟩ := hB k (by omega)
      have e1 : (h.1 (y + 14) k >>> (nI k &&& 31)) &&& 1 = bI ((B k).testBit k) := by rw [b1]; exact bI_in (by omega) (by omega)
      refine ⟨k, rfl, by omega, fun c => ?_, fun c => ⟨Or.inr rfl, zri ?_, rfl⟩⟩
      · rw [e1] at c
        refine ⟨dN S - (k + 1), by omega, k + 1, _, rfl, by omega, rfl, nI_1 k, rfl, rfl, fun j hj => ?_⟩
        by_cases e : j = k
        · rw [e]
          cases hz : (B k).testBit k with
          | true => rw [hz] at c; exact absurd rfl c
          | false => rfl
        · exact hb j (by omega)
      · rw [e1] at c
        show (1 : Int32) = bI (mrd (dN S) B)
        rw [mrd, decide_eq_true (fb_ct_pos.mpr (show ∃ k, k < dN S ∧ (fun i => (B i).testBit i) k = true from ⟨k, hk2, (bI_1 _).mp c⟩))]; rfl
  have B_2 := zSd_any L_2
  have B_0 := zr_iconst (X := X) (Y := Y) (u := 0) (v := 0) (x := 0) O dX11_isRound_0 rfl (zr_istore_n O dX11_isRound_1 rfl (B_2))
  refine ⟨rfl, Nat.le_of_ble_eq_true rfl, _, B_0, ?_⟩
  exact ⟨dN S - 0, 0, _, rfl, Nat.zero_le _, rfl, rfl, rfl, rfl, fun j hj => absurd hj (Nat.not_lt_zero _)⟩
/-- the order of what is heard, as the reference lays and closes it -/
def mhd (S : zD) (M : zG) : Nat → Nat := mcl (dN S) (mhr S M (fun _ => 0) (gN M)) (dN S)
def ca_X11_laysHeard : (zD × zG × Nat) → List zV := fun (S, M, y) => [vR 20 0 y]
def cp_X11_laysHeard : (zD × zG × Nat) → zH → Prop := fun (S, M, y) h => rmS S h y ∧ rmL M (h.1 (y + 2)) ∧ ∀ i, i < gN M → gP M i < dP S
def cq_X11_laysHeard : (zD × zG × Nat) → zH → Option zV → zH → Prop := fun (S, M, y) h r h' => r = none ∧ oM (mhd S M) h y h'
theorem rc_X11_laysHeard : ∀ x : (zD × zG × Nat), ∃ (j a : Nat) (As : List zV), ca_X11_laysHeard x = vR (10 + 10) j a :: As := by
  rintro ⟨S, M, y⟩
  exact ⟨_, _, _, rfl⟩
set_option maxHeartbeats 4000000 in
set_option maxRecDepth 100000 in
theorem m_X11_laysHeard : zM yX11_laysHeard cX11_laysHeard 1 none ({ frames := 2, cells := 0, slots := 0, locals := 45 } : Room) ((ca_X11_laysHeard, cp_X11_laysHeard, cq_X11_laysHeard) : zC (zD × zG × Nat)) := by
  refine zM_of (by decide) ?_
  rintro X Y ⟨S, M, y⟩ h ⟨hS, hL, hG⟩ O E hR
  have B_0 := zr_aload_n (X := X) (Y := Y) (u := 0) (v := 0) O dX11_laysHeard_0 rfl (zr_cV (ci := 10) (n := 0) O m_X11_noOrder (bn_X11_noOrder _ ⟨rfl, rfl⟩) vw_X11_noOrder tw_1543 rc_X11_noOrder (zrm hR rfl rfl) dX11_laysHeard_1 (zr_aload_n O dX11_laysHeard_4 rfl (zr_cV (ci := 10) (n := 0) O m_X11_putsHeard (bn_X11_putsHeard _ ⟨rfl, rfl⟩) vw_X11_putsHeard tw_1547 rc_X11_putsHeard (zrm hR rfl rfl) dX11_laysHeard_5 (zr_aload_n O dX11_laysHeard_8 rfl (zr_cV (ci := 10) (n := 0) O m_X11_closes (bn_X11_closes _ ⟨rfl, rfl⟩) vw_X11_closes tw_1555 rc_X11_closes (zrm hR rfl rfl) dX11_laysHeard_9 (zr_return O E (Nat.le_refl _) (Nat.le_refl _) dX11_laysHeard_12))))))
  refine ⟨rfl, Nat.le_of_ble_eq_true rfl, _, B_0, ?_⟩
  have hS : rmS S h y := hS
  have hL : rmL M (h.1 (y + 2)) := hL
  have hG : ∀ i, i < gN M → gP M i < dP S := hG
  refine ⟨y, rfl, trivial, fun r h1 hq => ?_⟩
  obtain ⟨rfl, o1⟩ := hq
  have f1 := oM_f o1
  refine ⟨(S, M, fun _ => 0, y), rfl, ⟨rmS_fm f1 hS, by rw [f1.2.2.2 2 (by omega)]; exact hL, oM_o o1, hG⟩, fun r h2 hq => ?_⟩
  obtain ⟨rfl, o2⟩ := hq
  have o3 := oM_t o1 o2
  refine ⟨(S, mhr S M (fun _ => 0) (gN M), y), rfl, ⟨rmS_fm (oM_f o3) hS, oM_o o2⟩, fun r h3 hq => ?_⟩
  obtain ⟨rfl, o4⟩ := hq
  exact ⟨rfl, oM_t o3 o4⟩
def ca_X11_followsNow : (zD × zG × Nat × Nat) → List zV := fun (S, M, y, p) => [vR 20 0 y, vI (nI p)]
def cp_X11_followsNow : (zD × zG × Nat × Nat) → zH → Prop := fun (S, M, y, p) h => rmS S h y ∧ rmL M (h.1 (y + 2)) ∧ (∀ i, i < gN M → gP M i < dP S) ∧ p < dP S
def cq_X11_followsNow : (zD × zG × Nat × Nat) → zH → Option zV → zH → Prop := fun (S, M, y, p) h r h' => r = some (vI (otl (mhd S M) (dF S p) (dS S p))) ∧ oM (mhd S M) h y h'
theorem rc_X11_followsNow : ∀ x : (zD × zG × Nat × Nat), ∃ (j a : Nat) (As : List zV), ca_X11_followsNow x = vR (10 + 10) j a :: As := by
  rintro ⟨S, M, y, p⟩
  exact ⟨_, _, _, rfl⟩
set_option maxHeartbeats 4000000 in
set_option maxRecDepth 100000 in
theorem m_X11_followsNow : zM yX11_followsNow cX11_followsNow 2 (some .int) ({ frames := 3, cells := 0, slots := 0, locals := 65 } : Room) ((ca_X11_followsNow, cp_X11_followsNow, cq_X11_followsNow) : zC (zD × zG × Nat × Nat)) := by
  refine zM_of (by decide) ?_
  rintro X Y ⟨S, M, y, p⟩ h ⟨hS, hL, hG, hp⟩ O E hR
  have B_0 := zr_aload_n (X := X) (Y := Y) (u := 0) (v := 0) O dX11_followsNow_0 rfl (zr_cV (ci := 10) (n := 0) O m_X11_laysHeard (bn_X11_laysHeard _ ⟨rfl, rfl⟩) vw_X11_laysHeard tw_1539 rc_X11_laysHeard (zrm hR rfl rfl) dX11_followsNow_1 (zr_aload_n O dX11_followsNow_4 rfl (zr_iload_n O dX11_followsNow_5 rfl (zr_cI (zr_cV (ci := 10) (n := 1) O m_X11_follows (bn_X11_follows _ ⟨rfl, rfl⟩) vw_X11_follows tw_1559 rc_X11_follows (zrm hR rfl rfl) dX11_followsNow_6 (zr_ireturn O E (Nat.le_refl _) (Nat.le_refl _) dX11_followsNow_9))))))
  refine ⟨rfl, Nat.le_of_ble_eq_true rfl, _, B_0, ?_⟩
  refine ⟨(S, M, y), rfl, ⟨hS, hL, hG⟩, fun r h1 hq => ?_⟩
  obtain ⟨rfl, o1⟩ := hq
  exact ⟨(S, mhd S M, y, p), rfl, ⟨rmS_fm (oM_f o1) hS, oM_o o1, hp⟩, rfl, o1⟩
def ca_X11_followMany : (zD × (Nat → Nat) × Nat) → List zV := fun (S, B, y) => [vR 20 0 y]
def cp_X11_followMany : (zD × (Nat → Nat) × Nat) → zH → Prop := fun (S, B, y) h => rmS S h y ∧ rmo B h y
def cf_X11_followMany : (zD × (Nat → Nat) × Nat) → zH → Int32 := fun (S, B, y) _ => nI (fb_ct (fun p => decide (¬ otl B (dF S p) (dS S p) = -1)) (dP S))
theorem rc_X11_followMany : ∀ x : (zD × (Nat → Nat) × Nat), ∃ (j a : Nat) (As : List zV), ca_X11_followMany x = vR (10 + 10) j a :: As := by
  rintro ⟨S, B, y⟩
  exact ⟨_, _, _, rfl⟩
set_option maxHeartbeats 4000000 in
set_option maxRecDepth 100000 in
theorem m_X11_followMany : zM yX11_followMany cX11_followMany 3 (some .int) ({ frames := 1, cells := 0, slots := 0, locals := 23 } : Room) (zcI ca_X11_followMany cp_X11_followMany cf_X11_followMany) := by
  refine zM_of (by decide) ?_
  rintro X Y ⟨S, B, y⟩ h ⟨hS, hB⟩ O E hR
  have hS : rmS S h y := hS
  have hB : rmo B h y := hB
  have hP28 := hS.2.1.2
  have B_35 := zr_iload_n (X := X) (Y := Y) (u := 0) (v := 0) O dX11_followMany_35 rfl (zr_ireturn O E (Nat.le_refl _) (Nat.le_refl _) dX11_followMany_36)
  have L_4 : ∀ nn : Nat, zSd X Y 0 0 4 ((fun d ls st h1 => ∃ (k : Nat) (u z : Int32), d = dP S - k ∧ k ≤ dP S ∧ ls = [some (vR 20 0 y), some (vI u), some (vI z)] ∧ u = nI (fb_ct (fun p => decide (¬ otl B (dF S p) (dS S p) = -1)) k) ∧ z = nI k ∧ st = [] ∧ h = h1 : Nat → zT) nn) := by
    refine zSd_loop (fun nn ih => ?_)
    have B_27 := zr_iadd (X := X) (Y := Y) (u := 0) (v := 0) O dX11_followMany_27 (zr_istore_n O dX11_followMany_28 rfl (zr_iinc (c := 1) O dX11_followMany_29 rfl (zr_goto (tgt := 4) O dX11_followMany_32 rfl ih)))
    have B_26 := zr_iconst (X := X) (Y := Y) (u := 0) (v := 0) (x := 1) O dX11_followMany_26 rfl (B_27)
    have B_4 := zr_iload_n (X := X) (Y := Y) (u := 0) (v := 0) O dX11_followMany_4 rfl (zr_aload_n O dX11_followMany_5 rfl (zr_gI (ci := 10) (j := 11) O zc_10 (by decide) rfl tw_1198 dX11_followMany_6 (zr_icge (tgt := 35) O dX11_followMany_9 rfl B_35 (zr_iload_n O dX11_followMany_12 rfl (zr_aload_n O dX11_followMany_13 rfl (zr_iload_n O dX11_followMany_14 rfl (zr_cI (zr_cV (ci := 10) (n := 1) O m_X11_follows (bn_X11_follows _ ⟨rfl, rfl⟩) vw_X11_follows tw_1559 rc_X11_follows (zrm hR rfl rfl) dX11_followMany_15 (zr_iconst (x := (-1)) O dX11_followMany_18 rfl (zr_icne (tgt := 26) O dX11_followMany_19 rfl B_26 (zr_iconst (x := 0) O dX11_followMany_22 rfl (zr_goto (tgt := 27) O dX11_followMany_23 rfl B_27))))))))))))
    refine zSd_weak B_4 (fun ls st h1 t => ?_)
    obtain ⟨k, u, z, rfl, hk, rfl, rfl, rfl, rfl, rfl⟩ := t
    refine ⟨fun cq => ⟨zri ?_, rfl⟩, fun cq => ?_⟩
    · rw [hS.2.1.1] at cq
      have := (nI_leI (by omega) (by omega)).mp cq
      have hk2 : k = dP S := by omega
      rw [hk2]; rfl
    · rw [hS.2.1.1] at cq
      have hk2 : k < dP S := Nat.not_le.mp (fun z => cq ((nI_leI (by omega) (by omega)).mpr z))
      refine ⟨(S, B, y, k), rfl, ⟨hS, hB, hk2⟩, fun c => ?_, fun c => ?_⟩
      · replace c : ¬ otl B (dF S k) (dS S k) = -1 := c
        refine ⟨dP S - (k + 1), by omega, k + 1, _, _, rfl, by omega, rfl, ?_, nI_1 k, rfl, rfl⟩
        rw [fb_ct_succ, decide_eq_true c]; exact nI_1 _
      · replace c : otl B (dF S k) (dS S k) = -1 := c
        refine ⟨dP S - (k + 1), by omega, k + 1, _, _, rfl, by omega, rfl, ?_, nI_1 k, rfl, rfl⟩
        rw [fb_ct_succ, decide_eq_false (fun z => z c)]; exact Int32.add_zero _
  have B_4 := zSd_any L_4
  have B_0 := zr_iconst (X := X) (Y := Y) (u := 0) (v := 0) (x := 0) O dX11_followMany_0 rfl (zr_istore_n O dX11_followMany_1 rfl (zr_iconst (x := 0) O dX11_followMany_2 rfl (zr_istore_n O dX11_followMany_3 rfl (B_4))))
  refine ⟨rfl, Nat.le_of_ble_eq_true rfl, _, B_0, ?_⟩
  exact ⟨dP S - 0, 0, _, _, rfl, Nat.zero_le _, rfl, rfl, rfl, rfl, rfl⟩

