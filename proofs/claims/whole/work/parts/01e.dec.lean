theorem dX5_init_0 : decode cX5_init 0 = .ok (.aload_n 0, 1) := by decide +kernel
theorem dX5_init_1 : decode cX5_init 1 = .ok (.invokespecial 1, 3) := by decide +kernel
theorem dX5_init_4 : decode cX5_init 4 = .ok (.aload_n 0, 1) := by decide +kernel
theorem dX5_init_5 : decode cX5_init 5 = .ok (.bipush 40, 2) := by decide +kernel
theorem dX5_init_7 : decode cX5_init 7 = .ok (.newarray .int, 2) := by decide +kernel
theorem dX5_init_9 : decode cX5_init 9 = .ok (.putfield 7, 3) := by decide +kernel
theorem dX5_init_12 : decode cX5_init 12 = .ok (.aload_n 0, 1) := by decide +kernel
theorem dX5_init_13 : decode cX5_init 13 = .ok (.bipush 40, 2) := by decide +kernel
theorem dX5_init_15 : decode cX5_init 15 = .ok (.newarray .int, 2) := by decide +kernel
theorem dX5_init_17 : decode cX5_init 17 = .ok (.putfield 13, 3) := by decide +kernel
theorem dX5_init_20 : decode cX5_init 20 = .ok (.aload_n 0, 1) := by decide +kernel
theorem dX5_init_21 : decode cX5_init 21 = .ok (.bipush 40, 2) := by decide +kernel
theorem dX5_init_23 : decode cX5_init 23 = .ok (.newarray .int, 2) := by decide +kernel
theorem dX5_init_25 : decode cX5_init 25 = .ok (.putfield 16, 3) := by decide +kernel
theorem dX5_init_28 : decode cX5_init 28 = .ok (.aload_n 0, 1) := by decide +kernel
theorem dX5_init_29 : decode cX5_init 29 = .ok (.bipush 40, 2) := by decide +kernel
theorem dX5_init_31 : decode cX5_init 31 = .ok (.newarray .int, 2) := by decide +kernel
theorem dX5_init_33 : decode cX5_init 33 = .ok (.putfield 19, 3) := by decide +kernel
theorem dX5_init_36 : decode cX5_init 36 = .ok (.aload_n 0, 1) := by decide +kernel
theorem dX5_init_37 : decode cX5_init 37 = .ok (.bipush 12, 2) := by decide +kernel
theorem dX5_init_39 : decode cX5_init 39 = .ok (.newarray .int, 2) := by decide +kernel
theorem dX5_init_41 : decode cX5_init 41 = .ok (.putfield 22, 3) := by decide +kernel
theorem dX5_init_44 : decode cX5_init 44 = .ok (.aload_n 0, 1) := by decide +kernel
theorem dX5_init_45 : decode cX5_init 45 = .ok (.bipush 12, 2) := by decide +kernel
theorem dX5_init_47 : decode cX5_init 47 = .ok (.newarray .int, 2) := by decide +kernel
theorem dX5_init_49 : decode cX5_init 49 = .ok (.putfield 25, 3) := by decide +kernel
theorem dX5_init_52 : decode cX5_init 52 = .ok (.aload_n 0, 1) := by decide +kernel
theorem dX5_init_53 : decode cX5_init 53 = .ok (.bipush 12, 2) := by decide +kernel
theorem dX5_init_55 : decode cX5_init 55 = .ok (.newarray .int, 2) := by decide +kernel
theorem dX5_init_57 : decode cX5_init 57 = .ok (.putfield 28, 3) := by decide +kernel
theorem dX5_init_60 : decode cX5_init 60 = .ok (.aload_n 0, 1) := by decide +kernel
theorem dX5_init_61 : decode cX5_init 61 = .ok (.bipush 24, 2) := by decide +kernel
theorem dX5_init_63 : decode cX5_init 63 = .ok (.newarray .int, 2) := by decide +kernel
theorem dX5_init_65 : decode cX5_init 65 = .ok (.putfield 31, 3) := by decide +kernel
theorem dX5_init_68 : decode cX5_init 68 = .ok (.aload_n 0, 1) := by decide +kernel
theorem dX5_init_69 : decode cX5_init 69 = .ok (.bipush 64, 2) := by decide +kernel
theorem dX5_init_71 : decode cX5_init 71 = .ok (.newarray .int, 2) := by decide +kernel
theorem dX5_init_73 : decode cX5_init 73 = .ok (.putfield 34, 3) := by decide +kernel
theorem dX5_init_76 : decode cX5_init 76 = .ok (.aload_n 0, 1) := by decide +kernel
theorem dX5_init_77 : decode cX5_init 77 = .ok (.sipush 400, 3) := by decide +kernel
theorem dX5_init_80 : decode cX5_init 80 = .ok (.newarray .int, 2) := by decide +kernel
theorem dX5_init_82 : decode cX5_init 82 = .ok (.putfield 37, 3) := by decide +kernel
theorem dX5_init_85 : decode cX5_init 85 = .ok (.aload_n 0, 1) := by decide +kernel
theorem dX5_init_86 : decode cX5_init 86 = .ok (.bipush 32, 2) := by decide +kernel
theorem dX5_init_88 : decode cX5_init 88 = .ok (.newarray .int, 2) := by decide +kernel
theorem dX5_init_90 : decode cX5_init 90 = .ok (.putfield 40, 3) := by decide +kernel
theorem dX5_init_93 : decode cX5_init 93 = .ok (.aload_n 0, 1) := by decide +kernel
theorem dX5_init_94 : decode cX5_init 94 = .ok (.bipush 32, 2) := by decide +kernel
theorem dX5_init_96 : decode cX5_init 96 = .ok (.newarray .int, 2) := by decide +kernel
theorem dX5_init_98 : decode cX5_init 98 = .ok (.putfield 43, 3) := by decide +kernel
theorem dX5_init_101 : decode cX5_init 101 = .ok (.aload_n 0, 1) := by decide +kernel
theorem dX5_init_102 : decode cX5_init 102 = .ok (.bipush 32, 2) := by decide +kernel
theorem dX5_init_104 : decode cX5_init 104 = .ok (.newarray .int, 2) := by decide +kernel
theorem dX5_init_106 : decode cX5_init 106 = .ok (.putfield 46, 3) := by decide +kernel
theorem dX5_init_109 : decode cX5_init 109 = .ok (.aload_n 0, 1) := by decide +kernel
theorem dX5_init_110 : decode cX5_init 110 = .ok (.bipush 32, 2) := by decide +kernel
theorem dX5_init_112 : decode cX5_init 112 = .ok (.newarray .int, 2) := by decide +kernel
theorem dX5_init_114 : decode cX5_init 114 = .ok (.putfield 49, 3) := by decide +kernel
theorem dX5_init_117 : decode cX5_init 117 = .ok (.return_, 1) := by decide +kernel
theorem dX5_isKey_0 : decode cX5_isKey 0 = .ok (.iload_n 1, 1) := by decide +kernel
theorem dX5_isKey_1 : decode cX5_isKey 1 = .ok (.ifCond .lt 15, 3) := by decide +kernel
theorem dX5_isKey_4 : decode cX5_isKey 4 = .ok (.iload_n 1, 1) := by decide +kernel
theorem dX5_isKey_5 : decode cX5_isKey 5 = .ok (.aload_n 0, 1) := by decide +kernel
theorem dX5_isKey_6 : decode cX5_isKey 6 = .ok (.getfield 52, 3) := by decide +kernel
theorem dX5_isKey_9 : decode cX5_isKey 9 = .ok (.if_icmp .ge 7, 3) := by decide +kernel
theorem dX5_isKey_12 : decode cX5_isKey 12 = .ok (.iconst 1, 1) := by decide +kernel
theorem dX5_isKey_13 : decode cX5_isKey 13 = .ok (.goto 4, 3) := by decide +kernel
theorem dX5_isKey_16 : decode cX5_isKey 16 = .ok (.iconst 0, 1) := by decide +kernel
theorem dX5_isKey_17 : decode cX5_isKey 17 = .ok (.ireturn, 1) := by decide +kernel
theorem dX5_isVault_0 : decode cX5_isVault 0 = .ok (.iload_n 1, 1) := by decide +kernel
theorem dX5_isVault_1 : decode cX5_isVault 1 = .ok (.ifCond .lt 15, 3) := by decide +kernel
theorem dX5_isVault_4 : decode cX5_isVault 4 = .ok (.iload_n 1, 1) := by decide +kernel
theorem dX5_isVault_5 : decode cX5_isVault 5 = .ok (.aload_n 0, 1) := by decide +kernel
theorem dX5_isVault_6 : decode cX5_isVault 6 = .ok (.getfield 56, 3) := by decide +kernel
theorem dX5_isVault_9 : decode cX5_isVault 9 = .ok (.if_icmp .ge 7, 3) := by decide +kernel
theorem dX5_isVault_12 : decode cX5_isVault 12 = .ok (.iconst 1, 1) := by decide +kernel
theorem dX5_isVault_13 : decode cX5_isVault 13 = .ok (.goto 4, 3) := by decide +kernel
theorem dX5_isVault_16 : decode cX5_isVault 16 = .ok (.iconst 0, 1) := by decide +kernel
theorem dX5_isVault_17 : decode cX5_isVault 17 = .ok (.ireturn, 1) := by decide +kernel
theorem dX5_isAmount_0 : decode cX5_isAmount 0 = .ok (.iload_n 0, 1) := by decide +kernel
theorem dX5_isAmount_1 : decode cX5_isAmount 1 = .ok (.ifCond .lt 13, 3) := by decide +kernel
theorem dX5_isAmount_4 : decode cX5_isAmount 4 = .ok (.iload_n 0, 1) := by decide +kernel
theorem dX5_isAmount_5 : decode cX5_isAmount 5 = .ok (.ldc 59, 2) := by decide +kernel
theorem dX5_isAmount_7 : decode cX5_isAmount 7 = .ok (.if_icmp .gt 7, 3) := by decide +kernel
theorem dX5_isAmount_10 : decode cX5_isAmount 10 = .ok (.iconst 1, 1) := by decide +kernel
theorem dX5_isAmount_11 : decode cX5_isAmount 11 = .ok (.goto 4, 3) := by decide +kernel
theorem dX5_isAmount_14 : decode cX5_isAmount 14 = .ok (.iconst 0, 1) := by decide +kernel
theorem dX5_isAmount_15 : decode cX5_isAmount 15 = .ok (.ireturn, 1) := by decide +kernel
theorem dX5_isHand_0 : decode cX5_isHand 0 = .ok (.iload_n 0, 1) := by decide +kernel
theorem dX5_isHand_1 : decode cX5_isHand 1 = .ok (.ifCond .eq 8, 3) := by decide +kernel
theorem dX5_isHand_4 : decode cX5_isHand 4 = .ok (.iload_n 0, 1) := by decide +kernel
theorem dX5_isHand_5 : decode cX5_isHand 5 = .ok (.iconst 1, 1) := by decide +kernel
theorem dX5_isHand_6 : decode cX5_isHand 6 = .ok (.if_icmp .ne 7, 3) := by decide +kernel
theorem dX5_isHand_9 : decode cX5_isHand 9 = .ok (.iconst 1, 1) := by decide +kernel
theorem dX5_isHand_10 : decode cX5_isHand 10 = .ok (.goto 4, 3) := by decide +kernel
theorem dX5_isHand_13 : decode cX5_isHand 13 = .ok (.iconst 0, 1) := by decide +kernel
theorem dX5_isHand_14 : decode cX5_isHand 14 = .ok (.ireturn, 1) := by decide +kernel
theorem dX5_enter_0 : decode cX5_enter 0 = .ok (.aload_n 0, 1) := by decide +kernel
theorem dX5_enter_1 : decode cX5_enter 1 = .ok (.getfield 60, 3) := by decide +kernel
theorem dX5_enter_4 : decode cX5_enter 4 = .ok (.sipush 400, 3) := by decide +kernel
theorem dX5_enter_7 : decode cX5_enter 7 = .ok (.if_icmp .ge 13, 3) := by decide +kernel
theorem dX5_enter_10 : decode cX5_enter 10 = .ok (.aload_n 0, 1) := by decide +kernel
theorem dX5_enter_11 : decode cX5_enter 11 = .ok (.getfield 37, 3) := by decide +kernel
theorem dX5_enter_14 : decode cX5_enter 14 = .ok (.aload_n 0, 1) := by decide +kernel
theorem dX5_enter_15 : decode cX5_enter 15 = .ok (.getfield 60, 3) := by decide +kernel
theorem dX5_enter_18 : decode cX5_enter 18 = .ok (.iload_n 1, 1) := by decide +kernel
theorem dX5_enter_19 : decode cX5_enter 19 = .ok (.iastore, 1) := by decide +kernel
theorem dX5_enter_20 : decode cX5_enter 20 = .ok (.aload_n 0, 1) := by decide +kernel
theorem dX5_enter_21 : decode cX5_enter 21 = .ok (.dup, 1) := by decide +kernel
theorem dX5_enter_22 : decode cX5_enter 22 = .ok (.getfield 60, 3) := by decide +kernel
theorem dX5_enter_25 : decode cX5_enter 25 = .ok (.iconst 1, 1) := by decide +kernel
theorem dX5_enter_26 : decode cX5_enter 26 = .ok (.iadd, 1) := by decide +kernel
theorem dX5_enter_27 : decode cX5_enter 27 = .ok (.putfield 60, 3) := by decide +kernel
theorem dX5_enter_30 : decode cX5_enter 30 = .ok (.return_, 1) := by decide +kernel
theorem dX5_key_0 : decode cX5_key 0 = .ok (.iload_n 1, 1) := by decide +kernel
theorem dX5_key_1 : decode cX5_key 1 = .ok (.iconst 1, 1) := by decide +kernel
theorem dX5_key_2 : decode cX5_key 2 = .ok (.if_icmp .lt 9, 3) := by decide +kernel
theorem dX5_key_5 : decode cX5_key 5 = .ok (.iload_n 1, 1) := by decide +kernel
theorem dX5_key_6 : decode cX5_key 6 = .ok (.bipush 9, 2) := by decide +kernel
theorem dX5_key_8 : decode cX5_key 8 = .ok (.if_icmp .le 6, 3) := by decide +kernel
theorem dX5_key_11 : decode cX5_key 11 = .ok (.bipush (-2), 2) := by decide +kernel
theorem dX5_key_13 : decode cX5_key 13 = .ok (.ireturn, 1) := by decide +kernel
theorem dX5_key_14 : decode cX5_key 14 = .ok (.aload_n 0, 1) := by decide +kernel
theorem dX5_key_15 : decode cX5_key 15 = .ok (.getfield 52, 3) := by decide +kernel
theorem dX5_key_18 : decode cX5_key 18 = .ok (.bipush 40, 2) := by decide +kernel
theorem dX5_key_20 : decode cX5_key 20 = .ok (.if_icmp .ne 6, 3) := by decide +kernel
theorem dX5_key_23 : decode cX5_key 23 = .ok (.bipush (-3), 2) := by decide +kernel
theorem dX5_key_25 : decode cX5_key 25 = .ok (.ireturn, 1) := by decide +kernel
theorem dX5_key_26 : decode cX5_key 26 = .ok (.aload_n 0, 1) := by decide +kernel
theorem dX5_key_27 : decode cX5_key 27 = .ok (.getfield 7, 3) := by decide +kernel
theorem dX5_key_30 : decode cX5_key 30 = .ok (.aload_n 0, 1) := by decide +kernel
theorem dX5_key_31 : decode cX5_key 31 = .ok (.getfield 52, 3) := by decide +kernel
theorem dX5_key_34 : decode cX5_key 34 = .ok (.iload_n 1, 1) := by decide +kernel
theorem dX5_key_35 : decode cX5_key 35 = .ok (.iastore, 1) := by decide +kernel
theorem dX5_key_36 : decode cX5_key 36 = .ok (.aload_n 0, 1) := by decide +kernel
theorem dX5_key_37 : decode cX5_key 37 = .ok (.getfield 13, 3) := by decide +kernel
theorem dX5_key_40 : decode cX5_key 40 = .ok (.aload_n 0, 1) := by decide +kernel
theorem dX5_key_41 : decode cX5_key 41 = .ok (.getfield 52, 3) := by decide +kernel
theorem dX5_key_44 : decode cX5_key 44 = .ok (.iload_n 2, 1) := by decide +kernel
theorem dX5_key_45 : decode cX5_key 45 = .ok (.ifCond .eq 7, 3) := by decide +kernel
theorem dX5_key_48 : decode cX5_key 48 = .ok (.iconst 2, 1) := by decide +kernel
theorem dX5_key_49 : decode cX5_key 49 = .ok (.goto 4, 3) := by decide +kernel
theorem dX5_key_52 : decode cX5_key 52 = .ok (.iconst 1, 1) := by decide +kernel
theorem dX5_key_53 : decode cX5_key 53 = .ok (.iastore, 1) := by decide +kernel
theorem dX5_key_54 : decode cX5_key 54 = .ok (.aload_n 0, 1) := by decide +kernel
theorem dX5_key_55 : decode cX5_key 55 = .ok (.getfield 16, 3) := by decide +kernel
theorem dX5_key_58 : decode cX5_key 58 = .ok (.aload_n 0, 1) := by decide +kernel
theorem dX5_key_59 : decode cX5_key 59 = .ok (.getfield 52, 3) := by decide +kernel
theorem dX5_key_62 : decode cX5_key 62 = .ok (.iconst 0, 1) := by decide +kernel
theorem dX5_key_63 : decode cX5_key 63 = .ok (.iastore, 1) := by decide +kernel
theorem dX5_key_64 : decode cX5_key 64 = .ok (.aload_n 0, 1) := by decide +kernel
theorem dX5_key_65 : decode cX5_key 65 = .ok (.getfield 19, 3) := by decide +kernel
theorem dX5_key_68 : decode cX5_key 68 = .ok (.aload_n 0, 1) := by decide +kernel
theorem dX5_key_69 : decode cX5_key 69 = .ok (.getfield 52, 3) := by decide +kernel
theorem dX5_key_72 : decode cX5_key 72 = .ok (.iconst 0, 1) := by decide +kernel
theorem dX5_key_73 : decode cX5_key 73 = .ok (.iastore, 1) := by decide +kernel
theorem dX5_key_74 : decode cX5_key 74 = .ok (.aload_n 0, 1) := by decide +kernel
theorem dX5_key_75 : decode cX5_key 75 = .ok (.dup, 1) := by decide +kernel
theorem dX5_key_76 : decode cX5_key 76 = .ok (.getfield 52, 3) := by decide +kernel
theorem dX5_key_79 : decode cX5_key 79 = .ok (.iconst 1, 1) := by decide +kernel
theorem dX5_key_80 : decode cX5_key 80 = .ok (.iadd, 1) := by decide +kernel
theorem dX5_key_81 : decode cX5_key 81 = .ok (.putfield 52, 3) := by decide +kernel
theorem dX5_key_84 : decode cX5_key 84 = .ok (.aload_n 0, 1) := by decide +kernel
theorem dX5_key_85 : decode cX5_key 85 = .ok (.getfield 52, 3) := by decide +kernel
theorem dX5_key_88 : decode cX5_key 88 = .ok (.iconst 1, 1) := by decide +kernel
theorem dX5_key_89 : decode cX5_key 89 = .ok (.isub, 1) := by decide +kernel
theorem dX5_key_90 : decode cX5_key 90 = .ok (.ireturn, 1) := by decide +kernel
theorem dX5_vault_0 : decode cX5_vault 0 = .ok (.iload_n 1, 1) := by decide +kernel
theorem dX5_vault_1 : decode cX5_vault 1 = .ok (.invokestatic 63, 3) := by decide +kernel
theorem dX5_vault_4 : decode cX5_vault 4 = .ok (.ifCond .ne 6, 3) := by decide +kernel
theorem dX5_vault_7 : decode cX5_vault 7 = .ok (.bipush (-2), 2) := by decide +kernel
theorem dX5_vault_9 : decode cX5_vault 9 = .ok (.ireturn, 1) := by decide +kernel
theorem dX5_vault_10 : decode cX5_vault 10 = .ok (.aload_n 0, 1) := by decide +kernel
theorem dX5_vault_11 : decode cX5_vault 11 = .ok (.getfield 56, 3) := by decide +kernel
theorem dX5_vault_14 : decode cX5_vault 14 = .ok (.bipush 12, 2) := by decide +kernel
theorem dX5_vault_16 : decode cX5_vault 16 = .ok (.if_icmp .ne 6, 3) := by decide +kernel
theorem dX5_vault_19 : decode cX5_vault 19 = .ok (.bipush (-3), 2) := by decide +kernel
theorem dX5_vault_21 : decode cX5_vault 21 = .ok (.ireturn, 1) := by decide +kernel
theorem dX5_vault_22 : decode cX5_vault 22 = .ok (.aload_n 0, 1) := by decide +kernel
theorem dX5_vault_23 : decode cX5_vault 23 = .ok (.getfield 22, 3) := by decide +kernel
theorem dX5_vault_26 : decode cX5_vault 26 = .ok (.aload_n 0, 1) := by decide +kernel
theorem dX5_vault_27 : decode cX5_vault 27 = .ok (.getfield 56, 3) := by decide +kernel
theorem dX5_vault_30 : decode cX5_vault 30 = .ok (.iconst 0, 1) := by decide +kernel
theorem dX5_vault_31 : decode cX5_vault 31 = .ok (.iastore, 1) := by decide +kernel
theorem dX5_vault_32 : decode cX5_vault 32 = .ok (.aload_n 0, 1) := by decide +kernel
theorem dX5_vault_33 : decode cX5_vault 33 = .ok (.getfield 25, 3) := by decide +kernel
theorem dX5_vault_36 : decode cX5_vault 36 = .ok (.aload_n 0, 1) := by decide +kernel
theorem dX5_vault_37 : decode cX5_vault 37 = .ok (.getfield 56, 3) := by decide +kernel
theorem dX5_vault_40 : decode cX5_vault 40 = .ok (.iload_n 1, 1) := by decide +kernel
theorem dX5_vault_41 : decode cX5_vault 41 = .ok (.iastore, 1) := by decide +kernel
theorem dX5_vault_42 : decode cX5_vault 42 = .ok (.aload_n 0, 1) := by decide +kernel
theorem dX5_vault_43 : decode cX5_vault 43 = .ok (.getfield 28, 3) := by decide +kernel
theorem dX5_vault_46 : decode cX5_vault 46 = .ok (.aload_n 0, 1) := by decide +kernel
theorem dX5_vault_47 : decode cX5_vault 47 = .ok (.getfield 56, 3) := by decide +kernel
theorem dX5_vault_50 : decode cX5_vault 50 = .ok (.iconst (-1), 1) := by decide +kernel
theorem dX5_vault_51 : decode cX5_vault 51 = .ok (.iastore, 1) := by decide +kernel
theorem dX5_vault_52 : decode cX5_vault 52 = .ok (.aload_n 0, 1) := by decide +kernel
theorem dX5_vault_53 : decode cX5_vault 53 = .ok (.getfield 31, 3) := by decide +kernel
theorem dX5_vault_56 : decode cX5_vault 56 = .ok (.iconst 2, 1) := by decide +kernel
theorem dX5_vault_57 : decode cX5_vault 57 = .ok (.aload_n 0, 1) := by decide +kernel
theorem dX5_vault_58 : decode cX5_vault 58 = .ok (.getfield 56, 3) := by decide +kernel
theorem dX5_vault_61 : decode cX5_vault 61 = .ok (.imul, 1) := by decide +kernel
theorem dX5_vault_62 : decode cX5_vault 62 = .ok (.iconst (-1), 1) := by decide +kernel
theorem dX5_vault_63 : decode cX5_vault 63 = .ok (.iastore, 1) := by decide +kernel
theorem dX5_vault_64 : decode cX5_vault 64 = .ok (.aload_n 0, 1) := by decide +kernel
theorem dX5_vault_65 : decode cX5_vault 65 = .ok (.getfield 31, 3) := by decide +kernel
theorem dX5_vault_68 : decode cX5_vault 68 = .ok (.iconst 2, 1) := by decide +kernel
theorem dX5_vault_69 : decode cX5_vault 69 = .ok (.aload_n 0, 1) := by decide +kernel
theorem dX5_vault_70 : decode cX5_vault 70 = .ok (.getfield 56, 3) := by decide +kernel
theorem dX5_vault_73 : decode cX5_vault 73 = .ok (.imul, 1) := by decide +kernel
theorem dX5_vault_74 : decode cX5_vault 74 = .ok (.iconst 1, 1) := by decide +kernel
theorem dX5_vault_75 : decode cX5_vault 75 = .ok (.iadd, 1) := by decide +kernel
theorem dX5_vault_76 : decode cX5_vault 76 = .ok (.iconst (-1), 1) := by decide +kernel
theorem dX5_vault_77 : decode cX5_vault 77 = .ok (.iastore, 1) := by decide +kernel
theorem dX5_vault_78 : decode cX5_vault 78 = .ok (.aload_n 0, 1) := by decide +kernel
theorem dX5_vault_79 : decode cX5_vault 79 = .ok (.dup, 1) := by decide +kernel
theorem dX5_vault_80 : decode cX5_vault 80 = .ok (.getfield 56, 3) := by decide +kernel
theorem dX5_vault_83 : decode cX5_vault 83 = .ok (.iconst 1, 1) := by decide +kernel
theorem dX5_vault_84 : decode cX5_vault 84 = .ok (.iadd, 1) := by decide +kernel
theorem dX5_vault_85 : decode cX5_vault 85 = .ok (.putfield 56, 3) := by decide +kernel
theorem dX5_vault_88 : decode cX5_vault 88 = .ok (.aload_n 0, 1) := by decide +kernel
theorem dX5_vault_89 : decode cX5_vault 89 = .ok (.getfield 56, 3) := by decide +kernel
theorem dX5_vault_92 : decode cX5_vault 92 = .ok (.iconst 1, 1) := by decide +kernel
theorem dX5_vault_93 : decode cX5_vault 93 = .ok (.isub, 1) := by decide +kernel
theorem dX5_vault_94 : decode cX5_vault 94 = .ok (.ireturn, 1) := by decide +kernel
theorem dX5_hang_0 : decode cX5_hang 0 = .ok (.aload_n 0, 1) := by decide +kernel
theorem dX5_hang_1 : decode cX5_hang 1 = .ok (.iload_n 1, 1) := by decide +kernel
theorem dX5_hang_2 : decode cX5_hang 2 = .ok (.invokevirtual 67, 3) := by decide +kernel
theorem dX5_hang_5 : decode cX5_hang 5 = .ok (.ifCond .eq 23, 3) := by decide +kernel
theorem dX5_hang_8 : decode cX5_hang 8 = .ok (.iload_n 2, 1) := by decide +kernel
theorem dX5_hang_9 : decode cX5_hang 9 = .ok (.invokestatic 70, 3) := by decide +kernel
theorem dX5_hang_12 : decode cX5_hang 12 = .ok (.ifCond .eq 16, 3) := by decide +kernel
theorem dX5_hang_15 : decode cX5_hang 15 = .ok (.iload_n 3, 1) := by decide +kernel
theorem dX5_hang_16 : decode cX5_hang 16 = .ok (.iconst (-1), 1) := by decide +kernel
theorem dX5_hang_17 : decode cX5_hang 17 = .ok (.if_icmp .eq 14, 3) := by decide +kernel
theorem dX5_hang_20 : decode cX5_hang 20 = .ok (.aload_n 0, 1) := by decide +kernel
theorem dX5_hang_21 : decode cX5_hang 21 = .ok (.iload_n 3, 1) := by decide +kernel
theorem dX5_hang_22 : decode cX5_hang 22 = .ok (.invokevirtual 73, 3) := by decide +kernel
theorem dX5_hang_25 : decode cX5_hang 25 = .ok (.ifCond .ne 6, 3) := by decide +kernel
theorem dX5_hang_28 : decode cX5_hang 28 = .ok (.bipush (-2), 2) := by decide +kernel
theorem dX5_hang_30 : decode cX5_hang 30 = .ok (.ireturn, 1) := by decide +kernel
theorem dX5_hang_31 : decode cX5_hang 31 = .ok (.aload_n 0, 1) := by decide +kernel
theorem dX5_hang_32 : decode cX5_hang 32 = .ok (.getfield 31, 3) := by decide +kernel
theorem dX5_hang_35 : decode cX5_hang 35 = .ok (.iconst 2, 1) := by decide +kernel
theorem dX5_hang_36 : decode cX5_hang 36 = .ok (.iload_n 1, 1) := by decide +kernel
theorem dX5_hang_37 : decode cX5_hang 37 = .ok (.imul, 1) := by decide +kernel
theorem dX5_hang_38 : decode cX5_hang 38 = .ok (.iload_n 2, 1) := by decide +kernel
theorem dX5_hang_39 : decode cX5_hang 39 = .ok (.iadd, 1) := by decide +kernel
theorem dX5_hang_40 : decode cX5_hang 40 = .ok (.iaload, 1) := by decide +kernel
theorem dX5_hang_41 : decode cX5_hang 41 = .ok (.istore 4, 2) := by decide +kernel
theorem dX5_hang_43 : decode cX5_hang 43 = .ok (.aload_n 0, 1) := by decide +kernel
theorem dX5_hang_44 : decode cX5_hang 44 = .ok (.getfield 31, 3) := by decide +kernel
theorem dX5_hang_47 : decode cX5_hang 47 = .ok (.iconst 2, 1) := by decide +kernel
theorem dX5_hang_48 : decode cX5_hang 48 = .ok (.iload_n 1, 1) := by decide +kernel
theorem dX5_hang_49 : decode cX5_hang 49 = .ok (.imul, 1) := by decide +kernel
theorem dX5_hang_50 : decode cX5_hang 50 = .ok (.iload_n 2, 1) := by decide +kernel
theorem dX5_hang_51 : decode cX5_hang 51 = .ok (.iadd, 1) := by decide +kernel
theorem dX5_hang_52 : decode cX5_hang 52 = .ok (.iload_n 3, 1) := by decide +kernel
theorem dX5_hang_53 : decode cX5_hang 53 = .ok (.iastore, 1) := by decide +kernel
theorem dX5_hang_54 : decode cX5_hang 54 = .ok (.iload 4, 2) := by decide +kernel
theorem dX5_hang_56 : decode cX5_hang 56 = .ok (.ireturn, 1) := by decide +kernel
theorem dX5_link_0 : decode cX5_link 0 = .ok (.aload_n 0, 1) := by decide +kernel
theorem dX5_link_1 : decode cX5_link 1 = .ok (.iload_n 1, 1) := by decide +kernel
theorem dX5_link_2 : decode cX5_link 2 = .ok (.invokevirtual 67, 3) := by decide +kernel
theorem dX5_link_5 : decode cX5_link 5 = .ok (.ifCond .eq 16, 3) := by decide +kernel
theorem dX5_link_8 : decode cX5_link 8 = .ok (.iload_n 2, 1) := by decide +kernel
theorem dX5_link_9 : decode cX5_link 9 = .ok (.iconst (-1), 1) := by decide +kernel
theorem dX5_link_10 : decode cX5_link 10 = .ok (.if_icmp .eq 14, 3) := by decide +kernel
theorem dX5_link_13 : decode cX5_link 13 = .ok (.aload_n 0, 1) := by decide +kernel
theorem dX5_link_14 : decode cX5_link 14 = .ok (.iload_n 2, 1) := by decide +kernel
theorem dX5_link_15 : decode cX5_link 15 = .ok (.invokevirtual 67, 3) := by decide +kernel
theorem dX5_link_18 : decode cX5_link 18 = .ok (.ifCond .ne 6, 3) := by decide +kernel
theorem dX5_link_21 : decode cX5_link 21 = .ok (.bipush (-2), 2) := by decide +kernel
theorem dX5_link_23 : decode cX5_link 23 = .ok (.ireturn, 1) := by decide +kernel
theorem dX5_link_24 : decode cX5_link 24 = .ok (.aload_n 0, 1) := by decide +kernel
theorem dX5_link_25 : decode cX5_link 25 = .ok (.getfield 28, 3) := by decide +kernel
theorem dX5_link_28 : decode cX5_link 28 = .ok (.iload_n 1, 1) := by decide +kernel
theorem dX5_link_29 : decode cX5_link 29 = .ok (.iaload, 1) := by decide +kernel
theorem dX5_link_30 : decode cX5_link 30 = .ok (.istore_n 3, 1) := by decide +kernel
theorem dX5_link_31 : decode cX5_link 31 = .ok (.aload_n 0, 1) := by decide +kernel
theorem dX5_link_32 : decode cX5_link 32 = .ok (.getfield 28, 3) := by decide +kernel
theorem dX5_link_35 : decode cX5_link 35 = .ok (.iload_n 1, 1) := by decide +kernel
theorem dX5_link_36 : decode cX5_link 36 = .ok (.iload_n 2, 1) := by decide +kernel
theorem dX5_link_37 : decode cX5_link 37 = .ok (.iastore, 1) := by decide +kernel
theorem dX5_link_38 : decode cX5_link 38 = .ok (.iload_n 3, 1) := by decide +kernel
theorem dX5_link_39 : decode cX5_link 39 = .ok (.ireturn, 1) := by decide +kernel
theorem dX5_dropTop_0 : decode cX5_dropTop 0 = .ok (.aload_n 0, 1) := by decide +kernel
theorem dX5_dropTop_1 : decode cX5_dropTop 1 = .ok (.dup, 1) := by decide +kernel
theorem dX5_dropTop_2 : decode cX5_dropTop 2 = .ok (.getfield 76, 3) := by decide +kernel
theorem dX5_dropTop_5 : decode cX5_dropTop 5 = .ok (.iconst 1, 1) := by decide +kernel
theorem dX5_dropTop_6 : decode cX5_dropTop 6 = .ok (.isub, 1) := by decide +kernel
theorem dX5_dropTop_7 : decode cX5_dropTop 7 = .ok (.putfield 76, 3) := by decide +kernel
theorem dX5_dropTop_10 : decode cX5_dropTop 10 = .ok (.aload_n 0, 1) := by decide +kernel
theorem dX5_dropTop_11 : decode cX5_dropTop 11 = .ok (.getfield 34, 3) := by decide +kernel
theorem dX5_dropTop_14 : decode cX5_dropTop 14 = .ok (.aload_n 0, 1) := by decide +kernel
theorem dX5_dropTop_15 : decode cX5_dropTop 15 = .ok (.getfield 76, 3) := by decide +kernel
theorem dX5_dropTop_18 : decode cX5_dropTop 18 = .ok (.iaload, 1) := by decide +kernel
theorem dX5_dropTop_19 : decode cX5_dropTop 19 = .ok (.istore_n 2, 1) := by decide +kernel
theorem dX5_dropTop_20 : decode cX5_dropTop 20 = .ok (.aload_n 0, 1) := by decide +kernel
theorem dX5_dropTop_21 : decode cX5_dropTop 21 = .ok (.getfield 19, 3) := by decide +kernel
theorem dX5_dropTop_24 : decode cX5_dropTop 24 = .ok (.iload_n 2, 1) := by decide +kernel
theorem dX5_dropTop_25 : decode cX5_dropTop 25 = .ok (.dup2, 1) := by decide +kernel
theorem dX5_dropTop_26 : decode cX5_dropTop 26 = .ok (.iaload, 1) := by decide +kernel
theorem dX5_dropTop_27 : decode cX5_dropTop 27 = .ok (.iconst 1, 1) := by decide +kernel
theorem dX5_dropTop_28 : decode cX5_dropTop 28 = .ok (.isub, 1) := by decide +kernel
theorem dX5_dropTop_29 : decode cX5_dropTop 29 = .ok (.iastore, 1) := by decide +kernel
theorem dX5_dropTop_30 : decode cX5_dropTop 30 = .ok (.aload_n 0, 1) := by decide +kernel
theorem dX5_dropTop_31 : decode cX5_dropTop 31 = .ok (.iload_n 1, 1) := by decide +kernel
theorem dX5_dropTop_32 : decode cX5_dropTop 32 = .ok (.iload_n 2, 1) := by decide +kernel
theorem dX5_dropTop_33 : decode cX5_dropTop 33 = .ok (.iadd, 1) := by decide +kernel
theorem dX5_dropTop_34 : decode cX5_dropTop 34 = .ok (.invokevirtual 79, 3) := by decide +kernel
theorem dX5_dropTop_37 : decode cX5_dropTop 37 = .ok (.return_, 1) := by decide +kernel
theorem dX5_dropAll_0 : decode cX5_dropAll 0 = .ok (.aload_n 0, 1) := by decide +kernel
theorem dX5_dropAll_1 : decode cX5_dropAll 1 = .ok (.getfield 76, 3) := by decide +kernel
theorem dX5_dropAll_4 : decode cX5_dropAll 4 = .ok (.ifCond .le 11, 3) := by decide +kernel
theorem dX5_dropAll_7 : decode cX5_dropAll 7 = .ok (.aload_n 0, 1) := by decide +kernel
theorem dX5_dropAll_8 : decode cX5_dropAll 8 = .ok (.iload_n 1, 1) := by decide +kernel
theorem dX5_dropAll_9 : decode cX5_dropAll 9 = .ok (.invokevirtual 83, 3) := by decide +kernel
theorem dX5_dropAll_12 : decode cX5_dropAll 12 = .ok (.goto (-12), 3) := by decide +kernel
theorem dX5_dropAll_15 : decode cX5_dropAll 15 = .ok (.return_, 1) := by decide +kernel
theorem dX5_alarm_0 : decode cX5_alarm 0 = .ok (.aload_n 0, 1) := by decide +kernel
theorem dX5_alarm_1 : decode cX5_alarm 1 = .ok (.sipush 600, 3) := by decide +kernel
theorem dX5_alarm_4 : decode cX5_alarm 4 = .ok (.invokevirtual 86, 3) := by decide +kernel
theorem dX5_alarm_7 : decode cX5_alarm 7 = .ok (.aload_n 0, 1) := by decide +kernel
theorem dX5_alarm_8 : decode cX5_alarm 8 = .ok (.dup, 1) := by decide +kernel
theorem dX5_alarm_9 : decode cX5_alarm 9 = .ok (.getfield 89, 3) := by decide +kernel
theorem dX5_alarm_12 : decode cX5_alarm 12 = .ok (.iconst 1, 1) := by decide +kernel
theorem dX5_alarm_13 : decode cX5_alarm 13 = .ok (.iadd, 1) := by decide +kernel
theorem dX5_alarm_14 : decode cX5_alarm 14 = .ok (.putfield 89, 3) := by decide +kernel
theorem dX5_alarm_17 : decode cX5_alarm 17 = .ok (.return_, 1) := by decide +kernel
theorem dX5_turnKey_0 : decode cX5_turnKey 0 = .ok (.aload_n 0, 1) := by decide +kernel
theorem dX5_turnKey_1 : decode cX5_turnKey 1 = .ok (.getfield 19, 3) := by decide +kernel
theorem dX5_turnKey_4 : decode cX5_turnKey 4 = .ok (.iload_n 1, 1) := by decide +kernel
theorem dX5_turnKey_5 : decode cX5_turnKey 5 = .ok (.iaload, 1) := by decide +kernel
theorem dX5_turnKey_6 : decode cX5_turnKey 6 = .ok (.aload_n 0, 1) := by decide +kernel
theorem dX5_turnKey_7 : decode cX5_turnKey 7 = .ok (.getfield 7, 3) := by decide +kernel
theorem dX5_turnKey_10 : decode cX5_turnKey 10 = .ok (.iload_n 1, 1) := by decide +kernel
theorem dX5_turnKey_11 : decode cX5_turnKey 11 = .ok (.iaload, 1) := by decide +kernel
theorem dX5_turnKey_12 : decode cX5_turnKey 12 = .ok (.if_icmp .ne 19, 3) := by decide +kernel
theorem dX5_turnKey_15 : decode cX5_turnKey 15 = .ok (.aload_n 0, 1) := by decide +kernel
theorem dX5_turnKey_16 : decode cX5_turnKey 16 = .ok (.sipush 700, 3) := by decide +kernel
theorem dX5_turnKey_19 : decode cX5_turnKey 19 = .ok (.iload_n 1, 1) := by decide +kernel
theorem dX5_turnKey_20 : decode cX5_turnKey 20 = .ok (.iadd, 1) := by decide +kernel
theorem dX5_turnKey_21 : decode cX5_turnKey 21 = .ok (.invokevirtual 79, 3) := by decide +kernel
theorem dX5_turnKey_24 : decode cX5_turnKey 24 = .ok (.aload_n 0, 1) := by decide +kernel
theorem dX5_turnKey_25 : decode cX5_turnKey 25 = .ok (.invokevirtual 92, 3) := by decide +kernel
theorem dX5_turnKey_28 : decode cX5_turnKey 28 = .ok (.bipush (-7), 2) := by decide +kernel
theorem dX5_turnKey_30 : decode cX5_turnKey 30 = .ok (.ireturn, 1) := by decide +kernel
theorem dX5_turnKey_31 : decode cX5_turnKey 31 = .ok (.aload_n 0, 1) := by decide +kernel
theorem dX5_turnKey_32 : decode cX5_turnKey 32 = .ok (.getfield 16, 3) := by decide +kernel
theorem dX5_turnKey_35 : decode cX5_turnKey 35 = .ok (.iload_n 1, 1) := by decide +kernel
theorem dX5_turnKey_36 : decode cX5_turnKey 36 = .ok (.dup2, 1) := by decide +kernel
theorem dX5_turnKey_37 : decode cX5_turnKey 37 = .ok (.iaload, 1) := by decide +kernel
theorem dX5_turnKey_38 : decode cX5_turnKey 38 = .ok (.aload_n 0, 1) := by decide +kernel
theorem dX5_turnKey_39 : decode cX5_turnKey 39 = .ok (.getfield 13, 3) := by decide +kernel
theorem dX5_turnKey_42 : decode cX5_turnKey 42 = .ok (.iload_n 1, 1) := by decide +kernel
theorem dX5_turnKey_43 : decode cX5_turnKey 43 = .ok (.iaload, 1) := by decide +kernel
theorem dX5_turnKey_44 : decode cX5_turnKey 44 = .ok (.iadd, 1) := by decide +kernel
theorem dX5_turnKey_45 : decode cX5_turnKey 45 = .ok (.iastore, 1) := by decide +kernel
theorem dX5_turnKey_46 : decode cX5_turnKey 46 = .ok (.aload_n 0, 1) := by decide +kernel
theorem dX5_turnKey_47 : decode cX5_turnKey 47 = .ok (.getfield 19, 3) := by decide +kernel
theorem dX5_turnKey_50 : decode cX5_turnKey 50 = .ok (.iload_n 1, 1) := by decide +kernel
theorem dX5_turnKey_51 : decode cX5_turnKey 51 = .ok (.dup2, 1) := by decide +kernel
theorem dX5_turnKey_52 : decode cX5_turnKey 52 = .ok (.iaload, 1) := by decide +kernel
theorem dX5_turnKey_53 : decode cX5_turnKey 53 = .ok (.iconst 1, 1) := by decide +kernel
theorem dX5_turnKey_54 : decode cX5_turnKey 54 = .ok (.iadd, 1) := by decide +kernel
theorem dX5_turnKey_55 : decode cX5_turnKey 55 = .ok (.iastore, 1) := by decide +kernel
theorem dX5_turnKey_56 : decode cX5_turnKey 56 = .ok (.aload_n 0, 1) := by decide +kernel
theorem dX5_turnKey_57 : decode cX5_turnKey 57 = .ok (.getfield 34, 3) := by decide +kernel
theorem dX5_turnKey_60 : decode cX5_turnKey 60 = .ok (.aload_n 0, 1) := by decide +kernel
theorem dX5_turnKey_61 : decode cX5_turnKey 61 = .ok (.getfield 76, 3) := by decide +kernel
theorem dX5_turnKey_64 : decode cX5_turnKey 64 = .ok (.iload_n 1, 1) := by decide +kernel
theorem dX5_turnKey_65 : decode cX5_turnKey 65 = .ok (.iastore, 1) := by decide +kernel
theorem dX5_turnKey_66 : decode cX5_turnKey 66 = .ok (.aload_n 0, 1) := by decide +kernel
theorem dX5_turnKey_67 : decode cX5_turnKey 67 = .ok (.dup, 1) := by decide +kernel
theorem dX5_turnKey_68 : decode cX5_turnKey 68 = .ok (.getfield 76, 3) := by decide +kernel
theorem dX5_turnKey_71 : decode cX5_turnKey 71 = .ok (.iconst 1, 1) := by decide +kernel
theorem dX5_turnKey_72 : decode cX5_turnKey 72 = .ok (.iadd, 1) := by decide +kernel
theorem dX5_turnKey_73 : decode cX5_turnKey 73 = .ok (.putfield 76, 3) := by decide +kernel
theorem dX5_turnKey_76 : decode cX5_turnKey 76 = .ok (.aload_n 0, 1) := by decide +kernel
theorem dX5_turnKey_77 : decode cX5_turnKey 77 = .ok (.bipush 100, 2) := by decide +kernel
theorem dX5_turnKey_79 : decode cX5_turnKey 79 = .ok (.iload_n 1, 1) := by decide +kernel
theorem dX5_turnKey_80 : decode cX5_turnKey 80 = .ok (.iadd, 1) := by decide +kernel
theorem dX5_turnKey_81 : decode cX5_turnKey 81 = .ok (.invokevirtual 79, 3) := by decide +kernel
theorem dX5_turnKey_84 : decode cX5_turnKey 84 = .ok (.iconst 0, 1) := by decide +kernel
theorem dX5_turnKey_85 : decode cX5_turnKey 85 = .ok (.ireturn, 1) := by decide +kernel
theorem dX5_turnHand_0 : decode cX5_turnHand 0 = .ok (.aload_n 0, 1) := by decide +kernel
theorem dX5_turnHand_1 : decode cX5_turnHand 1 = .ok (.getfield 31, 3) := by decide +kernel
theorem dX5_turnHand_4 : decode cX5_turnHand 4 = .ok (.iconst 2, 1) := by decide +kernel
theorem dX5_turnHand_5 : decode cX5_turnHand 5 = .ok (.iload_n 1, 1) := by decide +kernel
theorem dX5_turnHand_6 : decode cX5_turnHand 6 = .ok (.imul, 1) := by decide +kernel
theorem dX5_turnHand_7 : decode cX5_turnHand 7 = .ok (.iload_n 2, 1) := by decide +kernel
theorem dX5_turnHand_8 : decode cX5_turnHand 8 = .ok (.iadd, 1) := by decide +kernel
theorem dX5_turnHand_9 : decode cX5_turnHand 9 = .ok (.iaload, 1) := by decide +kernel
theorem dX5_turnHand_10 : decode cX5_turnHand 10 = .ok (.istore_n 3, 1) := by decide +kernel
theorem dX5_turnHand_11 : decode cX5_turnHand 11 = .ok (.iload_n 3, 1) := by decide +kernel
theorem dX5_turnHand_12 : decode cX5_turnHand 12 = .ok (.iconst (-1), 1) := by decide +kernel
theorem dX5_turnHand_13 : decode cX5_turnHand 13 = .ok (.if_icmp .ne 14, 3) := by decide +kernel
theorem dX5_turnHand_16 : decode cX5_turnHand 16 = .ok (.aload_n 0, 1) := by decide +kernel
theorem dX5_turnHand_17 : decode cX5_turnHand 17 = .ok (.bipush 10, 2) := by decide +kernel
theorem dX5_turnHand_19 : decode cX5_turnHand 19 = .ok (.iload_n 2, 1) := by decide +kernel
theorem dX5_turnHand_20 : decode cX5_turnHand 20 = .ok (.iadd, 1) := by decide +kernel
theorem dX5_turnHand_21 : decode cX5_turnHand 21 = .ok (.invokevirtual 79, 3) := by decide +kernel
theorem dX5_turnHand_24 : decode cX5_turnHand 24 = .ok (.bipush (-4), 2) := by decide +kernel
theorem dX5_turnHand_26 : decode cX5_turnHand 26 = .ok (.ireturn, 1) := by decide +kernel
theorem dX5_turnHand_27 : decode cX5_turnHand 27 = .ok (.aload_n 0, 1) := by decide +kernel
theorem dX5_turnHand_28 : decode cX5_turnHand 28 = .ok (.iload_n 3, 1) := by decide +kernel
theorem dX5_turnHand_29 : decode cX5_turnHand 29 = .ok (.invokevirtual 95, 3) := by decide +kernel
theorem dX5_turnHand_32 : decode cX5_turnHand 32 = .ok (.ireturn, 1) := by decide +kernel
theorem dX5_turnBoth_0 : decode cX5_turnBoth 0 = .ok (.aload_n 0, 1) := by decide +kernel
theorem dX5_turnBoth_1 : decode cX5_turnBoth 1 = .ok (.iload_n 1, 1) := by decide +kernel
theorem dX5_turnBoth_2 : decode cX5_turnBoth 2 = .ok (.iconst 0, 1) := by decide +kernel
theorem dX5_turnBoth_3 : decode cX5_turnBoth 3 = .ok (.invokevirtual 99, 3) := by decide +kernel
theorem dX5_turnBoth_6 : decode cX5_turnBoth 6 = .ok (.istore_n 2, 1) := by decide +kernel
theorem dX5_turnBoth_7 : decode cX5_turnBoth 7 = .ok (.iload_n 2, 1) := by decide +kernel
theorem dX5_turnBoth_8 : decode cX5_turnBoth 8 = .ok (.ifCond .ne 10, 3) := by decide +kernel
theorem dX5_turnBoth_11 : decode cX5_turnBoth 11 = .ok (.aload_n 0, 1) := by decide +kernel
theorem dX5_turnBoth_12 : decode cX5_turnBoth 12 = .ok (.iload_n 1, 1) := by decide +kernel
theorem dX5_turnBoth_13 : decode cX5_turnBoth 13 = .ok (.iconst 1, 1) := by decide +kernel
theorem dX5_turnBoth_14 : decode cX5_turnBoth 14 = .ok (.invokevirtual 99, 3) := by decide +kernel
theorem dX5_turnBoth_17 : decode cX5_turnBoth 17 = .ok (.istore_n 2, 1) := by decide +kernel
theorem dX5_turnBoth_18 : decode cX5_turnBoth 18 = .ok (.iload_n 2, 1) := by decide +kernel
theorem dX5_turnBoth_19 : decode cX5_turnBoth 19 = .ok (.bipush (-4), 2) := by decide +kernel
theorem dX5_turnBoth_21 : decode cX5_turnBoth 21 = .ok (.if_icmp .ne 10, 3) := by decide +kernel
theorem dX5_turnBoth_24 : decode cX5_turnBoth 24 = .ok (.aload_n 0, 1) := by decide +kernel
theorem dX5_turnBoth_25 : decode cX5_turnBoth 25 = .ok (.sipush 300, 3) := by decide +kernel
theorem dX5_turnBoth_28 : decode cX5_turnBoth 28 = .ok (.invokevirtual 86, 3) := by decide +kernel
theorem dX5_turnBoth_31 : decode cX5_turnBoth 31 = .ok (.iload_n 2, 1) := by decide +kernel
theorem dX5_turnBoth_32 : decode cX5_turnBoth 32 = .ok (.ireturn, 1) := by decide +kernel
theorem dX5_ended_0 : decode cX5_ended 0 = .ok (.aload_n 0, 1) := by decide +kernel
theorem dX5_ended_1 : decode cX5_ended 1 = .ok (.sipush 200, 3) := by decide +kernel
theorem dX5_ended_4 : decode cX5_ended 4 = .ok (.invokevirtual 86, 3) := by decide +kernel
theorem dX5_ended_7 : decode cX5_ended 7 = .ok (.iload_n 1, 1) := by decide +kernel
theorem dX5_ended_8 : decode cX5_ended 8 = .ok (.ireturn, 1) := by decide +kernel
theorem dX5_answered_0 : decode cX5_answered 0 = .ok (.aload_n 0, 1) := by decide +kernel
theorem dX5_answered_1 : decode cX5_answered 1 = .ok (.sipush 300, 3) := by decide +kernel
theorem dX5_answered_4 : decode cX5_answered 4 = .ok (.invokevirtual 86, 3) := by decide +kernel
theorem dX5_answered_7 : decode cX5_answered 7 = .ok (.iload_n 1, 1) := by decide +kernel
theorem dX5_answered_8 : decode cX5_answered 8 = .ok (.ireturn, 1) := by decide +kernel
theorem dX5_alarmed_0 : decode cX5_alarmed 0 = .ok (.aload_n 0, 1) := by decide +kernel
theorem dX5_alarmed_1 : decode cX5_alarmed 1 = .ok (.invokevirtual 92, 3) := by decide +kernel
theorem dX5_alarmed_4 : decode cX5_alarmed 4 = .ok (.iload_n 1, 1) := by decide +kernel
theorem dX5_alarmed_5 : decode cX5_alarmed 5 = .ok (.ireturn, 1) := by decide +kernel
theorem dX5_put_0 : decode cX5_put 0 = .ok (.aload_n 0, 1) := by decide +kernel
theorem dX5_put_1 : decode cX5_put 1 = .ok (.iload_n 1, 1) := by decide +kernel
theorem dX5_put_2 : decode cX5_put 2 = .ok (.invokevirtual 67, 3) := by decide +kernel
theorem dX5_put_5 : decode cX5_put 5 = .ok (.ifCond .eq 10, 3) := by decide +kernel
theorem dX5_put_8 : decode cX5_put 8 = .ok (.iload_n 2, 1) := by decide +kernel
theorem dX5_put_9 : decode cX5_put 9 = .ok (.invokestatic 63, 3) := by decide +kernel
theorem dX5_put_12 : decode cX5_put 12 = .ok (.ifCond .ne 6, 3) := by decide +kernel
theorem dX5_put_15 : decode cX5_put 15 = .ok (.bipush (-2), 2) := by decide +kernel
theorem dX5_put_17 : decode cX5_put 17 = .ok (.ireturn, 1) := by decide +kernel
theorem dX5_put_18 : decode cX5_put 18 = .ok (.aload_n 0, 1) := by decide +kernel
theorem dX5_put_19 : decode cX5_put 19 = .ok (.iload_n 1, 1) := by decide +kernel
theorem dX5_put_20 : decode cX5_put 20 = .ok (.invokevirtual 103, 3) := by decide +kernel
theorem dX5_put_23 : decode cX5_put 23 = .ok (.istore_n 3, 1) := by decide +kernel
theorem dX5_put_24 : decode cX5_put 24 = .ok (.iload_n 3, 1) := by decide +kernel
theorem dX5_put_25 : decode cX5_put 25 = .ok (.ifCond .eq 5, 3) := by decide +kernel
theorem dX5_put_28 : decode cX5_put 28 = .ok (.iload_n 3, 1) := by decide +kernel
theorem dX5_put_29 : decode cX5_put 29 = .ok (.ireturn, 1) := by decide +kernel
theorem dX5_put_30 : decode cX5_put 30 = .ok (.aload_n 0, 1) := by decide +kernel
theorem dX5_put_31 : decode cX5_put 31 = .ok (.getfield 22, 3) := by decide +kernel
theorem dX5_put_34 : decode cX5_put 34 = .ok (.iload_n 1, 1) := by decide +kernel
theorem dX5_put_35 : decode cX5_put 35 = .ok (.iaload, 1) := by decide +kernel
theorem dX5_put_36 : decode cX5_put 36 = .ok (.iload_n 2, 1) := by decide +kernel
theorem dX5_put_37 : decode cX5_put 37 = .ok (.iadd, 1) := by decide +kernel
theorem dX5_put_38 : decode cX5_put 38 = .ok (.aload_n 0, 1) := by decide +kernel
theorem dX5_put_39 : decode cX5_put 39 = .ok (.getfield 25, 3) := by decide +kernel
theorem dX5_put_42 : decode cX5_put 42 = .ok (.iload_n 1, 1) := by decide +kernel
theorem dX5_put_43 : decode cX5_put 43 = .ok (.iaload, 1) := by decide +kernel
theorem dX5_put_44 : decode cX5_put 44 = .ok (.if_icmp .le 10, 3) := by decide +kernel
theorem dX5_put_47 : decode cX5_put 47 = .ok (.aload_n 0, 1) := by decide +kernel
theorem dX5_put_48 : decode cX5_put 48 = .ok (.bipush (-5), 2) := by decide +kernel
theorem dX5_put_50 : decode cX5_put 50 = .ok (.invokevirtual 106, 3) := by decide +kernel
theorem dX5_put_53 : decode cX5_put 53 = .ok (.ireturn, 1) := by decide +kernel
theorem dX5_put_54 : decode cX5_put 54 = .ok (.aload_n 0, 1) := by decide +kernel
theorem dX5_put_55 : decode cX5_put 55 = .ok (.getfield 22, 3) := by decide +kernel
theorem dX5_put_58 : decode cX5_put 58 = .ok (.iload_n 1, 1) := by decide +kernel
theorem dX5_put_59 : decode cX5_put 59 = .ok (.dup2, 1) := by decide +kernel
theorem dX5_put_60 : decode cX5_put 60 = .ok (.iaload, 1) := by decide +kernel
theorem dX5_put_61 : decode cX5_put 61 = .ok (.iload_n 2, 1) := by decide +kernel
theorem dX5_put_62 : decode cX5_put 62 = .ok (.iadd, 1) := by decide +kernel
theorem dX5_put_63 : decode cX5_put 63 = .ok (.iastore, 1) := by decide +kernel
theorem dX5_put_64 : decode cX5_put 64 = .ok (.aload_n 0, 1) := by decide +kernel
theorem dX5_put_65 : decode cX5_put 65 = .ok (.aload_n 0, 1) := by decide +kernel
theorem dX5_put_66 : decode cX5_put 66 = .ok (.getfield 22, 3) := by decide +kernel
theorem dX5_put_69 : decode cX5_put 69 = .ok (.iload_n 1, 1) := by decide +kernel
theorem dX5_put_70 : decode cX5_put 70 = .ok (.iaload, 1) := by decide +kernel
theorem dX5_put_71 : decode cX5_put 71 = .ok (.invokevirtual 109, 3) := by decide +kernel
theorem dX5_put_74 : decode cX5_put 74 = .ok (.ireturn, 1) := by decide +kernel
theorem dX5_take_0 : decode cX5_take 0 = .ok (.aload_n 0, 1) := by decide +kernel
theorem dX5_take_1 : decode cX5_take 1 = .ok (.iload_n 1, 1) := by decide +kernel
theorem dX5_take_2 : decode cX5_take 2 = .ok (.invokevirtual 67, 3) := by decide +kernel
theorem dX5_take_5 : decode cX5_take 5 = .ok (.ifCond .eq 10, 3) := by decide +kernel
theorem dX5_take_8 : decode cX5_take 8 = .ok (.iload_n 2, 1) := by decide +kernel
theorem dX5_take_9 : decode cX5_take 9 = .ok (.invokestatic 63, 3) := by decide +kernel
theorem dX5_take_12 : decode cX5_take 12 = .ok (.ifCond .ne 6, 3) := by decide +kernel
theorem dX5_take_15 : decode cX5_take 15 = .ok (.bipush (-2), 2) := by decide +kernel
theorem dX5_take_17 : decode cX5_take 17 = .ok (.ireturn, 1) := by decide +kernel
theorem dX5_take_18 : decode cX5_take 18 = .ok (.aload_n 0, 1) := by decide +kernel
theorem dX5_take_19 : decode cX5_take 19 = .ok (.iload_n 1, 1) := by decide +kernel
theorem dX5_take_20 : decode cX5_take 20 = .ok (.invokevirtual 103, 3) := by decide +kernel
theorem dX5_take_23 : decode cX5_take 23 = .ok (.istore_n 3, 1) := by decide +kernel
theorem dX5_take_24 : decode cX5_take 24 = .ok (.iload_n 3, 1) := by decide +kernel
theorem dX5_take_25 : decode cX5_take 25 = .ok (.ifCond .eq 5, 3) := by decide +kernel
theorem dX5_take_28 : decode cX5_take 28 = .ok (.iload_n 3, 1) := by decide +kernel
theorem dX5_take_29 : decode cX5_take 29 = .ok (.ireturn, 1) := by decide +kernel
theorem dX5_take_30 : decode cX5_take 30 = .ok (.aload_n 0, 1) := by decide +kernel
theorem dX5_take_31 : decode cX5_take 31 = .ok (.getfield 22, 3) := by decide +kernel
theorem dX5_take_34 : decode cX5_take 34 = .ok (.iload_n 1, 1) := by decide +kernel
theorem dX5_take_35 : decode cX5_take 35 = .ok (.iaload, 1) := by decide +kernel
theorem dX5_take_36 : decode cX5_take 36 = .ok (.iload_n 2, 1) := by decide +kernel
theorem dX5_take_37 : decode cX5_take 37 = .ok (.if_icmp .ge 10, 3) := by decide +kernel
theorem dX5_take_40 : decode cX5_take 40 = .ok (.aload_n 0, 1) := by decide +kernel
theorem dX5_take_41 : decode cX5_take 41 = .ok (.bipush (-6), 2) := by decide +kernel
theorem dX5_take_43 : decode cX5_take 43 = .ok (.invokevirtual 112, 3) := by decide +kernel
theorem dX5_take_46 : decode cX5_take 46 = .ok (.ireturn, 1) := by decide +kernel
theorem dX5_take_47 : decode cX5_take 47 = .ok (.aload_n 0, 1) := by decide +kernel
theorem dX5_take_48 : decode cX5_take 48 = .ok (.getfield 22, 3) := by decide +kernel
theorem dX5_take_51 : decode cX5_take 51 = .ok (.iload_n 1, 1) := by decide +kernel
theorem dX5_take_52 : decode cX5_take 52 = .ok (.dup2, 1) := by decide +kernel
theorem dX5_take_53 : decode cX5_take 53 = .ok (.iaload, 1) := by decide +kernel
theorem dX5_take_54 : decode cX5_take 54 = .ok (.iload_n 2, 1) := by decide +kernel
theorem dX5_take_55 : decode cX5_take 55 = .ok (.isub, 1) := by decide +kernel
theorem dX5_take_56 : decode cX5_take 56 = .ok (.iastore, 1) := by decide +kernel
theorem dX5_take_57 : decode cX5_take 57 = .ok (.aload_n 0, 1) := by decide +kernel
theorem dX5_take_58 : decode cX5_take 58 = .ok (.aload_n 0, 1) := by decide +kernel
theorem dX5_take_59 : decode cX5_take 59 = .ok (.getfield 22, 3) := by decide +kernel
theorem dX5_take_62 : decode cX5_take 62 = .ok (.iload_n 1, 1) := by decide +kernel
theorem dX5_take_63 : decode cX5_take 63 = .ok (.iaload, 1) := by decide +kernel
theorem dX5_take_64 : decode cX5_take 64 = .ok (.invokevirtual 109, 3) := by decide +kernel
theorem dX5_take_67 : decode cX5_take 67 = .ok (.ireturn, 1) := by decide +kernel
theorem dX5_move_0 : decode cX5_move 0 = .ok (.aload_n 0, 1) := by decide +kernel
theorem dX5_move_1 : decode cX5_move 1 = .ok (.iload_n 1, 1) := by decide +kernel
theorem dX5_move_2 : decode cX5_move 2 = .ok (.invokevirtual 67, 3) := by decide +kernel
theorem dX5_move_5 : decode cX5_move 5 = .ok (.ifCond .eq 18, 3) := by decide +kernel
theorem dX5_move_8 : decode cX5_move 8 = .ok (.aload_n 0, 1) := by decide +kernel
theorem dX5_move_9 : decode cX5_move 9 = .ok (.iload_n 2, 1) := by decide +kernel
theorem dX5_move_10 : decode cX5_move 10 = .ok (.invokevirtual 67, 3) := by decide +kernel
theorem dX5_move_13 : decode cX5_move 13 = .ok (.ifCond .eq 10, 3) := by decide +kernel
theorem dX5_move_16 : decode cX5_move 16 = .ok (.iload_n 3, 1) := by decide +kernel
theorem dX5_move_17 : decode cX5_move 17 = .ok (.invokestatic 63, 3) := by decide +kernel
theorem dX5_move_20 : decode cX5_move 20 = .ok (.ifCond .ne 6, 3) := by decide +kernel
theorem dX5_move_23 : decode cX5_move 23 = .ok (.bipush (-2), 2) := by decide +kernel
theorem dX5_move_25 : decode cX5_move 25 = .ok (.ireturn, 1) := by decide +kernel
theorem dX5_move_26 : decode cX5_move 26 = .ok (.aload_n 0, 1) := by decide +kernel
theorem dX5_move_27 : decode cX5_move 27 = .ok (.iload_n 1, 1) := by decide +kernel
theorem dX5_move_28 : decode cX5_move 28 = .ok (.invokevirtual 103, 3) := by decide +kernel
theorem dX5_move_31 : decode cX5_move 31 = .ok (.istore 4, 2) := by decide +kernel
theorem dX5_move_33 : decode cX5_move 33 = .ok (.iload 4, 2) := by decide +kernel
theorem dX5_move_35 : decode cX5_move 35 = .ok (.ifCond .ne 10, 3) := by decide +kernel
theorem dX5_move_38 : decode cX5_move 38 = .ok (.aload_n 0, 1) := by decide +kernel
theorem dX5_move_39 : decode cX5_move 39 = .ok (.iload_n 2, 1) := by decide +kernel
theorem dX5_move_40 : decode cX5_move 40 = .ok (.invokevirtual 103, 3) := by decide +kernel
theorem dX5_move_43 : decode cX5_move 43 = .ok (.istore 4, 2) := by decide +kernel
theorem dX5_move_45 : decode cX5_move 45 = .ok (.iload 4, 2) := by decide +kernel
theorem dX5_move_47 : decode cX5_move 47 = .ok (.ifCond .eq 6, 3) := by decide +kernel
theorem dX5_move_50 : decode cX5_move 50 = .ok (.iload 4, 2) := by decide +kernel
theorem dX5_move_52 : decode cX5_move 52 = .ok (.ireturn, 1) := by decide +kernel
theorem dX5_move_53 : decode cX5_move 53 = .ok (.aload_n 0, 1) := by decide +kernel
theorem dX5_move_54 : decode cX5_move 54 = .ok (.getfield 22, 3) := by decide +kernel
theorem dX5_move_57 : decode cX5_move 57 = .ok (.iload_n 1, 1) := by decide +kernel
theorem dX5_move_58 : decode cX5_move 58 = .ok (.iaload, 1) := by decide +kernel
theorem dX5_move_59 : decode cX5_move 59 = .ok (.iload_n 3, 1) := by decide +kernel
theorem dX5_move_60 : decode cX5_move 60 = .ok (.if_icmp .ge 10, 3) := by decide +kernel
theorem dX5_move_63 : decode cX5_move 63 = .ok (.aload_n 0, 1) := by decide +kernel
theorem dX5_move_64 : decode cX5_move 64 = .ok (.bipush (-6), 2) := by decide +kernel
theorem dX5_move_66 : decode cX5_move 66 = .ok (.invokevirtual 112, 3) := by decide +kernel
theorem dX5_move_69 : decode cX5_move 69 = .ok (.ireturn, 1) := by decide +kernel
theorem dX5_move_70 : decode cX5_move 70 = .ok (.aload_n 0, 1) := by decide +kernel
theorem dX5_move_71 : decode cX5_move 71 = .ok (.getfield 22, 3) := by decide +kernel
theorem dX5_move_74 : decode cX5_move 74 = .ok (.iload_n 2, 1) := by decide +kernel
theorem dX5_move_75 : decode cX5_move 75 = .ok (.iaload, 1) := by decide +kernel
theorem dX5_move_76 : decode cX5_move 76 = .ok (.iload_n 3, 1) := by decide +kernel
theorem dX5_move_77 : decode cX5_move 77 = .ok (.iadd, 1) := by decide +kernel
theorem dX5_move_78 : decode cX5_move 78 = .ok (.aload_n 0, 1) := by decide +kernel
theorem dX5_move_79 : decode cX5_move 79 = .ok (.getfield 25, 3) := by decide +kernel
theorem dX5_move_82 : decode cX5_move 82 = .ok (.iload_n 2, 1) := by decide +kernel
theorem dX5_move_83 : decode cX5_move 83 = .ok (.iaload, 1) := by decide +kernel
theorem dX5_move_84 : decode cX5_move 84 = .ok (.if_icmp .le 10, 3) := by decide +kernel
theorem dX5_move_87 : decode cX5_move 87 = .ok (.aload_n 0, 1) := by decide +kernel
theorem dX5_move_88 : decode cX5_move 88 = .ok (.bipush (-5), 2) := by decide +kernel
theorem dX5_move_90 : decode cX5_move 90 = .ok (.invokevirtual 106, 3) := by decide +kernel
theorem dX5_move_93 : decode cX5_move 93 = .ok (.ireturn, 1) := by decide +kernel
theorem dX5_move_94 : decode cX5_move 94 = .ok (.aload_n 0, 1) := by decide +kernel
theorem dX5_move_95 : decode cX5_move 95 = .ok (.getfield 22, 3) := by decide +kernel
theorem dX5_move_98 : decode cX5_move 98 = .ok (.iload_n 1, 1) := by decide +kernel
theorem dX5_move_99 : decode cX5_move 99 = .ok (.dup2, 1) := by decide +kernel
theorem dX5_move_100 : decode cX5_move 100 = .ok (.iaload, 1) := by decide +kernel
theorem dX5_move_101 : decode cX5_move 101 = .ok (.iload_n 3, 1) := by decide +kernel
theorem dX5_move_102 : decode cX5_move 102 = .ok (.isub, 1) := by decide +kernel
theorem dX5_move_103 : decode cX5_move 103 = .ok (.iastore, 1) := by decide +kernel
theorem dX5_move_104 : decode cX5_move 104 = .ok (.aload_n 0, 1) := by decide +kernel
theorem dX5_move_105 : decode cX5_move 105 = .ok (.getfield 22, 3) := by decide +kernel
theorem dX5_move_108 : decode cX5_move 108 = .ok (.iload_n 2, 1) := by decide +kernel
theorem dX5_move_109 : decode cX5_move 109 = .ok (.dup2, 1) := by decide +kernel
theorem dX5_move_110 : decode cX5_move 110 = .ok (.iaload, 1) := by decide +kernel
theorem dX5_move_111 : decode cX5_move 111 = .ok (.iload_n 3, 1) := by decide +kernel
theorem dX5_move_112 : decode cX5_move 112 = .ok (.iadd, 1) := by decide +kernel
theorem dX5_move_113 : decode cX5_move 113 = .ok (.iastore, 1) := by decide +kernel
theorem dX5_move_114 : decode cX5_move 114 = .ok (.aload_n 0, 1) := by decide +kernel
theorem dX5_move_115 : decode cX5_move 115 = .ok (.aload_n 0, 1) := by decide +kernel
theorem dX5_move_116 : decode cX5_move 116 = .ok (.getfield 22, 3) := by decide +kernel
theorem dX5_move_119 : decode cX5_move 119 = .ok (.iload_n 1, 1) := by decide +kernel
theorem dX5_move_120 : decode cX5_move 120 = .ok (.iaload, 1) := by decide +kernel
theorem dX5_move_121 : decode cX5_move 121 = .ok (.invokevirtual 109, 3) := by decide +kernel
theorem dX5_move_124 : decode cX5_move 124 = .ok (.ireturn, 1) := by decide +kernel
theorem dX5_split_0 : decode cX5_split 0 = .ok (.aload_n 0, 1) := by decide +kernel
theorem dX5_split_1 : decode cX5_split 1 = .ok (.iload_n 1, 1) := by decide +kernel
theorem dX5_split_2 : decode cX5_split 2 = .ok (.invokevirtual 67, 3) := by decide +kernel
theorem dX5_split_5 : decode cX5_split 5 = .ok (.ifCond .eq 14, 3) := by decide +kernel
theorem dX5_split_8 : decode cX5_split 8 = .ok (.iload_n 2, 1) := by decide +kernel
theorem dX5_split_9 : decode cX5_split 9 = .ok (.ifCond .lt 10, 3) := by decide +kernel
theorem dX5_split_12 : decode cX5_split 12 = .ok (.iload_n 2, 1) := by decide +kernel
theorem dX5_split_13 : decode cX5_split 13 = .ok (.sipush 1000, 3) := by decide +kernel
theorem dX5_split_16 : decode cX5_split 16 = .ok (.if_icmp .le 6, 3) := by decide +kernel
theorem dX5_split_19 : decode cX5_split 19 = .ok (.bipush (-2), 2) := by decide +kernel
theorem dX5_split_21 : decode cX5_split 21 = .ok (.ireturn, 1) := by decide +kernel
theorem dX5_split_22 : decode cX5_split 22 = .ok (.aload_n 0, 1) := by decide +kernel
theorem dX5_split_23 : decode cX5_split 23 = .ok (.iload_n 1, 1) := by decide +kernel
theorem dX5_split_24 : decode cX5_split 24 = .ok (.invokevirtual 103, 3) := by decide +kernel
theorem dX5_split_27 : decode cX5_split 27 = .ok (.istore_n 3, 1) := by decide +kernel
theorem dX5_split_28 : decode cX5_split 28 = .ok (.iload_n 3, 1) := by decide +kernel
