-- words by their places (printed by a program of mine)
set_option maxRecDepth 20000 in
theorem ki_L : Cond.initialized RL ∈ TG := tg_in 23 rfl rfl
set_option maxRecDepth 20000 in
theorem ki_X4 : Cond.initialized RX4 ∈ TG := tg_in 24 rfl rfl
set_option maxRecDepth 20000 in
theorem ki_X1 : Cond.initialized RX1 ∈ TG := tg_in 25 rfl rfl
set_option maxRecDepth 20000 in
theorem ki_X3 : Cond.initialized RX3 ∈ TG := tg_in 26 rfl rfl
set_option maxRecDepth 20000 in
theorem ki_X0 : Cond.initialized RX0 ∈ TG := tg_in 27 rfl rfl
set_option maxRecDepth 20000 in
theorem ki_X2 : Cond.initialized RX2 ∈ TG := tg_in 28 rfl rfl
set_option maxRecDepth 20000 in
theorem ki_X5 : Cond.initialized RX5 ∈ TG := tg_in 29 rfl rfl
set_option maxRecDepth 20000 in
theorem ki_J9 : Cond.initialized RJ9 ∈ TG := tg_in 30 rfl rfl
set_option maxRecDepth 20000 in
theorem kl_L_7 : Cond.classLink RL 7 RX4 ∈ TG := tg_in 31 rfl rfl
set_option maxRecDepth 20000 in
theorem kn_X4 : Cond.instantiable RX4 7 ∈ TG := tg_in 32 rfl rfl
set_option maxRecDepth 20000 in
theorem km_X4 : Cond.instanceMethod yX4_init ∈ TG := tg_in 34 rfl rfl
set_option maxRecDepth 20000 in
theorem km_obj : Cond.instanceMethod objectInit ∈ TG := tg_in 37 rfl rfl
set_option maxRecDepth 20000 in
theorem kl_X4_7 : Cond.classLink RX4 7 RX1 ∈ TG := tg_in 39 rfl rfl
set_option maxRecDepth 20000 in
theorem kn_X1 : Cond.instantiable RX1 5 ∈ TG := tg_in 40 rfl rfl
set_option maxRecDepth 20000 in
theorem km_X1 : Cond.instanceMethod yX1_init ∈ TG := tg_in 42 rfl rfl
set_option maxRecDepth 20000 in
theorem kf_X1_9 : Cond.fieldLink RX1 9 "VaultHands$Keys" "teeth" "[I" ∈ TG := tg_in 45 rfl rfl
set_option maxRecDepth 20000 in
theorem kf_X4_138 : Cond.fieldLink RX4 138 "VaultHands$Keys" "teeth" "[I" ∈ TG := tg_in 46 rfl rfl
set_option maxRecDepth 20000 in
theorem kf_X1_15 : Cond.fieldLink RX1 15 "VaultHands$Keys" "strains" "[I" ∈ TG := tg_in 47 rfl rfl
set_option maxRecDepth 20000 in
theorem kf_X4_141 : Cond.fieldLink RX4 141 "VaultHands$Keys" "strains" "[I" ∈ TG := tg_in 48 rfl rfl
set_option maxRecDepth 20000 in
theorem kf_X1_18 : Cond.fieldLink RX1 18 "VaultHands$Keys" "wears" "[I" ∈ TG := tg_in 49 rfl rfl
set_option maxRecDepth 20000 in
theorem kf_X4_100 : Cond.fieldLink RX4 100 "VaultHands$Keys" "wears" "[I" ∈ TG := tg_in 50 rfl rfl
set_option maxRecDepth 20000 in
theorem kf_X1_21 : Cond.fieldLink RX1 21 "VaultHands$Keys" "held" "[I" ∈ TG := tg_in 51 rfl rfl
set_option maxRecDepth 20000 in
theorem kf_X4_135 : Cond.fieldLink RX4 135 "VaultHands$Keys" "held" "[I" ∈ TG := tg_in 52 rfl rfl
set_option maxRecDepth 20000 in
theorem kf_X1_24 : Cond.fieldLink RX1 24 "VaultHands$Keys" "count" "I" ∈ TG := tg_in 53 rfl rfl
set_option maxRecDepth 20000 in
theorem ka_int : Cond.arrayClass .int ∈ TG := tg_in 65 rfl rfl
set_option maxRecDepth 20000 in
theorem kl_X4_16 : Cond.classLink RX4 16 RX3 ∈ TG := tg_in 66 rfl rfl
set_option maxRecDepth 20000 in
theorem kn_X3 : Cond.instantiable RX3 6 ∈ TG := tg_in 67 rfl rfl
set_option maxRecDepth 20000 in
theorem km_X3 : Cond.instanceMethod yX3_init ∈ TG := tg_in 69 rfl rfl
set_option maxRecDepth 20000 in
theorem kf_X3_9 : Cond.fieldLink RX3 9 "VaultHands$Vaults" "limits" "[I" ∈ TG := tg_in 72 rfl rfl
set_option maxRecDepth 20000 in
theorem kf_X3_15 : Cond.fieldLink RX3 15 "VaultHands$Vaults" "sums" "[I" ∈ TG := tg_in 73 rfl rfl
set_option maxRecDepth 20000 in
theorem kf_X4_91 : Cond.fieldLink RX4 91 "VaultHands$Vaults" "sums" "[I" ∈ TG := tg_in 74 rfl rfl
set_option maxRecDepth 20000 in
theorem kf_X3_18 : Cond.fieldLink RX3 18 "VaultHands$Vaults" "nexts" "[I" ∈ TG := tg_in 75 rfl rfl
set_option maxRecDepth 20000 in
theorem kf_X4_76 : Cond.fieldLink RX4 76 "VaultHands$Vaults" "nexts" "[I" ∈ TG := tg_in 76 rfl rfl
set_option maxRecDepth 20000 in
theorem kf_X3_21 : Cond.fieldLink RX3 21 "VaultHands$Vaults" "lefts" "[I" ∈ TG := tg_in 77 rfl rfl
set_option maxRecDepth 20000 in
theorem kf_X3_24 : Cond.fieldLink RX3 24 "VaultHands$Vaults" "rights" "[I" ∈ TG := tg_in 78 rfl rfl
set_option maxRecDepth 20000 in
theorem kf_X3_27 : Cond.fieldLink RX3 27 "VaultHands$Vaults" "count" "I" ∈ TG := tg_in 79 rfl rfl
set_option maxRecDepth 20000 in
theorem kf_X4_169 : Cond.fieldLink RX4 169 "VaultHands$Vaults" "count" "I" ∈ TG := tg_in 80 rfl rfl
set_option maxRecDepth 20000 in
theorem kl_X4_23 : Cond.classLink RX4 23 RX0 ∈ TG := tg_in 94 rfl rfl
set_option maxRecDepth 20000 in
theorem kn_X0 : Cond.instantiable RX0 2 ∈ TG := tg_in 95 rfl rfl
set_option maxRecDepth 20000 in
theorem km_X0 : Cond.instanceMethod yX0_init ∈ TG := tg_in 97 rfl rfl
set_option maxRecDepth 20000 in
theorem kf_X0_9 : Cond.fieldLink RX0 9 "VaultHands$Book" "kept" "[I" ∈ TG := tg_in 100 rfl rfl
set_option maxRecDepth 20000 in
theorem kf_X0_15 : Cond.fieldLink RX0 15 "VaultHands$Book" "count" "I" ∈ TG := tg_in 101 rfl rfl
set_option maxRecDepth 20000 in
theorem kf_X4_127 : Cond.fieldLink RX4 127 "VaultHands$Book" "count" "I" ∈ TG := tg_in 102 rfl rfl
set_option maxRecDepth 20000 in
theorem kl_X4_30 : Cond.classLink RX4 30 RX2 ∈ TG := tg_in 108 rfl rfl
set_option maxRecDepth 20000 in
theorem kn_X2 : Cond.instantiable RX2 5 ∈ TG := tg_in 109 rfl rfl
set_option maxRecDepth 20000 in
theorem km_X2 : Cond.instanceMethod yX2_init ∈ TG := tg_in 111 rfl rfl
set_option maxRecDepth 20000 in
theorem kf_X2_9 : Cond.fieldLink RX2 9 "VaultHands$Tray" "ops" "[I" ∈ TG := tg_in 114 rfl rfl
set_option maxRecDepth 20000 in
theorem kf_X4_144 : Cond.fieldLink RX4 144 "VaultHands$Tray" "ops" "[I" ∈ TG := tg_in 115 rfl rfl
set_option maxRecDepth 20000 in
theorem kf_X2_15 : Cond.fieldLink RX2 15 "VaultHands$Tray" "firsts" "[I" ∈ TG := tg_in 116 rfl rfl
set_option maxRecDepth 20000 in
theorem kf_X4_147 : Cond.fieldLink RX4 147 "VaultHands$Tray" "firsts" "[I" ∈ TG := tg_in 117 rfl rfl
set_option maxRecDepth 20000 in
theorem kf_X2_18 : Cond.fieldLink RX2 18 "VaultHands$Tray" "seconds" "[I" ∈ TG := tg_in 118 rfl rfl
set_option maxRecDepth 20000 in
theorem kf_X4_159 : Cond.fieldLink RX4 159 "VaultHands$Tray" "seconds" "[I" ∈ TG := tg_in 119 rfl rfl
set_option maxRecDepth 20000 in
theorem kf_X2_21 : Cond.fieldLink RX2 21 "VaultHands$Tray" "amounts" "[I" ∈ TG := tg_in 120 rfl rfl
set_option maxRecDepth 20000 in
theorem kf_X4_150 : Cond.fieldLink RX4 150 "VaultHands$Tray" "amounts" "[I" ∈ TG := tg_in 121 rfl rfl
set_option maxRecDepth 20000 in
theorem kf_X2_24 : Cond.fieldLink RX2 24 "VaultHands$Tray" "count" "I" ∈ TG := tg_in 122 rfl rfl
set_option maxRecDepth 20000 in
theorem kf_X4_121 : Cond.fieldLink RX4 121 "VaultHands$Tray" "count" "I" ∈ TG := tg_in 123 rfl rfl
set_option maxRecDepth 20000 in
theorem kf_X4_10 : Cond.fieldLink RX4 10 "VaultHands" "keys" "LVaultHands$Keys;" ∈ TG := tg_in 135 rfl rfl
set_option maxRecDepth 20000 in
theorem kf_X4_19 : Cond.fieldLink RX4 19 "VaultHands" "vaults" "LVaultHands$Vaults;" ∈ TG := tg_in 136 rfl rfl
set_option maxRecDepth 20000 in
theorem kf_X4_26 : Cond.fieldLink RX4 26 "VaultHands" "book" "LVaultHands$Book;" ∈ TG := tg_in 137 rfl rfl
set_option maxRecDepth 20000 in
theorem kf_X4_33 : Cond.fieldLink RX4 33 "VaultHands" "tray" "LVaultHands$Tray;" ∈ TG := tg_in 138 rfl rfl
set_option maxRecDepth 20000 in
theorem kf_X4_37 : Cond.fieldLink RX4 37 "VaultHands" "grip" "[I" ∈ TG := tg_in 139 rfl rfl
set_option maxRecDepth 20000 in
theorem kf_X4_41 : Cond.fieldLink RX4 41 "VaultHands" "gripped" "I" ∈ TG := tg_in 140 rfl rfl
set_option maxRecDepth 20000 in
theorem kf_X4_45 : Cond.fieldLink RX4 45 "VaultHands" "alarmCount" "I" ∈ TG := tg_in 141 rfl rfl
set_option maxRecDepth 20000 in
theorem kc_X4_56 : Cond.constant RX4 56 (1000000) ∈ TG := tg_in 172 rfl rfl
set_option maxRecDepth 20000 in
theorem kl_L_10 : Cond.classLink RL 10 RX5 ∈ TG := tg_in 340 rfl rfl
set_option maxRecDepth 20000 in
theorem kn_X5 : Cond.instantiable RX5 20 ∈ TG := tg_in 341 rfl rfl
set_option maxRecDepth 20000 in
theorem km_X5 : Cond.instanceMethod yX5_init ∈ TG := tg_in 343 rfl rfl
set_option maxRecDepth 20000 in
theorem kf_X5_7 : Cond.fieldLink RX5 7 "VaultHandsModel" "teeth" "[I" ∈ TG := tg_in 346 rfl rfl
set_option maxRecDepth 20000 in
theorem kf_X5_13 : Cond.fieldLink RX5 13 "VaultHandsModel" "wears" "[I" ∈ TG := tg_in 347 rfl rfl
set_option maxRecDepth 20000 in
theorem kf_X5_16 : Cond.fieldLink RX5 16 "VaultHandsModel" "wearOf" "[I" ∈ TG := tg_in 348 rfl rfl
set_option maxRecDepth 20000 in
theorem kf_X5_19 : Cond.fieldLink RX5 19 "VaultHandsModel" "timesHeld" "[I" ∈ TG := tg_in 349 rfl rfl
set_option maxRecDepth 20000 in
theorem kf_X5_52 : Cond.fieldLink RX5 52 "VaultHandsModel" "keys" "I" ∈ TG := tg_in 350 rfl rfl
set_option maxRecDepth 20000 in
theorem kf_X5_22 : Cond.fieldLink RX5 22 "VaultHandsModel" "sums" "[I" ∈ TG := tg_in 351 rfl rfl
set_option maxRecDepth 20000 in
theorem kf_X5_25 : Cond.fieldLink RX5 25 "VaultHandsModel" "limits" "[I" ∈ TG := tg_in 352 rfl rfl
set_option maxRecDepth 20000 in
theorem kf_X5_28 : Cond.fieldLink RX5 28 "VaultHandsModel" "nexts" "[I" ∈ TG := tg_in 353 rfl rfl
set_option maxRecDepth 20000 in
theorem kf_X5_31 : Cond.fieldLink RX5 31 "VaultHandsModel" "hands" "[I" ∈ TG := tg_in 354 rfl rfl
set_option maxRecDepth 20000 in
theorem kf_X5_56 : Cond.fieldLink RX5 56 "VaultHandsModel" "vaults" "I" ∈ TG := tg_in 355 rfl rfl
set_option maxRecDepth 20000 in
theorem kf_X5_34 : Cond.fieldLink RX5 34 "VaultHandsModel" "pile" "[I" ∈ TG := tg_in 356 rfl rfl
set_option maxRecDepth 20000 in
theorem kf_X5_76 : Cond.fieldLink RX5 76 "VaultHandsModel" "height" "I" ∈ TG := tg_in 357 rfl rfl
set_option maxRecDepth 20000 in
theorem kf_X5_37 : Cond.fieldLink RX5 37 "VaultHandsModel" "book" "[I" ∈ TG := tg_in 358 rfl rfl
set_option maxRecDepth 20000 in
theorem kf_X5_60 : Cond.fieldLink RX5 60 "VaultHandsModel" "told" "I" ∈ TG := tg_in 359 rfl rfl
set_option maxRecDepth 20000 in
theorem kf_X5_89 : Cond.fieldLink RX5 89 "VaultHandsModel" "alarmed" "I" ∈ TG := tg_in 360 rfl rfl
set_option maxRecDepth 20000 in
theorem kf_X5_40 : Cond.fieldLink RX5 40 "VaultHandsModel" "ops" "[I" ∈ TG := tg_in 361 rfl rfl
set_option maxRecDepth 20000 in
theorem kf_X5_43 : Cond.fieldLink RX5 43 "VaultHandsModel" "first" "[I" ∈ TG := tg_in 362 rfl rfl
set_option maxRecDepth 20000 in
theorem kf_X5_46 : Cond.fieldLink RX5 46 "VaultHandsModel" "second" "[I" ∈ TG := tg_in 363 rfl rfl
set_option maxRecDepth 20000 in
theorem kf_X5_49 : Cond.fieldLink RX5 49 "VaultHandsModel" "amounts" "[I" ∈ TG := tg_in 364 rfl rfl
set_option maxRecDepth 20000 in
theorem kf_X5_122 : Cond.fieldLink RX5 122 "VaultHandsModel" "lying" "I" ∈ TG := tg_in 365 rfl rfl
set_option maxRecDepth 20000 in
theorem kc_X5_59 : Cond.constant RX5 59 (1000000) ∈ TG := tg_in 418 rfl rfl
set_option maxRecDepth 20000 in
theorem in_X0 : ∀ w ∈ wsX00, w ∈ TG := by decide +kernel
set_option maxRecDepth 20000 in
theorem in_X1 : ∀ w ∈ wsX10, w ∈ TG := by decide +kernel
set_option maxRecDepth 20000 in
theorem in_X2 : ∀ w ∈ wsX20, w ∈ TG := by decide +kernel
set_option maxRecDepth 20000 in
theorem in_X3 : ∀ w ∈ wsX30, w ∈ TG := by decide +kernel
set_option maxRecDepth 20000 in
theorem in_X4 : ∀ w ∈ wsX40, w ∈ TG := by decide +kernel
set_option maxRecDepth 20000 in
theorem in_X5 : ∀ w ∈ wsX50, w ∈ TG := by decide +kernel
set_option maxRecDepth 20000 in
theorem ko_X4_init : Cond.code yX4_init cX4_init 1 none ∈ TG := tg_in 35 rfl rfl
set_option maxRecDepth 20000 in
theorem ko_obj : Cond.code objectInit ⟨#[0xb1]⟩ 1 none ∈ TG := tg_in 38 rfl rfl
set_option maxRecDepth 20000 in
theorem ko_X1_init : Cond.code yX1_init cX1_init 1 none ∈ TG := tg_in 43 rfl rfl
set_option maxRecDepth 20000 in
theorem ko_X3_init : Cond.code yX3_init cX3_init 1 none ∈ TG := tg_in 70 rfl rfl
set_option maxRecDepth 20000 in
theorem ko_X0_init : Cond.code yX0_init cX0_init 1 none ∈ TG := tg_in 98 rfl rfl
set_option maxRecDepth 20000 in
theorem ko_X2_init : Cond.code yX2_init cX2_init 1 none ∈ TG := tg_in 112 rfl rfl
set_option maxRecDepth 20000 in
theorem ko_X4_key : Cond.code yX4_key cX4_key 3 (some .int) ∈ TG := tg_in 160 rfl rfl
set_option maxRecDepth 20000 in
theorem ko_X4_isWithin : Cond.code yX4_isWithin cX4_isWithin 3 (some .boolean) ∈ TG := tg_in 163 rfl rfl
set_option maxRecDepth 20000 in
theorem ko_X1_add : Cond.code yX1_add cX1_add 3 (some .int) ∈ TG := tg_in 167 rfl rfl
set_option maxRecDepth 20000 in
theorem ko_X4_vault : Cond.code yX4_vault cX4_vault 2 (some .int) ∈ TG := tg_in 171 rfl rfl
set_option maxRecDepth 20000 in
theorem ko_X3_add : Cond.code yX3_add cX3_add 2 (some .int) ∈ TG := tg_in 176 rfl rfl
set_option maxRecDepth 20000 in
theorem ko_X4_hang : Cond.code yX4_hang cX4_hang 5 (some .int) ∈ TG := tg_in 180 rfl rfl
set_option maxRecDepth 20000 in
theorem ko_X3_hasHand : Cond.code yX3_hasHand cX3_hasHand 3 (some .boolean) ∈ TG := tg_in 184 rfl rfl
set_option maxRecDepth 20000 in
theorem ko_X3_has : Cond.code yX3_has cX3_has 2 (some .boolean) ∈ TG := tg_in 188 rfl rfl
set_option maxRecDepth 20000 in
theorem ko_X1_has : Cond.code yX1_has cX1_has 2 (some .boolean) ∈ TG := tg_in 192 rfl rfl
set_option maxRecDepth 20000 in
theorem ko_X3_keyAt : Cond.code yX3_keyAt cX3_keyAt 3 (some .int) ∈ TG := tg_in 196 rfl rfl
set_option maxRecDepth 20000 in
theorem ko_X3_setKeyAt : Cond.code yX3_setKeyAt cX3_setKeyAt 4 none ∈ TG := tg_in 200 rfl rfl
set_option maxRecDepth 20000 in
theorem ko_X4_link : Cond.code yX4_link cX4_link 4 (some .int) ∈ TG := tg_in 204 rfl rfl
set_option maxRecDepth 20000 in
theorem ko_X4_put : Cond.code yX4_put cX4_put 4 (some .int) ∈ TG := tg_in 209 rfl rfl
set_option maxRecDepth 20000 in
theorem ko_X4_isAmount : Cond.code yX4_isAmount cX4_isAmount 1 (some .boolean) ∈ TG := tg_in 212 rfl rfl
set_option maxRecDepth 20000 in
theorem ko_X4_turnBoth : Cond.code yX4_turnBoth cX4_turnBoth 3 (some .int) ∈ TG := tg_in 216 rfl rfl
set_option maxRecDepth 20000 in
theorem ko_X4_turnHand : Cond.code yX4_turnHand cX4_turnHand 4 (some .int) ∈ TG := tg_in 220 rfl rfl
set_option maxRecDepth 20000 in
theorem ko_X0_write : Cond.code yX0_write cX0_write 2 none ∈ TG := tg_in 224 rfl rfl
set_option maxRecDepth 20000 in
theorem ko_X4_turnKey : Cond.code yX4_turnKey cX4_turnKey 2 (some .int) ∈ TG := tg_in 228 rfl rfl
set_option maxRecDepth 20000 in
theorem ko_X4_raiseAlarm : Cond.code yX4_raiseAlarm cX4_raiseAlarm 2 (some .int) ∈ TG := tg_in 232 rfl rfl
set_option maxRecDepth 20000 in
theorem ko_X4_letGo : Cond.code yX4_letGo cX4_letGo 5 (some .int) ∈ TG := tg_in 236 rfl rfl
set_option maxRecDepth 20000 in
theorem ko_X3_isTooMuch : Cond.code yX3_isTooMuch cX3_isTooMuch 3 (some .boolean) ∈ TG := tg_in 240 rfl rfl
set_option maxRecDepth 20000 in
theorem ko_X4_take : Cond.code yX4_take cX4_take 4 (some .int) ∈ TG := tg_in 244 rfl rfl
set_option maxRecDepth 20000 in
theorem ko_X4_move : Cond.code yX4_move cX4_move 5 (some .int) ∈ TG := tg_in 248 rfl rfl
set_option maxRecDepth 20000 in
theorem ko_X4_split : Cond.code yX4_split cX4_split 4 (some .int) ∈ TG := tg_in 252 rfl rfl
set_option maxRecDepth 20000 in
theorem ko_X4_swap : Cond.code yX4_swap cX4_swap 5 (some .int) ∈ TG := tg_in 256 rfl rfl
set_option maxRecDepth 20000 in
theorem ko_X4_polish : Cond.code yX4_polish cX4_polish 3 (some .int) ∈ TG := tg_in 260 rfl rfl
set_option maxRecDepth 20000 in
theorem ko_X4_rounds : Cond.code yX4_rounds cX4_rounds 6 (some .int) ∈ TG := tg_in 264 rfl rfl
set_option maxRecDepth 20000 in
theorem ko_X4_hasRow : Cond.code yX4_hasRow cX4_hasRow 3 (some .boolean) ∈ TG := tg_in 268 rfl rfl
set_option maxRecDepth 20000 in
theorem ko_X4_sweep : Cond.code yX4_sweep cX4_sweep 8 (some .int) ∈ TG := tg_in 272 rfl rfl
set_option maxRecDepth 20000 in
theorem ko_J9_min : Cond.code yJ9_min_7cf53 cJ9_min_7cf53 2 (some .int) ∈ TG := tg_in 275 rfl rfl
set_option maxRecDepth 20000 in
theorem ko_X4_walk : Cond.code yX4_walk cX4_walk 8 (some .int) ∈ TG := tg_in 279 rfl rfl
set_option maxRecDepth 20000 in
theorem ko_X4_order : Cond.code yX4_order cX4_order 5 (some .int) ∈ TG := tg_in 283 rfl rfl
set_option maxRecDepth 20000 in
theorem ko_X4_isOrder : Cond.code yX4_isOrder cX4_isOrder 5 (some .boolean) ∈ TG := tg_in 287 rfl rfl
set_option maxRecDepth 20000 in
theorem ko_X2_add : Cond.code yX2_add cX2_add 5 (some .int) ∈ TG := tg_in 291 rfl rfl
set_option maxRecDepth 20000 in
theorem ko_X4_run : Cond.code yX4_run cX4_run 3 (some .int) ∈ TG := tg_in 295 rfl rfl
set_option maxRecDepth 20000 in
theorem ko_X4_doOrder : Cond.code yX4_doOrder cX4_doOrder 3 (some .boolean) ∈ TG := tg_in 299 rfl rfl
set_option maxRecDepth 20000 in
theorem ko_X4_sum : Cond.code yX4_sum cX4_sum 2 (some .int) ∈ TG := tg_in 307 rfl rfl
set_option maxRecDepth 20000 in
theorem ko_X4_hung : Cond.code yX4_hung cX4_hung 3 (some .int) ∈ TG := tg_in 311 rfl rfl
set_option maxRecDepth 20000 in
theorem ko_X4_wear : Cond.code yX4_wear cX4_wear 2 (some .int) ∈ TG := tg_in 315 rfl rfl
set_option maxRecDepth 20000 in
theorem ko_X4_entries : Cond.code yX4_entries cX4_entries 1 (some .int) ∈ TG := tg_in 319 rfl rfl
set_option maxRecDepth 20000 in
theorem ko_X4_entry : Cond.code yX4_entry cX4_entry 2 (some .int) ∈ TG := tg_in 323 rfl rfl
set_option maxRecDepth 20000 in
theorem ko_X0_read : Cond.code yX0_read cX0_read 2 (some .int) ∈ TG := tg_in 327 rfl rfl
set_option maxRecDepth 20000 in
theorem ko_X4_clear : Cond.code yX4_clear cX4_clear 2 (some .int) ∈ TG := tg_in 331 rfl rfl
set_option maxRecDepth 20000 in
theorem ko_X4_alarms : Cond.code yX4_alarms cX4_alarms 1 (some .int) ∈ TG := tg_in 335 rfl rfl
set_option maxRecDepth 20000 in
theorem ko_X4_orders : Cond.code yX4_orders cX4_orders 1 (some .int) ∈ TG := tg_in 339 rfl rfl
set_option maxRecDepth 20000 in
theorem ko_X5_init : Cond.code yX5_init cX5_init 1 none ∈ TG := tg_in 344 rfl rfl
set_option maxRecDepth 20000 in
theorem ko_X5_key : Cond.code yX5_key cX5_key 3 (some .int) ∈ TG := tg_in 410 rfl rfl
set_option maxRecDepth 20000 in
theorem ko_X5_vault : Cond.code yX5_vault cX5_vault 2 (some .int) ∈ TG := tg_in 414 rfl rfl
set_option maxRecDepth 20000 in
theorem ko_X5_isAmount : Cond.code yX5_isAmount cX5_isAmount 1 (some .boolean) ∈ TG := tg_in 417 rfl rfl
set_option maxRecDepth 20000 in
theorem ko_X5_hang : Cond.code yX5_hang cX5_hang 5 (some .int) ∈ TG := tg_in 422 rfl rfl
set_option maxRecDepth 20000 in
theorem ko_X5_isVault : Cond.code yX5_isVault cX5_isVault 2 (some .boolean) ∈ TG := tg_in 426 rfl rfl
set_option maxRecDepth 20000 in
theorem ko_X5_isHand : Cond.code yX5_isHand cX5_isHand 1 (some .boolean) ∈ TG := tg_in 429 rfl rfl
set_option maxRecDepth 20000 in
theorem ko_X5_isKey : Cond.code yX5_isKey cX5_isKey 2 (some .boolean) ∈ TG := tg_in 433 rfl rfl
set_option maxRecDepth 20000 in
theorem ko_X5_link : Cond.code yX5_link cX5_link 4 (some .int) ∈ TG := tg_in 437 rfl rfl
set_option maxRecDepth 20000 in
theorem ko_X5_put : Cond.code yX5_put cX5_put 4 (some .int) ∈ TG := tg_in 441 rfl rfl
set_option maxRecDepth 20000 in
theorem ko_X5_turnBoth : Cond.code yX5_turnBoth cX5_turnBoth 3 (some .int) ∈ TG := tg_in 445 rfl rfl
set_option maxRecDepth 20000 in
theorem ko_X5_turnHand : Cond.code yX5_turnHand cX5_turnHand 4 (some .int) ∈ TG := tg_in 449 rfl rfl
set_option maxRecDepth 20000 in
theorem ko_X5_enter : Cond.code yX5_enter cX5_enter 2 none ∈ TG := tg_in 453 rfl rfl
set_option maxRecDepth 20000 in
theorem ko_X5_turnKey : Cond.code yX5_turnKey cX5_turnKey 2 (some .int) ∈ TG := tg_in 457 rfl rfl
set_option maxRecDepth 20000 in
theorem ko_X5_alarm : Cond.code yX5_alarm cX5_alarm 1 none ∈ TG := tg_in 461 rfl rfl
set_option maxRecDepth 20000 in
theorem ko_X5_dropAll : Cond.code yX5_dropAll cX5_dropAll 2 none ∈ TG := tg_in 465 rfl rfl
set_option maxRecDepth 20000 in
theorem ko_X5_dropTop : Cond.code yX5_dropTop cX5_dropTop 3 none ∈ TG := tg_in 469 rfl rfl
set_option maxRecDepth 20000 in
theorem ko_X5_answered : Cond.code yX5_answered cX5_answered 2 (some .int) ∈ TG := tg_in 473 rfl rfl
set_option maxRecDepth 20000 in
theorem ko_X5_ended : Cond.code yX5_ended cX5_ended 2 (some .int) ∈ TG := tg_in 477 rfl rfl
set_option maxRecDepth 20000 in
theorem ko_X5_take : Cond.code yX5_take cX5_take 4 (some .int) ∈ TG := tg_in 481 rfl rfl
set_option maxRecDepth 20000 in
theorem ko_X5_alarmed : Cond.code yX5_alarmed cX5_alarmed 2 (some .int) ∈ TG := tg_in 485 rfl rfl
set_option maxRecDepth 20000 in
theorem ko_X5_move : Cond.code yX5_move cX5_move 5 (some .int) ∈ TG := tg_in 489 rfl rfl
set_option maxRecDepth 20000 in
theorem ko_X5_split : Cond.code yX5_split cX5_split 4 (some .int) ∈ TG := tg_in 493 rfl rfl
set_option maxRecDepth 20000 in
theorem ko_X5_swap : Cond.code yX5_swap cX5_swap 4 (some .int) ∈ TG := tg_in 497 rfl rfl
set_option maxRecDepth 20000 in
theorem ko_X5_polish : Cond.code yX5_polish cX5_polish 4 (some .int) ∈ TG := tg_in 501 rfl rfl
set_option maxRecDepth 20000 in
theorem ko_X5_rounds : Cond.code yX5_rounds cX5_rounds 7 (some .int) ∈ TG := tg_in 505 rfl rfl
set_option maxRecDepth 20000 in
theorem ko_X5_areThere : Cond.code yX5_areThere cX5_areThere 3 (some .boolean) ∈ TG := tg_in 509 rfl rfl
set_option maxRecDepth 20000 in
theorem ko_X5_sweep : Cond.code yX5_sweep cX5_sweep 8 (some .int) ∈ TG := tg_in 513 rfl rfl
set_option maxRecDepth 20000 in
theorem ko_X5_walk : Cond.code yX5_walk cX5_walk 8 (some .int) ∈ TG := tg_in 517 rfl rfl
set_option maxRecDepth 20000 in
theorem ko_X5_order : Cond.code yX5_order cX5_order 5 (some .int) ∈ TG := tg_in 521 rfl rfl
set_option maxRecDepth 20000 in
theorem ko_X5_isOrder : Cond.code yX5_isOrder cX5_isOrder 5 (some .boolean) ∈ TG := tg_in 525 rfl rfl
set_option maxRecDepth 20000 in
theorem ko_X5_run : Cond.code yX5_run cX5_run 5 (some .int) ∈ TG := tg_in 529 rfl rfl
set_option maxRecDepth 20000 in
theorem ko_X5_carriedOut : Cond.code yX5_carriedOut cX5_carriedOut 2 (some .int) ∈ TG := tg_in 533 rfl rfl
set_option maxRecDepth 20000 in
theorem ko_X5_sum : Cond.code yX5_sum cX5_sum 2 (some .int) ∈ TG := tg_in 541 rfl rfl
set_option maxRecDepth 20000 in
theorem ko_X5_hung : Cond.code yX5_hung cX5_hung 3 (some .int) ∈ TG := tg_in 545 rfl rfl
set_option maxRecDepth 20000 in
theorem ko_X5_wear : Cond.code yX5_wear cX5_wear 2 (some .int) ∈ TG := tg_in 549 rfl rfl
set_option maxRecDepth 20000 in
theorem ko_X5_entries : Cond.code yX5_entries cX5_entries 1 (some .int) ∈ TG := tg_in 553 rfl rfl
set_option maxRecDepth 20000 in
theorem ko_X5_entry : Cond.code yX5_entry cX5_entry 2 (some .int) ∈ TG := tg_in 557 rfl rfl
set_option maxRecDepth 20000 in
theorem ko_X5_clear : Cond.code yX5_clear cX5_clear 2 (some .int) ∈ TG := tg_in 561 rfl rfl
set_option maxRecDepth 20000 in
theorem ko_X5_alarms : Cond.code yX5_alarms cX5_alarms 1 (some .int) ∈ TG := tg_in 565 rfl rfl
set_option maxRecDepth 20000 in
theorem ko_X5_orders : Cond.code yX5_orders cX5_orders 1 (some .int) ∈ TG := tg_in 569 rfl rfl
set_option maxRecDepth 20000 in
theorem kx_L_9 : Cond.methodLink RL 9 yX4_init ∈ TG := tg_in 33 rfl rfl
set_option maxRecDepth 20000 in
theorem kx_X4_1 : Cond.methodLink RX4 1 objectInit ∈ TG := tg_in 36 rfl rfl
set_option maxRecDepth 20000 in
theorem kx_X1_3 : Cond.methodLink RX1 3 objectInit ∈ TG := tg_in 44 rfl rfl
set_option maxRecDepth 20000 in
theorem kx_X3_3 : Cond.methodLink RX3 3 objectInit ∈ TG := tg_in 71 rfl rfl
set_option maxRecDepth 20000 in
theorem kx_X0_3 : Cond.methodLink RX0 3 objectInit ∈ TG := tg_in 99 rfl rfl
set_option maxRecDepth 20000 in
theorem kx_X2_3 : Cond.methodLink RX2 3 objectInit ∈ TG := tg_in 113 rfl rfl
set_option maxRecDepth 20000 in
theorem kv_L_13 : Lk_v RL 13 RX4 yX4_key cX4_key 3 (some .int) 2 := ⟨tg_in 157 rfl rfl, tg_in 158 rfl rfl, tg_in 159 rfl rfl, ki_X4, ko_X4_key, rfl, by decide +kernel, by decide +kernel, by decide +kernel⟩
set_option maxRecDepth 20000 in
theorem kv_X4_48 : Lk_s RX4 48 yX4_isWithin cX4_isWithin 3 (some .boolean) 3 := ⟨tg_in 161 rfl rfl, tg_in 162 rfl rfl, ki_X4, ko_X4_isWithin, rfl, by decide +kernel, by decide +kernel, by decide +kernel⟩
set_option maxRecDepth 20000 in
theorem kv_X4_52 : Lk_v RX4 52 RX1 yX1_add cX1_add 3 (some .int) 2 := ⟨tg_in 164 rfl rfl, tg_in 165 rfl rfl, tg_in 166 rfl rfl, ki_X1, ko_X1_add, rfl, by decide +kernel, by decide +kernel, by decide +kernel⟩
set_option maxRecDepth 20000 in
theorem kv_L_18 : Lk_v RL 18 RX4 yX4_vault cX4_vault 2 (some .int) 1 := ⟨tg_in 168 rfl rfl, tg_in 169 rfl rfl, tg_in 170 rfl rfl, ki_X4, ko_X4_vault, rfl, by decide +kernel, by decide +kernel, by decide +kernel⟩
set_option maxRecDepth 20000 in
theorem kv_X4_57 : Lk_v RX4 57 RX3 yX3_add cX3_add 2 (some .int) 1 := ⟨tg_in 173 rfl rfl, tg_in 174 rfl rfl, tg_in 175 rfl rfl, ki_X3, ko_X3_add, rfl, by decide +kernel, by decide +kernel, by decide +kernel⟩
set_option maxRecDepth 20000 in
theorem kv_L_23 : Lk_v RL 23 RX4 yX4_hang cX4_hang 5 (some .int) 3 := ⟨tg_in 177 rfl rfl, tg_in 178 rfl rfl, tg_in 179 rfl rfl, ki_X4, ko_X4_hang, rfl, by decide +kernel, by decide +kernel, by decide +kernel⟩
set_option maxRecDepth 20000 in
theorem kv_X4_60 : Lk_v RX4 60 RX3 yX3_hasHand cX3_hasHand 3 (some .boolean) 2 := ⟨tg_in 181 rfl rfl, tg_in 182 rfl rfl, tg_in 183 rfl rfl, ki_X3, ko_X3_hasHand, rfl, by decide +kernel, by decide +kernel, by decide +kernel⟩
set_option maxRecDepth 20000 in
theorem kv_X3_31 : Lk_v RX3 31 RX3 yX3_has cX3_has 2 (some .boolean) 1 := ⟨tg_in 185 rfl rfl, tg_in 186 rfl rfl, tg_in 187 rfl rfl, ki_X3, ko_X3_has, rfl, by decide +kernel, by decide +kernel, by decide +kernel⟩
set_option maxRecDepth 20000 in
theorem kv_X4_64 : Lk_v RX4 64 RX1 yX1_has cX1_has 2 (some .boolean) 1 := ⟨tg_in 189 rfl rfl, tg_in 190 rfl rfl, tg_in 191 rfl rfl, ki_X1, ko_X1_has, rfl, by decide +kernel, by decide +kernel, by decide +kernel⟩
set_option maxRecDepth 20000 in
theorem kv_X4_68 : Lk_v RX4 68 RX3 yX3_keyAt cX3_keyAt 3 (some .int) 2 := ⟨tg_in 193 rfl rfl, tg_in 194 rfl rfl, tg_in 195 rfl rfl, ki_X3, ko_X3_keyAt, rfl, by decide +kernel, by decide +kernel, by decide +kernel⟩
set_option maxRecDepth 20000 in
theorem kv_X4_71 : Lk_v RX4 71 RX3 yX3_setKeyAt cX3_setKeyAt 4 none 3 := ⟨tg_in 197 rfl rfl, tg_in 198 rfl rfl, tg_in 199 rfl rfl, ki_X3, ko_X3_setKeyAt, rfl, by decide +kernel, by decide +kernel, by decide +kernel⟩
set_option maxRecDepth 20000 in
theorem kv_L_28 : Lk_v RL 28 RX4 yX4_link cX4_link 4 (some .int) 2 := ⟨tg_in 201 rfl rfl, tg_in 202 rfl rfl, tg_in 203 rfl rfl, ki_X4, ko_X4_link, rfl, by decide +kernel, by decide +kernel, by decide +kernel⟩
set_option maxRecDepth 20000 in
theorem kv_X4_75 : Lk_v RX4 75 RX3 yX3_has cX3_has 2 (some .boolean) 1 := ⟨tg_in 205 rfl rfl, tg_in 186 rfl rfl, tg_in 187 rfl rfl, ki_X3, ko_X3_has, rfl, by decide +kernel, by decide +kernel, by decide +kernel⟩
set_option maxRecDepth 20000 in
theorem kv_L_33 : Lk_v RL 33 RX4 yX4_put cX4_put 4 (some .int) 2 := ⟨tg_in 206 rfl rfl, tg_in 207 rfl rfl, tg_in 208 rfl rfl, ki_X4, ko_X4_put, rfl, by decide +kernel, by decide +kernel, by decide +kernel⟩
set_option maxRecDepth 20000 in
theorem kv_X4_79 : Lk_s RX4 79 yX4_isAmount cX4_isAmount 1 (some .boolean) 1 := ⟨tg_in 210 rfl rfl, tg_in 211 rfl rfl, ki_X4, ko_X4_isAmount, rfl, by decide +kernel, by decide +kernel, by decide +kernel⟩
set_option maxRecDepth 20000 in
theorem kv_X4_82 : Lk_v RX4 82 RX4 yX4_turnBoth cX4_turnBoth 3 (some .int) 1 := ⟨tg_in 213 rfl rfl, tg_in 215 rfl rfl, tg_in 0 rfl rfl, ki_X4, ko_X4_turnBoth, rfl, by decide +kernel, by decide +kernel, by decide +kernel⟩
set_option maxRecDepth 20000 in
theorem kv_X4_106 : Lk_v RX4 106 RX4 yX4_turnHand cX4_turnHand 4 (some .int) 2 := ⟨tg_in 217 rfl rfl, tg_in 219 rfl rfl, tg_in 1 rfl rfl, ki_X4, ko_X4_turnHand, rfl, by decide +kernel, by decide +kernel, by decide +kernel⟩
set_option maxRecDepth 20000 in
theorem kv_X4_131 : Lk_v RX4 131 RX0 yX0_write cX0_write 2 none 1 := ⟨tg_in 221 rfl rfl, tg_in 222 rfl rfl, tg_in 223 rfl rfl, ki_X0, ko_X0_write, rfl, by decide +kernel, by decide +kernel, by decide +kernel⟩
set_option maxRecDepth 20000 in
theorem kv_X4_97 : Lk_v RX4 97 RX4 yX4_turnKey cX4_turnKey 2 (some .int) 1 := ⟨tg_in 225 rfl rfl, tg_in 227 rfl rfl, tg_in 2 rfl rfl, ki_X4, ko_X4_turnKey, rfl, by decide +kernel, by decide +kernel, by decide +kernel⟩
set_option maxRecDepth 20000 in
theorem kv_X4_94 : Lk_v RX4 94 RX4 yX4_raiseAlarm cX4_raiseAlarm 2 (some .int) 1 := ⟨tg_in 229 rfl rfl, tg_in 231 rfl rfl, tg_in 3 rfl rfl, ki_X4, ko_X4_raiseAlarm, rfl, by decide +kernel, by decide +kernel, by decide +kernel⟩
set_option maxRecDepth 20000 in
theorem kv_X4_88 : Lk_v RX4 88 RX4 yX4_letGo cX4_letGo 5 (some .int) 2 := ⟨tg_in 233 rfl rfl, tg_in 235 rfl rfl, tg_in 4 rfl rfl, ki_X4, ko_X4_letGo, rfl, by decide +kernel, by decide +kernel, by decide +kernel⟩
set_option maxRecDepth 20000 in
theorem kv_X4_85 : Lk_v RX4 85 RX3 yX3_isTooMuch cX3_isTooMuch 3 (some .boolean) 2 := ⟨tg_in 237 rfl rfl, tg_in 238 rfl rfl, tg_in 239 rfl rfl, ki_X3, ko_X3_isTooMuch, rfl, by decide +kernel, by decide +kernel, by decide +kernel⟩
set_option maxRecDepth 20000 in
theorem kv_L_37 : Lk_v RL 37 RX4 yX4_take cX4_take 4 (some .int) 2 := ⟨tg_in 241 rfl rfl, tg_in 242 rfl rfl, tg_in 243 rfl rfl, ki_X4, ko_X4_take, rfl, by decide +kernel, by decide +kernel, by decide +kernel⟩
set_option maxRecDepth 20000 in
theorem kv_L_41 : Lk_v RL 41 RX4 yX4_move cX4_move 5 (some .int) 3 := ⟨tg_in 245 rfl rfl, tg_in 246 rfl rfl, tg_in 247 rfl rfl, ki_X4, ko_X4_move, rfl, by decide +kernel, by decide +kernel, by decide +kernel⟩
set_option maxRecDepth 20000 in
theorem kv_L_45 : Lk_v RL 45 RX4 yX4_split cX4_split 4 (some .int) 2 := ⟨tg_in 249 rfl rfl, tg_in 250 rfl rfl, tg_in 251 rfl rfl, ki_X4, ko_X4_split, rfl, by decide +kernel, by decide +kernel, by decide +kernel⟩
set_option maxRecDepth 20000 in
theorem kv_L_49 : Lk_v RL 49 RX4 yX4_swap cX4_swap 5 (some .int) 1 := ⟨tg_in 253 rfl rfl, tg_in 254 rfl rfl, tg_in 255 rfl rfl, ki_X4, ko_X4_swap, rfl, by decide +kernel, by decide +kernel, by decide +kernel⟩
set_option maxRecDepth 20000 in
theorem kv_L_53 : Lk_v RL 53 RX4 yX4_polish cX4_polish 3 (some .int) 1 := ⟨tg_in 257 rfl rfl, tg_in 258 rfl rfl, tg_in 259 rfl rfl, ki_X4, ko_X4_polish, rfl, by decide +kernel, by decide +kernel, by decide +kernel⟩
set_option maxRecDepth 20000 in
theorem kv_L_57 : Lk_v RL 57 RX4 yX4_rounds cX4_rounds 6 (some .int) 3 := ⟨tg_in 261 rfl rfl, tg_in 262 rfl rfl, tg_in 263 rfl rfl, ki_X4, ko_X4_rounds, rfl, by decide +kernel, by decide +kernel, by decide +kernel⟩
set_option maxRecDepth 20000 in
theorem kv_X4_103 : Lk_v RX4 103 RX4 yX4_hasRow cX4_hasRow 3 (some .boolean) 2 := ⟨tg_in 265 rfl rfl, tg_in 267 rfl rfl, tg_in 5 rfl rfl, ki_X4, ko_X4_hasRow, rfl, by decide +kernel, by decide +kernel, by decide +kernel⟩
set_option maxRecDepth 20000 in
theorem kv_L_61 : Lk_v RL 61 RX4 yX4_sweep cX4_sweep 8 (some .int) 3 := ⟨tg_in 269 rfl rfl, tg_in 270 rfl rfl, tg_in 271 rfl rfl, ki_X4, ko_X4_sweep, rfl, by decide +kernel, by decide +kernel, by decide +kernel⟩
set_option maxRecDepth 20000 in
theorem kx_X4_109 : Cond.methodLink RX4 109 yJ9_min_7cf53 ∈ TG := tg_in 273 rfl rfl
set_option maxRecDepth 20000 in
theorem kv_L_65 : Lk_v RL 65 RX4 yX4_walk cX4_walk 8 (some .int) 3 := ⟨tg_in 276 rfl rfl, tg_in 277 rfl rfl, tg_in 278 rfl rfl, ki_X4, ko_X4_walk, rfl, by decide +kernel, by decide +kernel, by decide +kernel⟩
set_option maxRecDepth 20000 in
theorem kv_L_69 : Lk_v RL 69 RX4 yX4_order cX4_order 5 (some .int) 4 := ⟨tg_in 280 rfl rfl, tg_in 281 rfl rfl, tg_in 282 rfl rfl, ki_X4, ko_X4_order, rfl, by decide +kernel, by decide +kernel, by decide +kernel⟩
set_option maxRecDepth 20000 in
theorem kv_X4_114 : Lk_v RX4 114 RX4 yX4_isOrder cX4_isOrder 5 (some .boolean) 4 := ⟨tg_in 284 rfl rfl, tg_in 286 rfl rfl, tg_in 6 rfl rfl, ki_X4, ko_X4_isOrder, rfl, by decide +kernel, by decide +kernel, by decide +kernel⟩
set_option maxRecDepth 20000 in
theorem kv_X4_118 : Lk_v RX4 118 RX2 yX2_add cX2_add 5 (some .int) 4 := ⟨tg_in 288 rfl rfl, tg_in 289 rfl rfl, tg_in 290 rfl rfl, ki_X2, ko_X2_add, rfl, by decide +kernel, by decide +kernel, by decide +kernel⟩
set_option maxRecDepth 20000 in
theorem kv_L_74 : Lk_v RL 74 RX4 yX4_run cX4_run 3 (some .int) 0 := ⟨tg_in 292 rfl rfl, tg_in 293 rfl rfl, tg_in 294 rfl rfl, ki_X4, ko_X4_run, rfl, by decide +kernel, by decide +kernel, by decide +kernel⟩
set_option maxRecDepth 20000 in
theorem kv_X4_124 : Lk_v RX4 124 RX4 yX4_doOrder cX4_doOrder 3 (some .boolean) 1 := ⟨tg_in 296 rfl rfl, tg_in 298 rfl rfl, tg_in 7 rfl rfl, ki_X4, ko_X4_doOrder, rfl, by decide +kernel, by decide +kernel, by decide +kernel⟩
set_option maxRecDepth 20000 in
theorem kv_X4_153 : Lk_v RX4 153 RX4 yX4_put cX4_put 4 (some .int) 2 := ⟨tg_in 300 rfl rfl, tg_in 207 rfl rfl, tg_in 208 rfl rfl, ki_X4, ko_X4_put, rfl, by decide +kernel, by decide +kernel, by decide +kernel⟩
set_option maxRecDepth 20000 in
theorem kv_X4_156 : Lk_v RX4 156 RX4 yX4_take cX4_take 4 (some .int) 2 := ⟨tg_in 301 rfl rfl, tg_in 242 rfl rfl, tg_in 243 rfl rfl, ki_X4, ko_X4_take, rfl, by decide +kernel, by decide +kernel, by decide +kernel⟩
set_option maxRecDepth 20000 in
theorem kv_X4_162 : Lk_v RX4 162 RX4 yX4_move cX4_move 5 (some .int) 3 := ⟨tg_in 302 rfl rfl, tg_in 246 rfl rfl, tg_in 247 rfl rfl, ki_X4, ko_X4_move, rfl, by decide +kernel, by decide +kernel, by decide +kernel⟩
set_option maxRecDepth 20000 in
theorem kv_X4_166 : Lk_v RX4 166 RX4 yX4_swap cX4_swap 5 (some .int) 1 := ⟨tg_in 303 rfl rfl, tg_in 254 rfl rfl, tg_in 255 rfl rfl, ki_X4, ko_X4_swap, rfl, by decide +kernel, by decide +kernel, by decide +kernel⟩
set_option maxRecDepth 20000 in
theorem kv_L_79 : Lk_v RL 79 RX4 yX4_sum cX4_sum 2 (some .int) 1 := ⟨tg_in 304 rfl rfl, tg_in 305 rfl rfl, tg_in 306 rfl rfl, ki_X4, ko_X4_sum, rfl, by decide +kernel, by decide +kernel, by decide +kernel⟩
set_option maxRecDepth 20000 in
theorem kv_L_83 : Lk_v RL 83 RX4 yX4_hung cX4_hung 3 (some .int) 2 := ⟨tg_in 308 rfl rfl, tg_in 309 rfl rfl, tg_in 310 rfl rfl, ki_X4, ko_X4_hung, rfl, by decide +kernel, by decide +kernel, by decide +kernel⟩
set_option maxRecDepth 20000 in
theorem kv_L_87 : Lk_v RL 87 RX4 yX4_wear cX4_wear 2 (some .int) 1 := ⟨tg_in 312 rfl rfl, tg_in 313 rfl rfl, tg_in 314 rfl rfl, ki_X4, ko_X4_wear, rfl, by decide +kernel, by decide +kernel, by decide +kernel⟩
set_option maxRecDepth 20000 in
theorem kv_L_91 : Lk_v RL 91 RX4 yX4_entries cX4_entries 1 (some .int) 0 := ⟨tg_in 316 rfl rfl, tg_in 317 rfl rfl, tg_in 318 rfl rfl, ki_X4, ko_X4_entries, rfl, by decide +kernel, by decide +kernel, by decide +kernel⟩
set_option maxRecDepth 20000 in
theorem kv_L_95 : Lk_v RL 95 RX4 yX4_entry cX4_entry 2 (some .int) 1 := ⟨tg_in 320 rfl rfl, tg_in 321 rfl rfl, tg_in 322 rfl rfl, ki_X4, ko_X4_entry, rfl, by decide +kernel, by decide +kernel, by decide +kernel⟩
set_option maxRecDepth 20000 in
theorem kv_X4_128 : Lk_v RX4 128 RX0 yX0_read cX0_read 2 (some .int) 1 := ⟨tg_in 324 rfl rfl, tg_in 325 rfl rfl, tg_in 326 rfl rfl, ki_X0, ko_X0_read, rfl, by decide +kernel, by decide +kernel, by decide +kernel⟩
set_option maxRecDepth 20000 in
theorem kv_L_99 : Lk_v RL 99 RX4 yX4_clear cX4_clear 2 (some .int) 0 := ⟨tg_in 328 rfl rfl, tg_in 329 rfl rfl, tg_in 330 rfl rfl, ki_X4, ko_X4_clear, rfl, by decide +kernel, by decide +kernel, by decide +kernel⟩
set_option maxRecDepth 20000 in
theorem kv_L_103 : Lk_v RL 103 RX4 yX4_alarms cX4_alarms 1 (some .int) 0 := ⟨tg_in 332 rfl rfl, tg_in 333 rfl rfl, tg_in 334 rfl rfl, ki_X4, ko_X4_alarms, rfl, by decide +kernel, by decide +kernel, by decide +kernel⟩
set_option maxRecDepth 20000 in
theorem kv_L_107 : Lk_v RL 107 RX4 yX4_orders cX4_orders 1 (some .int) 0 := ⟨tg_in 336 rfl rfl, tg_in 337 rfl rfl, tg_in 338 rfl rfl, ki_X4, ko_X4_orders, rfl, by decide +kernel, by decide +kernel, by decide +kernel⟩
set_option maxRecDepth 20000 in
theorem kx_L_12 : Cond.methodLink RL 12 yX5_init ∈ TG := tg_in 342 rfl rfl
set_option maxRecDepth 20000 in
theorem kx_X5_1 : Cond.methodLink RX5 1 objectInit ∈ TG := tg_in 345 rfl rfl
set_option maxRecDepth 20000 in
theorem kv_L_17 : Lk_v RL 17 RX5 yX5_key cX5_key 3 (some .int) 2 := ⟨tg_in 407 rfl rfl, tg_in 408 rfl rfl, tg_in 409 rfl rfl, ki_X5, ko_X5_key, rfl, by decide +kernel, by decide +kernel, by decide +kernel⟩
set_option maxRecDepth 20000 in
theorem kv_L_22 : Lk_v RL 22 RX5 yX5_vault cX5_vault 2 (some .int) 1 := ⟨tg_in 411 rfl rfl, tg_in 412 rfl rfl, tg_in 413 rfl rfl, ki_X5, ko_X5_vault, rfl, by decide +kernel, by decide +kernel, by decide +kernel⟩
set_option maxRecDepth 20000 in
theorem kv_X5_63 : Lk_s RX5 63 yX5_isAmount cX5_isAmount 1 (some .boolean) 1 := ⟨tg_in 415 rfl rfl, tg_in 416 rfl rfl, ki_X5, ko_X5_isAmount, rfl, by decide +kernel, by decide +kernel, by decide +kernel⟩
set_option maxRecDepth 20000 in
theorem kv_L_27 : Lk_v RL 27 RX5 yX5_hang cX5_hang 5 (some .int) 3 := ⟨tg_in 419 rfl rfl, tg_in 420 rfl rfl, tg_in 421 rfl rfl, ki_X5, ko_X5_hang, rfl, by decide +kernel, by decide +kernel, by decide +kernel⟩
set_option maxRecDepth 20000 in
theorem kv_X5_67 : Lk_v RX5 67 RX5 yX5_isVault cX5_isVault 2 (some .boolean) 1 := ⟨tg_in 423 rfl rfl, tg_in 425 rfl rfl, tg_in 8 rfl rfl, ki_X5, ko_X5_isVault, rfl, by decide +kernel, by decide +kernel, by decide +kernel⟩
set_option maxRecDepth 20000 in
theorem kv_X5_70 : Lk_s RX5 70 yX5_isHand cX5_isHand 1 (some .boolean) 1 := ⟨tg_in 427 rfl rfl, tg_in 428 rfl rfl, ki_X5, ko_X5_isHand, rfl, by decide +kernel, by decide +kernel, by decide +kernel⟩
set_option maxRecDepth 20000 in
theorem kv_X5_73 : Lk_v RX5 73 RX5 yX5_isKey cX5_isKey 2 (some .boolean) 1 := ⟨tg_in 430 rfl rfl, tg_in 432 rfl rfl, tg_in 9 rfl rfl, ki_X5, ko_X5_isKey, rfl, by decide +kernel, by decide +kernel, by decide +kernel⟩
set_option maxRecDepth 20000 in
theorem kv_L_32 : Lk_v RL 32 RX5 yX5_link cX5_link 4 (some .int) 2 := ⟨tg_in 434 rfl rfl, tg_in 435 rfl rfl, tg_in 436 rfl rfl, ki_X5, ko_X5_link, rfl, by decide +kernel, by decide +kernel, by decide +kernel⟩
set_option maxRecDepth 20000 in
theorem kv_L_36 : Lk_v RL 36 RX5 yX5_put cX5_put 4 (some .int) 2 := ⟨tg_in 438 rfl rfl, tg_in 439 rfl rfl, tg_in 440 rfl rfl, ki_X5, ko_X5_put, rfl, by decide +kernel, by decide +kernel, by decide +kernel⟩
set_option maxRecDepth 20000 in
theorem kv_X5_103 : Lk_v RX5 103 RX5 yX5_turnBoth cX5_turnBoth 3 (some .int) 1 := ⟨tg_in 442 rfl rfl, tg_in 444 rfl rfl, tg_in 10 rfl rfl, ki_X5, ko_X5_turnBoth, rfl, by decide +kernel, by decide +kernel, by decide +kernel⟩
set_option maxRecDepth 20000 in
theorem kv_X5_99 : Lk_v RX5 99 RX5 yX5_turnHand cX5_turnHand 4 (some .int) 2 := ⟨tg_in 446 rfl rfl, tg_in 448 rfl rfl, tg_in 11 rfl rfl, ki_X5, ko_X5_turnHand, rfl, by decide +kernel, by decide +kernel, by decide +kernel⟩
set_option maxRecDepth 20000 in
theorem kv_X5_79 : Lk_v RX5 79 RX5 yX5_enter cX5_enter 2 none 1 := ⟨tg_in 450 rfl rfl, tg_in 452 rfl rfl, tg_in 12 rfl rfl, ki_X5, ko_X5_enter, rfl, by decide +kernel, by decide +kernel, by decide +kernel⟩
set_option maxRecDepth 20000 in
theorem kv_X5_95 : Lk_v RX5 95 RX5 yX5_turnKey cX5_turnKey 2 (some .int) 1 := ⟨tg_in 454 rfl rfl, tg_in 456 rfl rfl, tg_in 13 rfl rfl, ki_X5, ko_X5_turnKey, rfl, by decide +kernel, by decide +kernel, by decide +kernel⟩
set_option maxRecDepth 20000 in
theorem kv_X5_92 : Lk_v RX5 92 RX5 yX5_alarm cX5_alarm 1 none 0 := ⟨tg_in 458 rfl rfl, tg_in 460 rfl rfl, tg_in 14 rfl rfl, ki_X5, ko_X5_alarm, rfl, by decide +kernel, by decide +kernel, by decide +kernel⟩
set_option maxRecDepth 20000 in
theorem kv_X5_86 : Lk_v RX5 86 RX5 yX5_dropAll cX5_dropAll 2 none 1 := ⟨tg_in 462 rfl rfl, tg_in 464 rfl rfl, tg_in 15 rfl rfl, ki_X5, ko_X5_dropAll, rfl, by decide +kernel, by decide +kernel, by decide +kernel⟩
set_option maxRecDepth 20000 in
theorem kv_X5_83 : Lk_v RX5 83 RX5 yX5_dropTop cX5_dropTop 3 none 1 := ⟨tg_in 466 rfl rfl, tg_in 468 rfl rfl, tg_in 16 rfl rfl, ki_X5, ko_X5_dropTop, rfl, by decide +kernel, by decide +kernel, by decide +kernel⟩
set_option maxRecDepth 20000 in
theorem kv_X5_106 : Lk_v RX5 106 RX5 yX5_answered cX5_answered 2 (some .int) 1 := ⟨tg_in 470 rfl rfl, tg_in 472 rfl rfl, tg_in 17 rfl rfl, ki_X5, ko_X5_answered, rfl, by decide +kernel, by decide +kernel, by decide +kernel⟩
set_option maxRecDepth 20000 in
theorem kv_X5_109 : Lk_v RX5 109 RX5 yX5_ended cX5_ended 2 (some .int) 1 := ⟨tg_in 474 rfl rfl, tg_in 476 rfl rfl, tg_in 18 rfl rfl, ki_X5, ko_X5_ended, rfl, by decide +kernel, by decide +kernel, by decide +kernel⟩
set_option maxRecDepth 20000 in
theorem kv_L_40 : Lk_v RL 40 RX5 yX5_take cX5_take 4 (some .int) 2 := ⟨tg_in 478 rfl rfl, tg_in 479 rfl rfl, tg_in 480 rfl rfl, ki_X5, ko_X5_take, rfl, by decide +kernel, by decide +kernel, by decide +kernel⟩
set_option maxRecDepth 20000 in
theorem kv_X5_112 : Lk_v RX5 112 RX5 yX5_alarmed cX5_alarmed 2 (some .int) 1 := ⟨tg_in 482 rfl rfl, tg_in 484 rfl rfl, tg_in 19 rfl rfl, ki_X5, ko_X5_alarmed, rfl, by decide +kernel, by decide +kernel, by decide +kernel⟩
set_option maxRecDepth 20000 in
theorem kv_L_44 : Lk_v RL 44 RX5 yX5_move cX5_move 5 (some .int) 3 := ⟨tg_in 486 rfl rfl, tg_in 487 rfl rfl, tg_in 488 rfl rfl, ki_X5, ko_X5_move, rfl, by decide +kernel, by decide +kernel, by decide +kernel⟩
set_option maxRecDepth 20000 in
theorem kv_L_48 : Lk_v RL 48 RX5 yX5_split cX5_split 4 (some .int) 2 := ⟨tg_in 490 rfl rfl, tg_in 491 rfl rfl, tg_in 492 rfl rfl, ki_X5, ko_X5_split, rfl, by decide +kernel, by decide +kernel, by decide +kernel⟩
set_option maxRecDepth 20000 in
theorem kv_L_52 : Lk_v RL 52 RX5 yX5_swap cX5_swap 4 (some .int) 1 := ⟨tg_in 494 rfl rfl, tg_in 495 rfl rfl, tg_in 496 rfl rfl, ki_X5, ko_X5_swap, rfl, by decide +kernel, by decide +kernel, by decide +kernel⟩
set_option maxRecDepth 20000 in
theorem kv_L_56 : Lk_v RL 56 RX5 yX5_polish cX5_polish 4 (some .int) 1 := ⟨tg_in 498 rfl rfl, tg_in 499 rfl rfl, tg_in 500 rfl rfl, ki_X5, ko_X5_polish, rfl, by decide +kernel, by decide +kernel, by decide +kernel⟩
set_option maxRecDepth 20000 in
theorem kv_L_60 : Lk_v RL 60 RX5 yX5_rounds cX5_rounds 7 (some .int) 3 := ⟨tg_in 502 rfl rfl, tg_in 503 rfl rfl, tg_in 504 rfl rfl, ki_X5, ko_X5_rounds, rfl, by decide +kernel, by decide +kernel, by decide +kernel⟩
set_option maxRecDepth 20000 in
theorem kv_X5_114 : Lk_v RX5 114 RX5 yX5_areThere cX5_areThere 3 (some .boolean) 2 := ⟨tg_in 506 rfl rfl, tg_in 508 rfl rfl, tg_in 20 rfl rfl, ki_X5, ko_X5_areThere, rfl, by decide +kernel, by decide +kernel, by decide +kernel⟩
set_option maxRecDepth 20000 in
theorem kv_L_64 : Lk_v RL 64 RX5 yX5_sweep cX5_sweep 8 (some .int) 3 := ⟨tg_in 510 rfl rfl, tg_in 511 rfl rfl, tg_in 512 rfl rfl, ki_X5, ko_X5_sweep, rfl, by decide +kernel, by decide +kernel, by decide +kernel⟩
set_option maxRecDepth 20000 in
theorem kv_L_68 : Lk_v RL 68 RX5 yX5_walk cX5_walk 8 (some .int) 3 := ⟨tg_in 514 rfl rfl, tg_in 515 rfl rfl, tg_in 516 rfl rfl, ki_X5, ko_X5_walk, rfl, by decide +kernel, by decide +kernel, by decide +kernel⟩
set_option maxRecDepth 20000 in
theorem kv_L_73 : Lk_v RL 73 RX5 yX5_order cX5_order 5 (some .int) 4 := ⟨tg_in 518 rfl rfl, tg_in 519 rfl rfl, tg_in 520 rfl rfl, ki_X5, ko_X5_order, rfl, by decide +kernel, by decide +kernel, by decide +kernel⟩
set_option maxRecDepth 20000 in
theorem kv_X5_118 : Lk_v RX5 118 RX5 yX5_isOrder cX5_isOrder 5 (some .boolean) 4 := ⟨tg_in 522 rfl rfl, tg_in 524 rfl rfl, tg_in 21 rfl rfl, ki_X5, ko_X5_isOrder, rfl, by decide +kernel, by decide +kernel, by decide +kernel⟩
set_option maxRecDepth 20000 in
theorem kv_L_78 : Lk_v RL 78 RX5 yX5_run cX5_run 5 (some .int) 0 := ⟨tg_in 526 rfl rfl, tg_in 527 rfl rfl, tg_in 528 rfl rfl, ki_X5, ko_X5_run, rfl, by decide +kernel, by decide +kernel, by decide +kernel⟩
set_option maxRecDepth 20000 in
theorem kv_X5_138 : Lk_v RX5 138 RX5 yX5_carriedOut cX5_carriedOut 2 (some .int) 1 := ⟨tg_in 530 rfl rfl, tg_in 532 rfl rfl, tg_in 22 rfl rfl, ki_X5, ko_X5_carriedOut, rfl, by decide +kernel, by decide +kernel, by decide +kernel⟩
set_option maxRecDepth 20000 in
theorem kv_X5_125 : Lk_v RX5 125 RX5 yX5_put cX5_put 4 (some .int) 2 := ⟨tg_in 534 rfl rfl, tg_in 439 rfl rfl, tg_in 440 rfl rfl, ki_X5, ko_X5_put, rfl, by decide +kernel, by decide +kernel, by decide +kernel⟩
set_option maxRecDepth 20000 in
theorem kv_X5_128 : Lk_v RX5 128 RX5 yX5_take cX5_take 4 (some .int) 2 := ⟨tg_in 535 rfl rfl, tg_in 479 rfl rfl, tg_in 480 rfl rfl, ki_X5, ko_X5_take, rfl, by decide +kernel, by decide +kernel, by decide +kernel⟩
set_option maxRecDepth 20000 in
theorem kv_X5_131 : Lk_v RX5 131 RX5 yX5_move cX5_move 5 (some .int) 3 := ⟨tg_in 536 rfl rfl, tg_in 487 rfl rfl, tg_in 488 rfl rfl, ki_X5, ko_X5_move, rfl, by decide +kernel, by decide +kernel, by decide +kernel⟩
set_option maxRecDepth 20000 in
theorem kv_X5_135 : Lk_v RX5 135 RX5 yX5_swap cX5_swap 4 (some .int) 1 := ⟨tg_in 537 rfl rfl, tg_in 495 rfl rfl, tg_in 496 rfl rfl, ki_X5, ko_X5_swap, rfl, by decide +kernel, by decide +kernel, by decide +kernel⟩
set_option maxRecDepth 20000 in
theorem kv_L_82 : Lk_v RL 82 RX5 yX5_sum cX5_sum 2 (some .int) 1 := ⟨tg_in 538 rfl rfl, tg_in 539 rfl rfl, tg_in 540 rfl rfl, ki_X5, ko_X5_sum, rfl, by decide +kernel, by decide +kernel, by decide +kernel⟩
set_option maxRecDepth 20000 in
theorem kv_L_86 : Lk_v RL 86 RX5 yX5_hung cX5_hung 3 (some .int) 2 := ⟨tg_in 542 rfl rfl, tg_in 543 rfl rfl, tg_in 544 rfl rfl, ki_X5, ko_X5_hung, rfl, by decide +kernel, by decide +kernel, by decide +kernel⟩
set_option maxRecDepth 20000 in
theorem kv_L_90 : Lk_v RL 90 RX5 yX5_wear cX5_wear 2 (some .int) 1 := ⟨tg_in 546 rfl rfl, tg_in 547 rfl rfl, tg_in 548 rfl rfl, ki_X5, ko_X5_wear, rfl, by decide +kernel, by decide +kernel, by decide +kernel⟩
set_option maxRecDepth 20000 in
theorem kv_L_94 : Lk_v RL 94 RX5 yX5_entries cX5_entries 1 (some .int) 0 := ⟨tg_in 550 rfl rfl, tg_in 551 rfl rfl, tg_in 552 rfl rfl, ki_X5, ko_X5_entries, rfl, by decide +kernel, by decide +kernel, by decide +kernel⟩
set_option maxRecDepth 20000 in
theorem kv_L_98 : Lk_v RL 98 RX5 yX5_entry cX5_entry 2 (some .int) 1 := ⟨tg_in 554 rfl rfl, tg_in 555 rfl rfl, tg_in 556 rfl rfl, ki_X5, ko_X5_entry, rfl, by decide +kernel, by decide +kernel, by decide +kernel⟩
set_option maxRecDepth 20000 in
theorem kv_L_102 : Lk_v RL 102 RX5 yX5_clear cX5_clear 2 (some .int) 0 := ⟨tg_in 558 rfl rfl, tg_in 559 rfl rfl, tg_in 560 rfl rfl, ki_X5, ko_X5_clear, rfl, by decide +kernel, by decide +kernel, by decide +kernel⟩
set_option maxRecDepth 20000 in
theorem kv_L_106 : Lk_v RL 106 RX5 yX5_alarms cX5_alarms 1 (some .int) 0 := ⟨tg_in 562 rfl rfl, tg_in 563 rfl rfl, tg_in 564 rfl rfl, ki_X5, ko_X5_alarms, rfl, by decide +kernel, by decide +kernel, by decide +kernel⟩
set_option maxRecDepth 20000 in
theorem kv_L_110 : Lk_v RL 110 RX5 yX5_orders cX5_orders 1 (some .int) 0 := ⟨tg_in 566 rfl rfl, tg_in 567 rfl rfl, tg_in 568 rfl rfl, ki_X5, ko_X5_orders, rfl, by decide +kernel, by decide +kernel, by decide +kernel⟩
