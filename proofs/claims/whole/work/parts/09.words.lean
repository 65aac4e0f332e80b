theorem uX0 : ∀ w ∈ u_ws RX0 TX0 4, w ∈ tb := uwsX inX0 (by decide +kernel)
theorem uX1 : ∀ w ∈ u_ws RX1 TX1 3, w ∈ tb := uwsX inX1 (by decide +kernel)
theorem uX2 : ∀ w ∈ u_ws RX2 TX2 14, w ∈ tb := uwsX inX2 (by decide +kernel)
theorem uX3 : ∀ w ∈ u_ws RX3 TX3 12, w ∈ tb := uwsX inX3 (by decide +kernel)
theorem uX4 : ∀ w ∈ u_ws RX4 TX4 14, w ∈ tb := uwsX inX4 (by decide +kernel)
theorem ki_L : Cond.initialized RL ∈ tb := tb_i 41 (by decide +kernel) rfl
theorem ki_X3 : Cond.initialized RX3 ∈ tb := tb_i 42 (by decide +kernel) rfl
theorem ki_X0 : Cond.initialized RX0 ∈ tb := tb_i 43 (by decide +kernel) rfl
theorem ki_X2 : Cond.initialized RX2 ∈ tb := tb_i 44 (by decide +kernel) rfl
theorem ki_X1 : Cond.initialized RX1 ∈ tb := tb_i 45 (by decide +kernel) rfl
theorem ki_J10 : Cond.initialized "java/lang/System" ∈ tb := tb_i 46 (by decide +kernel) rfl
theorem ki_X4 : Cond.initialized RX4 ∈ tb := tb_i 47 (by decide +kernel) rfl
theorem ki_J9 : Cond.initialized "java/lang/Math" ∈ tb := tb_i 48 (by decide +kernel) rfl
theorem ki_J6 : Cond.initialized "java/lang/Integer" ∈ tb := tb_i 49 (by decide +kernel) rfl
theorem kn_X3_init : Cond.instanceMethod yX3_init ∈ tb := tb_i 53 (by decide +kernel) rfl
theorem kc_X3_init : Cond.code yX3_init cX3_init 1 none ∈ tb := tb_i 54 (by decide +kernel) rfl
theorem km_L_9 : Cond.methodLink RL 9 yX3_init ∈ tb := tb_i 52 (by decide +kernel) rfl
theorem kn_X2_init : Cond.instanceMethod yX2_init ∈ tb := tb_i 83 (by decide +kernel) rfl
theorem kc_X2_init : Cond.code yX2_init cX2_init 1 none ∈ tb := tb_i 84 (by decide +kernel) rfl
theorem km_X3_18 : Cond.methodLink RX3 18 yX2_init ∈ tb := tb_i 82 (by decide +kernel) rfl
theorem kn_X2_empty : Cond.instanceMethod yX2_empty ∈ tb := tb_i 87 (by decide +kernel) rfl
theorem ks_X2_empty : Cond.selects RX2 yX2_empty yX2_empty ∈ tb := tb_i 88 (by decide +kernel) rfl
theorem kc_X2_empty : Cond.code yX2_empty cX2_empty 1 none ∈ tb := tb_i 89 (by decide +kernel) rfl
theorem gw_X2_27 : VW RX2 27 RX2 yX2_empty cX2_empty 1 none 0 := VW.mk (tb_i 86 (by decide +kernel) rfl) kn_X2_empty ks_X2_empty ki_X2 kc_X2_empty (by decide +kernel)
theorem kn_X2_addPerson : Cond.instanceMethod yX2_addPerson ∈ tb := tb_i 162 (by decide +kernel) rfl
theorem ks_X2_addPerson : Cond.selects RX2 yX2_addPerson yX2_addPerson ∈ tb := tb_i 163 (by decide +kernel) rfl
theorem kc_X2_addPerson : Cond.code yX2_addPerson cX2_addPerson 3 (some .boolean) ∈ tb := tb_i 164 (by decide +kernel) rfl
theorem gw_X3_52 : VW RX3 52 RX2 yX2_addPerson cX2_addPerson 3 (some .boolean) 2 := VW.mk (tb_i 161 (by decide +kernel) rfl) kn_X2_addPerson ks_X2_addPerson ki_X2 kc_X2_addPerson (by decide +kernel)
theorem kn_X2_addStep : Cond.instanceMethod yX2_addStep ∈ tb := tb_i 166 (by decide +kernel) rfl
theorem ks_X2_addStep : Cond.selects RX2 yX2_addStep yX2_addStep ∈ tb := tb_i 167 (by decide +kernel) rfl
theorem kc_X2_addStep : Cond.code yX2_addStep cX2_addStep 2 (some .boolean) ∈ tb := tb_i 168 (by decide +kernel) rfl
theorem gw_X3_56 : VW RX3 56 RX2 yX2_addStep cX2_addStep 2 (some .boolean) 1 := VW.mk (tb_i 165 (by decide +kernel) rfl) kn_X2_addStep ks_X2_addStep ki_X2 kc_X2_addStep (by decide +kernel)
theorem kn_X2_endTrade : Cond.instanceMethod yX2_endTrade ∈ tb := tb_i 170 (by decide +kernel) rfl
theorem ks_X2_endTrade : Cond.selects RX2 yX2_endTrade yX2_endTrade ∈ tb := tb_i 171 (by decide +kernel) rfl
theorem kc_X2_endTrade : Cond.code yX2_endTrade cX2_endTrade 1 (some .boolean) ∈ tb := tb_i 172 (by decide +kernel) rfl
theorem gw_X3_60 : VW RX3 60 RX2 yX2_endTrade cX2_endTrade 1 (some .boolean) 0 := VW.mk (tb_i 169 (by decide +kernel) rfl) kn_X2_endTrade ks_X2_endTrade ki_X2 kc_X2_endTrade (by decide +kernel)
theorem kn_X1_startFrom : Cond.instanceMethod yX1_startFrom ∈ tb := tb_i 174 (by decide +kernel) rfl
theorem ks_X1_startFrom : Cond.selects RX1 yX1_startFrom yX1_startFrom ∈ tb := tb_i 175 (by decide +kernel) rfl
theorem kc_X1_startFrom : Cond.code yX1_startFrom cX1_startFrom 3 none ∈ tb := tb_i 176 (by decide +kernel) rfl
theorem gw_X3_64 : VW RX3 64 RX1 yX1_startFrom cX1_startFrom 3 none 1 := VW.mk (tb_i 173 (by decide +kernel) rfl) kn_X1_startFrom ks_X1_startFrom ki_X1 kc_X1_startFrom (by decide +kernel)
theorem km_X1_27 : Cond.methodLink RX1 27 arraycopyName ∈ tb := tb_i 177 (by decide +kernel) rfl
theorem kn_X3_write : Cond.instanceMethod yX3_write ∈ tb := tb_i 218 (by decide +kernel) rfl
theorem ks_X3_write : Cond.selects RX3 yX3_write yX3_write ∈ tb := tb_i 219 (by decide +kernel) rfl
theorem kc_X3_write : Cond.code yX3_write cX3_write 5 (some .int) ∈ tb := tb_i 220 (by decide +kernel) rfl
theorem gw_L_15 : VW RL 15 RX3 yX3_write cX3_write 5 (some .int) 2 := VW.mk (tb_i 217 (by decide +kernel) rfl) kn_X3_write ks_X3_write ki_X3 kc_X3_write (by decide +kernel)
theorem kn_X0_append : Cond.instanceMethod yX0_append ∈ tb := tb_i 222 (by decide +kernel) rfl
theorem ks_X0_append : Cond.selects RX0 yX0_append yX0_append ∈ tb := tb_i 223 (by decide +kernel) rfl
theorem kc_X0_append : Cond.code yX0_append cX0_append 2 none ∈ tb := tb_i 224 (by decide +kernel) rfl
theorem gw_X3_72 : VW RX3 72 RX0 yX0_append cX0_append 2 none 1 := VW.mk (tb_i 221 (by decide +kernel) rfl) kn_X0_append ks_X0_append ki_X0 kc_X0_append (by decide +kernel)
theorem kn_X3_wipe : Cond.instanceMethod yX3_wipe ∈ tb := tb_i 226 (by decide +kernel) rfl
theorem ks_X3_wipe : Cond.selects RX3 yX3_wipe yX3_wipe ∈ tb := tb_i 227 (by decide +kernel) rfl
theorem kc_X3_wipe : Cond.code yX3_wipe cX3_wipe 2 (some .int) ∈ tb := tb_i 228 (by decide +kernel) rfl
theorem gw_L_20 : VW RL 20 RX3 yX3_wipe cX3_wipe 2 (some .int) 0 := VW.mk (tb_i 225 (by decide +kernel) rfl) kn_X3_wipe ks_X3_wipe ki_X3 kc_X3_wipe (by decide +kernel)
theorem kn_X3_fault : Cond.instanceMethod yX3_fault ∈ tb := tb_i 230 (by decide +kernel) rfl
theorem ks_X3_fault : Cond.selects RX3 yX3_fault yX3_fault ∈ tb := tb_i 231 (by decide +kernel) rfl
theorem kc_X3_fault : Cond.code yX3_fault cX3_fault 1 (some .int) ∈ tb := tb_i 232 (by decide +kernel) rfl
theorem gw_L_25 : VW RL 25 RX3 yX3_fault cX3_fault 1 (some .int) 0 := VW.mk (tb_i 229 (by decide +kernel) rfl) kn_X3_fault ks_X3_fault ki_X3 kc_X3_fault (by decide +kernel)
theorem kn_X0_readInto : Cond.instanceMethod yX0_readInto ∈ tb := tb_i 234 (by decide +kernel) rfl
theorem ks_X0_readInto : Cond.selects RX0 yX0_readInto yX0_readInto ∈ tb := tb_i 235 (by decide +kernel) rfl
theorem kc_X0_readInto : Cond.code yX0_readInto cX0_readInto 4 (some .int) ∈ tb := tb_i 236 (by decide +kernel) rfl
theorem gw_X3_76 : VW RX3 76 RX0 yX0_readInto cX0_readInto 4 (some .int) 1 := VW.mk (tb_i 233 (by decide +kernel) rfl) kn_X0_readInto ks_X0_readInto ki_X0 kc_X0_readInto (by decide +kernel)
theorem gw_X0_23 : VW RX0 23 RX2 yX2_empty cX2_empty 1 none 0 := VW.mk (tb_i 237 (by decide +kernel) rfl) kn_X2_empty ks_X2_empty ki_X2 kc_X2_empty (by decide +kernel)
theorem kn_X0_readItem : Cond.instanceMethod yX0_readItem ∈ tb := tb_i 240 (by decide +kernel) rfl
theorem ks_X0_readItem : Cond.selects RX0 yX0_readItem yX0_readItem ∈ tb := tb_i 0 (by decide +kernel) rfl
theorem kc_X0_readItem : Cond.code yX0_readItem cX0_readItem 3 (some .boolean) ∈ tb := tb_i 241 (by decide +kernel) rfl
theorem gw_X0_31 : VW RX0 31 RX0 yX0_readItem cX0_readItem 3 (some .boolean) 1 := VW.mk (tb_i 238 (by decide +kernel) rfl) kn_X0_readItem ks_X0_readItem ki_X0 kc_X0_readItem (by decide +kernel)
theorem kn_X0_next : Cond.instanceMethod yX0_next ∈ tb := tb_i 244 (by decide +kernel) rfl
theorem ks_X0_next : Cond.selects RX0 yX0_next yX0_next ∈ tb := tb_i 1 (by decide +kernel) rfl
theorem kc_X0_next : Cond.code yX0_next cX0_next 1 (some .int) ∈ tb := tb_i 245 (by decide +kernel) rfl
theorem gw_X0_35 : VW RX0 35 RX0 yX0_next cX0_next 1 (some .int) 0 := VW.mk (tb_i 242 (by decide +kernel) rfl) kn_X0_next ks_X0_next ki_X0 kc_X0_next (by decide +kernel)
theorem kn_X0_readNumbers : Cond.instanceMethod yX0_readNumbers ∈ tb := tb_i 248 (by decide +kernel) rfl
theorem ks_X0_readNumbers : Cond.selects RX0 yX0_readNumbers yX0_readNumbers ∈ tb := tb_i 2 (by decide +kernel) rfl
theorem kc_X0_readNumbers : Cond.code yX0_readNumbers cX0_readNumbers 4 (some .boolean) ∈ tb := tb_i 249 (by decide +kernel) rfl
theorem gw_X0_39 : VW RX0 39 RX0 yX0_readNumbers cX0_readNumbers 4 (some .boolean) 1 := VW.mk (tb_i 246 (by decide +kernel) rfl) kn_X0_readNumbers ks_X0_readNumbers ki_X0 kc_X0_readNumbers (by decide +kernel)
theorem kn_X0_readNumber : Cond.instanceMethod yX0_readNumber ∈ tb := tb_i 252 (by decide +kernel) rfl
theorem ks_X0_readNumber : Cond.selects RX0 yX0_readNumber yX0_readNumber ∈ tb := tb_i 3 (by decide +kernel) rfl
theorem kc_X0_readNumber : Cond.code yX0_readNumber cX0_readNumber 3 (some .int) ∈ tb := tb_i 253 (by decide +kernel) rfl
theorem gw_X0_71 : VW RX0 71 RX0 yX0_readNumber cX0_readNumber 3 (some .int) 0 := VW.mk (tb_i 250 (by decide +kernel) rfl) kn_X0_readNumber ks_X0_readNumber ki_X0 kc_X0_readNumber (by decide +kernel)
theorem km_X0_77 : Cond.methodLink RX0 77 Lib.Math.max.name ∈ tb := tb_i 254 (by decide +kernel) rfl
theorem kn_X0_readSign : Cond.instanceMethod yX0_readSign ∈ tb := tb_i 259 (by decide +kernel) rfl
theorem ks_X0_readSign : Cond.selects RX0 yX0_readSign yX0_readSign ∈ tb := tb_i 4 (by decide +kernel) rfl
theorem kc_X0_readSign : Cond.code yX0_readSign cX0_readSign 2 (some .boolean) ∈ tb := tb_i 260 (by decide +kernel) rfl
theorem gw_X0_74 : VW RX0 74 RX0 yX0_readSign cX0_readSign 2 (some .boolean) 1 := VW.mk (tb_i 257 (by decide +kernel) rfl) kn_X0_readSign ks_X0_readSign ki_X0 kc_X0_readSign (by decide +kernel)
theorem gw_X0_43 : VW RX0 43 RX2 yX2_addPerson cX2_addPerson 3 (some .boolean) 2 := VW.mk (tb_i 261 (by decide +kernel) rfl) kn_X2_addPerson ks_X2_addPerson ki_X2 kc_X2_addPerson (by decide +kernel)
theorem kn_X0_readSteps : Cond.instanceMethod yX0_readSteps ∈ tb := tb_i 264 (by decide +kernel) rfl
theorem ks_X0_readSteps : Cond.selects RX0 yX0_readSteps yX0_readSteps ∈ tb := tb_i 5 (by decide +kernel) rfl
theorem kc_X0_readSteps : Cond.code yX0_readSteps cX0_readSteps 3 (some .boolean) ∈ tb := tb_i 265 (by decide +kernel) rfl
theorem gw_X0_47 : VW RX0 47 RX0 yX0_readSteps cX0_readSteps 3 (some .boolean) 1 := VW.mk (tb_i 262 (by decide +kernel) rfl) kn_X0_readSteps ks_X0_readSteps ki_X0 kc_X0_readSteps (by decide +kernel)
theorem gw_X0_83 : VW RX0 83 RX2 yX2_addStep cX2_addStep 2 (some .boolean) 1 := VW.mk (tb_i 266 (by decide +kernel) rfl) kn_X2_addStep ks_X2_addStep ki_X2 kc_X2_addStep (by decide +kernel)
theorem gw_X0_50 : VW RX0 50 RX2 yX2_endTrade cX2_endTrade 1 (some .boolean) 0 := VW.mk (tb_i 267 (by decide +kernel) rfl) kn_X2_endTrade ks_X2_endTrade ki_X2 kc_X2_endTrade (by decide +kernel)
theorem kn_X2_setStepsPerShift : Cond.instanceMethod yX2_setStepsPerShift ∈ tb := tb_i 269 (by decide +kernel) rfl
theorem ks_X2_setStepsPerShift : Cond.selects RX2 yX2_setStepsPerShift yX2_setStepsPerShift ∈ tb := tb_i 270 (by decide +kernel) rfl
theorem kc_X2_setStepsPerShift : Cond.code yX2_setStepsPerShift cX2_setStepsPerShift 2 (some .boolean) ∈ tb := tb_i 271 (by decide +kernel) rfl
theorem gw_X0_54 : VW RX0 54 RX2 yX2_setStepsPerShift cX2_setStepsPerShift 2 (some .boolean) 1 := VW.mk (tb_i 268 (by decide +kernel) rfl) kn_X2_setStepsPerShift ks_X2_setStepsPerShift ki_X2 kc_X2_setStepsPerShift (by decide +kernel)
theorem kn_X2_setFactsTold : Cond.instanceMethod yX2_setFactsTold ∈ tb := tb_i 273 (by decide +kernel) rfl
theorem ks_X2_setFactsTold : Cond.selects RX2 yX2_setFactsTold yX2_setFactsTold ∈ tb := tb_i 274 (by decide +kernel) rfl
theorem kc_X2_setFactsTold : Cond.code yX2_setFactsTold cX2_setFactsTold 2 (some .boolean) ∈ tb := tb_i 275 (by decide +kernel) rfl
theorem gw_X0_57 : VW RX0 57 RX2 yX2_setFactsTold cX2_setFactsTold 2 (some .boolean) 1 := VW.mk (tb_i 272 (by decide +kernel) rfl) kn_X2_setFactsTold ks_X2_setFactsTold ki_X2 kc_X2_setFactsTold (by decide +kernel)
theorem kn_X2_setKnown : Cond.instanceMethod yX2_setKnown ∈ tb := tb_i 277 (by decide +kernel) rfl
theorem ks_X2_setKnown : Cond.selects RX2 yX2_setKnown yX2_setKnown ∈ tb := tb_i 278 (by decide +kernel) rfl
theorem kc_X2_setKnown : Cond.code yX2_setKnown cX2_setKnown 4 (some .boolean) ∈ tb := tb_i 279 (by decide +kernel) rfl
theorem gw_X0_60 : VW RX0 60 RX2 yX2_setKnown cX2_setKnown 4 (some .boolean) 3 := VW.mk (tb_i 276 (by decide +kernel) rfl) kn_X2_setKnown ks_X2_setKnown ki_X2 kc_X2_setKnown (by decide +kernel)
theorem kn_X2_isHalfHere : Cond.instanceMethod yX2_isHalfHere ∈ tb := tb_i 282 (by decide +kernel) rfl
theorem ks_X2_isHalfHere : Cond.selects RX2 yX2_isHalfHere yX2_isHalfHere ∈ tb := tb_i 6 (by decide +kernel) rfl
theorem kc_X2_isHalfHere : Cond.code yX2_isHalfHere cX2_isHalfHere 3 (some .boolean) ∈ tb := tb_i 283 (by decide +kernel) rfl
theorem gw_X2_58 : VW RX2 58 RX2 yX2_isHalfHere cX2_isHalfHere 3 (some .boolean) 2 := VW.mk (tb_i 280 (by decide +kernel) rfl) kn_X2_isHalfHere ks_X2_isHalfHere ki_X2 kc_X2_isHalfHere (by decide +kernel)
theorem kn_X2_addPair : Cond.instanceMethod yX2_addPair ∈ tb := tb_i 288 (by decide +kernel) rfl
theorem ks_X2_addPair : Cond.selects RX2 yX2_addPair yX2_addPair ∈ tb := tb_i 289 (by decide +kernel) rfl
theorem kc_X2_addPair : Cond.code yX2_addPair cX2_addPair 5 (some .boolean) ∈ tb := tb_i 290 (by decide +kernel) rfl
theorem gw_X0_64 : VW RX0 64 RX2 yX2_addPair cX2_addPair 5 (some .boolean) 4 := VW.mk (tb_i 287 (by decide +kernel) rfl) kn_X2_addPair ks_X2_addPair ki_X2 kc_X2_addPair (by decide +kernel)
theorem kn_X2_setPurse : Cond.instanceMethod yX2_setPurse ∈ tb := tb_i 292 (by decide +kernel) rfl
theorem ks_X2_setPurse : Cond.selects RX2 yX2_setPurse yX2_setPurse ∈ tb := tb_i 293 (by decide +kernel) rfl
theorem kc_X2_setPurse : Cond.code yX2_setPurse cX2_setPurse 4 (some .boolean) ∈ tb := tb_i 294 (by decide +kernel) rfl
theorem gw_X0_68 : VW RX0 68 RX2 yX2_setPurse cX2_setPurse 4 (some .boolean) 3 := VW.mk (tb_i 291 (by decide +kernel) rfl) kn_X2_setPurse ks_X2_setPurse ki_X2 kc_X2_setPurse (by decide +kernel)
theorem kn_X3_lay : Cond.instanceMethod yX3_lay ∈ tb := tb_i 296 (by decide +kernel) rfl
theorem ks_X3_lay : Cond.selects RX3 yX3_lay yX3_lay ∈ tb := tb_i 297 (by decide +kernel) rfl
theorem kc_X3_lay : Cond.code yX3_lay cX3_lay 2 (some .int) ∈ tb := tb_i 298 (by decide +kernel) rfl
theorem gw_L_29 : VW RL 29 RX3 yX3_lay cX3_lay 2 (some .int) 0 := VW.mk (tb_i 295 (by decide +kernel) rfl) kn_X3_lay ks_X3_lay ki_X3 kc_X3_lay (by decide +kernel)
theorem kn_X3_half : Cond.instanceMethod yX3_half ∈ tb := tb_i 300 (by decide +kernel) rfl
theorem ks_X3_half : Cond.selects RX3 yX3_half yX3_half ∈ tb := tb_i 301 (by decide +kernel) rfl
theorem kc_X3_half : Cond.code yX3_half cX3_half 4 (some .int) ∈ tb := tb_i 302 (by decide +kernel) rfl
theorem gw_L_33 : VW RL 33 RX3 yX3_half cX3_half 4 (some .int) 3 := VW.mk (tb_i 299 (by decide +kernel) rfl) kn_X3_half ks_X3_half ki_X3 kc_X3_half (by decide +kernel)
theorem kn_X3_isPerson : Cond.instanceMethod yX3_isPerson ∈ tb := tb_i 305 (by decide +kernel) rfl
theorem ks_X3_isPerson : Cond.selects RX3 yX3_isPerson yX3_isPerson ∈ tb := tb_i 7 (by decide +kernel) rfl
theorem kc_X3_isPerson : Cond.code yX3_isPerson cX3_isPerson 2 (some .boolean) ∈ tb := tb_i 306 (by decide +kernel) rfl
theorem gw_X3_89 : VW RX3 89 RX3 yX3_isPerson cX3_isPerson 2 (some .boolean) 1 := VW.mk (tb_i 303 (by decide +kernel) rfl) kn_X3_isPerson ks_X3_isPerson ki_X3 kc_X3_isPerson (by decide +kernel)
theorem kt_X3_isHalf : Cond.static yX3_isHalf ∈ tb := tb_i 285 (by decide +kernel) rfl
theorem kc_X3_isHalf : Cond.code yX3_isHalf cX3_isHalf 1 (some .boolean) ∈ tb := tb_i 286 (by decide +kernel) rfl
theorem gw_X3_92 : SW RX3 92 yX3_isHalf cX3_isHalf 1 (some .boolean) 1 := SW.mk (tb_i 307 (by decide +kernel) rfl) kt_X3_isHalf ki_X3 kc_X3_isHalf (by decide +kernel)
theorem kn_X1_awake : Cond.instanceMethod yX1_awake ∈ tb := tb_i 309 (by decide +kernel) rfl
theorem ks_X1_awake : Cond.selects RX1 yX1_awake yX1_awake ∈ tb := tb_i 310 (by decide +kernel) rfl
theorem kc_X1_awake : Cond.code yX1_awake cX1_awake 1 (some .int) ∈ tb := tb_i 311 (by decide +kernel) rfl
theorem gw_X3_101 : VW RX3 101 RX1 yX1_awake cX1_awake 1 (some .int) 0 := VW.mk (tb_i 308 (by decide +kernel) rfl) kn_X1_awake ks_X1_awake ki_X1 kc_X1_awake (by decide +kernel)
theorem kn_X3_see : Cond.instanceMethod yX3_see ∈ tb := tb_i 313 (by decide +kernel) rfl
theorem ks_X3_see : Cond.selects RX3 yX3_see yX3_see ∈ tb := tb_i 314 (by decide +kernel) rfl
theorem kc_X3_see : Cond.code yX3_see cX3_see 3 (some .int) ∈ tb := tb_i 315 (by decide +kernel) rfl
theorem gw_L_38 : VW RL 38 RX3 yX3_see cX3_see 3 (some .int) 2 := VW.mk (tb_i 312 (by decide +kernel) rfl) kn_X3_see ks_X3_see ki_X3 kc_X3_see (by decide +kernel)
theorem kt_X3_isFact : Cond.static yX3_isFact ∈ tb := tb_i 317 (by decide +kernel) rfl
theorem kc_X3_isFact : Cond.code yX3_isFact cX3_isFact 1 (some .boolean) ∈ tb := tb_i 318 (by decide +kernel) rfl
theorem gw_X3_108 : SW RX3 108 yX3_isFact cX3_isFact 1 (some .boolean) 1 := SW.mk (tb_i 316 (by decide +kernel) rfl) kt_X3_isFact ki_X3 kc_X3_isFact (by decide +kernel)
theorem kn_X1_learn : Cond.instanceMethod yX1_learn ∈ tb := tb_i 320 (by decide +kernel) rfl
theorem ks_X1_learn : Cond.selects RX1 yX1_learn yX1_learn ∈ tb := tb_i 321 (by decide +kernel) rfl
theorem kc_X1_learn : Cond.code yX1_learn cX1_learn 3 none ∈ tb := tb_i 322 (by decide +kernel) rfl
theorem gw_X3_111 : VW RX3 111 RX1 yX1_learn cX1_learn 3 none 2 := VW.mk (tb_i 319 (by decide +kernel) rfl) kn_X1_learn ks_X1_learn ki_X1 kc_X1_learn (by decide +kernel)
theorem gw_X1_33 : VW RX1 33 RX1 yX1_awake cX1_awake 1 (some .int) 0 := VW.mk (tb_i 323 (by decide +kernel) rfl) kn_X1_awake ks_X1_awake ki_X1 kc_X1_awake (by decide +kernel)
theorem kn_X1_awakeKnows : Cond.instanceMethod yX1_awakeKnows ∈ tb := tb_i 325 (by decide +kernel) rfl
theorem ks_X1_awakeKnows : Cond.selects RX1 yX1_awakeKnows yX1_awakeKnows ∈ tb := tb_i 326 (by decide +kernel) rfl
theorem kc_X1_awakeKnows : Cond.code yX1_awakeKnows cX1_awakeKnows 2 (some .int) ∈ tb := tb_i 327 (by decide +kernel) rfl
theorem gw_X3_115 : VW RX3 115 RX1 yX1_awakeKnows cX1_awakeKnows 2 (some .int) 1 := VW.mk (tb_i 324 (by decide +kernel) rfl) kn_X1_awakeKnows ks_X1_awakeKnows ki_X1 kc_X1_awakeKnows (by decide +kernel)
theorem kn_X3_note : Cond.instanceMethod yX3_note ∈ tb := tb_i 329 (by decide +kernel) rfl
theorem ks_X3_note : Cond.selects RX3 yX3_note yX3_note ∈ tb := tb_i 330 (by decide +kernel) rfl
theorem kc_X3_note : Cond.code yX3_note cX3_note 4 (some .int) ∈ tb := tb_i 331 (by decide +kernel) rfl
theorem gw_L_43 : VW RL 43 RX3 yX3_note cX3_note 4 (some .int) 2 := VW.mk (tb_i 328 (by decide +kernel) rfl) kn_X3_note ks_X3_note ki_X3 kc_X3_note (by decide +kernel)
theorem kn_X3_deed : Cond.instanceMethod yX3_deed ∈ tb := tb_i 333 (by decide +kernel) rfl
theorem ks_X3_deed : Cond.selects RX3 yX3_deed yX3_deed ∈ tb := tb_i 334 (by decide +kernel) rfl
theorem kc_X3_deed : Cond.code yX3_deed cX3_deed 3 (some .int) ∈ tb := tb_i 335 (by decide +kernel) rfl
theorem gw_L_47 : VW RL 47 RX3 yX3_deed cX3_deed 3 (some .int) 2 := VW.mk (tb_i 332 (by decide +kernel) rfl) kn_X3_deed ks_X3_deed ki_X3 kc_X3_deed (by decide +kernel)
theorem kt_X3_areFacts : Cond.static yX3_areFacts ∈ tb := tb_i 337 (by decide +kernel) rfl
theorem kc_X3_areFacts : Cond.code yX3_areFacts cX3_areFacts 1 (some .boolean) ∈ tb := tb_i 338 (by decide +kernel) rfl
theorem gw_X3_119 : SW RX3 119 yX3_areFacts cX3_areFacts 1 (some .boolean) 1 := SW.mk (tb_i 336 (by decide +kernel) rfl) kt_X3_areFacts ki_X3 kc_X3_areFacts (by decide +kernel)
theorem kt_X3_holdsAll : Cond.static yX3_holdsAll ∈ tb := tb_i 340 (by decide +kernel) rfl
theorem kc_X3_holdsAll : Cond.code yX3_holdsAll cX3_holdsAll 2 (some .boolean) ∈ tb := tb_i 341 (by decide +kernel) rfl
theorem gw_X3_122 : SW RX3 122 yX3_holdsAll cX3_holdsAll 2 (some .boolean) 2 := SW.mk (tb_i 339 (by decide +kernel) rfl) kt_X3_holdsAll ki_X3 kc_X3_holdsAll (by decide +kernel)
theorem kn_X3_shifts : Cond.instanceMethod yX3_shifts ∈ tb := tb_i 343 (by decide +kernel) rfl
theorem ks_X3_shifts : Cond.selects RX3 yX3_shifts yX3_shifts ∈ tb := tb_i 344 (by decide +kernel) rfl
theorem kc_X3_shifts : Cond.code yX3_shifts cX3_shifts 2 (some .int) ∈ tb := tb_i 345 (by decide +kernel) rfl
theorem gw_L_51 : VW RL 51 RX3 yX3_shifts cX3_shifts 2 (some .int) 1 := VW.mk (tb_i 342 (by decide +kernel) rfl) kn_X3_shifts ks_X3_shifts ki_X3 kc_X3_shifts (by decide +kernel)
theorem kn_X1_endShifts : Cond.instanceMethod yX1_endShifts ∈ tb := tb_i 347 (by decide +kernel) rfl
theorem ks_X1_endShifts : Cond.selects RX1 yX1_endShifts yX1_endShifts ∈ tb := tb_i 348 (by decide +kernel) rfl
theorem kc_X1_endShifts : Cond.code yX1_endShifts cX1_endShifts 5 none ∈ tb := tb_i 349 (by decide +kernel) rfl
theorem gw_X3_128 : VW RX3 128 RX1 yX1_endShifts cX1_endShifts 5 none 2 := VW.mk (tb_i 346 (by decide +kernel) rfl) kn_X1_endShifts ks_X1_endShifts ki_X1 kc_X1_endShifts (by decide +kernel)
theorem kn_X1_tellOneAnother : Cond.instanceMethod yX1_tellOneAnother ∈ tb := tb_i 352 (by decide +kernel) rfl
theorem ks_X1_tellOneAnother : Cond.selects RX1 yX1_tellOneAnother yX1_tellOneAnother ∈ tb := tb_i 8 (by decide +kernel) rfl
theorem kc_X1_tellOneAnother : Cond.code yX1_tellOneAnother cX1_tellOneAnother 5 none ∈ tb := tb_i 353 (by decide +kernel) rfl
theorem gw_X1_51 : VW RX1 51 RX1 yX1_tellOneAnother cX1_tellOneAnother 5 none 2 := VW.mk (tb_i 350 (by decide +kernel) rfl) kn_X1_tellOneAnother ks_X1_tellOneAnother ki_X1 kc_X1_tellOneAnother (by decide +kernel)
theorem kt_X1_lowest : Cond.static yX1_lowest ∈ tb := tb_i 355 (by decide +kernel) rfl
theorem kc_X1_lowest : Cond.code yX1_lowest cX1_lowest 4 (some .int) ∈ tb := tb_i 356 (by decide +kernel) rfl
theorem gw_X1_59 : SW RX1 59 yX1_lowest cX1_lowest 4 (some .int) 2 := SW.mk (tb_i 354 (by decide +kernel) rfl) kt_X1_lowest ki_X1 kc_X1_lowest (by decide +kernel)
theorem kn_X1_readNotes : Cond.instanceMethod yX1_readNotes ∈ tb := tb_i 359 (by decide +kernel) rfl
theorem ks_X1_readNotes : Cond.selects RX1 yX1_readNotes yX1_readNotes ∈ tb := tb_i 9 (by decide +kernel) rfl
theorem kc_X1_readNotes : Cond.code yX1_readNotes cX1_readNotes 2 none ∈ tb := tb_i 360 (by decide +kernel) rfl
theorem gw_X1_55 : VW RX1 55 RX1 yX1_readNotes cX1_readNotes 2 none 1 := VW.mk (tb_i 357 (by decide +kernel) rfl) kn_X1_readNotes ks_X1_readNotes ki_X1 kc_X1_readNotes (by decide +kernel)
theorem kn_X3_done : Cond.instanceMethod yX3_done ∈ tb := tb_i 362 (by decide +kernel) rfl
theorem ks_X3_done : Cond.selects RX3 yX3_done yX3_done ∈ tb := tb_i 363 (by decide +kernel) rfl
theorem kc_X3_done : Cond.code yX3_done cX3_done 3 (some .int) ∈ tb := tb_i 364 (by decide +kernel) rfl
theorem gw_L_56 : VW RL 56 RX3 yX3_done cX3_done 3 (some .int) 2 := VW.mk (tb_i 361 (by decide +kernel) rfl) kn_X3_done ks_X3_done ki_X3 kc_X3_done (by decide +kernel)
theorem kn_X3_isTrade : Cond.instanceMethod yX3_isTrade ∈ tb := tb_i 367 (by decide +kernel) rfl
theorem ks_X3_isTrade : Cond.selects RX3 yX3_isTrade yX3_isTrade ∈ tb := tb_i 10 (by decide +kernel) rfl
theorem kc_X3_isTrade : Cond.code yX3_isTrade cX3_isTrade 2 (some .boolean) ∈ tb := tb_i 368 (by decide +kernel) rfl
theorem gw_X3_132 : VW RX3 132 RX3 yX3_isTrade cX3_isTrade 2 (some .boolean) 1 := VW.mk (tb_i 365 (by decide +kernel) rfl) kn_X3_isTrade ks_X3_isTrade ki_X3 kc_X3_isTrade (by decide +kernel)
theorem kn_X2_shiftsNeeded : Cond.instanceMethod yX2_shiftsNeeded ∈ tb := tb_i 370 (by decide +kernel) rfl
theorem ks_X2_shiftsNeeded : Cond.selects RX2 yX2_shiftsNeeded yX2_shiftsNeeded ∈ tb := tb_i 371 (by decide +kernel) rfl
theorem kc_X2_shiftsNeeded : Cond.code yX2_shiftsNeeded cX2_shiftsNeeded 6 (some .int) ∈ tb := tb_i 372 (by decide +kernel) rfl
theorem gw_X3_135 : VW RX3 135 RX2 yX2_shiftsNeeded cX2_shiftsNeeded 6 (some .int) 3 := VW.mk (tb_i 369 (by decide +kernel) rfl) kn_X2_shiftsNeeded ks_X2_shiftsNeeded ki_X2 kc_X2_shiftsNeeded (by decide +kernel)
theorem kn_X2_stepAfterShift : Cond.instanceMethod yX2_stepAfterShift ∈ tb := tb_i 375 (by decide +kernel) rfl
theorem ks_X2_stepAfterShift : Cond.selects RX2 yX2_stepAfterShift yX2_stepAfterShift ∈ tb := tb_i 11 (by decide +kernel) rfl
theorem kc_X2_stepAfterShift : Cond.code yX2_stepAfterShift cX2_stepAfterShift 7 (some .int) ∈ tb := tb_i 376 (by decide +kernel) rfl
theorem gw_X2_66 : VW RX2 66 RX2 yX2_stepAfterShift cX2_stepAfterShift 7 (some .int) 4 := VW.mk (tb_i 373 (by decide +kernel) rfl) kn_X2_stepAfterShift ks_X2_stepAfterShift ki_X2 kc_X2_stepAfterShift (by decide +kernel)
theorem km_X2_70 : Cond.methodLink RX2 70 Lib.Math.min.name ∈ tb := tb_i 377 (by decide +kernel) rfl
theorem kn_X2_hasSkillFor : Cond.instanceMethod yX2_hasSkillFor ∈ tb := tb_i 382 (by decide +kernel) rfl
theorem ks_X2_hasSkillFor : Cond.selects RX2 yX2_hasSkillFor yX2_hasSkillFor ∈ tb := tb_i 12 (by decide +kernel) rfl
theorem kc_X2_hasSkillFor : Cond.code yX2_hasSkillFor cX2_hasSkillFor 6 (some .boolean) ∈ tb := tb_i 383 (by decide +kernel) rfl
theorem gw_X2_76 : VW RX2 76 RX2 yX2_hasSkillFor cX2_hasSkillFor 6 (some .boolean) 4 := VW.mk (tb_i 380 (by decide +kernel) rfl) kn_X2_hasSkillFor ks_X2_hasSkillFor ki_X2 kc_X2_hasSkillFor (by decide +kernel)
theorem kn_X3_handed : Cond.instanceMethod yX3_handed ∈ tb := tb_i 385 (by decide +kernel) rfl
theorem ks_X3_handed : Cond.selects RX3 yX3_handed yX3_handed ∈ tb := tb_i 386 (by decide +kernel) rfl
theorem kc_X3_handed : Cond.code yX3_handed cX3_handed 3 (some .int) ∈ tb := tb_i 387 (by decide +kernel) rfl
theorem gw_L_60 : VW RL 60 RX3 yX3_handed cX3_handed 3 (some .int) 2 := VW.mk (tb_i 384 (by decide +kernel) rfl) kn_X3_handed ks_X3_handed ki_X3 kc_X3_handed (by decide +kernel)
theorem kn_X2_fewestHandings : Cond.instanceMethod yX2_fewestHandings ∈ tb := tb_i 389 (by decide +kernel) rfl
theorem ks_X2_fewestHandings : Cond.selects RX2 yX2_fewestHandings yX2_fewestHandings ∈ tb := tb_i 390 (by decide +kernel) rfl
theorem kc_X2_fewestHandings : Cond.code yX2_fewestHandings cX2_fewestHandings 9 (some .int) ∈ tb := tb_i 391 (by decide +kernel) rfl
theorem gw_X3_139 : VW RX3 139 RX2 yX2_fewestHandings cX2_fewestHandings 9 (some .int) 2 := VW.mk (tb_i 388 (by decide +kernel) rfl) kn_X2_fewestHandings ks_X2_fewestHandings ki_X2 kc_X2_fewestHandings (by decide +kernel)
theorem kn_X3_best : Cond.instanceMethod yX3_best ∈ tb := tb_i 393 (by decide +kernel) rfl
theorem ks_X3_best : Cond.selects RX3 yX3_best yX3_best ∈ tb := tb_i 394 (by decide +kernel) rfl
theorem kc_X3_best : Cond.code yX3_best cX3_best 6 (some .int) ∈ tb := tb_i 395 (by decide +kernel) rfl
theorem gw_L_64 : VW RL 64 RX3 yX3_best cX3_best 6 (some .int) 1 := VW.mk (tb_i 392 (by decide +kernel) rfl) kn_X3_best ks_X3_best ki_X3 kc_X3_best (by decide +kernel)
theorem kn_X3_knows : Cond.instanceMethod yX3_knows ∈ tb := tb_i 397 (by decide +kernel) rfl
theorem ks_X3_knows : Cond.selects RX3 yX3_knows yX3_knows ∈ tb := tb_i 398 (by decide +kernel) rfl
theorem kc_X3_knows : Cond.code yX3_knows cX3_knows 4 (some .int) ∈ tb := tb_i 399 (by decide +kernel) rfl
theorem gw_L_68 : VW RL 68 RX3 yX3_knows cX3_knows 4 (some .int) 3 := VW.mk (tb_i 396 (by decide +kernel) rfl) kn_X3_knows ks_X3_knows ki_X3 kc_X3_knows (by decide +kernel)
theorem kt_X3_isAhead : Cond.static yX3_isAhead ∈ tb := tb_i 401 (by decide +kernel) rfl
theorem kc_X3_isAhead : Cond.code yX3_isAhead cX3_isAhead 1 (some .boolean) ∈ tb := tb_i 402 (by decide +kernel) rfl
theorem gw_X3_143 : SW RX3 143 yX3_isAhead cX3_isAhead 1 (some .boolean) 1 := SW.mk (tb_i 400 (by decide +kernel) rfl) kt_X3_isAhead ki_X3 kc_X3_isAhead (by decide +kernel)
theorem kn_X1_copyFrom : Cond.instanceMethod yX1_copyFrom ∈ tb := tb_i 404 (by decide +kernel) rfl
theorem ks_X1_copyFrom : Cond.selects RX1 yX1_copyFrom yX1_copyFrom ∈ tb := tb_i 405 (by decide +kernel) rfl
theorem kc_X1_copyFrom : Cond.code yX1_copyFrom cX1_copyFrom 2 none ∈ tb := tb_i 406 (by decide +kernel) rfl
theorem gw_X3_146 : VW RX3 146 RX1 yX1_copyFrom cX1_copyFrom 2 none 1 := VW.mk (tb_i 403 (by decide +kernel) rfl) kn_X1_copyFrom ks_X1_copyFrom ki_X1 kc_X1_copyFrom (by decide +kernel)
theorem kn_X3_could : Cond.instanceMethod yX3_could ∈ tb := tb_i 408 (by decide +kernel) rfl
theorem ks_X3_could : Cond.selects RX3 yX3_could yX3_could ∈ tb := tb_i 409 (by decide +kernel) rfl
theorem kc_X3_could : Cond.code yX3_could cX3_could 3 (some .int) ∈ tb := tb_i 410 (by decide +kernel) rfl
theorem gw_L_72 : VW RL 72 RX3 yX3_could cX3_could 3 (some .int) 2 := VW.mk (tb_i 407 (by decide +kernel) rfl) kn_X3_could ks_X3_could ki_X3 kc_X3_could (by decide +kernel)
theorem kn_X1_ableTo : Cond.instanceMethod yX1_ableTo ∈ tb := tb_i 412 (by decide +kernel) rfl
theorem ks_X1_ableTo : Cond.selects RX1 yX1_ableTo yX1_ableTo ∈ tb := tb_i 413 (by decide +kernel) rfl
theorem kc_X1_ableTo : Cond.code yX1_ableTo cX1_ableTo 5 (some .int) ∈ tb := tb_i 414 (by decide +kernel) rfl
theorem gw_X3_150 : VW RX3 150 RX1 yX1_ableTo cX1_ableTo 5 (some .int) 2 := VW.mk (tb_i 411 (by decide +kernel) rfl) kn_X1_ableTo ks_X1_ableTo ki_X1 kc_X1_ableTo (by decide +kernel)
theorem gw_X1_37 : VW RX1 37 RX1 yX1_awakeKnows cX1_awakeKnows 2 (some .int) 1 := VW.mk (tb_i 415 (by decide +kernel) rfl) kn_X1_awakeKnows ks_X1_awakeKnows ki_X1 kc_X1_awakeKnows (by decide +kernel)
theorem kn_X3_alike : Cond.instanceMethod yX3_alike ∈ tb := tb_i 418 (by decide +kernel) rfl
theorem ks_X3_alike : Cond.selects RX3 yX3_alike yX3_alike ∈ tb := tb_i 419 (by decide +kernel) rfl
theorem kc_X3_alike : Cond.code yX3_alike cX3_alike 3 (some .int) ∈ tb := tb_i 420 (by decide +kernel) rfl
theorem gw_L_76 : VW RL 76 RX3 yX3_alike cX3_alike 3 (some .int) 1 := VW.mk (tb_i 417 (by decide +kernel) rfl) kn_X3_alike ks_X3_alike ki_X3 kc_X3_alike (by decide +kernel)
theorem kn_X3_purse : Cond.instanceMethod yX3_purse ∈ tb := tb_i 422 (by decide +kernel) rfl
theorem ks_X3_purse : Cond.selects RX3 yX3_purse yX3_purse ∈ tb := tb_i 423 (by decide +kernel) rfl
theorem kc_X3_purse : Cond.code yX3_purse cX3_purse 4 (some .int) ∈ tb := tb_i 424 (by decide +kernel) rfl
theorem gw_L_80 : VW RL 80 RX3 yX3_purse cX3_purse 4 (some .int) 3 := VW.mk (tb_i 421 (by decide +kernel) rfl) kn_X3_purse ks_X3_purse ki_X3 kc_X3_purse (by decide +kernel)
theorem kt_X3_isTake : Cond.static yX3_isTake ∈ tb := tb_i 426 (by decide +kernel) rfl
theorem kc_X3_isTake : Cond.code yX3_isTake cX3_isTake 1 (some .boolean) ∈ tb := tb_i 427 (by decide +kernel) rfl
theorem gw_X3_153 : SW RX3 153 yX3_isTake cX3_isTake 1 (some .boolean) 1 := SW.mk (tb_i 425 (by decide +kernel) rfl) kt_X3_isTake ki_X3 kc_X3_isTake (by decide +kernel)
theorem kn_X2_share : Cond.instanceMethod yX2_share ∈ tb := tb_i 429 (by decide +kernel) rfl
theorem ks_X2_share : Cond.selects RX2 yX2_share yX2_share ∈ tb := tb_i 430 (by decide +kernel) rfl
theorem kc_X2_share : Cond.code yX2_share cX2_share 6 (some .int) ∈ tb := tb_i 431 (by decide +kernel) rfl
theorem gw_X3_156 : VW RX3 156 RX2 yX2_share cX2_share 6 (some .int) 3 := VW.mk (tb_i 428 (by decide +kernel) rfl) kn_X2_share ks_X2_share ki_X2 kc_X2_share (by decide +kernel)
theorem kn_X3_rests : Cond.instanceMethod yX3_rests ∈ tb := tb_i 433 (by decide +kernel) rfl
theorem ks_X3_rests : Cond.selects RX3 yX3_rests yX3_rests ∈ tb := tb_i 434 (by decide +kernel) rfl
theorem kc_X3_rests : Cond.code yX3_rests cX3_rests 6 (some .int) ∈ tb := tb_i 435 (by decide +kernel) rfl
theorem gw_L_84 : VW RL 84 RX3 yX3_rests cX3_rests 6 (some .int) 1 := VW.mk (tb_i 432 (by decide +kernel) rfl) kn_X3_rests ks_X3_rests ki_X3 kc_X3_rests (by decide +kernel)
theorem kn_X3_findMostByTakes : Cond.instanceMethod yX3_findMostByTakes ∈ tb := tb_i 438 (by decide +kernel) rfl
theorem ks_X3_findMostByTakes : Cond.selects RX3 yX3_findMostByTakes yX3_findMostByTakes ∈ tb := tb_i 13 (by decide +kernel) rfl
theorem kc_X3_findMostByTakes : Cond.code yX3_findMostByTakes cX3_findMostByTakes 3 none ∈ tb := tb_i 439 (by decide +kernel) rfl
theorem gw_X3_159 : VW RX3 159 RX3 yX3_findMostByTakes cX3_findMostByTakes 3 none 0 := VW.mk (tb_i 436 (by decide +kernel) rfl) kn_X3_findMostByTakes ks_X3_findMostByTakes ki_X3 kc_X3_findMostByTakes (by decide +kernel)
theorem km_X3_201 : Cond.methodLink RX3 201 Lib.Math.max.name ∈ tb := tb_i 440 (by decide +kernel) rfl
theorem kn_X3_camps : Cond.instanceMethod yX3_camps ∈ tb := tb_i 442 (by decide +kernel) rfl
theorem ks_X3_camps : Cond.selects RX3 yX3_camps yX3_camps ∈ tb := tb_i 443 (by decide +kernel) rfl
theorem kc_X3_camps : Cond.code yX3_camps cX3_camps 6 (some .int) ∈ tb := tb_i 444 (by decide +kernel) rfl
theorem gw_L_88 : VW RL 88 RX3 yX3_camps cX3_camps 6 (some .int) 1 := VW.mk (tb_i 441 (by decide +kernel) rfl) kn_X3_camps ks_X3_camps ki_X3 kc_X3_camps (by decide +kernel)
theorem kn_X2_partings : Cond.instanceMethod yX2_partings ∈ tb := tb_i 446 (by decide +kernel) rfl
theorem ks_X2_partings : Cond.selects RX2 yX2_partings yX2_partings ∈ tb := tb_i 447 (by decide +kernel) rfl
theorem kc_X2_partings : Cond.code yX2_partings cX2_partings 4 (some .int) ∈ tb := tb_i 448 (by decide +kernel) rfl
theorem gw_X3_162 : VW RX3 162 RX2 yX2_partings cX2_partings 4 (some .int) 1 := VW.mk (tb_i 445 (by decide +kernel) rfl) kn_X2_partings ks_X2_partings ki_X2 kc_X2_partings (by decide +kernel)
theorem kt_X2_campOf : Cond.static yX2_campOf ∈ tb := tb_i 450 (by decide +kernel) rfl
theorem kc_X2_campOf : Cond.code yX2_campOf cX2_campOf 3 (some .int) ∈ tb := tb_i 451 (by decide +kernel) rfl
theorem gw_X2_80 : SW RX2 80 yX2_campOf cX2_campOf 3 (some .int) 2 := SW.mk (tb_i 449 (by decide +kernel) rfl) kt_X2_campOf ki_X2 kc_X2_campOf (by decide +kernel)
theorem kn_X3_seen : Cond.instanceMethod yX3_seen ∈ tb := tb_i 453 (by decide +kernel) rfl
theorem ks_X3_seen : Cond.selects RX3 yX3_seen yX3_seen ∈ tb := tb_i 454 (by decide +kernel) rfl
theorem kc_X3_seen : Cond.code yX3_seen cX3_seen 3 (some .int) ∈ tb := tb_i 455 (by decide +kernel) rfl
theorem gw_L_92 : VW RL 92 RX3 yX3_seen cX3_seen 3 (some .int) 2 := VW.mk (tb_i 452 (by decide +kernel) rfl) kn_X3_seen ks_X3_seen ki_X3 kc_X3_seen (by decide +kernel)
theorem kn_X3_forget : Cond.instanceMethod yX3_forget ∈ tb := tb_i 457 (by decide +kernel) rfl
theorem ks_X3_forget : Cond.selects RX3 yX3_forget yX3_forget ∈ tb := tb_i 458 (by decide +kernel) rfl
theorem kc_X3_forget : Cond.code yX3_forget cX3_forget 2 (some .int) ∈ tb := tb_i 459 (by decide +kernel) rfl
theorem gw_L_96 : VW RL 96 RX3 yX3_forget cX3_forget 2 (some .int) 0 := VW.mk (tb_i 456 (by decide +kernel) rfl) kn_X3_forget ks_X3_forget ki_X3 kc_X3_forget (by decide +kernel)
theorem kn_X3_fits : Cond.instanceMethod yX3_fits ∈ tb := tb_i 461 (by decide +kernel) rfl
theorem ks_X3_fits : Cond.selects RX3 yX3_fits yX3_fits ∈ tb := tb_i 462 (by decide +kernel) rfl
theorem kc_X3_fits : Cond.code yX3_fits cX3_fits 3 (some .int) ∈ tb := tb_i 463 (by decide +kernel) rfl
theorem gw_L_100 : VW RL 100 RX3 yX3_fits cX3_fits 3 (some .int) 0 := VW.mk (tb_i 460 (by decide +kernel) rfl) kn_X3_fits ks_X3_fits ki_X3 kc_X3_fits (by decide +kernel)
theorem kn_X3_least : Cond.instanceMethod yX3_least ∈ tb := tb_i 465 (by decide +kernel) rfl
theorem ks_X3_least : Cond.selects RX3 yX3_least yX3_least ∈ tb := tb_i 466 (by decide +kernel) rfl
theorem kc_X3_least : Cond.code yX3_least cX3_least 5 (some .int) ∈ tb := tb_i 467 (by decide +kernel) rfl
theorem gw_L_104 : VW RL 104 RX3 yX3_least cX3_least 5 (some .int) 0 := VW.mk (tb_i 464 (by decide +kernel) rfl) kn_X3_least ks_X3_least ki_X3 kc_X3_least (by decide +kernel)
theorem kt_J6_bitCount_0f7a4 : Cond.static yJ6_bitCount_0f7a4 ∈ tb := tb_i 469 (by decide +kernel) rfl
theorem kc_J6_bitCount_0f7a4 : Cond.code yJ6_bitCount_0f7a4 cJ6_bitCount_0f7a4 1 (some .int) ∈ tb := tb_i 470 (by decide +kernel) rfl
theorem km_X3_165 : Cond.methodLink RX3 165 yJ6_bitCount_0f7a4 ∈ tb := tb_i 468 (by decide +kernel) rfl
theorem kn_X3_explainsAllDeeds : Cond.instanceMethod yX3_explainsAllDeeds ∈ tb := tb_i 476 (by decide +kernel) rfl
theorem ks_X3_explainsAllDeeds : Cond.selects RX3 yX3_explainsAllDeeds yX3_explainsAllDeeds ∈ tb := tb_i 14 (by decide +kernel) rfl
theorem kc_X3_explainsAllDeeds : Cond.code yX3_explainsAllDeeds cX3_explainsAllDeeds 3 (some .boolean) ∈ tb := tb_i 477 (by decide +kernel) rfl
theorem gw_X3_170 : VW RX3 170 RX3 yX3_explainsAllDeeds cX3_explainsAllDeeds 3 (some .boolean) 1 := VW.mk (tb_i 474 (by decide +kernel) rfl) kn_X3_explainsAllDeeds ks_X3_explainsAllDeeds ki_X3 kc_X3_explainsAllDeeds (by decide +kernel)
theorem kn_X3_month : Cond.instanceMethod yX3_month ∈ tb := tb_i 479 (by decide +kernel) rfl
theorem ks_X3_month : Cond.selects RX3 yX3_month yX3_month ∈ tb := tb_i 480 (by decide +kernel) rfl
theorem kc_X3_month : Cond.code yX3_month cX3_month 7 (some .int) ∈ tb := tb_i 481 (by decide +kernel) rfl
theorem gw_L_108 : VW RL 108 RX3 yX3_month cX3_month 7 (some .int) 4 := VW.mk (tb_i 478 (by decide +kernel) rfl) kn_X3_month ks_X3_month ki_X3 kc_X3_month (by decide +kernel)
theorem kt_X3_draw : Cond.static yX3_draw ∈ tb := tb_i 483 (by decide +kernel) rfl
theorem kc_X3_draw : Cond.code yX3_draw cX3_draw 4 (some .int) ∈ tb := tb_i 484 (by decide +kernel) rfl
theorem gw_X3_173 : SW RX3 173 yX3_draw cX3_draw 4 (some .int) 2 := SW.mk (tb_i 482 (by decide +kernel) rfl) kt_X3_draw ki_X3 kc_X3_draw (by decide +kernel)
theorem kn_X2_personByDraw : Cond.instanceMethod yX2_personByDraw ∈ tb := tb_i 489 (by decide +kernel) rfl
theorem ks_X2_personByDraw : Cond.selects RX2 yX2_personByDraw yX2_personByDraw ∈ tb := tb_i 490 (by decide +kernel) rfl
theorem kc_X2_personByDraw : Cond.code yX2_personByDraw cX2_personByDraw 2 (some .int) ∈ tb := tb_i 491 (by decide +kernel) rfl
theorem gw_X3_176 : VW RX3 176 RX2 yX2_personByDraw cX2_personByDraw 2 (some .int) 1 := VW.mk (tb_i 488 (by decide +kernel) rfl) kn_X2_personByDraw ks_X2_personByDraw ki_X2 kc_X2_personByDraw (by decide +kernel)
theorem kn_X3_keep : Cond.instanceMethod yX3_keep ∈ tb := tb_i 493 (by decide +kernel) rfl
theorem ks_X3_keep : Cond.selects RX3 yX3_keep yX3_keep ∈ tb := tb_i 494 (by decide +kernel) rfl
theorem kc_X3_keep : Cond.code yX3_keep cX3_keep 1 (some .int) ∈ tb := tb_i 495 (by decide +kernel) rfl
theorem gw_L_113 : VW RL 113 RX3 yX3_keep cX3_keep 1 (some .int) 0 := VW.mk (tb_i 492 (by decide +kernel) rfl) kn_X3_keep ks_X3_keep ki_X3 kc_X3_keep (by decide +kernel)
theorem kn_X3_keptPlace : Cond.instanceMethod yX3_keptPlace ∈ tb := tb_i 498 (by decide +kernel) rfl
theorem ks_X3_keptPlace : Cond.selects RX3 yX3_keptPlace yX3_keptPlace ∈ tb := tb_i 15 (by decide +kernel) rfl
theorem kc_X3_keptPlace : Cond.code yX3_keptPlace cX3_keptPlace 2 (some (.object "HalfAsleep$Standing")) ∈ tb := tb_i 499 (by decide +kernel) rfl
theorem gw_X3_179 : VW RX3 179 RX3 yX3_keptPlace cX3_keptPlace 2 (some (.object "HalfAsleep$Standing")) 1 := VW.mk (tb_i 496 (by decide +kernel) rfl) kn_X3_keptPlace ks_X3_keptPlace ki_X3 kc_X3_keptPlace (by decide +kernel)
theorem kn_X3_back : Cond.instanceMethod yX3_back ∈ tb := tb_i 501 (by decide +kernel) rfl
theorem ks_X3_back : Cond.selects RX3 yX3_back yX3_back ∈ tb := tb_i 502 (by decide +kernel) rfl
theorem kc_X3_back : Cond.code yX3_back cX3_back 1 (some .int) ∈ tb := tb_i 503 (by decide +kernel) rfl
theorem gw_L_117 : VW RL 117 RX3 yX3_back cX3_back 1 (some .int) 0 := VW.mk (tb_i 500 (by decide +kernel) rfl) kn_X3_back ks_X3_back ki_X3 kc_X3_back (by decide +kernel)
theorem kn_X3_count : Cond.instanceMethod yX3_count ∈ tb := tb_i 505 (by decide +kernel) rfl
theorem ks_X3_count : Cond.selects RX3 yX3_count yX3_count ∈ tb := tb_i 506 (by decide +kernel) rfl
theorem kc_X3_count : Cond.code yX3_count cX3_count 2 (some .int) ∈ tb := tb_i 507 (by decide +kernel) rfl
theorem gw_L_121 : VW RL 121 RX3 yX3_count cX3_count 2 (some .int) 1 := VW.mk (tb_i 504 (by decide +kernel) rfl) kn_X3_count ks_X3_count ki_X3 kc_X3_count (by decide +kernel)
theorem kn_X4_init : Cond.instanceMethod yX4_init ∈ tb := tb_i 511 (by decide +kernel) rfl
theorem kc_X4_init : Cond.code yX4_init cX4_init 1 none ∈ tb := tb_i 512 (by decide +kernel) rfl
theorem km_L_12 : Cond.methodLink RL 12 yX4_init ∈ tb := tb_i 510 (by decide +kernel) rfl
theorem kn_X4_write : Cond.instanceMethod yX4_write ∈ tb := tb_i 558 (by decide +kernel) rfl
theorem ks_X4_write : Cond.selects RX4 yX4_write yX4_write ∈ tb := tb_i 559 (by decide +kernel) rfl
theorem kc_X4_write : Cond.code yX4_write cX4_write 5 (some .int) ∈ tb := tb_i 560 (by decide +kernel) rfl
theorem gw_L_19 : VW RL 19 RX4 yX4_write cX4_write 5 (some .int) 2 := VW.mk (tb_i 557 (by decide +kernel) rfl) kn_X4_write ks_X4_write ki_X4 kc_X4_write (by decide +kernel)
theorem kt_X4_in : Cond.static yX4_in ∈ tb := tb_i 562 (by decide +kernel) rfl
theorem kc_X4_in : Cond.code yX4_in cX4_in 3 (some .boolean) ∈ tb := tb_i 563 (by decide +kernel) rfl
theorem gw_X4_40 : SW RX4 40 yX4_in cX4_in 3 (some .boolean) 3 := SW.mk (tb_i 561 (by decide +kernel) rfl) kt_X4_in ki_X4 kc_X4_in (by decide +kernel)
theorem kn_X4_wipe : Cond.instanceMethod yX4_wipe ∈ tb := tb_i 566 (by decide +kernel) rfl
theorem ks_X4_wipe : Cond.selects RX4 yX4_wipe yX4_wipe ∈ tb := tb_i 567 (by decide +kernel) rfl
theorem kc_X4_wipe : Cond.code yX4_wipe cX4_wipe 2 (some .int) ∈ tb := tb_i 568 (by decide +kernel) rfl
theorem gw_L_24 : VW RL 24 RX4 yX4_wipe cX4_wipe 2 (some .int) 0 := VW.mk (tb_i 565 (by decide +kernel) rfl) kn_X4_wipe ks_X4_wipe ki_X4 kc_X4_wipe (by decide +kernel)
theorem kn_X4_fault : Cond.instanceMethod yX4_fault ∈ tb := tb_i 570 (by decide +kernel) rfl
theorem ks_X4_fault : Cond.selects RX4 yX4_fault yX4_fault ∈ tb := tb_i 571 (by decide +kernel) rfl
theorem kc_X4_fault : Cond.code yX4_fault cX4_fault 1 (some .int) ∈ tb := tb_i 572 (by decide +kernel) rfl
theorem gw_L_28 : VW RL 28 RX4 yX4_fault cX4_fault 1 (some .int) 0 := VW.mk (tb_i 569 (by decide +kernel) rfl) kn_X4_fault ks_X4_fault ki_X4 kc_X4_fault (by decide +kernel)
theorem kn_X4_reads : Cond.instanceMethod yX4_reads ∈ tb := tb_i 575 (by decide +kernel) rfl
theorem ks_X4_reads : Cond.selects RX4 yX4_reads yX4_reads ∈ tb := tb_i 16 (by decide +kernel) rfl
theorem kc_X4_reads : Cond.code yX4_reads cX4_reads 2 (some .int) ∈ tb := tb_i 576 (by decide +kernel) rfl
theorem gw_X4_89 : VW RX4 89 RX4 yX4_reads cX4_reads 2 (some .int) 0 := VW.mk (tb_i 573 (by decide +kernel) rfl) kn_X4_reads ks_X4_reads ki_X4 kc_X4_reads (by decide +kernel)
theorem kn_X4_item : Cond.instanceMethod yX4_item ∈ tb := tb_i 579 (by decide +kernel) rfl
theorem ks_X4_item : Cond.selects RX4 yX4_item yX4_item ∈ tb := tb_i 17 (by decide +kernel) rfl
theorem kc_X4_item : Cond.code yX4_item cX4_item 2 (some .boolean) ∈ tb := tb_i 580 (by decide +kernel) rfl
theorem gw_X4_86 : VW RX4 86 RX4 yX4_item cX4_item 2 (some .boolean) 0 := VW.mk (tb_i 577 (by decide +kernel) rfl) kn_X4_item ks_X4_item ki_X4 kc_X4_item (by decide +kernel)
theorem kn_X4_byteAt : Cond.instanceMethod yX4_byteAt ∈ tb := tb_i 583 (by decide +kernel) rfl
theorem ks_X4_byteAt : Cond.selects RX4 yX4_byteAt yX4_byteAt ∈ tb := tb_i 18 (by decide +kernel) rfl
theorem kc_X4_byteAt : Cond.code yX4_byteAt cX4_byteAt 2 (some .int) ∈ tb := tb_i 584 (by decide +kernel) rfl
theorem gw_X4_53 : VW RX4 53 RX4 yX4_byteAt cX4_byteAt 2 (some .int) 1 := VW.mk (tb_i 581 (by decide +kernel) rfl) kn_X4_byteAt ks_X4_byteAt ki_X4 kc_X4_byteAt (by decide +kernel)
theorem kn_X4_person : Cond.instanceMethod yX4_person ∈ tb := tb_i 587 (by decide +kernel) rfl
theorem ks_X4_person : Cond.selects RX4 yX4_person yX4_person ∈ tb := tb_i 19 (by decide +kernel) rfl
theorem kc_X4_person : Cond.code yX4_person cX4_person 1 (some .boolean) ∈ tb := tb_i 588 (by decide +kernel) rfl
theorem gw_X4_68 : VW RX4 68 RX4 yX4_person cX4_person 1 (some .boolean) 0 := VW.mk (tb_i 585 (by decide +kernel) rfl) kn_X4_person ks_X4_person ki_X4 kc_X4_person (by decide +kernel)
theorem kn_X4_numbers : Cond.instanceMethod yX4_numbers ∈ tb := tb_i 591 (by decide +kernel) rfl
theorem ks_X4_numbers : Cond.selects RX4 yX4_numbers yX4_numbers ∈ tb := tb_i 20 (by decide +kernel) rfl
theorem kc_X4_numbers : Cond.code yX4_numbers cX4_numbers 5 (some .boolean) ∈ tb := tb_i 592 (by decide +kernel) rfl
theorem gw_X4_61 : VW RX4 61 RX4 yX4_numbers cX4_numbers 5 (some .boolean) 1 := VW.mk (tb_i 589 (by decide +kernel) rfl) kn_X4_numbers ks_X4_numbers ki_X4 kc_X4_numbers (by decide +kernel)
theorem kn_X4_isFigure : Cond.instanceMethod yX4_isFigure ∈ tb := tb_i 595 (by decide +kernel) rfl
theorem ks_X4_isFigure : Cond.selects RX4 yX4_isFigure yX4_isFigure ∈ tb := tb_i 21 (by decide +kernel) rfl
theorem kc_X4_isFigure : Cond.code yX4_isFigure cX4_isFigure 1 (some .boolean) ∈ tb := tb_i 596 (by decide +kernel) rfl
theorem gw_X4_57 : VW RX4 57 RX4 yX4_isFigure cX4_isFigure 1 (some .boolean) 0 := VW.mk (tb_i 593 (by decide +kernel) rfl) kn_X4_isFigure ks_X4_isFigure ki_X4 kc_X4_isFigure (by decide +kernel)
theorem kn_X4_trade : Cond.instanceMethod yX4_trade ∈ tb := tb_i 599 (by decide +kernel) rfl
theorem ks_X4_trade : Cond.selects RX4 yX4_trade yX4_trade ∈ tb := tb_i 22 (by decide +kernel) rfl
theorem kc_X4_trade : Cond.code yX4_trade cX4_trade 2 (some .boolean) ∈ tb := tb_i 600 (by decide +kernel) rfl
theorem gw_X4_71 : VW RX4 71 RX4 yX4_trade cX4_trade 2 (some .boolean) 0 := VW.mk (tb_i 597 (by decide +kernel) rfl) kn_X4_trade ks_X4_trade ki_X4 kc_X4_trade (by decide +kernel)
theorem kn_X4_one : Cond.instanceMethod yX4_one ∈ tb := tb_i 603 (by decide +kernel) rfl
theorem ks_X4_one : Cond.selects RX4 yX4_one yX4_one ∈ tb := tb_i 23 (by decide +kernel) rfl
theorem kc_X4_one : Cond.code yX4_one cX4_one 4 (some .boolean) ∈ tb := tb_i 604 (by decide +kernel) rfl
theorem gw_X4_74 : VW RX4 74 RX4 yX4_one cX4_one 4 (some .boolean) 3 := VW.mk (tb_i 601 (by decide +kernel) rfl) kn_X4_one ks_X4_one ki_X4 kc_X4_one (by decide +kernel)
theorem kn_X4_known : Cond.instanceMethod yX4_known ∈ tb := tb_i 607 (by decide +kernel) rfl
theorem ks_X4_known : Cond.selects RX4 yX4_known yX4_known ∈ tb := tb_i 24 (by decide +kernel) rfl
theorem kc_X4_known : Cond.code yX4_known cX4_known 1 (some .boolean) ∈ tb := tb_i 608 (by decide +kernel) rfl
theorem gw_X4_77 : VW RX4 77 RX4 yX4_known cX4_known 1 (some .boolean) 0 := VW.mk (tb_i 605 (by decide +kernel) rfl) kn_X4_known ks_X4_known ki_X4 kc_X4_known (by decide +kernel)
theorem kn_X4_isHalf : Cond.instanceMethod yX4_isHalf ∈ tb := tb_i 611 (by decide +kernel) rfl
theorem ks_X4_isHalf : Cond.selects RX4 yX4_isHalf yX4_isHalf ∈ tb := tb_i 25 (by decide +kernel) rfl
theorem kc_X4_isHalf : Cond.code yX4_isHalf cX4_isHalf 2 (some .boolean) ∈ tb := tb_i 612 (by decide +kernel) rfl
theorem gw_X4_65 : VW RX4 65 RX4 yX4_isHalf cX4_isHalf 2 (some .boolean) 1 := VW.mk (tb_i 609 (by decide +kernel) rfl) kn_X4_isHalf ks_X4_isHalf ki_X4 kc_X4_isHalf (by decide +kernel)
theorem kn_X4_married : Cond.instanceMethod yX4_married ∈ tb := tb_i 615 (by decide +kernel) rfl
theorem ks_X4_married : Cond.selects RX4 yX4_married yX4_married ∈ tb := tb_i 26 (by decide +kernel) rfl
theorem kc_X4_married : Cond.code yX4_married cX4_married 1 (some .boolean) ∈ tb := tb_i 616 (by decide +kernel) rfl
theorem gw_X4_80 : VW RX4 80 RX4 yX4_married cX4_married 1 (some .boolean) 0 := VW.mk (tb_i 613 (by decide +kernel) rfl) kn_X4_married ks_X4_married ki_X4 kc_X4_married (by decide +kernel)
theorem kn_X4_pursed : Cond.instanceMethod yX4_pursed ∈ tb := tb_i 619 (by decide +kernel) rfl
theorem ks_X4_pursed : Cond.selects RX4 yX4_pursed yX4_pursed ∈ tb := tb_i 27 (by decide +kernel) rfl
theorem kc_X4_pursed : Cond.code yX4_pursed cX4_pursed 1 (some .boolean) ∈ tb := tb_i 620 (by decide +kernel) rfl
theorem gw_X4_83 : VW RX4 83 RX4 yX4_pursed cX4_pursed 1 (some .boolean) 0 := VW.mk (tb_i 617 (by decide +kernel) rfl) kn_X4_pursed ks_X4_pursed ki_X4 kc_X4_pursed (by decide +kernel)
theorem kn_X4_lay : Cond.instanceMethod yX4_lay ∈ tb := tb_i 622 (by decide +kernel) rfl
theorem ks_X4_lay : Cond.selects RX4 yX4_lay yX4_lay ∈ tb := tb_i 623 (by decide +kernel) rfl
theorem kc_X4_lay : Cond.code yX4_lay cX4_lay 2 (some .int) ∈ tb := tb_i 624 (by decide +kernel) rfl
theorem gw_L_32 : VW RL 32 RX4 yX4_lay cX4_lay 2 (some .int) 0 := VW.mk (tb_i 621 (by decide +kernel) rfl) kn_X4_lay ks_X4_lay ki_X4 kc_X4_lay (by decide +kernel)
theorem kn_X4_half : Cond.instanceMethod yX4_half ∈ tb := tb_i 626 (by decide +kernel) rfl
theorem ks_X4_half : Cond.selects RX4 yX4_half yX4_half ∈ tb := tb_i 627 (by decide +kernel) rfl
theorem kc_X4_half : Cond.code yX4_half cX4_half 4 (some .int) ∈ tb := tb_i 628 (by decide +kernel) rfl
theorem gw_L_37 : VW RL 37 RX4 yX4_half cX4_half 4 (some .int) 3 := VW.mk (tb_i 625 (by decide +kernel) rfl) kn_X4_half ks_X4_half ki_X4 kc_X4_half (by decide +kernel)
theorem kn_X4_isPerson : Cond.instanceMethod yX4_isPerson ∈ tb := tb_i 631 (by decide +kernel) rfl
theorem ks_X4_isPerson : Cond.selects RX4 yX4_isPerson yX4_isPerson ∈ tb := tb_i 28 (by decide +kernel) rfl
theorem kc_X4_isPerson : Cond.code yX4_isPerson cX4_isPerson 2 (some .boolean) ∈ tb := tb_i 632 (by decide +kernel) rfl
theorem gw_X4_99 : VW RX4 99 RX4 yX4_isPerson cX4_isPerson 2 (some .boolean) 1 := VW.mk (tb_i 629 (by decide +kernel) rfl) kn_X4_isPerson ks_X4_isPerson ki_X4 kc_X4_isPerson (by decide +kernel)
theorem kn_X4_awake : Cond.instanceMethod yX4_awake ∈ tb := tb_i 635 (by decide +kernel) rfl
theorem ks_X4_awake : Cond.selects RX4 yX4_awake yX4_awake ∈ tb := tb_i 29 (by decide +kernel) rfl
theorem kc_X4_awake : Cond.code yX4_awake cX4_awake 1 (some .int) ∈ tb := tb_i 636 (by decide +kernel) rfl
theorem gw_X4_102 : VW RX4 102 RX4 yX4_awake cX4_awake 1 (some .int) 0 := VW.mk (tb_i 633 (by decide +kernel) rfl) kn_X4_awake ks_X4_awake ki_X4 kc_X4_awake (by decide +kernel)
theorem kn_X4_see : Cond.instanceMethod yX4_see ∈ tb := tb_i 638 (by decide +kernel) rfl
theorem ks_X4_see : Cond.selects RX4 yX4_see yX4_see ∈ tb := tb_i 639 (by decide +kernel) rfl
theorem kc_X4_see : Cond.code yX4_see cX4_see 3 (some .int) ∈ tb := tb_i 640 (by decide +kernel) rfl
theorem gw_L_42 : VW RL 42 RX4 yX4_see cX4_see 3 (some .int) 2 := VW.mk (tb_i 637 (by decide +kernel) rfl) kn_X4_see ks_X4_see ki_X4 kc_X4_see (by decide +kernel)
theorem kn_X4_note : Cond.instanceMethod yX4_note ∈ tb := tb_i 642 (by decide +kernel) rfl
theorem ks_X4_note : Cond.selects RX4 yX4_note yX4_note ∈ tb := tb_i 643 (by decide +kernel) rfl
theorem kc_X4_note : Cond.code yX4_note cX4_note 3 (some .int) ∈ tb := tb_i 644 (by decide +kernel) rfl
theorem gw_L_46 : VW RL 46 RX4 yX4_note cX4_note 3 (some .int) 2 := VW.mk (tb_i 641 (by decide +kernel) rfl) kn_X4_note ks_X4_note ki_X4 kc_X4_note (by decide +kernel)
theorem kn_X4_deed : Cond.instanceMethod yX4_deed ∈ tb := tb_i 646 (by decide +kernel) rfl
theorem ks_X4_deed : Cond.selects RX4 yX4_deed yX4_deed ∈ tb := tb_i 647 (by decide +kernel) rfl
theorem kc_X4_deed : Cond.code yX4_deed cX4_deed 3 (some .int) ∈ tb := tb_i 648 (by decide +kernel) rfl
theorem gw_L_50 : VW RL 50 RX4 yX4_deed cX4_deed 3 (some .int) 2 := VW.mk (tb_i 645 (by decide +kernel) rfl) kn_X4_deed ks_X4_deed ki_X4 kc_X4_deed (by decide +kernel)
theorem kt_X4_isSet : Cond.static yX4_isSet ∈ tb := tb_i 650 (by decide +kernel) rfl
theorem kc_X4_isSet : Cond.code yX4_isSet cX4_isSet 1 (some .boolean) ∈ tb := tb_i 651 (by decide +kernel) rfl
theorem gw_X4_105 : SW RX4 105 yX4_isSet cX4_isSet 1 (some .boolean) 1 := SW.mk (tb_i 649 (by decide +kernel) rfl) kt_X4_isSet ki_X4 kc_X4_isSet (by decide +kernel)
theorem kn_X4_shifts : Cond.instanceMethod yX4_shifts ∈ tb := tb_i 653 (by decide +kernel) rfl
theorem ks_X4_shifts : Cond.selects RX4 yX4_shifts yX4_shifts ∈ tb := tb_i 654 (by decide +kernel) rfl
theorem kc_X4_shifts : Cond.code yX4_shifts cX4_shifts 3 (some .int) ∈ tb := tb_i 655 (by decide +kernel) rfl
theorem gw_L_55 : VW RL 55 RX4 yX4_shifts cX4_shifts 3 (some .int) 1 := VW.mk (tb_i 652 (by decide +kernel) rfl) kn_X4_shifts ks_X4_shifts ki_X4 kc_X4_shifts (by decide +kernel)
theorem kn_X4_plays : Cond.instanceMethod yX4_plays ∈ tb := tb_i 658 (by decide +kernel) rfl
theorem ks_X4_plays : Cond.selects RX4 yX4_plays yX4_plays ∈ tb := tb_i 30 (by decide +kernel) rfl
theorem kc_X4_plays : Cond.code yX4_plays cX4_plays 3 none ∈ tb := tb_i 659 (by decide +kernel) rfl
theorem gw_X4_115 : VW RX4 115 RX4 yX4_plays cX4_plays 3 none 1 := VW.mk (tb_i 656 (by decide +kernel) rfl) kn_X4_plays ks_X4_plays ki_X4 kc_X4_plays (by decide +kernel)
theorem kn_X4_ends : Cond.instanceMethod yX4_ends ∈ tb := tb_i 662 (by decide +kernel) rfl
theorem ks_X4_ends : Cond.selects RX4 yX4_ends yX4_ends ∈ tb := tb_i 31 (by decide +kernel) rfl
theorem kc_X4_ends : Cond.code yX4_ends cX4_ends 4 none ∈ tb := tb_i 663 (by decide +kernel) rfl
theorem gw_X4_112 : VW RX4 112 RX4 yX4_ends cX4_ends 4 none 0 := VW.mk (tb_i 660 (by decide +kernel) rfl) kn_X4_ends ks_X4_ends ki_X4 kc_X4_ends (by decide +kernel)
theorem kn_X4_tells : Cond.instanceMethod yX4_tells ∈ tb := tb_i 666 (by decide +kernel) rfl
theorem ks_X4_tells : Cond.selects RX4 yX4_tells yX4_tells ∈ tb := tb_i 32 (by decide +kernel) rfl
theorem kc_X4_tells : Cond.code yX4_tells cX4_tells 6 (some .int) ∈ tb := tb_i 667 (by decide +kernel) rfl
theorem gw_X4_108 : VW RX4 108 RX4 yX4_tells cX4_tells 6 (some .int) 2 := VW.mk (tb_i 664 (by decide +kernel) rfl) kn_X4_tells ks_X4_tells ki_X4 kc_X4_tells (by decide +kernel)
theorem kn_X4_done : Cond.instanceMethod yX4_done ∈ tb := tb_i 669 (by decide +kernel) rfl
theorem ks_X4_done : Cond.selects RX4 yX4_done yX4_done ∈ tb := tb_i 670 (by decide +kernel) rfl
theorem kc_X4_done : Cond.code yX4_done cX4_done 3 (some .int) ∈ tb := tb_i 671 (by decide +kernel) rfl
theorem gw_L_59 : VW RL 59 RX4 yX4_done cX4_done 3 (some .int) 2 := VW.mk (tb_i 668 (by decide +kernel) rfl) kn_X4_done ks_X4_done ki_X4 kc_X4_done (by decide +kernel)
theorem kn_X4_isTrade : Cond.instanceMethod yX4_isTrade ∈ tb := tb_i 674 (by decide +kernel) rfl
theorem ks_X4_isTrade : Cond.selects RX4 yX4_isTrade yX4_isTrade ∈ tb := tb_i 33 (by decide +kernel) rfl
theorem kc_X4_isTrade : Cond.code yX4_isTrade cX4_isTrade 2 (some .boolean) ∈ tb := tb_i 675 (by decide +kernel) rfl
theorem gw_X4_123 : VW RX4 123 RX4 yX4_isTrade cX4_isTrade 2 (some .boolean) 1 := VW.mk (tb_i 672 (by decide +kernel) rfl) kn_X4_isTrade ks_X4_isTrade ki_X4 kc_X4_isTrade (by decide +kernel)
theorem kn_X4_doneBy : Cond.instanceMethod yX4_doneBy ∈ tb := tb_i 678 (by decide +kernel) rfl
theorem ks_X4_doneBy : Cond.selects RX4 yX4_doneBy yX4_doneBy ∈ tb := tb_i 34 (by decide +kernel) rfl
theorem kc_X4_doneBy : Cond.code yX4_doneBy cX4_doneBy 8 (some .int) ∈ tb := tb_i 679 (by decide +kernel) rfl
theorem gw_X4_126 : VW RX4 126 RX4 yX4_doneBy cX4_doneBy 8 (some .int) 2 := VW.mk (tb_i 676 (by decide +kernel) rfl) kn_X4_doneBy ks_X4_doneBy ki_X4 kc_X4_doneBy (by decide +kernel)
theorem kn_X4_has : Cond.instanceMethod yX4_has ∈ tb := tb_i 682 (by decide +kernel) rfl
theorem ks_X4_has : Cond.selects RX4 yX4_has yX4_has ∈ tb := tb_i 35 (by decide +kernel) rfl
theorem kc_X4_has : Cond.code yX4_has cX4_has 5 (some .boolean) ∈ tb := tb_i 683 (by decide +kernel) rfl
theorem gw_X4_119 : VW RX4 119 RX4 yX4_has cX4_has 5 (some .boolean) 4 := VW.mk (tb_i 680 (by decide +kernel) rfl) kn_X4_has ks_X4_has ki_X4 kc_X4_has (by decide +kernel)
theorem kn_X4_handed : Cond.instanceMethod yX4_handed ∈ tb := tb_i 685 (by decide +kernel) rfl
theorem ks_X4_handed : Cond.selects RX4 yX4_handed yX4_handed ∈ tb := tb_i 686 (by decide +kernel) rfl
theorem kc_X4_handed : Cond.code yX4_handed cX4_handed 9 (some .int) ∈ tb := tb_i 687 (by decide +kernel) rfl
theorem gw_L_63 : VW RL 63 RX4 yX4_handed cX4_handed 9 (some .int) 2 := VW.mk (tb_i 684 (by decide +kernel) rfl) kn_X4_handed ks_X4_handed ki_X4 kc_X4_handed (by decide +kernel)
theorem kn_X4_best : Cond.instanceMethod yX4_best ∈ tb := tb_i 689 (by decide +kernel) rfl
theorem ks_X4_best : Cond.selects RX4 yX4_best yX4_best ∈ tb := tb_i 690 (by decide +kernel) rfl
theorem kc_X4_best : Cond.code yX4_best cX4_best 7 (some .int) ∈ tb := tb_i 691 (by decide +kernel) rfl
theorem gw_L_67 : VW RL 67 RX4 yX4_best cX4_best 7 (some .int) 1 := VW.mk (tb_i 688 (by decide +kernel) rfl) kn_X4_best ks_X4_best ki_X4 kc_X4_best (by decide +kernel)
theorem kn_X4_knows : Cond.instanceMethod yX4_knows ∈ tb := tb_i 693 (by decide +kernel) rfl
theorem ks_X4_knows : Cond.selects RX4 yX4_knows yX4_knows ∈ tb := tb_i 694 (by decide +kernel) rfl
theorem kc_X4_knows : Cond.code yX4_knows cX4_knows 4 (some .int) ∈ tb := tb_i 695 (by decide +kernel) rfl
theorem gw_L_71 : VW RL 71 RX4 yX4_knows cX4_knows 4 (some .int) 3 := VW.mk (tb_i 692 (by decide +kernel) rfl) kn_X4_knows ks_X4_knows ki_X4 kc_X4_knows (by decide +kernel)
theorem kn_X4_could : Cond.instanceMethod yX4_could ∈ tb := tb_i 697 (by decide +kernel) rfl
theorem ks_X4_could : Cond.selects RX4 yX4_could yX4_could ∈ tb := tb_i 698 (by decide +kernel) rfl
theorem kc_X4_could : Cond.code yX4_could cX4_could 3 (some .int) ∈ tb := tb_i 699 (by decide +kernel) rfl
theorem gw_L_75 : VW RL 75 RX4 yX4_could cX4_could 3 (some .int) 2 := VW.mk (tb_i 696 (by decide +kernel) rfl) kn_X4_could ks_X4_could ki_X4 kc_X4_could (by decide +kernel)
theorem kn_X4_whoKnow : Cond.instanceMethod yX4_whoKnow ∈ tb := tb_i 702 (by decide +kernel) rfl
theorem ks_X4_whoKnow : Cond.selects RX4 yX4_whoKnow yX4_whoKnow ∈ tb := tb_i 36 (by decide +kernel) rfl
theorem kc_X4_whoKnow : Cond.code yX4_whoKnow cX4_whoKnow 4 (some .int) ∈ tb := tb_i 703 (by decide +kernel) rfl
theorem gw_X4_129 : VW RX4 129 RX4 yX4_whoKnow cX4_whoKnow 4 (some .int) 1 := VW.mk (tb_i 700 (by decide +kernel) rfl) kn_X4_whoKnow ks_X4_whoKnow ki_X4 kc_X4_whoKnow (by decide +kernel)
theorem kn_X4_alike : Cond.instanceMethod yX4_alike ∈ tb := tb_i 705 (by decide +kernel) rfl
theorem ks_X4_alike : Cond.selects RX4 yX4_alike yX4_alike ∈ tb := tb_i 706 (by decide +kernel) rfl
theorem kc_X4_alike : Cond.code yX4_alike cX4_alike 3 (some .int) ∈ tb := tb_i 707 (by decide +kernel) rfl
theorem gw_L_79 : VW RL 79 RX4 yX4_alike cX4_alike 3 (some .int) 1 := VW.mk (tb_i 704 (by decide +kernel) rfl) kn_X4_alike ks_X4_alike ki_X4 kc_X4_alike (by decide +kernel)
theorem kn_X4_purse : Cond.instanceMethod yX4_purse ∈ tb := tb_i 709 (by decide +kernel) rfl
theorem ks_X4_purse : Cond.selects RX4 yX4_purse yX4_purse ∈ tb := tb_i 710 (by decide +kernel) rfl
theorem kc_X4_purse : Cond.code yX4_purse cX4_purse 4 (some .int) ∈ tb := tb_i 711 (by decide +kernel) rfl
theorem gw_L_83 : VW RL 83 RX4 yX4_purse cX4_purse 4 (some .int) 3 := VW.mk (tb_i 708 (by decide +kernel) rfl) kn_X4_purse ks_X4_purse ki_X4 kc_X4_purse (by decide +kernel)
theorem kn_X4_holds : Cond.instanceMethod yX4_holds ∈ tb := tb_i 714 (by decide +kernel) rfl
theorem ks_X4_holds : Cond.selects RX4 yX4_holds yX4_holds ∈ tb := tb_i 37 (by decide +kernel) rfl
theorem kc_X4_holds : Cond.code yX4_holds cX4_holds 5 (some .int) ∈ tb := tb_i 715 (by decide +kernel) rfl
theorem gw_X4_132 : VW RX4 132 RX4 yX4_holds cX4_holds 5 (some .int) 3 := VW.mk (tb_i 712 (by decide +kernel) rfl) kn_X4_holds ks_X4_holds ki_X4 kc_X4_holds (by decide +kernel)
theorem kn_X4_rests : Cond.instanceMethod yX4_rests ∈ tb := tb_i 717 (by decide +kernel) rfl
theorem ks_X4_rests : Cond.selects RX4 yX4_rests yX4_rests ∈ tb := tb_i 718 (by decide +kernel) rfl
theorem kc_X4_rests : Cond.code yX4_rests cX4_rests 5 (some .int) ∈ tb := tb_i 719 (by decide +kernel) rfl
theorem gw_L_87 : VW RL 87 RX4 yX4_rests cX4_rests 5 (some .int) 1 := VW.mk (tb_i 716 (by decide +kernel) rfl) kn_X4_rests ks_X4_rests ki_X4 kc_X4_rests (by decide +kernel)
theorem kn_X4_rest : Cond.instanceMethod yX4_rest ∈ tb := tb_i 722 (by decide +kernel) rfl
theorem ks_X4_rest : Cond.selects RX4 yX4_rest yX4_rest ∈ tb := tb_i 38 (by decide +kernel) rfl
theorem kc_X4_rest : Cond.code yX4_rest cX4_rest 5 (some .boolean) ∈ tb := tb_i 723 (by decide +kernel) rfl
theorem gw_X4_136 : VW RX4 136 RX4 yX4_rest cX4_rest 5 (some .boolean) 2 := VW.mk (tb_i 720 (by decide +kernel) rfl) kn_X4_rest ks_X4_rest ki_X4 kc_X4_rest (by decide +kernel)
theorem kn_X4_camps : Cond.instanceMethod yX4_camps ∈ tb := tb_i 725 (by decide +kernel) rfl
theorem ks_X4_camps : Cond.selects RX4 yX4_camps yX4_camps ∈ tb := tb_i 726 (by decide +kernel) rfl
theorem kc_X4_camps : Cond.code yX4_camps cX4_camps 4 (some .int) ∈ tb := tb_i 727 (by decide +kernel) rfl
theorem gw_L_91 : VW RL 91 RX4 yX4_camps cX4_camps 4 (some .int) 1 := VW.mk (tb_i 724 (by decide +kernel) rfl) kn_X4_camps ks_X4_camps ki_X4 kc_X4_camps (by decide +kernel)
theorem kn_X4_parts : Cond.instanceMethod yX4_parts ∈ tb := tb_i 730 (by decide +kernel) rfl
theorem ks_X4_parts : Cond.selects RX4 yX4_parts yX4_parts ∈ tb := tb_i 39 (by decide +kernel) rfl
theorem kc_X4_parts : Cond.code yX4_parts cX4_parts 4 (some .int) ∈ tb := tb_i 731 (by decide +kernel) rfl
theorem gw_X4_143 : VW RX4 143 RX4 yX4_parts cX4_parts 4 (some .int) 1 := VW.mk (tb_i 728 (by decide +kernel) rfl) kn_X4_parts ks_X4_parts ki_X4 kc_X4_parts (by decide +kernel)
theorem kt_X4_camp : Cond.static yX4_camp ∈ tb := tb_i 733 (by decide +kernel) rfl
theorem kc_X4_camp : Cond.code yX4_camp cX4_camp 2 (some .int) ∈ tb := tb_i 734 (by decide +kernel) rfl
theorem gw_X4_140 : SW RX4 140 yX4_camp cX4_camp 2 (some .int) 2 := SW.mk (tb_i 732 (by decide +kernel) rfl) kt_X4_camp ki_X4 kc_X4_camp (by decide +kernel)
theorem kn_X4_seen : Cond.instanceMethod yX4_seen ∈ tb := tb_i 736 (by decide +kernel) rfl
theorem ks_X4_seen : Cond.selects RX4 yX4_seen yX4_seen ∈ tb := tb_i 737 (by decide +kernel) rfl
theorem kc_X4_seen : Cond.code yX4_seen cX4_seen 3 (some .int) ∈ tb := tb_i 738 (by decide +kernel) rfl
theorem gw_L_95 : VW RL 95 RX4 yX4_seen cX4_seen 3 (some .int) 2 := VW.mk (tb_i 735 (by decide +kernel) rfl) kn_X4_seen ks_X4_seen ki_X4 kc_X4_seen (by decide +kernel)
theorem kn_X4_forget : Cond.instanceMethod yX4_forget ∈ tb := tb_i 740 (by decide +kernel) rfl
theorem ks_X4_forget : Cond.selects RX4 yX4_forget yX4_forget ∈ tb := tb_i 741 (by decide +kernel) rfl
theorem kc_X4_forget : Cond.code yX4_forget cX4_forget 2 (some .int) ∈ tb := tb_i 742 (by decide +kernel) rfl
theorem gw_L_99 : VW RL 99 RX4 yX4_forget cX4_forget 2 (some .int) 0 := VW.mk (tb_i 739 (by decide +kernel) rfl) kn_X4_forget ks_X4_forget ki_X4 kc_X4_forget (by decide +kernel)
theorem kn_X4_fits : Cond.instanceMethod yX4_fits ∈ tb := tb_i 744 (by decide +kernel) rfl
theorem ks_X4_fits : Cond.selects RX4 yX4_fits yX4_fits ∈ tb := tb_i 745 (by decide +kernel) rfl
theorem kc_X4_fits : Cond.code yX4_fits cX4_fits 3 (some .int) ∈ tb := tb_i 746 (by decide +kernel) rfl
theorem gw_L_103 : VW RL 103 RX4 yX4_fits cX4_fits 3 (some .int) 0 := VW.mk (tb_i 743 (by decide +kernel) rfl) kn_X4_fits ks_X4_fits ki_X4 kc_X4_fits (by decide +kernel)
theorem kn_X4_finds : Cond.instanceMethod yX4_finds ∈ tb := tb_i 749 (by decide +kernel) rfl
theorem ks_X4_finds : Cond.selects RX4 yX4_finds yX4_finds ∈ tb := tb_i 40 (by decide +kernel) rfl
theorem kc_X4_finds : Cond.code yX4_finds cX4_finds 3 none ∈ tb := tb_i 750 (by decide +kernel) rfl
theorem gw_X4_146 : VW RX4 146 RX4 yX4_finds cX4_finds 3 none 0 := VW.mk (tb_i 747 (by decide +kernel) rfl) kn_X4_finds ks_X4_finds ki_X4 kc_X4_finds (by decide +kernel)
theorem kn_X4_least : Cond.instanceMethod yX4_least ∈ tb := tb_i 752 (by decide +kernel) rfl
theorem ks_X4_least : Cond.selects RX4 yX4_least yX4_least ∈ tb := tb_i 753 (by decide +kernel) rfl
theorem kc_X4_least : Cond.code yX4_least cX4_least 7 (some .int) ∈ tb := tb_i 754 (by decide +kernel) rfl
theorem gw_L_107 : VW RL 107 RX4 yX4_least cX4_least 7 (some .int) 0 := VW.mk (tb_i 751 (by decide +kernel) rfl) kn_X4_least ks_X4_least ki_X4 kc_X4_least (by decide +kernel)
theorem kn_X4_month : Cond.instanceMethod yX4_month ∈ tb := tb_i 756 (by decide +kernel) rfl
theorem ks_X4_month : Cond.selects RX4 yX4_month yX4_month ∈ tb := tb_i 757 (by decide +kernel) rfl
theorem kc_X4_month : Cond.code yX4_month cX4_month 9 (some .int) ∈ tb := tb_i 758 (by decide +kernel) rfl
theorem gw_L_112 : VW RL 112 RX4 yX4_month cX4_month 9 (some .int) 4 := VW.mk (tb_i 755 (by decide +kernel) rfl) kn_X4_month ks_X4_month ki_X4 kc_X4_month (by decide +kernel)
theorem kn_X4_keep : Cond.instanceMethod yX4_keep ∈ tb := tb_i 763 (by decide +kernel) rfl
theorem ks_X4_keep : Cond.selects RX4 yX4_keep yX4_keep ∈ tb := tb_i 764 (by decide +kernel) rfl
theorem kc_X4_keep : Cond.code yX4_keep cX4_keep 2 (some .int) ∈ tb := tb_i 765 (by decide +kernel) rfl
theorem gw_L_116 : VW RL 116 RX4 yX4_keep cX4_keep 2 (some .int) 0 := VW.mk (tb_i 762 (by decide +kernel) rfl) kn_X4_keep ks_X4_keep ki_X4 kc_X4_keep (by decide +kernel)
theorem kn_X4_back : Cond.instanceMethod yX4_back ∈ tb := tb_i 767 (by decide +kernel) rfl
theorem ks_X4_back : Cond.selects RX4 yX4_back yX4_back ∈ tb := tb_i 768 (by decide +kernel) rfl
theorem kc_X4_back : Cond.code yX4_back cX4_back 2 (some .int) ∈ tb := tb_i 769 (by decide +kernel) rfl
theorem gw_L_120 : VW RL 120 RX4 yX4_back cX4_back 2 (some .int) 0 := VW.mk (tb_i 766 (by decide +kernel) rfl) kn_X4_back ks_X4_back ki_X4 kc_X4_back (by decide +kernel)
theorem kn_X4_count : Cond.instanceMethod yX4_count ∈ tb := tb_i 771 (by decide +kernel) rfl
theorem ks_X4_count : Cond.selects RX4 yX4_count yX4_count ∈ tb := tb_i 772 (by decide +kernel) rfl
theorem kc_X4_count : Cond.code yX4_count cX4_count 2 (some .int) ∈ tb := tb_i 773 (by decide +kernel) rfl
theorem gw_L_124 : VW RL 124 RX4 yX4_count cX4_count 2 (some .int) 1 := VW.mk (tb_i 770 (by decide +kernel) rfl) kn_X4_count ks_X4_count ki_X4 kc_X4_count (by decide +kernel)
theorem kn_X0_init : Cond.instanceMethod yX0_init ∈ tb := tb_i 61 (by decide +kernel) rfl
theorem kc_X0_init : Cond.code yX0_init cX0_init 1 none ∈ tb := tb_i 62 (by decide +kernel) rfl
theorem kmN_X3_11 : Cond.methodLinkNest RX3 11 yX0_init "HalfAsleep" ∈ nst := nst_i 60 (by decide +kernel) rfl
theorem kn_X1_init : Cond.instanceMethod yX1_init ∈ tb := tb_i 145 (by decide +kernel) rfl
theorem kc_X1_init : Cond.code yX1_init cX1_init 1 none ∈ tb := tb_i 146 (by decide +kernel) rfl
theorem kmN_X3_28 : Cond.methodLinkNest RX3 28 yX1_init "HalfAsleep" ∈ nst := nst_i 144 (by decide +kernel) rfl
theorem gw_X2_62 : NW RX2 62 yX3_isHalf "HalfAsleep" cX3_isHalf 1 (some .boolean) 1 := ⟨nst_i 284 (by decide +kernel) rfl, kt_X3_isHalf, ki_X3, kc_X3_isHalf, (by decide +kernel)⟩
theorem gw_X1_41 : NW RX1 41 yX3_holdsAll "HalfAsleep" cX3_holdsAll 2 (some .boolean) 2 := ⟨nst_i 416 (by decide +kernel) rfl, kt_X3_holdsAll, ki_X3, kc_X3_holdsAll, (by decide +kernel)⟩
section Links
variable {p : Program} {l : Launch} {e : Env} {R : Room} {s : State} {m : MethodId} {args : Array Value} {below : List Frame} {meth : Method} {c : Code} {H : Heap} {locs : List Loc} {cells slots : Nat} {Q : State → Prop}
variable {cc : ByteArray} {nL : Nat} {pc : Nat} {ls : Array Slot} {rest : List Value} {D : va_G} {cI cB : ClassId} {A : Nat → Prop} {ws : va_W} {H0 : Heap} {a q0 : Nat} {fs : List Value} {v : Value}

theorem kf_X0_9 : Cond.fieldLink RX0 9 "HalfAsleep$Page" "bytes" "[B" ∈ tb := tb_i 64 (by decide +kernel) rfl
theorem gf_X0_9 (F : Fx p m c cc nL s args RX0 D cI cB) (P : va_P D vwCl ws H) (q0 : Nat) (he : ws[q0]? = some (a, .inr (0, fs))) (v : Value) (hv : fs[0]? = some v) (d : decode cc pc = .ok (.getfield 9, 3)) (kk : W p l e R s m args below meth c H locs cells slots Q (F0 m (pc + 3) ls (v :: rest))) : W p l e R s m args below meth c H locs cells slots Q (F0 m pc ls (.ref a :: rest)) := r_gf F uX0 rfl 0 (by decide) kf_X0_9 P q0 he v hv d kk
theorem kf_X0_19 : Cond.fieldLink RX0 19 "HalfAsleep$Page" "length" "I" ∈ tb := tb_i 65 (by decide +kernel) rfl
theorem gf_X0_19 (F : Fx p m c cc nL s args RX0 D cI cB) (P : va_P D vwCl ws H) (q0 : Nat) (he : ws[q0]? = some (a, .inr (0, fs))) (v : Value) (hv : fs[1]? = some v) (d : decode cc pc = .ok (.getfield 19, 3)) (kk : W p l e R s m args below meth c H locs cells slots Q (F0 m (pc + 3) ls (v :: rest))) : W p l e R s m args below meth c H locs cells slots Q (F0 m pc ls (.ref a :: rest)) := r_gf F uX0 rfl 1 (by decide) kf_X0_19 P q0 he v hv d kk
theorem pf_X0_19 (F : Fx p m c cc nL s args RX0 D cI cB) (B : Bx D A H0 ws H locs) (q0 : Nat) (ws' : va_W) (he : ws[q0]? = some (a, .inr (0, fs))) (hn : narrow (tyX0 1) v = v) (hfit : fits (tyX0 1) v = true) (hlen : 1 < fs.length) (hw : ws.set q0 (a, .inr (0, fs.set 1 v)) = ws') (d : decode cc pc = .ok (.putfield 19, 3)) (kk : ∀ (H : Heap) (locs : List Loc), Bx D A H0 ws' H locs → W p l e R s m args below meth c H locs cells slots Q (F0 m (pc + 3) ls rest)) : W p l e R s m args below meth c H locs cells slots Q (F0 m pc ls (v :: .ref a :: rest)) := r_pf F uX0 rfl tyX0_ok nmX0 1 (by decide) kf_X0_19 rfl B q0 ws' he hn hfit hlen hw d kk
theorem kf_X0_28 : Cond.fieldLink RX0 28 "HalfAsleep$Page" "place" "I" ∈ tb := tb_i 67 (by decide +kernel) rfl
theorem gf_X0_28 (F : Fx p m c cc nL s args RX0 D cI cB) (P : va_P D vwCl ws H) (q0 : Nat) (he : ws[q0]? = some (a, .inr (0, fs))) (v : Value) (hv : fs[2]? = some v) (d : decode cc pc = .ok (.getfield 28, 3)) (kk : W p l e R s m args below meth c H locs cells slots Q (F0 m (pc + 3) ls (v :: rest))) : W p l e R s m args below meth c H locs cells slots Q (F0 m pc ls (.ref a :: rest)) := r_gf F uX0 rfl 2 (by decide) kf_X0_28 P q0 he v hv d kk
theorem pf_X0_28 (F : Fx p m c cc nL s args RX0 D cI cB) (B : Bx D A H0 ws H locs) (q0 : Nat) (ws' : va_W) (he : ws[q0]? = some (a, .inr (0, fs))) (hn : narrow (tyX0 2) v = v) (hfit : fits (tyX0 2) v = true) (hlen : 2 < fs.length) (hw : ws.set q0 (a, .inr (0, fs.set 2 v)) = ws') (d : decode cc pc = .ok (.putfield 28, 3)) (kk : ∀ (H : Heap) (locs : List Loc), Bx D A H0 ws' H locs → W p l e R s m args below meth c H locs cells slots Q (F0 m (pc + 3) ls rest)) : W p l e R s m args below meth c H locs cells slots Q (F0 m pc ls (v :: .ref a :: rest)) := r_pf F uX0 rfl tyX0_ok nmX0 2 (by decide) kf_X0_28 rfl B q0 ws' he hn hfit hlen hw d kk
theorem kf_X0_15 : Cond.fieldLink RX0 15 "HalfAsleep$Page" "numbers" "[I" ∈ tb := tb_i 68 (by decide +kernel) rfl
theorem gf_X0_15 (F : Fx p m c cc nL s args RX0 D cI cB) (P : va_P D vwCl ws H) (q0 : Nat) (he : ws[q0]? = some (a, .inr (0, fs))) (v : Value) (hv : fs[3]? = some v) (d : decode cc pc = .ok (.getfield 15, 3)) (kk : W p l e R s m args below meth c H locs cells slots Q (F0 m (pc + 3) ls (v :: rest))) : W p l e R s m args below meth c H locs cells slots Q (F0 m pc ls (.ref a :: rest)) := r_gf F uX0 rfl 3 (by decide) kf_X0_15 P q0 he v hv d kk
theorem kf_X2_30 : Cond.fieldLink RX2 30 "HalfAsleep$Town" "persons" "I" ∈ tb := tb_i 90 (by decide +kernel) rfl
theorem gf_X2_30 (F : Fx p m c cc nL s args RX2 D cI cB) (P : va_P D vwCl ws H) (q0 : Nat) (he : ws[q0]? = some (a, .inr (2, fs))) (v : Value) (hv : fs[0]? = some v) (d : decode cc pc = .ok (.getfield 30, 3)) (kk : W p l e R s m args below meth c H locs cells slots Q (F0 m (pc + 3) ls (v :: rest))) : W p l e R s m args below meth c H locs cells slots Q (F0 m pc ls (.ref a :: rest)) := r_gf F uX2 rfl 0 (by decide) kf_X2_30 P q0 he v hv d kk
theorem pf_X2_30 (F : Fx p m c cc nL s args RX2 D cI cB) (B : Bx D A H0 ws H locs) (q0 : Nat) (ws' : va_W) (he : ws[q0]? = some (a, .inr (2, fs))) (hn : narrow (tyX2 0) v = v) (hfit : fits (tyX2 0) v = true) (hlen : 0 < fs.length) (hw : ws.set q0 (a, .inr (2, fs.set 0 v)) = ws') (d : decode cc pc = .ok (.putfield 30, 3)) (kk : ∀ (H : Heap) (locs : List Loc), Bx D A H0 ws' H locs → W p l e R s m args below meth c H locs cells slots Q (F0 m (pc + 3) ls rest)) : W p l e R s m args below meth c H locs cells slots Q (F0 m pc ls (v :: .ref a :: rest)) := r_pf F uX2 rfl tyX2_ok nmX2 0 (by decide) kf_X2_30 rfl B q0 ws' he hn hfit hlen hw d kk
theorem kf_X2_9 : Cond.fieldLink RX2 9 "HalfAsleep$Town" "skills" "[I" ∈ tb := tb_i 93 (by decide +kernel) rfl
theorem gf_X2_9 (F : Fx p m c cc nL s args RX2 D cI cB) (P : va_P D vwCl ws H) (q0 : Nat) (he : ws[q0]? = some (a, .inr (2, fs))) (v : Value) (hv : fs[1]? = some v) (d : decode cc pc = .ok (.getfield 9, 3)) (kk : W p l e R s m args below meth c H locs cells slots Q (F0 m (pc + 3) ls (v :: rest))) : W p l e R s m args below meth c H locs cells slots Q (F0 m pc ls (.ref a :: rest)) := r_gf F uX2 rfl 1 (by decide) kf_X2_9 P q0 he v hv d kk
theorem kf_X2_15 : Cond.fieldLink RX2 15 "HalfAsleep$Town" "knownFirst" "[I" ∈ tb := tb_i 95 (by decide +kernel) rfl
theorem gf_X2_15 (F : Fx p m c cc nL s args RX2 D cI cB) (P : va_P D vwCl ws H) (q0 : Nat) (he : ws[q0]? = some (a, .inr (2, fs))) (v : Value) (hv : fs[2]? = some v) (d : decode cc pc = .ok (.getfield 15, 3)) (kk : W p l e R s m args below meth c H locs cells slots Q (F0 m (pc + 3) ls (v :: rest))) : W p l e R s m args below meth c H locs cells slots Q (F0 m pc ls (.ref a :: rest)) := r_gf F uX2 rfl 2 (by decide) kf_X2_15 P q0 he v hv d kk
theorem kf_X2_34 : Cond.fieldLink RX2 34 "HalfAsleep$Town" "trades" "I" ∈ tb := tb_i 97 (by decide +kernel) rfl
theorem gf_X2_34 (F : Fx p m c cc nL s args RX2 D cI cB) (P : va_P D vwCl ws H) (q0 : Nat) (he : ws[q0]? = some (a, .inr (2, fs))) (v : Value) (hv : fs[3]? = some v) (d : decode cc pc = .ok (.getfield 34, 3)) (kk : W p l e R s m args below meth c H locs cells slots Q (F0 m (pc + 3) ls (v :: rest))) : W p l e R s m args below meth c H locs cells slots Q (F0 m pc ls (.ref a :: rest)) := r_gf F uX2 rfl 3 (by decide) kf_X2_34 P q0 he v hv d kk
theorem pf_X2_34 (F : Fx p m c cc nL s args RX2 D cI cB) (B : Bx D A H0 ws H locs) (q0 : Nat) (ws' : va_W) (he : ws[q0]? = some (a, .inr (2, fs))) (hn : narrow (tyX2 3) v = v) (hfit : fits (tyX2 3) v = true) (hlen : 3 < fs.length) (hw : ws.set q0 (a, .inr (2, fs.set 3 v)) = ws') (d : decode cc pc = .ok (.putfield 34, 3)) (kk : ∀ (H : Heap) (locs : List Loc), Bx D A H0 ws' H locs → W p l e R s m args below meth c H locs cells slots Q (F0 m (pc + 3) ls rest)) : W p l e R s m args below meth c H locs cells slots Q (F0 m pc ls (v :: .ref a :: rest)) := r_pf F uX2 rfl tyX2_ok nmX2 3 (by decide) kf_X2_34 rfl B q0 ws' he hn hfit hlen hw d kk
theorem kf_X2_18 : Cond.fieldLink RX2 18 "HalfAsleep$Town" "steps" "[I" ∈ tb := tb_i 99 (by decide +kernel) rfl
theorem gf_X2_18 (F : Fx p m c cc nL s args RX2 D cI cB) (P : va_P D vwCl ws H) (q0 : Nat) (he : ws[q0]? = some (a, .inr (2, fs))) (v : Value) (hv : fs[4]? = some v) (d : decode cc pc = .ok (.getfield 18, 3)) (kk : W p l e R s m args below meth c H locs cells slots Q (F0 m (pc + 3) ls (v :: rest))) : W p l e R s m args below meth c H locs cells slots Q (F0 m pc ls (.ref a :: rest)) := r_gf F uX2 rfl 4 (by decide) kf_X2_18 P q0 he v hv d kk
theorem kf_X2_21 : Cond.fieldLink RX2 21 "HalfAsleep$Town" "tradeLengths" "[I" ∈ tb := tb_i 100 (by decide +kernel) rfl
theorem gf_X2_21 (F : Fx p m c cc nL s args RX2 D cI cB) (P : va_P D vwCl ws H) (q0 : Nat) (he : ws[q0]? = some (a, .inr (2, fs))) (v : Value) (hv : fs[5]? = some v) (d : decode cc pc = .ok (.getfield 21, 3)) (kk : W p l e R s m args below meth c H locs cells slots Q (F0 m (pc + 3) ls (v :: rest))) : W p l e R s m args below meth c H locs cells slots Q (F0 m pc ls (.ref a :: rest)) := r_gf F uX2 rfl 5 (by decide) kf_X2_21 P q0 he v hv d kk
theorem kf_X2_37 : Cond.fieldLink RX2 37 "HalfAsleep$Town" "openSteps" "I" ∈ tb := tb_i 101 (by decide +kernel) rfl
theorem gf_X2_37 (F : Fx p m c cc nL s args RX2 D cI cB) (P : va_P D vwCl ws H) (q0 : Nat) (he : ws[q0]? = some (a, .inr (2, fs))) (v : Value) (hv : fs[6]? = some v) (d : decode cc pc = .ok (.getfield 37, 3)) (kk : W p l e R s m args below meth c H locs cells slots Q (F0 m (pc + 3) ls (v :: rest))) : W p l e R s m args below meth c H locs cells slots Q (F0 m pc ls (.ref a :: rest)) := r_gf F uX2 rfl 6 (by decide) kf_X2_37 P q0 he v hv d kk
theorem pf_X2_37 (F : Fx p m c cc nL s args RX2 D cI cB) (B : Bx D A H0 ws H locs) (q0 : Nat) (ws' : va_W) (he : ws[q0]? = some (a, .inr (2, fs))) (hn : narrow (tyX2 6) v = v) (hfit : fits (tyX2 6) v = true) (hlen : 6 < fs.length) (hw : ws.set q0 (a, .inr (2, fs.set 6 v)) = ws') (d : decode cc pc = .ok (.putfield 37, 3)) (kk : ∀ (H : Heap) (locs : List Loc), Bx D A H0 ws' H locs → W p l e R s m args below meth c H locs cells slots Q (F0 m (pc + 3) ls rest)) : W p l e R s m args below meth c H locs cells slots Q (F0 m pc ls (v :: .ref a :: rest)) := r_pf F uX2 rfl tyX2_ok nmX2 6 (by decide) kf_X2_37 rfl B q0 ws' he hn hfit hlen hw d kk
theorem kf_X2_40 : Cond.fieldLink RX2 40 "HalfAsleep$Town" "pairs" "I" ∈ tb := tb_i 102 (by decide +kernel) rfl
theorem gf_X2_40 (F : Fx p m c cc nL s args RX2 D cI cB) (P : va_P D vwCl ws H) (q0 : Nat) (he : ws[q0]? = some (a, .inr (2, fs))) (v : Value) (hv : fs[7]? = some v) (d : decode cc pc = .ok (.getfield 40, 3)) (kk : W p l e R s m args below meth c H locs cells slots Q (F0 m (pc + 3) ls (v :: rest))) : W p l e R s m args below meth c H locs cells slots Q (F0 m pc ls (.ref a :: rest)) := r_gf F uX2 rfl 7 (by decide) kf_X2_40 P q0 he v hv d kk
theorem pf_X2_40 (F : Fx p m c cc nL s args RX2 D cI cB) (B : Bx D A H0 ws H locs) (q0 : Nat) (ws' : va_W) (he : ws[q0]? = some (a, .inr (2, fs))) (hn : narrow (tyX2 7) v = v) (hfit : fits (tyX2 7) v = true) (hlen : 7 < fs.length) (hw : ws.set q0 (a, .inr (2, fs.set 7 v)) = ws') (d : decode cc pc = .ok (.putfield 40, 3)) (kk : ∀ (H : Heap) (locs : List Loc), Bx D A H0 ws' H locs → W p l e R s m args below meth c H locs cells slots Q (F0 m (pc + 3) ls rest)) : W p l e R s m args below meth c H locs cells slots Q (F0 m pc ls (v :: .ref a :: rest)) := r_pf F uX2 rfl tyX2_ok nmX2 7 (by decide) kf_X2_40 rfl B q0 ws' he hn hfit hlen hw d kk
theorem kf_X2_24 : Cond.fieldLink RX2 24 "HalfAsleep$Town" "pairHalves" "[I" ∈ tb := tb_i 104 (by decide +kernel) rfl
theorem gf_X2_24 (F : Fx p m c cc nL s args RX2 D cI cB) (P : va_P D vwCl ws H) (q0 : Nat) (he : ws[q0]? = some (a, .inr (2, fs))) (v : Value) (hv : fs[8]? = some v) (d : decode cc pc = .ok (.getfield 24, 3)) (kk : W p l e R s m args below meth c H locs cells slots Q (F0 m (pc + 3) ls (v :: rest))) : W p l e R s m args below meth c H locs cells slots Q (F0 m pc ls (.ref a :: rest)) := r_gf F uX2 rfl 8 (by decide) kf_X2_24 P q0 he v hv d kk
theorem kf_X2_43 : Cond.fieldLink RX2 43 "HalfAsleep$Town" "stepsPerShift" "I" ∈ tb := tb_i 105 (by decide +kernel) rfl
theorem gf_X2_43 (F : Fx p m c cc nL s args RX2 D cI cB) (P : va_P D vwCl ws H) (q0 : Nat) (he : ws[q0]? = some (a, .inr (2, fs))) (v : Value) (hv : fs[9]? = some v) (d : decode cc pc = .ok (.getfield 43, 3)) (kk : W p l e R s m args below meth c H locs cells slots Q (F0 m (pc + 3) ls (v :: rest))) : W p l e R s m args below meth c H locs cells slots Q (F0 m pc ls (.ref a :: rest)) := r_gf F uX2 rfl 9 (by decide) kf_X2_43 P q0 he v hv d kk
theorem pf_X2_43 (F : Fx p m c cc nL s args RX2 D cI cB) (B : Bx D A H0 ws H locs) (q0 : Nat) (ws' : va_W) (he : ws[q0]? = some (a, .inr (2, fs))) (hn : narrow (tyX2 9) v = v) (hfit : fits (tyX2 9) v = true) (hlen : 9 < fs.length) (hw : ws.set q0 (a, .inr (2, fs.set 9 v)) = ws') (d : decode cc pc = .ok (.putfield 43, 3)) (kk : ∀ (H : Heap) (locs : List Loc), Bx D A H0 ws' H locs → W p l e R s m args below meth c H locs cells slots Q (F0 m (pc + 3) ls rest)) : W p l e R s m args below meth c H locs cells slots Q (F0 m pc ls (v :: .ref a :: rest)) := r_pf F uX2 rfl tyX2_ok nmX2 9 (by decide) kf_X2_43 rfl B q0 ws' he hn hfit hlen hw d kk
theorem kf_X2_46 : Cond.fieldLink RX2 46 "HalfAsleep$Town" "factsTold" "I" ∈ tb := tb_i 107 (by decide +kernel) rfl
theorem gf_X2_46 (F : Fx p m c cc nL s args RX2 D cI cB) (P : va_P D vwCl ws H) (q0 : Nat) (he : ws[q0]? = some (a, .inr (2, fs))) (v : Value) (hv : fs[10]? = some v) (d : decode cc pc = .ok (.getfield 46, 3)) (kk : W p l e R s m args below meth c H locs cells slots Q (F0 m (pc + 3) ls (v :: rest))) : W p l e R s m args below meth c H locs cells slots Q (F0 m pc ls (.ref a :: rest)) := r_gf F uX2 rfl 10 (by decide) kf_X2_46 P q0 he v hv d kk
theorem pf_X2_46 (F : Fx p m c cc nL s args RX2 D cI cB) (B : Bx D A H0 ws H locs) (q0 : Nat) (ws' : va_W) (he : ws[q0]? = some (a, .inr (2, fs))) (hn : narrow (tyX2 10) v = v) (hfit : fits (tyX2 10) v = true) (hlen : 10 < fs.length) (hw : ws.set q0 (a, .inr (2, fs.set 10 v)) = ws') (d : decode cc pc = .ok (.putfield 46, 3)) (kk : ∀ (H : Heap) (locs : List Loc), Bx D A H0 ws' H locs → W p l e R s m args below meth c H locs cells slots Q (F0 m (pc + 3) ls rest)) : W p l e R s m args below meth c H locs cells slots Q (F0 m pc ls (v :: .ref a :: rest)) := r_pf F uX2 rfl tyX2_ok nmX2 10 (by decide) kf_X2_46 rfl B q0 ws' he hn hfit hlen hw d kk
theorem kf_X2_49 : Cond.fieldLink RX2 49 "HalfAsleep$Town" "coins" "I" ∈ tb := tb_i 110 (by decide +kernel) rfl
theorem gf_X2_49 (F : Fx p m c cc nL s args RX2 D cI cB) (P : va_P D vwCl ws H) (q0 : Nat) (he : ws[q0]? = some (a, .inr (2, fs))) (v : Value) (hv : fs[11]? = some v) (d : decode cc pc = .ok (.getfield 49, 3)) (kk : W p l e R s m args below meth c H locs cells slots Q (F0 m (pc + 3) ls (v :: rest))) : W p l e R s m args below meth c H locs cells slots Q (F0 m pc ls (.ref a :: rest)) := r_gf F uX2 rfl 11 (by decide) kf_X2_49 P q0 he v hv d kk
theorem pf_X2_49 (F : Fx p m c cc nL s args RX2 D cI cB) (B : Bx D A H0 ws H locs) (q0 : Nat) (ws' : va_W) (he : ws[q0]? = some (a, .inr (2, fs))) (hn : narrow (tyX2 11) v = v) (hfit : fits (tyX2 11) v = true) (hlen : 11 < fs.length) (hw : ws.set q0 (a, .inr (2, fs.set 11 v)) = ws') (d : decode cc pc = .ok (.putfield 49, 3)) (kk : ∀ (H : Heap) (locs : List Loc), Bx D A H0 ws' H locs → W p l e R s m args below meth c H locs cells slots Q (F0 m (pc + 3) ls rest)) : W p l e R s m args below meth c H locs cells slots Q (F0 m pc ls (v :: .ref a :: rest)) := r_pf F uX2 rfl tyX2_ok nmX2 11 (by decide) kf_X2_49 rfl B q0 ws' he hn hfit hlen hw d kk
theorem kf_X2_52 : Cond.fieldLink RX2 52 "HalfAsleep$Town" "worthLeft" "I" ∈ tb := tb_i 111 (by decide +kernel) rfl
theorem gf_X2_52 (F : Fx p m c cc nL s args RX2 D cI cB) (P : va_P D vwCl ws H) (q0 : Nat) (he : ws[q0]? = some (a, .inr (2, fs))) (v : Value) (hv : fs[12]? = some v) (d : decode cc pc = .ok (.getfield 52, 3)) (kk : W p l e R s m args below meth c H locs cells slots Q (F0 m (pc + 3) ls (v :: rest))) : W p l e R s m args below meth c H locs cells slots Q (F0 m pc ls (.ref a :: rest)) := r_gf F uX2 rfl 12 (by decide) kf_X2_52 P q0 he v hv d kk
theorem pf_X2_52 (F : Fx p m c cc nL s args RX2 D cI cB) (B : Bx D A H0 ws H locs) (q0 : Nat) (ws' : va_W) (he : ws[q0]? = some (a, .inr (2, fs))) (hn : narrow (tyX2 12) v = v) (hfit : fits (tyX2 12) v = true) (hlen : 12 < fs.length) (hw : ws.set q0 (a, .inr (2, fs.set 12 v)) = ws') (d : decode cc pc = .ok (.putfield 52, 3)) (kk : ∀ (H : Heap) (locs : List Loc), Bx D A H0 ws' H locs → W p l e R s m args below meth c H locs cells slots Q (F0 m (pc + 3) ls rest)) : W p l e R s m args below meth c H locs cells slots Q (F0 m pc ls (v :: .ref a :: rest)) := r_pf F uX2 rfl tyX2_ok nmX2 12 (by decide) kf_X2_52 rfl B q0 ws' he hn hfit hlen hw d kk
theorem kf_X2_55 : Cond.fieldLink RX2 55 "HalfAsleep$Town" "worthRight" "I" ∈ tb := tb_i 112 (by decide +kernel) rfl
theorem gf_X2_55 (F : Fx p m c cc nL s args RX2 D cI cB) (P : va_P D vwCl ws H) (q0 : Nat) (he : ws[q0]? = some (a, .inr (2, fs))) (v : Value) (hv : fs[13]? = some v) (d : decode cc pc = .ok (.getfield 55, 3)) (kk : W p l e R s m args below meth c H locs cells slots Q (F0 m (pc + 3) ls (v :: rest))) : W p l e R s m args below meth c H locs cells slots Q (F0 m pc ls (.ref a :: rest)) := r_gf F uX2 rfl 13 (by decide) kf_X2_55 P q0 he v hv d kk
theorem pf_X2_55 (F : Fx p m c cc nL s args RX2 D cI cB) (B : Bx D A H0 ws H locs) (q0 : Nat) (ws' : va_W) (he : ws[q0]? = some (a, .inr (2, fs))) (hn : narrow (tyX2 13) v = v) (hfit : fits (tyX2 13) v = true) (hlen : 13 < fs.length) (hw : ws.set q0 (a, .inr (2, fs.set 13 v)) = ws') (d : decode cc pc = .ok (.putfield 55, 3)) (kk : ∀ (H : Heap) (locs : List Loc), Bx D A H0 ws' H locs → W p l e R s m args below meth c H locs cells slots Q (F0 m (pc + 3) ls rest)) : W p l e R s m args below meth c H locs cells slots Q (F0 m pc ls (v :: .ref a :: rest)) := r_pf F uX2 rfl tyX2_ok nmX2 13 (by decide) kf_X2_55 rfl B q0 ws' he hn hfit hlen hw d kk
theorem kf_X1_18 : Cond.fieldLink RX1 18 "HalfAsleep$Standing" "shift" "I" ∈ tb := tb_i 148 (by decide +kernel) rfl
theorem gf_X1_18 (F : Fx p m c cc nL s args RX1 D cI cB) (P : va_P D vwCl ws H) (q0 : Nat) (he : ws[q0]? = some (a, .inr (1, fs))) (v : Value) (hv : fs[0]? = some v) (d : decode cc pc = .ok (.getfield 18, 3)) (kk : W p l e R s m args below meth c H locs cells slots Q (F0 m (pc + 3) ls (v :: rest))) : W p l e R s m args below meth c H locs cells slots Q (F0 m pc ls (.ref a :: rest)) := r_gf F uX1 rfl 0 (by decide) kf_X1_18 P q0 he v hv d kk
theorem pf_X1_18 (F : Fx p m c cc nL s args RX1 D cI cB) (B : Bx D A H0 ws H locs) (q0 : Nat) (ws' : va_W) (he : ws[q0]? = some (a, .inr (1, fs))) (hn : narrow (tyX1 0) v = v) (hfit : fits (tyX1 0) v = true) (hlen : 0 < fs.length) (hw : ws.set q0 (a, .inr (1, fs.set 0 v)) = ws') (d : decode cc pc = .ok (.putfield 18, 3)) (kk : ∀ (H : Heap) (locs : List Loc), Bx D A H0 ws' H locs → W p l e R s m args below meth c H locs cells slots Q (F0 m (pc + 3) ls rest)) : W p l e R s m args below meth c H locs cells slots Q (F0 m pc ls (v :: .ref a :: rest)) := r_pf F uX1 rfl tyX1_ok nmX1 0 (by decide) kf_X1_18 rfl B q0 ws' he hn hfit hlen hw d kk
theorem kf_X1_9 : Cond.fieldLink RX1 9 "HalfAsleep$Standing" "known" "[I" ∈ tb := tb_i 150 (by decide +kernel) rfl
theorem gf_X1_9 (F : Fx p m c cc nL s args RX1 D cI cB) (P : va_P D vwCl ws H) (q0 : Nat) (he : ws[q0]? = some (a, .inr (1, fs))) (v : Value) (hv : fs[1]? = some v) (d : decode cc pc = .ok (.getfield 9, 3)) (kk : W p l e R s m args below meth c H locs cells slots Q (F0 m (pc + 3) ls (v :: rest))) : W p l e R s m args below meth c H locs cells slots Q (F0 m pc ls (.ref a :: rest)) := r_gf F uX1 rfl 1 (by decide) kf_X1_9 P q0 he v hv d kk
theorem kf_X1_15 : Cond.fieldLink RX1 15 "HalfAsleep$Standing" "hung" "[I" ∈ tb := tb_i 152 (by decide +kernel) rfl
theorem gf_X1_15 (F : Fx p m c cc nL s args RX1 D cI cB) (P : va_P D vwCl ws H) (q0 : Nat) (he : ws[q0]? = some (a, .inr (1, fs))) (v : Value) (hv : fs[2]? = some v) (d : decode cc pc = .ok (.getfield 15, 3)) (kk : W p l e R s m args below meth c H locs cells slots Q (F0 m (pc + 3) ls (v :: rest))) : W p l e R s m args below meth c H locs cells slots Q (F0 m pc ls (.ref a :: rest)) := r_gf F uX1 rfl 2 (by decide) kf_X1_15 P q0 he v hv d kk
theorem kf_X3_12 : Cond.fieldLink RX3 12 "HalfAsleep" "page" "LHalfAsleep$Page;" ∈ tb := tb_i 180 (by decide +kernel) rfl
theorem gf_X3_12 (F : Fx p m c cc nL s args RX3 D cI cB) (P : va_P D vwCl ws H) (q0 : Nat) (he : ws[q0]? = some (a, .inr (3, fs))) (v : Value) (hv : fs[0]? = some v) (d : decode cc pc = .ok (.getfield 12, 3)) (kk : W p l e R s m args below meth c H locs cells slots Q (F0 m (pc + 3) ls (v :: rest))) : W p l e R s m args below meth c H locs cells slots Q (F0 m pc ls (.ref a :: rest)) := r_gf F uX3 rfl 0 (by decide) kf_X3_12 P q0 he v hv d kk
theorem kf_X3_19 : Cond.fieldLink RX3 19 "HalfAsleep" "laid" "LHalfAsleep$Town;" ∈ tb := tb_i 181 (by decide +kernel) rfl
theorem gf_X3_19 (F : Fx p m c cc nL s args RX3 D cI cB) (P : va_P D vwCl ws H) (q0 : Nat) (he : ws[q0]? = some (a, .inr (3, fs))) (v : Value) (hv : fs[1]? = some v) (d : decode cc pc = .ok (.getfield 19, 3)) (kk : W p l e R s m args below meth c H locs cells slots Q (F0 m (pc + 3) ls (v :: rest))) : W p l e R s m args below meth c H locs cells slots Q (F0 m pc ls (.ref a :: rest)) := r_gf F uX3 rfl 1 (by decide) kf_X3_19 P q0 he v hv d kk
theorem pf_X3_19 (F : Fx p m c cc nL s args RX3 D cI cB) (B : Bx D A H0 ws H locs) (q0 : Nat) (ws' : va_W) (he : ws[q0]? = some (a, .inr (3, fs))) (hn : narrow (tyX3 1) v = v) (hfit : fits (tyX3 1) v = true) (hlen : 1 < fs.length) (hw : ws.set q0 (a, .inr (3, fs.set 1 v)) = ws') (d : decode cc pc = .ok (.putfield 19, 3)) (kk : ∀ (H : Heap) (locs : List Loc), Bx D A H0 ws' H locs → W p l e R s m args below meth c H locs cells slots Q (F0 m (pc + 3) ls rest)) : W p l e R s m args below meth c H locs cells slots Q (F0 m pc ls (v :: .ref a :: rest)) := r_pf F uX3 rfl tyX3_ok nmX3 1 (by decide) kf_X3_19 rfl B q0 ws' he hn hfit hlen hw d kk
theorem kf_X3_23 : Cond.fieldLink RX3 23 "HalfAsleep" "draft" "LHalfAsleep$Town;" ∈ tb := tb_i 182 (by decide +kernel) rfl
theorem gf_X3_23 (F : Fx p m c cc nL s args RX3 D cI cB) (P : va_P D vwCl ws H) (q0 : Nat) (he : ws[q0]? = some (a, .inr (3, fs))) (v : Value) (hv : fs[2]? = some v) (d : decode cc pc = .ok (.getfield 23, 3)) (kk : W p l e R s m args below meth c H locs cells slots Q (F0 m (pc + 3) ls (v :: rest))) : W p l e R s m args below meth c H locs cells slots Q (F0 m pc ls (.ref a :: rest)) := r_gf F uX3 rfl 2 (by decide) kf_X3_23 P q0 he v hv d kk
theorem pf_X3_23 (F : Fx p m c cc nL s args RX3 D cI cB) (B : Bx D A H0 ws H locs) (q0 : Nat) (ws' : va_W) (he : ws[q0]? = some (a, .inr (3, fs))) (hn : narrow (tyX3 2) v = v) (hfit : fits (tyX3 2) v = true) (hlen : 2 < fs.length) (hw : ws.set q0 (a, .inr (3, fs.set 2 v)) = ws') (d : decode cc pc = .ok (.putfield 23, 3)) (kk : ∀ (H : Heap) (locs : List Loc), Bx D A H0 ws' H locs → W p l e R s m args below meth c H locs cells slots Q (F0 m (pc + 3) ls rest)) : W p l e R s m args below meth c H locs cells slots Q (F0 m pc ls (v :: .ref a :: rest)) := r_pf F uX3 rfl tyX3_ok nmX3 2 (by decide) kf_X3_23 rfl B q0 ws' he hn hfit hlen hw d kk
theorem kf_X3_29 : Cond.fieldLink RX3 29 "HalfAsleep" "now" "LHalfAsleep$Standing;" ∈ tb := tb_i 183 (by decide +kernel) rfl
theorem gf_X3_29 (F : Fx p m c cc nL s args RX3 D cI cB) (P : va_P D vwCl ws H) (q0 : Nat) (he : ws[q0]? = some (a, .inr (3, fs))) (v : Value) (hv : fs[3]? = some v) (d : decode cc pc = .ok (.getfield 29, 3)) (kk : W p l e R s m args below meth c H locs cells slots Q (F0 m (pc + 3) ls (v :: rest))) : W p l e R s m args below meth c H locs cells slots Q (F0 m pc ls (.ref a :: rest)) := r_gf F uX3 rfl 3 (by decide) kf_X3_29 P q0 he v hv d kk
theorem kf_X3_33 : Cond.fieldLink RX3 33 "HalfAsleep" "trial" "LHalfAsleep$Standing;" ∈ tb := tb_i 184 (by decide +kernel) rfl
theorem gf_X3_33 (F : Fx p m c cc nL s args RX3 D cI cB) (P : va_P D vwCl ws H) (q0 : Nat) (he : ws[q0]? = some (a, .inr (3, fs))) (v : Value) (hv : fs[4]? = some v) (d : decode cc pc = .ok (.getfield 33, 3)) (kk : W p l e R s m args below meth c H locs cells slots Q (F0 m (pc + 3) ls (v :: rest))) : W p l e R s m args below meth c H locs cells slots Q (F0 m pc ls (.ref a :: rest)) := r_gf F uX3 rfl 4 (by decide) kf_X3_33 P q0 he v hv d kk
theorem kf_X3_36 : Cond.fieldLink RX3 36 "HalfAsleep" "firstKept" "LHalfAsleep$Standing;" ∈ tb := tb_i 185 (by decide +kernel) rfl
theorem gf_X3_36 (F : Fx p m c cc nL s args RX3 D cI cB) (P : va_P D vwCl ws H) (q0 : Nat) (he : ws[q0]? = some (a, .inr (3, fs))) (v : Value) (hv : fs[5]? = some v) (d : decode cc pc = .ok (.getfield 36, 3)) (kk : W p l e R s m args below meth c H locs cells slots Q (F0 m (pc + 3) ls (v :: rest))) : W p l e R s m args below meth c H locs cells slots Q (F0 m pc ls (.ref a :: rest)) := r_gf F uX3 rfl 5 (by decide) kf_X3_36 P q0 he v hv d kk
theorem kf_X3_39 : Cond.fieldLink RX3 39 "HalfAsleep" "secondKept" "LHalfAsleep$Standing;" ∈ tb := tb_i 186 (by decide +kernel) rfl
theorem gf_X3_39 (F : Fx p m c cc nL s args RX3 D cI cB) (P : va_P D vwCl ws H) (q0 : Nat) (he : ws[q0]? = some (a, .inr (3, fs))) (v : Value) (hv : fs[6]? = some v) (d : decode cc pc = .ok (.getfield 39, 3)) (kk : W p l e R s m args below meth c H locs cells slots Q (F0 m (pc + 3) ls (v :: rest))) : W p l e R s m args below meth c H locs cells slots Q (F0 m pc ls (.ref a :: rest)) := r_gf F uX3 rfl 6 (by decide) kf_X3_39 P q0 he v hv d kk
theorem kf_X3_86 : Cond.fieldLink RX3 86 "HalfAsleep" "keptNumber" "I" ∈ tb := tb_i 187 (by decide +kernel) rfl
theorem gf_X3_86 (F : Fx p m c cc nL s args RX3 D cI cB) (P : va_P D vwCl ws H) (q0 : Nat) (he : ws[q0]? = some (a, .inr (3, fs))) (v : Value) (hv : fs[7]? = some v) (d : decode cc pc = .ok (.getfield 86, 3)) (kk : W p l e R s m args below meth c H locs cells slots Q (F0 m (pc + 3) ls (v :: rest))) : W p l e R s m args below meth c H locs cells slots Q (F0 m pc ls (.ref a :: rest)) := r_gf F uX3 rfl 7 (by decide) kf_X3_86 P q0 he v hv d kk
theorem pf_X3_86 (F : Fx p m c cc nL s args RX3 D cI cB) (B : Bx D A H0 ws H locs) (q0 : Nat) (ws' : va_W) (he : ws[q0]? = some (a, .inr (3, fs))) (hn : narrow (tyX3 7) v = v) (hfit : fits (tyX3 7) v = true) (hlen : 7 < fs.length) (hw : ws.set q0 (a, .inr (3, fs.set 7 v)) = ws') (d : decode cc pc = .ok (.putfield 86, 3)) (kk : ∀ (H : Heap) (locs : List Loc), Bx D A H0 ws' H locs → W p l e R s m args below meth c H locs cells slots Q (F0 m (pc + 3) ls rest)) : W p l e R s m args below meth c H locs cells slots Q (F0 m pc ls (v :: .ref a :: rest)) := r_pf F uX3 rfl tyX3_ok nmX3 7 (by decide) kf_X3_86 rfl B q0 ws' he hn hfit hlen hw d kk
theorem kf_X3_42 : Cond.fieldLink RX3 42 "HalfAsleep" "doers" "[I" ∈ tb := tb_i 188 (by decide +kernel) rfl
theorem gf_X3_42 (F : Fx p m c cc nL s args RX3 D cI cB) (P : va_P D vwCl ws H) (q0 : Nat) (he : ws[q0]? = some (a, .inr (3, fs))) (v : Value) (hv : fs[8]? = some v) (d : decode cc pc = .ok (.getfield 42, 3)) (kk : W p l e R s m args below meth c H locs cells slots Q (F0 m (pc + 3) ls (v :: rest))) : W p l e R s m args below meth c H locs cells slots Q (F0 m pc ls (.ref a :: rest)) := r_gf F uX3 rfl 8 (by decide) kf_X3_42 P q0 he v hv d kk
theorem kf_X3_83 : Cond.fieldLink RX3 83 "HalfAsleep" "deeds" "I" ∈ tb := tb_i 189 (by decide +kernel) rfl
theorem gf_X3_83 (F : Fx p m c cc nL s args RX3 D cI cB) (P : va_P D vwCl ws H) (q0 : Nat) (he : ws[q0]? = some (a, .inr (3, fs))) (v : Value) (hv : fs[9]? = some v) (d : decode cc pc = .ok (.getfield 83, 3)) (kk : W p l e R s m args below meth c H locs cells slots Q (F0 m (pc + 3) ls (v :: rest))) : W p l e R s m args below meth c H locs cells slots Q (F0 m pc ls (.ref a :: rest)) := r_gf F uX3 rfl 9 (by decide) kf_X3_83 P q0 he v hv d kk
theorem pf_X3_83 (F : Fx p m c cc nL s args RX3 D cI cB) (B : Bx D A H0 ws H locs) (q0 : Nat) (ws' : va_W) (he : ws[q0]? = some (a, .inr (3, fs))) (hn : narrow (tyX3 9) v = v) (hfit : fits (tyX3 9) v = true) (hlen : 9 < fs.length) (hw : ws.set q0 (a, .inr (3, fs.set 9 v)) = ws') (d : decode cc pc = .ok (.putfield 83, 3)) (kk : ∀ (H : Heap) (locs : List Loc), Bx D A H0 ws' H locs → W p l e R s m args below meth c H locs cells slots Q (F0 m (pc + 3) ls rest)) : W p l e R s m args below meth c H locs cells slots Q (F0 m pc ls (v :: .ref a :: rest)) := r_pf F uX3 rfl tyX3_ok nmX3 9 (by decide) kf_X3_83 rfl B q0 ws' he hn hfit hlen hw d kk
theorem kf_X3_46 : Cond.fieldLink RX3 46 "HalfAsleep" "mostLeft" "[I" ∈ tb := tb_i 190 (by decide +kernel) rfl
theorem gf_X3_46 (F : Fx p m c cc nL s args RX3 D cI cB) (P : va_P D vwCl ws H) (q0 : Nat) (he : ws[q0]? = some (a, .inr (3, fs))) (v : Value) (hv : fs[10]? = some v) (d : decode cc pc = .ok (.getfield 46, 3)) (kk : W p l e R s m args below meth c H locs cells slots Q (F0 m (pc + 3) ls (v :: rest))) : W p l e R s m args below meth c H locs cells slots Q (F0 m pc ls (.ref a :: rest)) := r_gf F uX3 rfl 10 (by decide) kf_X3_46 P q0 he v hv d kk
theorem kf_X3_49 : Cond.fieldLink RX3 49 "HalfAsleep" "mostRight" "[I" ∈ tb := tb_i 191 (by decide +kernel) rfl
theorem gf_X3_49 (F : Fx p m c cc nL s args RX3 D cI cB) (P : va_P D vwCl ws H) (q0 : Nat) (he : ws[q0]? = some (a, .inr (3, fs))) (v : Value) (hv : fs[11]? = some v) (d : decode cc pc = .ok (.getfield 49, 3)) (kk : W p l e R s m args below meth c H locs cells slots Q (F0 m (pc + 3) ls (v :: rest))) : W p l e R s m args below meth c H locs cells slots Q (F0 m pc ls (.ref a :: rest)) := r_gf F uX3 rfl 11 (by decide) kf_X3_49 P q0 he v hv d kk
theorem kf_X4_7 : Cond.fieldLink RX4 7 "HalfAsleepModel" "text" "[I" ∈ tb := tb_i 514 (by decide +kernel) rfl
theorem gf_X4_7 (F : Fx p m c cc nL s args RX4 D cI cB) (P : va_P D vwCl ws H) (q0 : Nat) (he : ws[q0]? = some (a, .inr (4, fs))) (v : Value) (hv : fs[0]? = some v) (d : decode cc pc = .ok (.getfield 7, 3)) (kk : W p l e R s m args below meth c H locs cells slots Q (F0 m (pc + 3) ls (v :: rest))) : W p l e R s m args below meth c H locs cells slots Q (F0 m pc ls (.ref a :: rest)) := r_gf F uX4 rfl 0 (by decide) kf_X4_7 P q0 he v hv d kk
theorem kf_X4_44 : Cond.fieldLink RX4 44 "HalfAsleepModel" "length" "I" ∈ tb := tb_i 515 (by decide +kernel) rfl
theorem gf_X4_44 (F : Fx p m c cc nL s args RX4 D cI cB) (P : va_P D vwCl ws H) (q0 : Nat) (he : ws[q0]? = some (a, .inr (4, fs))) (v : Value) (hv : fs[1]? = some v) (d : decode cc pc = .ok (.getfield 44, 3)) (kk : W p l e R s m args below meth c H locs cells slots Q (F0 m (pc + 3) ls (v :: rest))) : W p l e R s m args below meth c H locs cells slots Q (F0 m pc ls (.ref a :: rest)) := r_gf F uX4 rfl 1 (by decide) kf_X4_44 P q0 he v hv d kk
theorem pf_X4_44 (F : Fx p m c cc nL s args RX4 D cI cB) (B : Bx D A H0 ws H locs) (q0 : Nat) (ws' : va_W) (he : ws[q0]? = some (a, .inr (4, fs))) (hn : narrow (tyX4 1) v = v) (hfit : fits (tyX4 1) v = true) (hlen : 1 < fs.length) (hw : ws.set q0 (a, .inr (4, fs.set 1 v)) = ws') (d : decode cc pc = .ok (.putfield 44, 3)) (kk : ∀ (H : Heap) (locs : List Loc), Bx D A H0 ws' H locs → W p l e R s m args below meth c H locs cells slots Q (F0 m (pc + 3) ls rest)) : W p l e R s m args below meth c H locs cells slots Q (F0 m pc ls (v :: .ref a :: rest)) := r_pf F uX4 rfl tyX4_ok nmX4 1 (by decide) kf_X4_44 rfl B q0 ws' he hn hfit hlen hw d kk
theorem kf_X4_13 : Cond.fieldLink RX4 13 "HalfAsleepModel" "book" "[I" ∈ tb := tb_i 516 (by decide +kernel) rfl
theorem gf_X4_13 (F : Fx p m c cc nL s args RX4 D cI cB) (P : va_P D vwCl ws H) (q0 : Nat) (he : ws[q0]? = some (a, .inr (4, fs))) (v : Value) (hv : fs[2]? = some v) (d : decode cc pc = .ok (.getfield 13, 3)) (kk : W p l e R s m args below meth c H locs cells slots Q (F0 m (pc + 3) ls (v :: rest))) : W p l e R s m args below meth c H locs cells slots Q (F0 m pc ls (.ref a :: rest)) := r_gf F uX4 rfl 2 (by decide) kf_X4_13 P q0 he v hv d kk
theorem kf_X4_16 : Cond.fieldLink RX4 16 "HalfAsleepModel" "draft" "[I" ∈ tb := tb_i 517 (by decide +kernel) rfl
theorem gf_X4_16 (F : Fx p m c cc nL s args RX4 D cI cB) (P : va_P D vwCl ws H) (q0 : Nat) (he : ws[q0]? = some (a, .inr (4, fs))) (v : Value) (hv : fs[3]? = some v) (d : decode cc pc = .ok (.getfield 16, 3)) (kk : W p l e R s m args below meth c H locs cells slots Q (F0 m (pc + 3) ls (v :: rest))) : W p l e R s m args below meth c H locs cells slots Q (F0 m pc ls (.ref a :: rest)) := r_gf F uX4 rfl 3 (by decide) kf_X4_16 P q0 he v hv d kk
theorem kf_X4_19 : Cond.fieldLink RX4 19 "HalfAsleepModel" "s" "[I" ∈ tb := tb_i 518 (by decide +kernel) rfl
theorem gf_X4_19 (F : Fx p m c cc nL s args RX4 D cI cB) (P : va_P D vwCl ws H) (q0 : Nat) (he : ws[q0]? = some (a, .inr (4, fs))) (v : Value) (hv : fs[4]? = some v) (d : decode cc pc = .ok (.getfield 19, 3)) (kk : W p l e R s m args below meth c H locs cells slots Q (F0 m (pc + 3) ls (v :: rest))) : W p l e R s m args below meth c H locs cells slots Q (F0 m pc ls (.ref a :: rest)) := r_gf F uX4 rfl 4 (by decide) kf_X4_19 P q0 he v hv d kk
theorem kf_X4_22 : Cond.fieldLink RX4 22 "HalfAsleepModel" "ahead" "[I" ∈ tb := tb_i 519 (by decide +kernel) rfl
theorem gf_X4_22 (F : Fx p m c cc nL s args RX4 D cI cB) (P : va_P D vwCl ws H) (q0 : Nat) (he : ws[q0]? = some (a, .inr (4, fs))) (v : Value) (hv : fs[5]? = some v) (d : decode cc pc = .ok (.getfield 22, 3)) (kk : W p l e R s m args below meth c H locs cells slots Q (F0 m (pc + 3) ls (v :: rest))) : W p l e R s m args below meth c H locs cells slots Q (F0 m pc ls (.ref a :: rest)) := r_gf F uX4 rfl 5 (by decide) kf_X4_22 P q0 he v hv d kk
theorem kf_X4_25 : Cond.fieldLink RX4 25 "HalfAsleepModel" "kept" "[I" ∈ tb := tb_i 520 (by decide +kernel) rfl
theorem gf_X4_25 (F : Fx p m c cc nL s args RX4 D cI cB) (P : va_P D vwCl ws H) (q0 : Nat) (he : ws[q0]? = some (a, .inr (4, fs))) (v : Value) (hv : fs[6]? = some v) (d : decode cc pc = .ok (.getfield 25, 3)) (kk : W p l e R s m args below meth c H locs cells slots Q (F0 m (pc + 3) ls (v :: rest))) : W p l e R s m args below meth c H locs cells slots Q (F0 m pc ls (.ref a :: rest)) := r_gf F uX4 rfl 6 (by decide) kf_X4_25 P q0 he v hv d kk
theorem kf_X4_96 : Cond.fieldLink RX4 96 "HalfAsleepModel" "keptMany" "I" ∈ tb := tb_i 521 (by decide +kernel) rfl
theorem gf_X4_96 (F : Fx p m c cc nL s args RX4 D cI cB) (P : va_P D vwCl ws H) (q0 : Nat) (he : ws[q0]? = some (a, .inr (4, fs))) (v : Value) (hv : fs[7]? = some v) (d : decode cc pc = .ok (.getfield 96, 3)) (kk : W p l e R s m args below meth c H locs cells slots Q (F0 m (pc + 3) ls (v :: rest))) : W p l e R s m args below meth c H locs cells slots Q (F0 m pc ls (.ref a :: rest)) := r_gf F uX4 rfl 7 (by decide) kf_X4_96 P q0 he v hv d kk
theorem pf_X4_96 (F : Fx p m c cc nL s args RX4 D cI cB) (B : Bx D A H0 ws H locs) (q0 : Nat) (ws' : va_W) (he : ws[q0]? = some (a, .inr (4, fs))) (hn : narrow (tyX4 7) v = v) (hfit : fits (tyX4 7) v = true) (hlen : 7 < fs.length) (hw : ws.set q0 (a, .inr (4, fs.set 7 v)) = ws') (d : decode cc pc = .ok (.putfield 96, 3)) (kk : ∀ (H : Heap) (locs : List Loc), Bx D A H0 ws' H locs → W p l e R s m args below meth c H locs cells slots Q (F0 m (pc + 3) ls rest)) : W p l e R s m args below meth c H locs cells slots Q (F0 m pc ls (v :: .ref a :: rest)) := r_pf F uX4 rfl tyX4_ok nmX4 7 (by decide) kf_X4_96 rfl B q0 ws' he hn hfit hlen hw d kk
theorem kf_X4_28 : Cond.fieldLink RX4 28 "HalfAsleepModel" "deedShift" "[I" ∈ tb := tb_i 522 (by decide +kernel) rfl
theorem gf_X4_28 (F : Fx p m c cc nL s args RX4 D cI cB) (P : va_P D vwCl ws H) (q0 : Nat) (he : ws[q0]? = some (a, .inr (4, fs))) (v : Value) (hv : fs[8]? = some v) (d : decode cc pc = .ok (.getfield 28, 3)) (kk : W p l e R s m args below meth c H locs cells slots Q (F0 m (pc + 3) ls (v :: rest))) : W p l e R s m args below meth c H locs cells slots Q (F0 m pc ls (.ref a :: rest)) := r_gf F uX4 rfl 8 (by decide) kf_X4_28 P q0 he v hv d kk
theorem kf_X4_31 : Cond.fieldLink RX4 31 "HalfAsleepModel" "deedFacts" "[I" ∈ tb := tb_i 523 (by decide +kernel) rfl
theorem gf_X4_31 (F : Fx p m c cc nL s args RX4 D cI cB) (P : va_P D vwCl ws H) (q0 : Nat) (he : ws[q0]? = some (a, .inr (4, fs))) (v : Value) (hv : fs[9]? = some v) (d : decode cc pc = .ok (.getfield 31, 3)) (kk : W p l e R s m args below meth c H locs cells slots Q (F0 m (pc + 3) ls (v :: rest))) : W p l e R s m args below meth c H locs cells slots Q (F0 m pc ls (.ref a :: rest)) := r_gf F uX4 rfl 9 (by decide) kf_X4_31 P q0 he v hv d kk
theorem kf_X4_34 : Cond.fieldLink RX4 34 "HalfAsleepModel" "can" "[I" ∈ tb := tb_i 524 (by decide +kernel) rfl
theorem gf_X4_34 (F : Fx p m c cc nL s args RX4 D cI cB) (P : va_P D vwCl ws H) (q0 : Nat) (he : ws[q0]? = some (a, .inr (4, fs))) (v : Value) (hv : fs[10]? = some v) (d : decode cc pc = .ok (.getfield 34, 3)) (kk : W p l e R s m args below meth c H locs cells slots Q (F0 m (pc + 3) ls (v :: rest))) : W p l e R s m args below meth c H locs cells slots Q (F0 m pc ls (.ref a :: rest)) := r_gf F uX4 rfl 10 (by decide) kf_X4_34 P q0 he v hv d kk
theorem kf_X4_93 : Cond.fieldLink RX4 93 "HalfAsleepModel" "deeds" "I" ∈ tb := tb_i 525 (by decide +kernel) rfl
theorem gf_X4_93 (F : Fx p m c cc nL s args RX4 D cI cB) (P : va_P D vwCl ws H) (q0 : Nat) (he : ws[q0]? = some (a, .inr (4, fs))) (v : Value) (hv : fs[11]? = some v) (d : decode cc pc = .ok (.getfield 93, 3)) (kk : W p l e R s m args below meth c H locs cells slots Q (F0 m (pc + 3) ls (v :: rest))) : W p l e R s m args below meth c H locs cells slots Q (F0 m pc ls (.ref a :: rest)) := r_gf F uX4 rfl 11 (by decide) kf_X4_93 P q0 he v hv d kk
theorem pf_X4_93 (F : Fx p m c cc nL s args RX4 D cI cB) (B : Bx D A H0 ws H locs) (q0 : Nat) (ws' : va_W) (he : ws[q0]? = some (a, .inr (4, fs))) (hn : narrow (tyX4 11) v = v) (hfit : fits (tyX4 11) v = true) (hlen : 11 < fs.length) (hw : ws.set q0 (a, .inr (4, fs.set 11 v)) = ws') (d : decode cc pc = .ok (.putfield 93, 3)) (kk : ∀ (H : Heap) (locs : List Loc), Bx D A H0 ws' H locs → W p l e R s m args below meth c H locs cells slots Q (F0 m (pc + 3) ls rest)) : W p l e R s m args below meth c H locs cells slots Q (F0 m pc ls (v :: .ref a :: rest)) := r_pf F uX4 rfl tyX4_ok nmX4 11 (by decide) kf_X4_93 rfl B q0 ws' he hn hfit hlen hw d kk
theorem kf_X4_50 : Cond.fieldLink RX4 50 "HalfAsleepModel" "at" "I" ∈ tb := tb_i 526 (by decide +kernel) rfl
theorem gf_X4_50 (F : Fx p m c cc nL s args RX4 D cI cB) (P : va_P D vwCl ws H) (q0 : Nat) (he : ws[q0]? = some (a, .inr (4, fs))) (v : Value) (hv : fs[12]? = some v) (d : decode cc pc = .ok (.getfield 50, 3)) (kk : W p l e R s m args below meth c H locs cells slots Q (F0 m (pc + 3) ls (v :: rest))) : W p l e R s m args below meth c H locs cells slots Q (F0 m pc ls (.ref a :: rest)) := r_gf F uX4 rfl 12 (by decide) kf_X4_50 P q0 he v hv d kk
theorem pf_X4_50 (F : Fx p m c cc nL s args RX4 D cI cB) (B : Bx D A H0 ws H locs) (q0 : Nat) (ws' : va_W) (he : ws[q0]? = some (a, .inr (4, fs))) (hn : narrow (tyX4 12) v = v) (hfit : fits (tyX4 12) v = true) (hlen : 12 < fs.length) (hw : ws.set q0 (a, .inr (4, fs.set 12 v)) = ws') (d : decode cc pc = .ok (.putfield 50, 3)) (kk : ∀ (H : Heap) (locs : List Loc), Bx D A H0 ws' H locs → W p l e R s m args below meth c H locs cells slots Q (F0 m (pc + 3) ls rest)) : W p l e R s m args below meth c H locs cells slots Q (F0 m pc ls (v :: .ref a :: rest)) := r_pf F uX4 rfl tyX4_ok nmX4 12 (by decide) kf_X4_50 rfl B q0 ws' he hn hfit hlen hw d kk
theorem kf_X4_37 : Cond.fieldLink RX4 37 "HalfAsleepModel" "told" "[I" ∈ tb := tb_i 527 (by decide +kernel) rfl
theorem gf_X4_37 (F : Fx p m c cc nL s args RX4 D cI cB) (P : va_P D vwCl ws H) (q0 : Nat) (he : ws[q0]? = some (a, .inr (4, fs))) (v : Value) (hv : fs[13]? = some v) (d : decode cc pc = .ok (.getfield 37, 3)) (kk : W p l e R s m args below meth c H locs cells slots Q (F0 m (pc + 3) ls (v :: rest))) : W p l e R s m args below meth c H locs cells slots Q (F0 m pc ls (.ref a :: rest)) := r_gf F uX4 rfl 13 (by decide) kf_X4_37 P q0 he v hv d kk
theorem kf_X3_68 : Cond.fieldLinkNest RX3 68 "HalfAsleep$Page" "length" "I" "HalfAsleep" ∈ nst := nst_i 66 (by decide +kernel) rfl
theorem gf_X3_68 (F : Fx p m c cc nL s args RX3 D cI cB) (P : va_P D vwCl ws H) (q0 : Nat) (he : ws[q0]? = some (a, .inr (0, fs))) (v : Value) (hv : fs[1]? = some v) (d : decode cc pc = .ok (.getfield 68, 3)) (kk : W p l e R s m args below meth c H locs cells slots Q (F0 m (pc + 3) ls (v :: rest))) : W p l e R s m args below meth c H locs cells slots Q (F0 m pc ls (.ref a :: rest)) := r_gfN F uX0 rfl 1 (by decide) kf_X3_68 P q0 he v hv d kk
theorem pf_X3_68 (F : Fx p m c cc nL s args RX3 D cI cB) (B : Bx D A H0 ws H locs) (q0 : Nat) (ws' : va_W) (he : ws[q0]? = some (a, .inr (0, fs))) (hn : narrow (tyX0 1) v = v) (hfit : fits (tyX0 1) v = true) (hlen : 1 < fs.length) (hw : ws.set q0 (a, .inr (0, fs.set 1 v)) = ws') (d : decode cc pc = .ok (.putfield 68, 3)) (kk : ∀ (H : Heap) (locs : List Loc), Bx D A H0 ws' H locs → W p l e R s m args below meth c H locs cells slots Q (F0 m (pc + 3) ls rest)) : W p l e R s m args below meth c H locs cells slots Q (F0 m pc ls (v :: .ref a :: rest)) := r_pfN F uX0 rfl tyX0_ok nmX0 1 (by decide) kf_X3_68 rfl B q0 ws' he hn hfit hlen hw d kk
theorem kf_X3_80 : Cond.fieldLinkNest RX3 80 "HalfAsleep$Town" "persons" "I" "HalfAsleep" ∈ nst := nst_i 91 (by decide +kernel) rfl
theorem gf_X3_80 (F : Fx p m c cc nL s args RX3 D cI cB) (P : va_P D vwCl ws H) (q0 : Nat) (he : ws[q0]? = some (a, .inr (2, fs))) (v : Value) (hv : fs[0]? = some v) (d : decode cc pc = .ok (.getfield 80, 3)) (kk : W p l e R s m args below meth c H locs cells slots Q (F0 m (pc + 3) ls (v :: rest))) : W p l e R s m args below meth c H locs cells slots Q (F0 m pc ls (.ref a :: rest)) := r_gfN F uX2 rfl 0 (by decide) kf_X3_80 P q0 he v hv d kk
theorem pf_X3_80 (F : Fx p m c cc nL s args RX3 D cI cB) (B : Bx D A H0 ws H locs) (q0 : Nat) (ws' : va_W) (he : ws[q0]? = some (a, .inr (2, fs))) (hn : narrow (tyX2 0) v = v) (hfit : fits (tyX2 0) v = true) (hlen : 0 < fs.length) (hw : ws.set q0 (a, .inr (2, fs.set 0 v)) = ws') (d : decode cc pc = .ok (.putfield 80, 3)) (kk : ∀ (H : Heap) (locs : List Loc), Bx D A H0 ws' H locs → W p l e R s m args below meth c H locs cells slots Q (F0 m (pc + 3) ls rest)) : W p l e R s m args below meth c H locs cells slots Q (F0 m pc ls (v :: .ref a :: rest)) := r_pfN F uX2 rfl tyX2_ok nmX2 0 (by decide) kf_X3_80 rfl B q0 ws' he hn hfit hlen hw d kk
theorem kf_X1_45 : Cond.fieldLinkNest RX1 45 "HalfAsleep$Town" "persons" "I" "HalfAsleep" ∈ nst := nst_i 92 (by decide +kernel) rfl
theorem gf_X1_45 (F : Fx p m c cc nL s args RX1 D cI cB) (P : va_P D vwCl ws H) (q0 : Nat) (he : ws[q0]? = some (a, .inr (2, fs))) (v : Value) (hv : fs[0]? = some v) (d : decode cc pc = .ok (.getfield 45, 3)) (kk : W p l e R s m args below meth c H locs cells slots Q (F0 m (pc + 3) ls (v :: rest))) : W p l e R s m args below meth c H locs cells slots Q (F0 m pc ls (.ref a :: rest)) := r_gfN F uX2 rfl 0 (by decide) kf_X1_45 P q0 he v hv d kk
theorem pf_X1_45 (F : Fx p m c cc nL s args RX1 D cI cB) (B : Bx D A H0 ws H locs) (q0 : Nat) (ws' : va_W) (he : ws[q0]? = some (a, .inr (2, fs))) (hn : narrow (tyX2 0) v = v) (hfit : fits (tyX2 0) v = true) (hlen : 0 < fs.length) (hw : ws.set q0 (a, .inr (2, fs.set 0 v)) = ws') (d : decode cc pc = .ok (.putfield 45, 3)) (kk : ∀ (H : Heap) (locs : List Loc), Bx D A H0 ws' H locs → W p l e R s m args below meth c H locs cells slots Q (F0 m (pc + 3) ls rest)) : W p l e R s m args below meth c H locs cells slots Q (F0 m pc ls (v :: .ref a :: rest)) := r_pfN F uX2 rfl tyX2_ok nmX2 0 (by decide) kf_X1_45 rfl B q0 ws' he hn hfit hlen hw d kk
theorem kf_X3_95 : Cond.fieldLinkNest RX3 95 "HalfAsleep$Town" "skills" "[I" "HalfAsleep" ∈ nst := nst_i 94 (by decide +kernel) rfl
theorem gf_X3_95 (F : Fx p m c cc nL s args RX3 D cI cB) (P : va_P D vwCl ws H) (q0 : Nat) (he : ws[q0]? = some (a, .inr (2, fs))) (v : Value) (hv : fs[1]? = some v) (d : decode cc pc = .ok (.getfield 95, 3)) (kk : W p l e R s m args below meth c H locs cells slots Q (F0 m (pc + 3) ls (v :: rest))) : W p l e R s m args below meth c H locs cells slots Q (F0 m pc ls (.ref a :: rest)) := r_gfN F uX2 rfl 1 (by decide) kf_X3_95 P q0 he v hv d kk
theorem kf_X1_22 : Cond.fieldLinkNest RX1 22 "HalfAsleep$Town" "knownFirst" "[I" "HalfAsleep" ∈ nst := nst_i 96 (by decide +kernel) rfl
theorem gf_X1_22 (F : Fx p m c cc nL s args RX1 D cI cB) (P : va_P D vwCl ws H) (q0 : Nat) (he : ws[q0]? = some (a, .inr (2, fs))) (v : Value) (hv : fs[2]? = some v) (d : decode cc pc = .ok (.getfield 22, 3)) (kk : W p l e R s m args below meth c H locs cells slots Q (F0 m (pc + 3) ls (v :: rest))) : W p l e R s m args below meth c H locs cells slots Q (F0 m pc ls (.ref a :: rest)) := r_gfN F uX2 rfl 2 (by decide) kf_X1_22 P q0 he v hv d kk
theorem kf_X3_183 : Cond.fieldLinkNest RX3 183 "HalfAsleep$Town" "trades" "I" "HalfAsleep" ∈ nst := nst_i 98 (by decide +kernel) rfl
theorem gf_X3_183 (F : Fx p m c cc nL s args RX3 D cI cB) (P : va_P D vwCl ws H) (q0 : Nat) (he : ws[q0]? = some (a, .inr (2, fs))) (v : Value) (hv : fs[3]? = some v) (d : decode cc pc = .ok (.getfield 183, 3)) (kk : W p l e R s m args below meth c H locs cells slots Q (F0 m (pc + 3) ls (v :: rest))) : W p l e R s m args below meth c H locs cells slots Q (F0 m pc ls (.ref a :: rest)) := r_gfN F uX2 rfl 3 (by decide) kf_X3_183 P q0 he v hv d kk
theorem pf_X3_183 (F : Fx p m c cc nL s args RX3 D cI cB) (B : Bx D A H0 ws H locs) (q0 : Nat) (ws' : va_W) (he : ws[q0]? = some (a, .inr (2, fs))) (hn : narrow (tyX2 3) v = v) (hfit : fits (tyX2 3) v = true) (hlen : 3 < fs.length) (hw : ws.set q0 (a, .inr (2, fs.set 3 v)) = ws') (d : decode cc pc = .ok (.putfield 183, 3)) (kk : ∀ (H : Heap) (locs : List Loc), Bx D A H0 ws' H locs → W p l e R s m args below meth c H locs cells slots Q (F0 m (pc + 3) ls rest)) : W p l e R s m args below meth c H locs cells slots Q (F0 m pc ls (v :: .ref a :: rest)) := r_pfN F uX2 rfl tyX2_ok nmX2 3 (by decide) kf_X3_183 rfl B q0 ws' he hn hfit hlen hw d kk
theorem kf_X3_186 : Cond.fieldLinkNest RX3 186 "HalfAsleep$Town" "pairs" "I" "HalfAsleep" ∈ nst := nst_i 103 (by decide +kernel) rfl
theorem gf_X3_186 (F : Fx p m c cc nL s args RX3 D cI cB) (P : va_P D vwCl ws H) (q0 : Nat) (he : ws[q0]? = some (a, .inr (2, fs))) (v : Value) (hv : fs[7]? = some v) (d : decode cc pc = .ok (.getfield 186, 3)) (kk : W p l e R s m args below meth c H locs cells slots Q (F0 m (pc + 3) ls (v :: rest))) : W p l e R s m args below meth c H locs cells slots Q (F0 m pc ls (.ref a :: rest)) := r_gfN F uX2 rfl 7 (by decide) kf_X3_186 P q0 he v hv d kk
theorem pf_X3_186 (F : Fx p m c cc nL s args RX3 D cI cB) (B : Bx D A H0 ws H locs) (q0 : Nat) (ws' : va_W) (he : ws[q0]? = some (a, .inr (2, fs))) (hn : narrow (tyX2 7) v = v) (hfit : fits (tyX2 7) v = true) (hlen : 7 < fs.length) (hw : ws.set q0 (a, .inr (2, fs.set 7 v)) = ws') (d : decode cc pc = .ok (.putfield 186, 3)) (kk : ∀ (H : Heap) (locs : List Loc), Bx D A H0 ws' H locs → W p l e R s m args below meth c H locs cells slots Q (F0 m (pc + 3) ls rest)) : W p l e R s m args below meth c H locs cells slots Q (F0 m pc ls (v :: .ref a :: rest)) := r_pfN F uX2 rfl tyX2_ok nmX2 7 (by decide) kf_X3_186 rfl B q0 ws' he hn hfit hlen hw d kk
theorem kf_X3_189 : Cond.fieldLinkNest RX3 189 "HalfAsleep$Town" "stepsPerShift" "I" "HalfAsleep" ∈ nst := nst_i 106 (by decide +kernel) rfl
theorem gf_X3_189 (F : Fx p m c cc nL s args RX3 D cI cB) (P : va_P D vwCl ws H) (q0 : Nat) (he : ws[q0]? = some (a, .inr (2, fs))) (v : Value) (hv : fs[9]? = some v) (d : decode cc pc = .ok (.getfield 189, 3)) (kk : W p l e R s m args below meth c H locs cells slots Q (F0 m (pc + 3) ls (v :: rest))) : W p l e R s m args below meth c H locs cells slots Q (F0 m pc ls (.ref a :: rest)) := r_gfN F uX2 rfl 9 (by decide) kf_X3_189 P q0 he v hv d kk
theorem pf_X3_189 (F : Fx p m c cc nL s args RX3 D cI cB) (B : Bx D A H0 ws H locs) (q0 : Nat) (ws' : va_W) (he : ws[q0]? = some (a, .inr (2, fs))) (hn : narrow (tyX2 9) v = v) (hfit : fits (tyX2 9) v = true) (hlen : 9 < fs.length) (hw : ws.set q0 (a, .inr (2, fs.set 9 v)) = ws') (d : decode cc pc = .ok (.putfield 189, 3)) (kk : ∀ (H : Heap) (locs : List Loc), Bx D A H0 ws' H locs → W p l e R s m args below meth c H locs cells slots Q (F0 m (pc + 3) ls rest)) : W p l e R s m args below meth c H locs cells slots Q (F0 m pc ls (v :: .ref a :: rest)) := r_pfN F uX2 rfl tyX2_ok nmX2 9 (by decide) kf_X3_189 rfl B q0 ws' he hn hfit hlen hw d kk
theorem kf_X1_48 : Cond.fieldLinkNest RX1 48 "HalfAsleep$Town" "factsTold" "I" "HalfAsleep" ∈ nst := nst_i 108 (by decide +kernel) rfl
theorem gf_X1_48 (F : Fx p m c cc nL s args RX1 D cI cB) (P : va_P D vwCl ws H) (q0 : Nat) (he : ws[q0]? = some (a, .inr (2, fs))) (v : Value) (hv : fs[10]? = some v) (d : decode cc pc = .ok (.getfield 48, 3)) (kk : W p l e R s m args below meth c H locs cells slots Q (F0 m (pc + 3) ls (v :: rest))) : W p l e R s m args below meth c H locs cells slots Q (F0 m pc ls (.ref a :: rest)) := r_gfN F uX2 rfl 10 (by decide) kf_X1_48 P q0 he v hv d kk
theorem pf_X1_48 (F : Fx p m c cc nL s args RX1 D cI cB) (B : Bx D A H0 ws H locs) (q0 : Nat) (ws' : va_W) (he : ws[q0]? = some (a, .inr (2, fs))) (hn : narrow (tyX2 10) v = v) (hfit : fits (tyX2 10) v = true) (hlen : 10 < fs.length) (hw : ws.set q0 (a, .inr (2, fs.set 10 v)) = ws') (d : decode cc pc = .ok (.putfield 48, 3)) (kk : ∀ (H : Heap) (locs : List Loc), Bx D A H0 ws' H locs → W p l e R s m args below meth c H locs cells slots Q (F0 m (pc + 3) ls rest)) : W p l e R s m args below meth c H locs cells slots Q (F0 m pc ls (v :: .ref a :: rest)) := r_pfN F uX2 rfl tyX2_ok nmX2 10 (by decide) kf_X1_48 rfl B q0 ws' he hn hfit hlen hw d kk
theorem kf_X3_192 : Cond.fieldLinkNest RX3 192 "HalfAsleep$Town" "factsTold" "I" "HalfAsleep" ∈ nst := nst_i 109 (by decide +kernel) rfl
theorem gf_X3_192 (F : Fx p m c cc nL s args RX3 D cI cB) (P : va_P D vwCl ws H) (q0 : Nat) (he : ws[q0]? = some (a, .inr (2, fs))) (v : Value) (hv : fs[10]? = some v) (d : decode cc pc = .ok (.getfield 192, 3)) (kk : W p l e R s m args below meth c H locs cells slots Q (F0 m (pc + 3) ls (v :: rest))) : W p l e R s m args below meth c H locs cells slots Q (F0 m pc ls (.ref a :: rest)) := r_gfN F uX2 rfl 10 (by decide) kf_X3_192 P q0 he v hv d kk
theorem pf_X3_192 (F : Fx p m c cc nL s args RX3 D cI cB) (B : Bx D A H0 ws H locs) (q0 : Nat) (ws' : va_W) (he : ws[q0]? = some (a, .inr (2, fs))) (hn : narrow (tyX2 10) v = v) (hfit : fits (tyX2 10) v = true) (hlen : 10 < fs.length) (hw : ws.set q0 (a, .inr (2, fs.set 10 v)) = ws') (d : decode cc pc = .ok (.putfield 192, 3)) (kk : ∀ (H : Heap) (locs : List Loc), Bx D A H0 ws' H locs → W p l e R s m args below meth c H locs cells slots Q (F0 m (pc + 3) ls rest)) : W p l e R s m args below meth c H locs cells slots Q (F0 m pc ls (v :: .ref a :: rest)) := r_pfN F uX2 rfl tyX2_ok nmX2 10 (by decide) kf_X3_192 rfl B q0 ws' he hn hfit hlen hw d kk
theorem kf_X3_125 : Cond.fieldLinkNest RX3 125 "HalfAsleep$Standing" "shift" "I" "HalfAsleep" ∈ nst := nst_i 149 (by decide +kernel) rfl
theorem gf_X3_125 (F : Fx p m c cc nL s args RX3 D cI cB) (P : va_P D vwCl ws H) (q0 : Nat) (he : ws[q0]? = some (a, .inr (1, fs))) (v : Value) (hv : fs[0]? = some v) (d : decode cc pc = .ok (.getfield 125, 3)) (kk : W p l e R s m args below meth c H locs cells slots Q (F0 m (pc + 3) ls (v :: rest))) : W p l e R s m args below meth c H locs cells slots Q (F0 m pc ls (.ref a :: rest)) := r_gfN F uX1 rfl 0 (by decide) kf_X3_125 P q0 he v hv d kk
theorem pf_X3_125 (F : Fx p m c cc nL s args RX3 D cI cB) (B : Bx D A H0 ws H locs) (q0 : Nat) (ws' : va_W) (he : ws[q0]? = some (a, .inr (1, fs))) (hn : narrow (tyX1 0) v = v) (hfit : fits (tyX1 0) v = true) (hlen : 0 < fs.length) (hw : ws.set q0 (a, .inr (1, fs.set 0 v)) = ws') (d : decode cc pc = .ok (.putfield 125, 3)) (kk : ∀ (H : Heap) (locs : List Loc), Bx D A H0 ws' H locs → W p l e R s m args below meth c H locs cells slots Q (F0 m (pc + 3) ls rest)) : W p l e R s m args below meth c H locs cells slots Q (F0 m pc ls (v :: .ref a :: rest)) := r_pfN F uX1 rfl tyX1_ok nmX1 0 (by decide) kf_X3_125 rfl B q0 ws' he hn hfit hlen hw d kk
theorem kf_X3_98 : Cond.fieldLinkNest RX3 98 "HalfAsleep$Standing" "known" "[I" "HalfAsleep" ∈ nst := nst_i 151 (by decide +kernel) rfl
theorem gf_X3_98 (F : Fx p m c cc nL s args RX3 D cI cB) (P : va_P D vwCl ws H) (q0 : Nat) (he : ws[q0]? = some (a, .inr (1, fs))) (v : Value) (hv : fs[1]? = some v) (d : decode cc pc = .ok (.getfield 98, 3)) (kk : W p l e R s m args below meth c H locs cells slots Q (F0 m (pc + 3) ls (v :: rest))) : W p l e R s m args below meth c H locs cells slots Q (F0 m pc ls (.ref a :: rest)) := r_gfN F uX1 rfl 1 (by decide) kf_X3_98 P q0 he v hv d kk
theorem kf_X3_105 : Cond.fieldLinkNest RX3 105 "HalfAsleep$Standing" "hung" "[I" "HalfAsleep" ∈ nst := nst_i 153 (by decide +kernel) rfl
theorem gf_X3_105 (F : Fx p m c cc nL s args RX3 D cI cB) (P : va_P D vwCl ws H) (q0 : Nat) (he : ws[q0]? = some (a, .inr (1, fs))) (v : Value) (hv : fs[2]? = some v) (d : decode cc pc = .ok (.getfield 105, 3)) (kk : W p l e R s m args below meth c H locs cells slots Q (F0 m (pc + 3) ls (v :: rest))) : W p l e R s m args below meth c H locs cells slots Q (F0 m pc ls (.ref a :: rest)) := r_gfN F uX1 rfl 2 (by decide) kf_X3_105 P q0 he v hv d kk
end Links
theorem kl_L_7 : Cond.classLink RL 7 RX3 ∈ tb := tb_i 50 (by decide +kernel) rfl
theorem kl_X3_9 : Cond.classLink RX3 9 RX0 ∈ tb := tb_i 58 (by decide +kernel) rfl
theorem kl_X3_16 : Cond.classLink RX3 16 RX2 ∈ tb := tb_i 80 (by decide +kernel) rfl
theorem kl_X3_26 : Cond.classLink RX3 26 RX1 ∈ tb := tb_i 142 (by decide +kernel) rfl
theorem kl_L_10 : Cond.classLink RL 10 RX4 ∈ tb := tb_i 508 (by decide +kernel) rfl
theorem kb_X3 : Cond.instantiable RX3 12 ∈ tb := tb_i 51 (by decide +kernel) rfl
theorem kb_X0 : Cond.instantiable RX0 4 ∈ tb := tb_i 59 (by decide +kernel) rfl
theorem kb_X2 : Cond.instantiable RX2 14 ∈ tb := tb_i 81 (by decide +kernel) rfl
theorem kb_X1 : Cond.instantiable RX1 3 ∈ tb := tb_i 143 (by decide +kernel) rfl
theorem kb_X4 : Cond.instantiable RX4 14 ∈ tb := tb_i 509 (by decide +kernel) rfl
