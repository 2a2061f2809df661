theorem iX0 : ∀ w ∈ wsX00, w ∈ TB := fun w h => List.mem_filter.mpr ⟨(by decide +kernel : ∀ w ∈ wsX00, w ∈ lw_tbl) w h, (by decide +kernel : ∀ w ∈ wsX00, goodWord w = true) w h⟩
theorem iX1 : ∀ w ∈ wsX10, w ∈ TB := fun w h => List.mem_filter.mpr ⟨(by decide +kernel : ∀ w ∈ wsX10, w ∈ lw_tbl) w h, (by decide +kernel : ∀ w ∈ wsX10, goodWord w = true) w h⟩
theorem iX2 : ∀ w ∈ wsX20, w ∈ TB := fun w h => List.mem_filter.mpr ⟨(by decide +kernel : ∀ w ∈ wsX20, w ∈ lw_tbl) w h, (by decide +kernel : ∀ w ∈ wsX20, goodWord w = true) w h⟩
theorem iX3 : ∀ w ∈ wsX30, w ∈ TB := fun w h => List.mem_filter.mpr ⟨(by decide +kernel : ∀ w ∈ wsX30, w ∈ lw_tbl) w h, (by decide +kernel : ∀ w ∈ wsX30, goodWord w = true) w h⟩
theorem kw_48 : Cond.fieldLink RX0 9 "TapeMachine$Reader" "tape" "[I" ∈ TB := tb_mk 48 (by decide +kernel) (by decide +kernel)
theorem kw_49 : Cond.fieldLink RX0 15 "TapeMachine$Reader" "fed" "I" ∈ TB := tb_mk 49 (by decide +kernel) (by decide +kernel)
theorem kw_50 : Cond.fieldLink RX0 19 "TapeMachine$Reader" "taken" "I" ∈ TB := tb_mk 50 (by decide +kernel) (by decide +kernel)
theorem kw_51 : Cond.fieldLink RX0 26 "TapeMachine$Reader" "buffer" "I" ∈ TB := tb_mk 51 (by decide +kernel) (by decide +kernel)
theorem kw_52 : Cond.fieldLinkNest RX2 79 "TapeMachine$Reader" "buffer" "I" "TapeMachine" ∈ NL := nl_mk 52 (by decide +kernel) (by decide +kernel)
theorem kw_53 : Cond.fieldLink RX0 22 "TapeMachine$Reader" "flag" "Z" ∈ TB := tb_mk 53 (by decide +kernel) (by decide +kernel)
theorem kw_54 : Cond.fieldLinkNest RX2 76 "TapeMachine$Reader" "flag" "Z" "TapeMachine" ∈ NL := nl_mk 54 (by decide +kernel) (by decide +kernel)
theorem kw_73 : Cond.fieldLink RX1 9 "TapeMachine$Recent" "row" "[I" ∈ TB := tb_mk 73 (by decide +kernel) (by decide +kernel)
theorem kw_74 : Cond.fieldLink RX1 15 "TapeMachine$Recent" "count" "I" ∈ TB := tb_mk 74 (by decide +kernel) (by decide +kernel)
theorem kw_75 : Cond.fieldLinkNest RX2 91 "TapeMachine$Recent" "count" "I" "TapeMachine" ∈ NL := nl_mk 75 (by decide +kernel) (by decide +kernel)
theorem kw_81 : Cond.fieldLink RX2 9 "TapeMachine" "core" "[I" ∈ TB := tb_mk 81 (by decide +kernel) (by decide +kernel)
theorem kw_82 : Cond.fieldLink RX2 16 "TapeMachine" "reader" "LTapeMachine$Reader;" ∈ TB := tb_mk 82 (by decide +kernel) (by decide +kernel)
theorem kw_83 : Cond.fieldLink RX2 23 "TapeMachine" "prints" "LTapeMachine$Recent;" ∈ TB := tb_mk 83 (by decide +kernel) (by decide +kernel)
theorem kw_84 : Cond.fieldLink RX2 27 "TapeMachine" "steps" "LTapeMachine$Recent;" ∈ TB := tb_mk 84 (by decide +kernel) (by decide +kernel)
theorem kw_85 : Cond.fieldLink RX2 49 "TapeMachine" "ac" "I" ∈ TB := tb_mk 85 (by decide +kernel) (by decide +kernel)
theorem kw_86 : Cond.fieldLink RX2 53 "TapeMachine" "link" "I" ∈ TB := tb_mk 86 (by decide +kernel) (by decide +kernel)
theorem kw_87 : Cond.fieldLink RX2 56 "TapeMachine" "pc" "I" ∈ TB := tb_mk 87 (by decide +kernel) (by decide +kernel)
theorem kw_88 : Cond.fieldLink RX2 59 "TapeMachine" "mq" "I" ∈ TB := tb_mk 88 (by decide +kernel) (by decide +kernel)
theorem kw_89 : Cond.fieldLink RX2 62 "TapeMachine" "sr" "I" ∈ TB := tb_mk 89 (by decide +kernel) (by decide +kernel)
theorem kw_90 : Cond.fieldLink RX2 85 "TapeMachine" "halted" "Z" ∈ TB := tb_mk 90 (by decide +kernel) (by decide +kernel)
theorem kw_91 : Cond.fieldLink RX2 65 "TapeMachine" "ion" "Z" ∈ TB := tb_mk 91 (by decide +kernel) (by decide +kernel)
theorem kw_92 : Cond.fieldLink RX2 73 "TapeMachine" "delay" "Z" ∈ TB := tb_mk 92 (by decide +kernel) (by decide +kernel)
theorem kw_93 : Cond.fieldLink RX2 82 "TapeMachine" "printerFlag" "Z" ∈ TB := tb_mk 93 (by decide +kernel) (by decide +kernel)
theorem kw_94 : Cond.fieldLink RX2 97 "TapeMachine" "interruptCount" "I" ∈ TB := tb_mk 94 (by decide +kernel) (by decide +kernel)
theorem kw_95 : Cond.fieldLink RX2 100 "TapeMachine" "skipCount" "I" ∈ TB := tb_mk 95 (by decide +kernel) (by decide +kernel)
theorem kw_269 : Cond.fieldLink RX3 7 "TapeMachineModel" "core" "[I" ∈ TB := tb_mk 269 (by decide +kernel) (by decide +kernel)
theorem kw_270 : Cond.fieldLink RX3 13 "TapeMachineModel" "\x72" "[I" ∈ TB := tb_mk 270 (by decide +kernel) (by decide +kernel)
theorem kw_271 : Cond.fieldLink RX3 16 "TapeMachineModel" "tape" "[I" ∈ TB := tb_mk 271 (by decide +kernel) (by decide +kernel)
theorem kw_272 : Cond.fieldLink RX3 19 "TapeMachineModel" "out" "[I" ∈ TB := tb_mk 272 (by decide +kernel) (by decide +kernel)
theorem kw_273 : Cond.fieldLink RX3 22 "TapeMachineModel" "places" "[I" ∈ TB := tb_mk 273 (by decide +kernel) (by decide +kernel)
theorem kw_274 : Cond.fieldLink RX3 25 "TapeMachineModel" "fed" "I" ∈ TB := tb_mk 274 (by decide +kernel) (by decide +kernel)
theorem kw_275 : Cond.fieldLink RX3 29 "TapeMachineModel" "read" "I" ∈ TB := tb_mk 275 (by decide +kernel) (by decide +kernel)
theorem kw_276 : Cond.fieldLink RX3 79 "TapeMachineModel" "printed" "I" ∈ TB := tb_mk 276 (by decide +kernel) (by decide +kernel)
theorem kw_277 : Cond.fieldLink RX3 42 "TapeMachineModel" "steps" "I" ∈ TB := tb_mk 277 (by decide +kernel) (by decide +kernel)
theorem kw_278 : Cond.fieldLink RX3 39 "TapeMachineModel" "interrupts" "I" ∈ TB := tb_mk 278 (by decide +kernel) (by decide +kernel)
theorem kw_279 : Cond.fieldLink RX3 36 "TapeMachineModel" "skips" "I" ∈ TB := tb_mk 279 (by decide +kernel) (by decide +kernel)
theorem kw_36 : Cond.methodLink RL 9 yX2_init ∈ TB := tb_mk 36 (by decide +kernel) (by decide +kernel)
theorem hi_X2_init : HD yX2_init 0 := by decide +kernel
theorem kw_37 : Cond.instanceMethod yX2_init ∈ TB := tb_mk 37 (by decide +kernel) (by decide +kernel)
theorem kw_30 : Cond.initialized RX2 ∈ TB := tb_mk 30 (by decide +kernel) (by decide +kernel)
theorem kw_38 : Cond.code yX2_init cX2_init 1 none ∈ TB := tb_mk 38 rfl (by decide +kernel)
theorem kw_44 : Cond.methodLinkNest RX2 15 yX0_init "TapeMachine" ∈ NL := nl_mk 44 (by decide +kernel) (by decide +kernel)
theorem hi_X0_init : HD yX0_init 0 := by decide +kernel
theorem kw_45 : Cond.instanceMethod yX0_init ∈ TB := tb_mk 45 (by decide +kernel) (by decide +kernel)
theorem kw_31 : Cond.initialized RX0 ∈ TB := tb_mk 31 (by decide +kernel) (by decide +kernel)
theorem kw_46 : Cond.code yX0_init cX0_init 1 none ∈ TB := tb_mk 46 rfl (by decide +kernel)
theorem kw_69 : Cond.methodLinkNest RX2 22 yX1_init "TapeMachine" ∈ NL := nl_mk 69 (by decide +kernel) (by decide +kernel)
theorem hi_X1_init : HD yX1_init 0 := by decide +kernel
theorem kw_70 : Cond.instanceMethod yX1_init ∈ TB := tb_mk 70 (by decide +kernel) (by decide +kernel)
theorem kw_32 : Cond.initialized RX1 ∈ TB := tb_mk 32 (by decide +kernel) (by decide +kernel)
theorem kw_71 : Cond.code yX1_init cX1_init 1 none ∈ TB := tb_mk 71 rfl (by decide +kernel)
theorem kw_127 : Cond.methodLink RL 13 yX2_feed ∈ TB := tb_mk 127 (by decide +kernel) (by decide +kernel)
theorem kw_128 : Cond.instanceMethod yX2_feed ∈ TB := tb_mk 128 (by decide +kernel) (by decide +kernel)
theorem kw_129 : Cond.selects RX2 yX2_feed yX2_feed ∈ TB := tb_mk 129 (by decide +kernel) (by decide +kernel)
theorem kw_130 : Cond.code yX2_feed cX2_feed 2 (some .boolean) ∈ TB := tb_mk 130 rfl (by decide +kernel)
theorem k_L_13 : WV RL 13 RX2 yX2_feed (Cond.code yX2_feed cX2_feed 2 (some .boolean)) := ⟨kw_127, kw_128, kw_129, kw_30, kw_130⟩
theorem hd_X2_feed : yX2_feed.cls = RX2 ∧ HD yX2_feed 1 := ⟨rfl, by decide +kernel⟩
theorem kw_131 : Cond.methodLinkNest RX2 30 yX0_append "TapeMachine" ∈ NL := nl_mk 131 (by decide +kernel) (by decide +kernel)
theorem kw_133 : Cond.instanceMethod yX0_append ∈ TB := tb_mk 133 (by decide +kernel) (by decide +kernel)
theorem kw_0 : Cond.selects RX0 yX0_append yX0_append ∈ TB := tb_mk 0 (by decide +kernel) (by decide +kernel)
theorem kw_134 : Cond.code yX0_append cX0_append 2 (some .boolean) ∈ TB := tb_mk 134 rfl (by decide +kernel)
theorem k_X2_30 : WN RX2 30 RX0 yX0_append (Cond.code yX0_append cX0_append 2 (some .boolean)) "TapeMachine" := ⟨kw_131, kw_133, kw_0, kw_31, kw_134⟩
theorem hd_X0_append : HD yX0_append 1 := by decide +kernel
theorem kw_135 : Cond.methodLink RL 18 yX2_waiting ∈ TB := tb_mk 135 (by decide +kernel) (by decide +kernel)
theorem kw_136 : Cond.instanceMethod yX2_waiting ∈ TB := tb_mk 136 (by decide +kernel) (by decide +kernel)
theorem kw_137 : Cond.selects RX2 yX2_waiting yX2_waiting ∈ TB := tb_mk 137 (by decide +kernel) (by decide +kernel)
theorem kw_138 : Cond.code yX2_waiting cX2_waiting 1 (some .int) ∈ TB := tb_mk 138 rfl (by decide +kernel)
theorem k_L_18 : WV RL 18 RX2 yX2_waiting (Cond.code yX2_waiting cX2_waiting 1 (some .int)) := ⟨kw_135, kw_136, kw_137, kw_30, kw_138⟩
theorem hd_X2_waiting : yX2_waiting.cls = RX2 ∧ HD yX2_waiting 0 := ⟨rfl, by decide +kernel⟩
theorem kw_139 : Cond.methodLinkNest RX2 34 yX0_unread "TapeMachine" ∈ NL := nl_mk 139 (by decide +kernel) (by decide +kernel)
theorem kw_141 : Cond.instanceMethod yX0_unread ∈ TB := tb_mk 141 (by decide +kernel) (by decide +kernel)
theorem kw_1 : Cond.selects RX0 yX0_unread yX0_unread ∈ TB := tb_mk 1 (by decide +kernel) (by decide +kernel)
theorem kw_142 : Cond.code yX0_unread cX0_unread 1 (some .int) ∈ TB := tb_mk 142 rfl (by decide +kernel)
theorem k_X2_34 : WN RX2 34 RX0 yX0_unread (Cond.code yX0_unread cX0_unread 1 (some .int)) "TapeMachine" := ⟨kw_139, kw_141, kw_1, kw_31, kw_142⟩
theorem hd_X0_unread : HD yX0_unread 0 := by decide +kernel
theorem kw_143 : Cond.methodLink RL 23 yX2_poke ∈ TB := tb_mk 143 (by decide +kernel) (by decide +kernel)
theorem kw_144 : Cond.instanceMethod yX2_poke ∈ TB := tb_mk 144 (by decide +kernel) (by decide +kernel)
theorem kw_145 : Cond.selects RX2 yX2_poke yX2_poke ∈ TB := tb_mk 145 (by decide +kernel) (by decide +kernel)
theorem kw_146 : Cond.code yX2_poke cX2_poke 4 (some .int) ∈ TB := tb_mk 146 rfl (by decide +kernel)
theorem k_L_23 : WV RL 23 RX2 yX2_poke (Cond.code yX2_poke cX2_poke 4 (some .int)) := ⟨kw_143, kw_144, kw_145, kw_30, kw_146⟩
theorem hd_X2_poke : yX2_poke.cls = RX2 ∧ HD yX2_poke 2 := ⟨rfl, by decide +kernel⟩
theorem kw_147 : Cond.methodLink RX2 38 yX2_isAddress ∈ TB := tb_mk 147 (by decide +kernel) (by decide +kernel)
theorem kw_148 : Cond.static yX2_isAddress ∈ TB := tb_mk 148 (by decide +kernel) (by decide +kernel)
theorem kw_149 : Cond.code yX2_isAddress cX2_isAddress 1 (some .boolean) ∈ TB := tb_mk 149 rfl (by decide +kernel)
theorem k_X2_38 : WS RX2 38 yX2_isAddress (Cond.code yX2_isAddress cX2_isAddress 1 (some .boolean)) := ⟨kw_147, kw_148, kw_30, kw_149⟩
theorem hd_X2_isAddress : yX2_isAddress.cls = RX2 ∧ HD yX2_isAddress 1 := ⟨rfl, by decide +kernel⟩
theorem kw_150 : Cond.methodLink RX2 41 yX2_wordAt ∈ TB := tb_mk 150 (by decide +kernel) (by decide +kernel)
theorem kw_152 : Cond.instanceMethod yX2_wordAt ∈ TB := tb_mk 152 (by decide +kernel) (by decide +kernel)
theorem kw_2 : Cond.selects RX2 yX2_wordAt yX2_wordAt ∈ TB := tb_mk 2 (by decide +kernel) (by decide +kernel)
theorem kw_153 : Cond.code yX2_wordAt cX2_wordAt 2 (some .int) ∈ TB := tb_mk 153 rfl (by decide +kernel)
theorem k_X2_41 : WV RX2 41 RX2 yX2_wordAt (Cond.code yX2_wordAt cX2_wordAt 2 (some .int)) := ⟨kw_150, kw_152, kw_2, kw_30, kw_153⟩
theorem hd_X2_wordAt : yX2_wordAt.cls = RX2 ∧ HD yX2_wordAt 1 := ⟨rfl, by decide +kernel⟩
theorem kw_154 : Cond.methodLink RX2 45 yX2_putWord ∈ TB := tb_mk 154 (by decide +kernel) (by decide +kernel)
theorem kw_156 : Cond.instanceMethod yX2_putWord ∈ TB := tb_mk 156 (by decide +kernel) (by decide +kernel)
theorem kw_3 : Cond.selects RX2 yX2_putWord yX2_putWord ∈ TB := tb_mk 3 (by decide +kernel) (by decide +kernel)
theorem kw_157 : Cond.code yX2_putWord cX2_putWord 3 none ∈ TB := tb_mk 157 rfl (by decide +kernel)
theorem k_X2_45 : WV RX2 45 RX2 yX2_putWord (Cond.code yX2_putWord cX2_putWord 3 none) := ⟨kw_154, kw_156, kw_3, kw_30, kw_157⟩
theorem hd_X2_putWord : yX2_putWord.cls = RX2 ∧ HD yX2_putWord 2 := ⟨rfl, by decide +kernel⟩
theorem kw_158 : Cond.methodLink RL 28 yX2_peek ∈ TB := tb_mk 158 (by decide +kernel) (by decide +kernel)
theorem kw_159 : Cond.instanceMethod yX2_peek ∈ TB := tb_mk 159 (by decide +kernel) (by decide +kernel)
theorem kw_160 : Cond.selects RX2 yX2_peek yX2_peek ∈ TB := tb_mk 160 (by decide +kernel) (by decide +kernel)
theorem kw_161 : Cond.code yX2_peek cX2_peek 2 (some .int) ∈ TB := tb_mk 161 rfl (by decide +kernel)
theorem k_L_28 : WV RL 28 RX2 yX2_peek (Cond.code yX2_peek cX2_peek 2 (some .int)) := ⟨kw_158, kw_159, kw_160, kw_30, kw_161⟩
theorem hd_X2_peek : yX2_peek.cls = RX2 ∧ HD yX2_peek 1 := ⟨rfl, by decide +kernel⟩
theorem kw_162 : Cond.methodLink RL 33 yX2_set ∈ TB := tb_mk 162 (by decide +kernel) (by decide +kernel)
theorem kw_163 : Cond.instanceMethod yX2_set ∈ TB := tb_mk 163 (by decide +kernel) (by decide +kernel)
theorem kw_164 : Cond.selects RX2 yX2_set yX2_set ∈ TB := tb_mk 164 (by decide +kernel) (by decide +kernel)
theorem kw_165 : Cond.code yX2_set cX2_set 3 (some .boolean) ∈ TB := tb_mk 165 rfl (by decide +kernel)
theorem k_L_33 : WV RL 33 RX2 yX2_set (Cond.code yX2_set cX2_set 3 (some .boolean)) := ⟨kw_162, kw_163, kw_164, kw_30, kw_165⟩
theorem hd_X2_set : yX2_set.cls = RX2 ∧ HD yX2_set 2 := ⟨rfl, by decide +kernel⟩
theorem kw_166 : Cond.methodLink RL 38 yX2_register ∈ TB := tb_mk 166 (by decide +kernel) (by decide +kernel)
theorem kw_167 : Cond.instanceMethod yX2_register ∈ TB := tb_mk 167 (by decide +kernel) (by decide +kernel)
theorem kw_168 : Cond.selects RX2 yX2_register yX2_register ∈ TB := tb_mk 168 (by decide +kernel) (by decide +kernel)
theorem kw_169 : Cond.code yX2_register cX2_register 2 (some .int) ∈ TB := tb_mk 169 rfl (by decide +kernel)
theorem k_L_38 : WV RL 38 RX2 yX2_register (Cond.code yX2_register cX2_register 2 (some .int)) := ⟨kw_166, kw_167, kw_168, kw_30, kw_169⟩
theorem hd_X2_register : yX2_register.cls = RX2 ∧ HD yX2_register 1 := ⟨rfl, by decide +kernel⟩
theorem kw_170 : Cond.methodLink RX2 69 yX2_bit ∈ TB := tb_mk 170 (by decide +kernel) (by decide +kernel)
theorem kw_171 : Cond.static yX2_bit ∈ TB := tb_mk 171 (by decide +kernel) (by decide +kernel)
theorem kw_172 : Cond.code yX2_bit cX2_bit 1 (some .int) ∈ TB := tb_mk 172 rfl (by decide +kernel)
theorem k_X2_69 : WS RX2 69 yX2_bit (Cond.code yX2_bit cX2_bit 1 (some .int)) := ⟨kw_170, kw_171, kw_30, kw_172⟩
theorem hd_X2_bit : yX2_bit.cls = RX2 ∧ HD yX2_bit 1 := ⟨rfl, by decide +kernel⟩
theorem kw_173 : Cond.methodLink RL 42 yX2_go ∈ TB := tb_mk 173 (by decide +kernel) (by decide +kernel)
theorem kw_174 : Cond.instanceMethod yX2_go ∈ TB := tb_mk 174 (by decide +kernel) (by decide +kernel)
theorem kw_175 : Cond.selects RX2 yX2_go yX2_go ∈ TB := tb_mk 175 (by decide +kernel) (by decide +kernel)
theorem kw_176 : Cond.code yX2_go cX2_go 2 (some .boolean) ∈ TB := tb_mk 176 rfl (by decide +kernel)
theorem k_L_42 : WV RL 42 RX2 yX2_go (Cond.code yX2_go cX2_go 2 (some .boolean)) := ⟨kw_173, kw_174, kw_175, kw_30, kw_176⟩
theorem hd_X2_go : yX2_go.cls = RX2 ∧ HD yX2_go 0 := ⟨rfl, by decide +kernel⟩
theorem kw_177 : Cond.methodLink RL 47 yX2_run ∈ TB := tb_mk 177 (by decide +kernel) (by decide +kernel)
theorem kw_178 : Cond.instanceMethod yX2_run ∈ TB := tb_mk 178 (by decide +kernel) (by decide +kernel)
theorem kw_179 : Cond.selects RX2 yX2_run yX2_run ∈ TB := tb_mk 179 (by decide +kernel) (by decide +kernel)
theorem kw_180 : Cond.code yX2_run cX2_run 3 (some .int) ∈ TB := tb_mk 180 rfl (by decide +kernel)
theorem k_L_47 : WV RL 47 RX2 yX2_run (Cond.code yX2_run cX2_run 3 (some .int)) := ⟨kw_177, kw_178, kw_179, kw_30, kw_180⟩
theorem hd_X2_run : yX2_run.cls = RX2 ∧ HD yX2_run 1 := ⟨rfl, by decide +kernel⟩
theorem kw_181 : Cond.methodLink RX2 88 yX2_step ∈ TB := tb_mk 181 (by decide +kernel) (by decide +kernel)
theorem kw_183 : Cond.instanceMethod yX2_step ∈ TB := tb_mk 183 (by decide +kernel) (by decide +kernel)
theorem kw_4 : Cond.selects RX2 yX2_step yX2_step ∈ TB := tb_mk 4 (by decide +kernel) (by decide +kernel)
theorem kw_184 : Cond.code yX2_step cX2_step 3 none ∈ TB := tb_mk 184 rfl (by decide +kernel)
theorem k_X2_88 : WV RX2 88 RX2 yX2_step (Cond.code yX2_step cX2_step 3 none) := ⟨kw_181, kw_183, kw_4, kw_30, kw_184⟩
theorem hd_X2_step : yX2_step.cls = RX2 ∧ HD yX2_step 0 := ⟨rfl, by decide +kernel⟩
theorem kw_185 : Cond.methodLink RX2 106 yX2_interrupt ∈ TB := tb_mk 185 (by decide +kernel) (by decide +kernel)
theorem kw_187 : Cond.instanceMethod yX2_interrupt ∈ TB := tb_mk 187 (by decide +kernel) (by decide +kernel)
theorem kw_5 : Cond.selects RX2 yX2_interrupt yX2_interrupt ∈ TB := tb_mk 5 (by decide +kernel) (by decide +kernel)
theorem kw_188 : Cond.code yX2_interrupt cX2_interrupt 1 none ∈ TB := tb_mk 188 rfl (by decide +kernel)
theorem k_X2_106 : WV RX2 106 RX2 yX2_interrupt (Cond.code yX2_interrupt cX2_interrupt 1 none) := ⟨kw_185, kw_187, kw_5, kw_30, kw_188⟩
theorem hd_X2_interrupt : yX2_interrupt.cls = RX2 ∧ HD yX2_interrupt 0 := ⟨rfl, by decide +kernel⟩
theorem kw_189 : Cond.methodLinkNest RX2 109 yX1_add "TapeMachine" ∈ NL := nl_mk 189 (by decide +kernel) (by decide +kernel)
theorem kw_191 : Cond.instanceMethod yX1_add ∈ TB := tb_mk 191 (by decide +kernel) (by decide +kernel)
theorem kw_6 : Cond.selects RX1 yX1_add yX1_add ∈ TB := tb_mk 6 (by decide +kernel) (by decide +kernel)
theorem kw_192 : Cond.code yX1_add cX1_add 2 none ∈ TB := tb_mk 192 rfl (by decide +kernel)
theorem k_X2_109 : WN RX2 109 RX1 yX1_add (Cond.code yX1_add cX1_add 2 none) "TapeMachine" := ⟨kw_189, kw_191, kw_6, kw_32, kw_192⟩
theorem hd_X1_add : HD yX1_add 1 := by decide +kernel
theorem kw_193 : Cond.methodLink RX2 103 yX2_next ∈ TB := tb_mk 193 (by decide +kernel) (by decide +kernel)
theorem kw_194 : Cond.static yX2_next ∈ TB := tb_mk 194 (by decide +kernel) (by decide +kernel)
theorem kw_195 : Cond.code yX2_next cX2_next 1 (some .int) ∈ TB := tb_mk 195 rfl (by decide +kernel)
theorem k_X2_103 : WS RX2 103 yX2_next (Cond.code yX2_next cX2_next 1 (some .int)) := ⟨kw_193, kw_194, kw_30, kw_195⟩
theorem hd_X2_next : yX2_next.cls = RX2 ∧ HD yX2_next 1 := ⟨rfl, by decide +kernel⟩
theorem kw_196 : Cond.methodLink RX2 113 yX2_perform ∈ TB := tb_mk 196 (by decide +kernel) (by decide +kernel)
theorem kw_198 : Cond.instanceMethod yX2_perform ∈ TB := tb_mk 198 (by decide +kernel) (by decide +kernel)
theorem kw_7 : Cond.selects RX2 yX2_perform yX2_perform ∈ TB := tb_mk 7 (by decide +kernel) (by decide +kernel)
theorem kw_199 : Cond.code yX2_perform cX2_perform 4 none ∈ TB := tb_mk 199 rfl (by decide +kernel)
theorem k_X2_113 : WV RX2 113 RX2 yX2_perform (Cond.code yX2_perform cX2_perform 4 none) := ⟨kw_196, kw_198, kw_7, kw_30, kw_199⟩
theorem hd_X2_perform : yX2_perform.cls = RX2 ∧ HD yX2_perform 2 := ⟨rfl, by decide +kernel⟩
theorem kw_200 : Cond.methodLink RX2 116 yX2_effectiveAddress ∈ TB := tb_mk 200 (by decide +kernel) (by decide +kernel)
theorem kw_202 : Cond.instanceMethod yX2_effectiveAddress ∈ TB := tb_mk 202 (by decide +kernel) (by decide +kernel)
theorem kw_8 : Cond.selects RX2 yX2_effectiveAddress yX2_effectiveAddress ∈ TB := tb_mk 8 (by decide +kernel) (by decide +kernel)
theorem kw_203 : Cond.code yX2_effectiveAddress cX2_effectiveAddress 4 (some .int) ∈ TB := tb_mk 203 rfl (by decide +kernel)
theorem k_X2_116 : WV RX2 116 RX2 yX2_effectiveAddress (Cond.code yX2_effectiveAddress cX2_effectiveAddress 4 (some .int)) := ⟨kw_200, kw_202, kw_8, kw_30, kw_203⟩
theorem hd_X2_effectiveAddress : yX2_effectiveAddress.cls = RX2 ∧ HD yX2_effectiveAddress 2 := ⟨rfl, by decide +kernel⟩
theorem kw_204 : Cond.methodLink RX2 126 yX2_has ∈ TB := tb_mk 204 (by decide +kernel) (by decide +kernel)
theorem kw_205 : Cond.static yX2_has ∈ TB := tb_mk 205 (by decide +kernel) (by decide +kernel)
theorem kw_206 : Cond.code yX2_has cX2_has 2 (some .boolean) ∈ TB := tb_mk 206 rfl (by decide +kernel)
theorem k_X2_126 : WS RX2 126 yX2_has (Cond.code yX2_has cX2_has 2 (some .boolean)) := ⟨kw_204, kw_205, kw_30, kw_206⟩
theorem hd_X2_has : yX2_has.cls = RX2 ∧ HD yX2_has 2 := ⟨rfl, by decide +kernel⟩
theorem kw_207 : Cond.methodLink RX2 120 yX2_performAddressed ∈ TB := tb_mk 207 (by decide +kernel) (by decide +kernel)
theorem kw_209 : Cond.instanceMethod yX2_performAddressed ∈ TB := tb_mk 209 (by decide +kernel) (by decide +kernel)
theorem kw_9 : Cond.selects RX2 yX2_performAddressed yX2_performAddressed ∈ TB := tb_mk 9 (by decide +kernel) (by decide +kernel)
theorem kw_210 : Cond.code yX2_performAddressed cX2_performAddressed 3 none ∈ TB := tb_mk 210 rfl (by decide +kernel)
theorem k_X2_120 : WV RX2 120 RX2 yX2_performAddressed (Cond.code yX2_performAddressed cX2_performAddressed 3 none) := ⟨kw_207, kw_209, kw_9, kw_30, kw_210⟩
theorem hd_X2_performAddressed : yX2_performAddressed.cls = RX2 ∧ HD yX2_performAddressed 2 := ⟨rfl, by decide +kernel⟩
theorem kw_211 : Cond.methodLink RX2 139 yX2_add ∈ TB := tb_mk 211 (by decide +kernel) (by decide +kernel)
theorem kw_213 : Cond.instanceMethod yX2_add ∈ TB := tb_mk 213 (by decide +kernel) (by decide +kernel)
theorem kw_10 : Cond.selects RX2 yX2_add yX2_add ∈ TB := tb_mk 10 (by decide +kernel) (by decide +kernel)
theorem kw_214 : Cond.code yX2_add cX2_add 3 none ∈ TB := tb_mk 214 rfl (by decide +kernel)
theorem k_X2_139 : WV RX2 139 RX2 yX2_add (Cond.code yX2_add cX2_add 3 none) := ⟨kw_211, kw_213, kw_10, kw_30, kw_214⟩
theorem hd_X2_add : yX2_add.cls = RX2 ∧ HD yX2_add 1 := ⟨rfl, by decide +kernel⟩
theorem kw_215 : Cond.methodLink RX2 140 yX2_skipIf ∈ TB := tb_mk 215 (by decide +kernel) (by decide +kernel)
theorem kw_217 : Cond.instanceMethod yX2_skipIf ∈ TB := tb_mk 217 (by decide +kernel) (by decide +kernel)
theorem kw_11 : Cond.selects RX2 yX2_skipIf yX2_skipIf ∈ TB := tb_mk 11 (by decide +kernel) (by decide +kernel)
theorem kw_218 : Cond.code yX2_skipIf cX2_skipIf 2 none ∈ TB := tb_mk 218 rfl (by decide +kernel)
theorem k_X2_140 : WV RX2 140 RX2 yX2_skipIf (Cond.code yX2_skipIf cX2_skipIf 2 none) := ⟨kw_215, kw_217, kw_11, kw_30, kw_218⟩
theorem hd_X2_skipIf : yX2_skipIf.cls = RX2 ∧ HD yX2_skipIf 1 := ⟨rfl, by decide +kernel⟩
theorem kw_219 : Cond.methodLink RX2 123 yX2_performDevice ∈ TB := tb_mk 219 (by decide +kernel) (by decide +kernel)
theorem kw_221 : Cond.instanceMethod yX2_performDevice ∈ TB := tb_mk 221 (by decide +kernel) (by decide +kernel)
theorem kw_12 : Cond.selects RX2 yX2_performDevice yX2_performDevice ∈ TB := tb_mk 12 (by decide +kernel) (by decide +kernel)
theorem kw_222 : Cond.code yX2_performDevice cX2_performDevice 2 none ∈ TB := tb_mk 222 rfl (by decide +kernel)
theorem k_X2_123 : WV RX2 123 RX2 yX2_performDevice (Cond.code yX2_performDevice cX2_performDevice 2 none) := ⟨kw_219, kw_221, kw_12, kw_30, kw_222⟩
theorem hd_X2_performDevice : yX2_performDevice.cls = RX2 ∧ HD yX2_performDevice 1 := ⟨rfl, by decide +kernel⟩
theorem kw_223 : Cond.methodLinkNest RX2 144 yX0_restart "TapeMachine" ∈ NL := nl_mk 223 (by decide +kernel) (by decide +kernel)
theorem kw_225 : Cond.instanceMethod yX0_restart ∈ TB := tb_mk 225 (by decide +kernel) (by decide +kernel)
theorem kw_13 : Cond.selects RX0 yX0_restart yX0_restart ∈ TB := tb_mk 13 (by decide +kernel) (by decide +kernel)
theorem kw_226 : Cond.code yX0_restart cX0_restart 1 none ∈ TB := tb_mk 226 rfl (by decide +kernel)
theorem k_X2_144 : WN RX2 144 RX0 yX0_restart (Cond.code yX0_restart cX0_restart 1 none) "TapeMachine" := ⟨kw_223, kw_225, kw_13, kw_31, kw_226⟩
theorem hd_X0_restart : HD yX0_restart 0 := by decide +kernel
theorem kw_227 : Cond.methodLink RX2 130 yX2_changeAccumulator ∈ TB := tb_mk 227 (by decide +kernel) (by decide +kernel)
theorem kw_229 : Cond.instanceMethod yX2_changeAccumulator ∈ TB := tb_mk 229 (by decide +kernel) (by decide +kernel)
theorem kw_14 : Cond.selects RX2 yX2_changeAccumulator yX2_changeAccumulator ∈ TB := tb_mk 14 (by decide +kernel) (by decide +kernel)
theorem kw_230 : Cond.code yX2_changeAccumulator cX2_changeAccumulator 5 none ∈ TB := tb_mk 230 rfl (by decide +kernel)
theorem k_X2_130 : WV RX2 130 RX2 yX2_changeAccumulator (Cond.code yX2_changeAccumulator cX2_changeAccumulator 5 none) := ⟨kw_227, kw_229, kw_14, kw_30, kw_230⟩
theorem hd_X2_changeAccumulator : yX2_changeAccumulator.cls = RX2 ∧ HD yX2_changeAccumulator 1 := ⟨rfl, by decide +kernel⟩
theorem kw_231 : Cond.methodLink RX2 147 yX2_turnLeft ∈ TB := tb_mk 231 (by decide +kernel) (by decide +kernel)
theorem kw_233 : Cond.instanceMethod yX2_turnLeft ∈ TB := tb_mk 233 (by decide +kernel) (by decide +kernel)
theorem kw_15 : Cond.selects RX2 yX2_turnLeft yX2_turnLeft ∈ TB := tb_mk 15 (by decide +kernel) (by decide +kernel)
theorem kw_234 : Cond.code yX2_turnLeft cX2_turnLeft 4 none ∈ TB := tb_mk 234 rfl (by decide +kernel)
theorem k_X2_147 : WV RX2 147 RX2 yX2_turnLeft (Cond.code yX2_turnLeft cX2_turnLeft 4 none) := ⟨kw_231, kw_233, kw_15, kw_30, kw_234⟩
theorem hd_X2_turnLeft : yX2_turnLeft.cls = RX2 ∧ HD yX2_turnLeft 1 := ⟨rfl, by decide +kernel⟩
theorem kw_235 : Cond.methodLink RX2 133 yX2_testAccumulator ∈ TB := tb_mk 235 (by decide +kernel) (by decide +kernel)
theorem kw_237 : Cond.instanceMethod yX2_testAccumulator ∈ TB := tb_mk 237 (by decide +kernel) (by decide +kernel)
theorem kw_16 : Cond.selects RX2 yX2_testAccumulator yX2_testAccumulator ∈ TB := tb_mk 16 (by decide +kernel) (by decide +kernel)
theorem kw_238 : Cond.code yX2_testAccumulator cX2_testAccumulator 3 none ∈ TB := tb_mk 238 rfl (by decide +kernel)
theorem k_X2_133 : WV RX2 133 RX2 yX2_testAccumulator (Cond.code yX2_testAccumulator cX2_testAccumulator 3 none) := ⟨kw_235, kw_237, kw_16, kw_30, kw_238⟩
theorem hd_X2_testAccumulator : yX2_testAccumulator.cls = RX2 ∧ HD yX2_testAccumulator 1 := ⟨rfl, by decide +kernel⟩
theorem kw_239 : Cond.methodLink RX2 136 yX2_exchangeWithMq ∈ TB := tb_mk 239 (by decide +kernel) (by decide +kernel)
theorem kw_241 : Cond.instanceMethod yX2_exchangeWithMq ∈ TB := tb_mk 241 (by decide +kernel) (by decide +kernel)
theorem kw_17 : Cond.selects RX2 yX2_exchangeWithMq yX2_exchangeWithMq ∈ TB := tb_mk 17 (by decide +kernel) (by decide +kernel)
theorem kw_242 : Cond.code yX2_exchangeWithMq cX2_exchangeWithMq 5 none ∈ TB := tb_mk 242 rfl (by decide +kernel)
theorem k_X2_136 : WV RX2 136 RX2 yX2_exchangeWithMq (Cond.code yX2_exchangeWithMq cX2_exchangeWithMq 5 none) := ⟨kw_239, kw_241, kw_17, kw_30, kw_242⟩
theorem hd_X2_exchangeWithMq : yX2_exchangeWithMq.cls = RX2 ∧ HD yX2_exchangeWithMq 1 := ⟨rfl, by decide +kernel⟩
theorem kw_243 : Cond.methodLink RL 51 yX2_printed ∈ TB := tb_mk 243 (by decide +kernel) (by decide +kernel)
theorem kw_244 : Cond.instanceMethod yX2_printed ∈ TB := tb_mk 244 (by decide +kernel) (by decide +kernel)
theorem kw_245 : Cond.selects RX2 yX2_printed yX2_printed ∈ TB := tb_mk 245 (by decide +kernel) (by decide +kernel)
theorem kw_246 : Cond.code yX2_printed cX2_printed 2 (some .int) ∈ TB := tb_mk 246 rfl (by decide +kernel)
theorem k_L_51 : WV RL 51 RX2 yX2_printed (Cond.code yX2_printed cX2_printed 2 (some .int)) := ⟨kw_243, kw_244, kw_245, kw_30, kw_246⟩
theorem hd_X2_printed : yX2_printed.cls = RX2 ∧ HD yX2_printed 1 := ⟨rfl, by decide +kernel⟩
theorem kw_247 : Cond.methodLinkNest RX2 94 yX1_fromLatest "TapeMachine" ∈ NL := nl_mk 247 (by decide +kernel) (by decide +kernel)
theorem kw_249 : Cond.instanceMethod yX1_fromLatest ∈ TB := tb_mk 249 (by decide +kernel) (by decide +kernel)
theorem kw_18 : Cond.selects RX1 yX1_fromLatest yX1_fromLatest ∈ TB := tb_mk 18 (by decide +kernel) (by decide +kernel)
theorem kw_250 : Cond.code yX1_fromLatest cX1_fromLatest 2 (some .int) ∈ TB := tb_mk 250 rfl (by decide +kernel)
theorem k_X2_94 : WN RX2 94 RX1 yX1_fromLatest (Cond.code yX1_fromLatest cX1_fromLatest 2 (some .int)) "TapeMachine" := ⟨kw_247, kw_249, kw_18, kw_32, kw_250⟩
theorem hd_X1_fromLatest : HD yX1_fromLatest 1 := by decide +kernel
theorem kw_251 : Cond.methodLink RL 55 yX2_trace ∈ TB := tb_mk 251 (by decide +kernel) (by decide +kernel)
theorem kw_252 : Cond.instanceMethod yX2_trace ∈ TB := tb_mk 252 (by decide +kernel) (by decide +kernel)
theorem kw_253 : Cond.selects RX2 yX2_trace yX2_trace ∈ TB := tb_mk 253 (by decide +kernel) (by decide +kernel)
theorem kw_254 : Cond.code yX2_trace cX2_trace 2 (some .int) ∈ TB := tb_mk 254 rfl (by decide +kernel)
theorem k_L_55 : WV RL 55 RX2 yX2_trace (Cond.code yX2_trace cX2_trace 2 (some .int)) := ⟨kw_251, kw_252, kw_253, kw_30, kw_254⟩
theorem hd_X2_trace : yX2_trace.cls = RX2 ∧ HD yX2_trace 1 := ⟨rfl, by decide +kernel⟩
theorem kw_255 : Cond.methodLink RL 59 yX2_interrupts ∈ TB := tb_mk 255 (by decide +kernel) (by decide +kernel)
theorem kw_256 : Cond.instanceMethod yX2_interrupts ∈ TB := tb_mk 256 (by decide +kernel) (by decide +kernel)
theorem kw_257 : Cond.selects RX2 yX2_interrupts yX2_interrupts ∈ TB := tb_mk 257 (by decide +kernel) (by decide +kernel)
theorem kw_258 : Cond.code yX2_interrupts cX2_interrupts 1 (some .int) ∈ TB := tb_mk 258 rfl (by decide +kernel)
theorem k_L_59 : WV RL 59 RX2 yX2_interrupts (Cond.code yX2_interrupts cX2_interrupts 1 (some .int)) := ⟨kw_255, kw_256, kw_257, kw_30, kw_258⟩
theorem hd_X2_interrupts : yX2_interrupts.cls = RX2 ∧ HD yX2_interrupts 0 := ⟨rfl, by decide +kernel⟩
theorem kw_259 : Cond.methodLink RL 63 yX2_skips ∈ TB := tb_mk 259 (by decide +kernel) (by decide +kernel)
theorem kw_260 : Cond.instanceMethod yX2_skips ∈ TB := tb_mk 260 (by decide +kernel) (by decide +kernel)
theorem kw_261 : Cond.selects RX2 yX2_skips yX2_skips ∈ TB := tb_mk 261 (by decide +kernel) (by decide +kernel)
theorem kw_262 : Cond.code yX2_skips cX2_skips 1 (some .int) ∈ TB := tb_mk 262 rfl (by decide +kernel)
theorem k_L_63 : WV RL 63 RX2 yX2_skips (Cond.code yX2_skips cX2_skips 1 (some .int)) := ⟨kw_259, kw_260, kw_261, kw_30, kw_262⟩
theorem hd_X2_skips : yX2_skips.cls = RX2 ∧ HD yX2_skips 0 := ⟨rfl, by decide +kernel⟩
theorem kw_265 : Cond.methodLink RL 12 yX3_init ∈ TB := tb_mk 265 (by decide +kernel) (by decide +kernel)
theorem hi_X3_init : HD yX3_init 0 := by decide +kernel
theorem kw_266 : Cond.instanceMethod yX3_init ∈ TB := tb_mk 266 (by decide +kernel) (by decide +kernel)
theorem kw_33 : Cond.initialized RX3 ∈ TB := tb_mk 33 (by decide +kernel) (by decide +kernel)
theorem kw_267 : Cond.code yX3_init cX3_init 1 none ∈ TB := tb_mk 267 rfl (by decide +kernel)
theorem kw_303 : Cond.methodLink RL 17 yX3_feed ∈ TB := tb_mk 303 (by decide +kernel) (by decide +kernel)
theorem kw_304 : Cond.instanceMethod yX3_feed ∈ TB := tb_mk 304 (by decide +kernel) (by decide +kernel)
theorem kw_305 : Cond.selects RX3 yX3_feed yX3_feed ∈ TB := tb_mk 305 (by decide +kernel) (by decide +kernel)
theorem kw_306 : Cond.code yX3_feed cX3_feed 2 (some .boolean) ∈ TB := tb_mk 306 rfl (by decide +kernel)
theorem k_L_17 : WV RL 17 RX3 yX3_feed (Cond.code yX3_feed cX3_feed 2 (some .boolean)) := ⟨kw_303, kw_304, kw_305, kw_33, kw_306⟩
theorem hd_X3_feed : yX3_feed.cls = RX3 ∧ HD yX3_feed 1 := ⟨rfl, by decide +kernel⟩
theorem kw_307 : Cond.methodLink RL 22 yX3_waiting ∈ TB := tb_mk 307 (by decide +kernel) (by decide +kernel)
theorem kw_308 : Cond.instanceMethod yX3_waiting ∈ TB := tb_mk 308 (by decide +kernel) (by decide +kernel)
theorem kw_309 : Cond.selects RX3 yX3_waiting yX3_waiting ∈ TB := tb_mk 309 (by decide +kernel) (by decide +kernel)
theorem kw_310 : Cond.code yX3_waiting cX3_waiting 1 (some .int) ∈ TB := tb_mk 310 rfl (by decide +kernel)
theorem k_L_22 : WV RL 22 RX3 yX3_waiting (Cond.code yX3_waiting cX3_waiting 1 (some .int)) := ⟨kw_307, kw_308, kw_309, kw_33, kw_310⟩
theorem hd_X3_waiting : yX3_waiting.cls = RX3 ∧ HD yX3_waiting 0 := ⟨rfl, by decide +kernel⟩
theorem kw_311 : Cond.methodLink RL 27 yX3_poke ∈ TB := tb_mk 311 (by decide +kernel) (by decide +kernel)
theorem kw_312 : Cond.instanceMethod yX3_poke ∈ TB := tb_mk 312 (by decide +kernel) (by decide +kernel)
theorem kw_313 : Cond.selects RX3 yX3_poke yX3_poke ∈ TB := tb_mk 313 (by decide +kernel) (by decide +kernel)
theorem kw_314 : Cond.code yX3_poke cX3_poke 4 (some .int) ∈ TB := tb_mk 314 rfl (by decide +kernel)
theorem k_L_27 : WV RL 27 RX3 yX3_poke (Cond.code yX3_poke cX3_poke 4 (some .int)) := ⟨kw_311, kw_312, kw_313, kw_33, kw_314⟩
theorem hd_X3_poke : yX3_poke.cls = RX3 ∧ HD yX3_poke 2 := ⟨rfl, by decide +kernel⟩
theorem kw_315 : Cond.methodLink RL 32 yX3_peek ∈ TB := tb_mk 315 (by decide +kernel) (by decide +kernel)
theorem kw_316 : Cond.instanceMethod yX3_peek ∈ TB := tb_mk 316 (by decide +kernel) (by decide +kernel)
theorem kw_317 : Cond.selects RX3 yX3_peek yX3_peek ∈ TB := tb_mk 317 (by decide +kernel) (by decide +kernel)
theorem kw_318 : Cond.code yX3_peek cX3_peek 2 (some .int) ∈ TB := tb_mk 318 rfl (by decide +kernel)
theorem k_L_32 : WV RL 32 RX3 yX3_peek (Cond.code yX3_peek cX3_peek 2 (some .int)) := ⟨kw_315, kw_316, kw_317, kw_33, kw_318⟩
theorem hd_X3_peek : yX3_peek.cls = RX3 ∧ HD yX3_peek 1 := ⟨rfl, by decide +kernel⟩
theorem kw_319 : Cond.methodLink RL 37 yX3_set ∈ TB := tb_mk 319 (by decide +kernel) (by decide +kernel)
theorem kw_320 : Cond.instanceMethod yX3_set ∈ TB := tb_mk 320 (by decide +kernel) (by decide +kernel)
theorem kw_321 : Cond.selects RX3 yX3_set yX3_set ∈ TB := tb_mk 321 (by decide +kernel) (by decide +kernel)
theorem kw_322 : Cond.code yX3_set cX3_set 3 (some .boolean) ∈ TB := tb_mk 322 rfl (by decide +kernel)
theorem k_L_37 : WV RL 37 RX3 yX3_set (Cond.code yX3_set cX3_set 3 (some .boolean)) := ⟨kw_319, kw_320, kw_321, kw_33, kw_322⟩
theorem hd_X3_set : yX3_set.cls = RX3 ∧ HD yX3_set 2 := ⟨rfl, by decide +kernel⟩
theorem kw_323 : Cond.methodLink RL 41 yX3_register ∈ TB := tb_mk 323 (by decide +kernel) (by decide +kernel)
theorem kw_324 : Cond.instanceMethod yX3_register ∈ TB := tb_mk 324 (by decide +kernel) (by decide +kernel)
theorem kw_325 : Cond.selects RX3 yX3_register yX3_register ∈ TB := tb_mk 325 (by decide +kernel) (by decide +kernel)
theorem kw_326 : Cond.code yX3_register cX3_register 2 (some .int) ∈ TB := tb_mk 326 rfl (by decide +kernel)
theorem k_L_41 : WV RL 41 RX3 yX3_register (Cond.code yX3_register cX3_register 2 (some .int)) := ⟨kw_323, kw_324, kw_325, kw_33, kw_326⟩
theorem hd_X3_register : yX3_register.cls = RX3 ∧ HD yX3_register 1 := ⟨rfl, by decide +kernel⟩
theorem kw_327 : Cond.methodLink RL 46 yX3_go ∈ TB := tb_mk 327 (by decide +kernel) (by decide +kernel)
theorem kw_328 : Cond.instanceMethod yX3_go ∈ TB := tb_mk 328 (by decide +kernel) (by decide +kernel)
theorem kw_329 : Cond.selects RX3 yX3_go yX3_go ∈ TB := tb_mk 329 (by decide +kernel) (by decide +kernel)
theorem kw_330 : Cond.code yX3_go cX3_go 2 (some .boolean) ∈ TB := tb_mk 330 rfl (by decide +kernel)
theorem k_L_46 : WV RL 46 RX3 yX3_go (Cond.code yX3_go cX3_go 2 (some .boolean)) := ⟨kw_327, kw_328, kw_329, kw_33, kw_330⟩
theorem hd_X3_go : yX3_go.cls = RX3 ∧ HD yX3_go 0 := ⟨rfl, by decide +kernel⟩
theorem kw_331 : Cond.methodLink RL 50 yX3_run ∈ TB := tb_mk 331 (by decide +kernel) (by decide +kernel)
theorem kw_332 : Cond.instanceMethod yX3_run ∈ TB := tb_mk 332 (by decide +kernel) (by decide +kernel)
theorem kw_333 : Cond.selects RX3 yX3_run yX3_run ∈ TB := tb_mk 333 (by decide +kernel) (by decide +kernel)
theorem kw_334 : Cond.code yX3_run cX3_run 4 (some .int) ∈ TB := tb_mk 334 rfl (by decide +kernel)
theorem k_L_50 : WV RL 50 RX3 yX3_run (Cond.code yX3_run cX3_run 4 (some .int)) := ⟨kw_331, kw_332, kw_333, kw_33, kw_334⟩
theorem hd_X3_run : yX3_run.cls = RX3 ∧ HD yX3_run 1 := ⟨rfl, by decide +kernel⟩
theorem kw_335 : Cond.methodLink RX3 82 yX3_step ∈ TB := tb_mk 335 (by decide +kernel) (by decide +kernel)
theorem kw_337 : Cond.instanceMethod yX3_step ∈ TB := tb_mk 337 (by decide +kernel) (by decide +kernel)
theorem kw_19 : Cond.selects RX3 yX3_step yX3_step ∈ TB := tb_mk 19 (by decide +kernel) (by decide +kernel)
theorem kw_338 : Cond.code yX3_step cX3_step 5 none ∈ TB := tb_mk 338 rfl (by decide +kernel)
theorem k_X3_82 : WV RX3 82 RX3 yX3_step (Cond.code yX3_step cX3_step 5 none) := ⟨kw_335, kw_337, kw_19, kw_33, kw_338⟩
theorem hd_X3_step : yX3_step.cls = RX3 ∧ HD yX3_step 0 := ⟨rfl, by decide +kernel⟩
theorem kw_339 : Cond.methodLink RX3 32 yX3_after ∈ TB := tb_mk 339 (by decide +kernel) (by decide +kernel)
theorem kw_340 : Cond.static yX3_after ∈ TB := tb_mk 340 (by decide +kernel) (by decide +kernel)
theorem kw_341 : Cond.code yX3_after cX3_after 1 (some .int) ∈ TB := tb_mk 341 rfl (by decide +kernel)
theorem k_X3_32 : WS RX3 32 yX3_after (Cond.code yX3_after cX3_after 1 (some .int)) := ⟨kw_339, kw_340, kw_33, kw_341⟩
theorem hd_X3_after : yX3_after.cls = RX3 ∧ HD yX3_after 1 := ⟨rfl, by decide +kernel⟩
theorem kw_342 : Cond.methodLink RX3 45 yX3_place ∈ TB := tb_mk 342 (by decide +kernel) (by decide +kernel)
theorem kw_344 : Cond.instanceMethod yX3_place ∈ TB := tb_mk 344 (by decide +kernel) (by decide +kernel)
theorem kw_20 : Cond.selects RX3 yX3_place yX3_place ∈ TB := tb_mk 20 (by decide +kernel) (by decide +kernel)
theorem kw_345 : Cond.code yX3_place cX3_place 4 (some .int) ∈ TB := tb_mk 345 rfl (by decide +kernel)
theorem k_X3_45 : WV RX3 45 RX3 yX3_place (Cond.code yX3_place cX3_place 4 (some .int)) := ⟨kw_342, kw_344, kw_20, kw_33, kw_345⟩
theorem hd_X3_place : yX3_place.cls = RX3 ∧ HD yX3_place 2 := ⟨rfl, by decide +kernel⟩
theorem kw_346 : Cond.methodLink RX3 57 yX3_has ∈ TB := tb_mk 346 (by decide +kernel) (by decide +kernel)
theorem kw_347 : Cond.static yX3_has ∈ TB := tb_mk 347 (by decide +kernel) (by decide +kernel)
theorem kw_348 : Cond.code yX3_has cX3_has 2 (some .boolean) ∈ TB := tb_mk 348 rfl (by decide +kernel)
theorem k_X3_57 : WS RX3 57 yX3_has (Cond.code yX3_has cX3_has 2 (some .boolean)) := ⟨kw_346, kw_347, kw_33, kw_348⟩
theorem hd_X3_has : yX3_has.cls = RX3 ∧ HD yX3_has 2 := ⟨rfl, by decide +kernel⟩
theorem kw_349 : Cond.methodLink RX3 49 yX3_reference ∈ TB := tb_mk 349 (by decide +kernel) (by decide +kernel)
theorem kw_351 : Cond.instanceMethod yX3_reference ∈ TB := tb_mk 351 (by decide +kernel) (by decide +kernel)
theorem kw_21 : Cond.selects RX3 yX3_reference yX3_reference ∈ TB := tb_mk 21 (by decide +kernel) (by decide +kernel)
theorem kw_352 : Cond.code yX3_reference cX3_reference 3 none ∈ TB := tb_mk 352 rfl (by decide +kernel)
theorem k_X3_49 : WV RX3 49 RX3 yX3_reference (Cond.code yX3_reference cX3_reference 3 none) := ⟨kw_349, kw_351, kw_21, kw_33, kw_352⟩
theorem hd_X3_reference : yX3_reference.cls = RX3 ∧ HD yX3_reference 2 := ⟨rfl, by decide +kernel⟩
theorem kw_353 : Cond.methodLink RX3 70 yX3_add ∈ TB := tb_mk 353 (by decide +kernel) (by decide +kernel)
theorem kw_355 : Cond.instanceMethod yX3_add ∈ TB := tb_mk 355 (by decide +kernel) (by decide +kernel)
theorem kw_22 : Cond.selects RX3 yX3_add yX3_add ∈ TB := tb_mk 22 (by decide +kernel) (by decide +kernel)
theorem kw_356 : Cond.code yX3_add cX3_add 3 none ∈ TB := tb_mk 356 rfl (by decide +kernel)
theorem k_X3_70 : WV RX3 70 RX3 yX3_add (Cond.code yX3_add cX3_add 3 none) := ⟨kw_353, kw_355, kw_22, kw_33, kw_356⟩
theorem hd_X3_add : yX3_add.cls = RX3 ∧ HD yX3_add 1 := ⟨rfl, by decide +kernel⟩
theorem kw_357 : Cond.methodLink RX3 73 yX3_skip ∈ TB := tb_mk 357 (by decide +kernel) (by decide +kernel)
theorem kw_359 : Cond.instanceMethod yX3_skip ∈ TB := tb_mk 359 (by decide +kernel) (by decide +kernel)
theorem kw_23 : Cond.selects RX3 yX3_skip yX3_skip ∈ TB := tb_mk 23 (by decide +kernel) (by decide +kernel)
theorem kw_360 : Cond.code yX3_skip cX3_skip 1 none ∈ TB := tb_mk 360 rfl (by decide +kernel)
theorem k_X3_73 : WV RX3 73 RX3 yX3_skip (Cond.code yX3_skip cX3_skip 1 none) := ⟨kw_357, kw_359, kw_23, kw_33, kw_360⟩
theorem hd_X3_skip : yX3_skip.cls = RX3 ∧ HD yX3_skip 0 := ⟨rfl, by decide +kernel⟩
theorem kw_361 : Cond.methodLink RX3 53 yX3_device ∈ TB := tb_mk 361 (by decide +kernel) (by decide +kernel)
theorem kw_363 : Cond.instanceMethod yX3_device ∈ TB := tb_mk 363 (by decide +kernel) (by decide +kernel)
theorem kw_24 : Cond.selects RX3 yX3_device yX3_device ∈ TB := tb_mk 24 (by decide +kernel) (by decide +kernel)
theorem kw_364 : Cond.code yX3_device cX3_device 4 none ∈ TB := tb_mk 364 rfl (by decide +kernel)
theorem k_X3_53 : WV RX3 53 RX3 yX3_device (Cond.code yX3_device cX3_device 4 none) := ⟨kw_361, kw_363, kw_24, kw_33, kw_364⟩
theorem hd_X3_device : yX3_device.cls = RX3 ∧ HD yX3_device 1 := ⟨rfl, by decide +kernel⟩
theorem kw_365 : Cond.methodLink RX3 76 yX3_advance ∈ TB := tb_mk 365 (by decide +kernel) (by decide +kernel)
theorem kw_367 : Cond.instanceMethod yX3_advance ∈ TB := tb_mk 367 (by decide +kernel) (by decide +kernel)
theorem kw_25 : Cond.selects RX3 yX3_advance yX3_advance ∈ TB := tb_mk 25 (by decide +kernel) (by decide +kernel)
theorem kw_368 : Cond.code yX3_advance cX3_advance 1 none ∈ TB := tb_mk 368 rfl (by decide +kernel)
theorem k_X3_76 : WV RX3 76 RX3 yX3_advance (Cond.code yX3_advance cX3_advance 1 none) := ⟨kw_365, kw_367, kw_25, kw_33, kw_368⟩
theorem hd_X3_advance : yX3_advance.cls = RX3 ∧ HD yX3_advance 0 := ⟨rfl, by decide +kernel⟩
theorem kw_369 : Cond.methodLink RX3 61 yX3_first ∈ TB := tb_mk 369 (by decide +kernel) (by decide +kernel)
theorem kw_371 : Cond.instanceMethod yX3_first ∈ TB := tb_mk 371 (by decide +kernel) (by decide +kernel)
theorem kw_26 : Cond.selects RX3 yX3_first yX3_first ∈ TB := tb_mk 26 (by decide +kernel) (by decide +kernel)
theorem kw_372 : Cond.code yX3_first cX3_first 6 none ∈ TB := tb_mk 372 rfl (by decide +kernel)
theorem k_X3_61 : WV RX3 61 RX3 yX3_first (Cond.code yX3_first cX3_first 6 none) := ⟨kw_369, kw_371, kw_26, kw_33, kw_372⟩
theorem hd_X3_first : yX3_first.cls = RX3 ∧ HD yX3_first 1 := ⟨rfl, by decide +kernel⟩
theorem kw_373 : Cond.methodLink RX3 64 yX3_second ∈ TB := tb_mk 373 (by decide +kernel) (by decide +kernel)
theorem kw_375 : Cond.instanceMethod yX3_second ∈ TB := tb_mk 375 (by decide +kernel) (by decide +kernel)
theorem kw_27 : Cond.selects RX3 yX3_second yX3_second ∈ TB := tb_mk 27 (by decide +kernel) (by decide +kernel)
theorem kw_376 : Cond.code yX3_second cX3_second 3 none ∈ TB := tb_mk 376 rfl (by decide +kernel)
theorem k_X3_64 : WV RX3 64 RX3 yX3_second (Cond.code yX3_second cX3_second 3 none) := ⟨kw_373, kw_375, kw_27, kw_33, kw_376⟩
theorem hd_X3_second : yX3_second.cls = RX3 ∧ HD yX3_second 1 := ⟨rfl, by decide +kernel⟩
theorem kw_377 : Cond.methodLink RX3 67 yX3_third ∈ TB := tb_mk 377 (by decide +kernel) (by decide +kernel)
theorem kw_379 : Cond.instanceMethod yX3_third ∈ TB := tb_mk 379 (by decide +kernel) (by decide +kernel)
theorem kw_28 : Cond.selects RX3 yX3_third yX3_third ∈ TB := tb_mk 28 (by decide +kernel) (by decide +kernel)
theorem kw_380 : Cond.code yX3_third cX3_third 6 none ∈ TB := tb_mk 380 rfl (by decide +kernel)
theorem k_X3_67 : WV RX3 67 RX3 yX3_third (Cond.code yX3_third cX3_third 6 none) := ⟨kw_377, kw_379, kw_28, kw_33, kw_380⟩
theorem hd_X3_third : yX3_third.cls = RX3 ∧ HD yX3_third 1 := ⟨rfl, by decide +kernel⟩
theorem kw_381 : Cond.methodLink RL 54 yX3_printed ∈ TB := tb_mk 381 (by decide +kernel) (by decide +kernel)
theorem kw_382 : Cond.instanceMethod yX3_printed ∈ TB := tb_mk 382 (by decide +kernel) (by decide +kernel)
theorem kw_383 : Cond.selects RX3 yX3_printed yX3_printed ∈ TB := tb_mk 383 (by decide +kernel) (by decide +kernel)
theorem kw_384 : Cond.code yX3_printed cX3_printed 2 (some .int) ∈ TB := tb_mk 384 rfl (by decide +kernel)
theorem k_L_54 : WV RL 54 RX3 yX3_printed (Cond.code yX3_printed cX3_printed 2 (some .int)) := ⟨kw_381, kw_382, kw_383, kw_33, kw_384⟩
theorem hd_X3_printed : yX3_printed.cls = RX3 ∧ HD yX3_printed 1 := ⟨rfl, by decide +kernel⟩
theorem kw_385 : Cond.methodLink RL 58 yX3_trace ∈ TB := tb_mk 385 (by decide +kernel) (by decide +kernel)
theorem kw_386 : Cond.instanceMethod yX3_trace ∈ TB := tb_mk 386 (by decide +kernel) (by decide +kernel)
theorem kw_387 : Cond.selects RX3 yX3_trace yX3_trace ∈ TB := tb_mk 387 (by decide +kernel) (by decide +kernel)
theorem kw_388 : Cond.code yX3_trace cX3_trace 2 (some .int) ∈ TB := tb_mk 388 rfl (by decide +kernel)
theorem k_L_58 : WV RL 58 RX3 yX3_trace (Cond.code yX3_trace cX3_trace 2 (some .int)) := ⟨kw_385, kw_386, kw_387, kw_33, kw_388⟩
theorem hd_X3_trace : yX3_trace.cls = RX3 ∧ HD yX3_trace 1 := ⟨rfl, by decide +kernel⟩
theorem kw_389 : Cond.methodLink RL 62 yX3_interrupts ∈ TB := tb_mk 389 (by decide +kernel) (by decide +kernel)
theorem kw_390 : Cond.instanceMethod yX3_interrupts ∈ TB := tb_mk 390 (by decide +kernel) (by decide +kernel)
theorem kw_391 : Cond.selects RX3 yX3_interrupts yX3_interrupts ∈ TB := tb_mk 391 (by decide +kernel) (by decide +kernel)
theorem kw_392 : Cond.code yX3_interrupts cX3_interrupts 1 (some .int) ∈ TB := tb_mk 392 rfl (by decide +kernel)
theorem k_L_62 : WV RL 62 RX3 yX3_interrupts (Cond.code yX3_interrupts cX3_interrupts 1 (some .int)) := ⟨kw_389, kw_390, kw_391, kw_33, kw_392⟩
theorem hd_X3_interrupts : yX3_interrupts.cls = RX3 ∧ HD yX3_interrupts 0 := ⟨rfl, by decide +kernel⟩
theorem kw_393 : Cond.methodLink RL 66 yX3_skips ∈ TB := tb_mk 393 (by decide +kernel) (by decide +kernel)
theorem kw_394 : Cond.instanceMethod yX3_skips ∈ TB := tb_mk 394 (by decide +kernel) (by decide +kernel)
theorem kw_395 : Cond.selects RX3 yX3_skips yX3_skips ∈ TB := tb_mk 395 (by decide +kernel) (by decide +kernel)
theorem kw_396 : Cond.code yX3_skips cX3_skips 1 (some .int) ∈ TB := tb_mk 396 rfl (by decide +kernel)
theorem k_L_66 : WV RL 66 RX3 yX3_skips (Cond.code yX3_skips cX3_skips 1 (some .int)) := ⟨kw_393, kw_394, kw_395, kw_33, kw_396⟩
theorem hd_X3_skips : yX3_skips.cls = RX3 ∧ HD yX3_skips 0 := ⟨rfl, by decide +kernel⟩
theorem kw_34 : Cond.classLink RL 7 RX2 ∈ TB := tb_mk 34 (by decide +kernel) (by decide +kernel)
theorem kw_35 : Cond.instantiable RX2 15 ∈ TB := tb_mk 35 (by decide +kernel) (by decide +kernel)
theorem kw_39 : Cond.methodLink RX2 1 objectInit ∈ TB := tb_mk 39 (by decide +kernel) (by decide +kernel)
theorem kw_40 : Cond.instanceMethod objectInit ∈ TB := tb_mk 40 (by decide +kernel) (by decide +kernel)
theorem kw_41 : Cond.code objectInit ⟨#[0xb1]⟩ 1 none ∈ TB := tb_mk 41 rfl (by decide +kernel)
theorem kw_42 : Cond.classLink RX2 13 RX0 ∈ TB := tb_mk 42 (by decide +kernel) (by decide +kernel)
theorem kw_43 : Cond.instantiable RX0 5 ∈ TB := tb_mk 43 (by decide +kernel) (by decide +kernel)
theorem kw_47 : Cond.methodLink RX0 3 objectInit ∈ TB := tb_mk 47 (by decide +kernel) (by decide +kernel)
theorem kw_66 : Cond.arrayClass .int ∈ TB := tb_mk 66 (by decide +kernel) (by decide +kernel)
theorem kw_67 : Cond.classLink RX2 20 RX1 ∈ TB := tb_mk 67 (by decide +kernel) (by decide +kernel)
theorem kw_68 : Cond.instantiable RX1 2 ∈ TB := tb_mk 68 (by decide +kernel) (by decide +kernel)
theorem kw_72 : Cond.methodLink RX1 3 objectInit ∈ TB := tb_mk 72 (by decide +kernel) (by decide +kernel)
theorem kw_263 : Cond.classLink RL 10 RX3 ∈ TB := tb_mk 263 (by decide +kernel) (by decide +kernel)
theorem kw_264 : Cond.instantiable RX3 11 ∈ TB := tb_mk 264 (by decide +kernel) (by decide +kernel)
theorem kw_268 : Cond.methodLink RX3 1 objectInit ∈ TB := tb_mk 268 (by decide +kernel) (by decide +kernel)
abbrev cw (q : Nat → Nat) (cI : ClassId) (g : Nat → Int32) (mm : Nat → Nat → Int32) : va_W := [(q 0, .inr (2, [.ref (q 1), .ref (q 2), .ref (q 3), .ref (q 4), .int (g 0), .int (g 1), .int (g 2), .int (g 3), .int (g 4), .int (g 5), .int (g 6), .int (g 7), .int (g 8), .int (g 9), .int (g 10)])), (q 1, .inl (cI, 4096, .inl (mm 0))), (q 2, .inr (0, [.ref (q 5), .int (g 11), .int (g 12), .int (g 13), .int (g 14)])), (q 5, .inl (cI, 400, .inl (mm 1))), (q 3, .inr (1, [.ref (q 6), .int (g 15)])), (q 6, .inl (cI, 64, .inl (mm 2))), (q 4, .inr (1, [.ref (q 7), .int (g 16)])), (q 7, .inl (cI, 64, .inl (mm 3)))]
abbrev mw (q : Nat → Nat) (cI : ClassId) (g : Nat → Int32) (mm : Nat → Nat → Int32) : va_W := [(q 0, .inr (3, [.ref (q 1), .ref (q 2), .ref (q 3), .ref (q 4), .ref (q 5), .int (g 0), .int (g 1), .int (g 2), .int (g 3), .int (g 4), .int (g 5)])), (q 1, .inl (cI, 4096, .inl (mm 0))), (q 2, .inl (cI, 11, .inl (mm 1))), (q 3, .inl (cI, 400, .inl (mm 2))), (q 4, .inl (cI, 64, .inl (mm 3))), (q 5, .inl (cI, 64, .inl (mm 4)))]
abbrev rdw (a b : Nat) (cI : ClassId) (fd tk bf fl : Int32) (tp : Nat → Int32) : va_W := [(a, .inr (0, [.ref b, .int fd, .int tk, .int bf, .int fl])), (b, .inl (cI, 400, .inl tp))]
abbrev rcw (a b : Nat) (cI : ClassId) (ct : Int32) (rw : Nat → Int32) : va_W := [(a, .inr (1, [.ref b, .int ct])), (b, .inl (cI, 64, .inl rw))]
theorem cw_eq {q : Nat → Nat} {cI : ClassId} {g g2 : Nat → Int32} {mm mm2 : Nat → Nat → Int32} (h1 : g = g2) (h2 : mm = mm2) : cw q cI g mm = cw q cI g2 mm2 := by rw [h1, h2]
theorem mw_eq {q : Nat → Nat} {cI : ClassId} {g g2 : Nat → Int32} {mm mm2 : Nat → Nat → Int32} (h1 : g = g2) (h2 : mm = mm2) : mw q cI g mm = mw q cI g2 mm2 := by rw [h1, h2]
theorem rdw_eq {a b : Nat} {cI : ClassId} {fd tk bf fl fd2 tk2 bf2 fl2 : Int32} {tp tp2 : Nat → Int32} (h1 : fd = fd2) (h2 : tk = tk2) (h3 : bf = bf2) (h4 : fl = fl2) (h5 : tp = tp2) : rdw a b cI fd tk bf fl tp = rdw a b cI fd2 tk2 bf2 fl2 tp2 := by rw [h1, h2, h3, h4, h5]
theorem rcw_eq {a b : Nat} {cI : ClassId} {ct ct2 : Int32} {rw rw2 : Nat → Int32} (h1 : ct = ct2) (h2 : rw = rw2) : rcw a b cI ct rw = rcw a b cI ct2 rw2 := by rw [h1, h2]
section ROWS
variable {p : Program} {l : Launch} {e : Env} {R : Room} {s : State} {m : MethodId} {args : Array Value} {below : List Frame} {meth : Method} {c : Code} {H : Heap} {locs : List Loc} {cells slots : Nat} {Q : State → Prop}
variable {cc : ByteArray} {nL pc : Nat} {ls : Array Slot} {rest st0 : List Value} {D : va_G} {cI : ClassId} {A : Nat → Prop} {Ts : List Cond} {q : Nat → Nat} {g : Nat → Int32} {mm : Nat → Nat → Int32} {a b : Nat} {fd tk bf fl ct : Int32} {tp rw : Nat → Int32}
theorem G_X0_tape (X : CallFix p m c cc nL s args Ts RX0) (hTs : ∀ w ∈ TB, w ∈ Ts) (Z : ZZ D cI (rdw a b cI fd tk bf fl tp) A s H locs) (hdg : decode cc pc = .ok (.getfield 9, 3)) (kk : W p l e R s m args below meth c H locs cells slots Q (F0 m (pc + 3) ls (.ref b :: rest))) : W p l e R s m args below meth c H locs cells slots Q (F0 m pc ls (.ref a :: rest)) := z_get X hTs Z iX0 0 rfl rfl 0 (by decide) kw_48 rfl rfl hdg kk
theorem G_X0_fed (X : CallFix p m c cc nL s args Ts RX0) (hTs : ∀ w ∈ TB, w ∈ Ts) (Z : ZZ D cI (rdw a b cI fd tk bf fl tp) A s H locs) (hdg : decode cc pc = .ok (.getfield 15, 3)) (kk : W p l e R s m args below meth c H locs cells slots Q (F0 m (pc + 3) ls (.int fd :: rest))) : W p l e R s m args below meth c H locs cells slots Q (F0 m pc ls (.ref a :: rest)) := z_get X hTs Z iX0 0 rfl rfl 1 (by decide) kw_49 rfl rfl hdg kk
theorem P_X0_fed {v : Int32} (X : CallFix p m c cc nL s args Ts RX0) (hTs : ∀ w ∈ TB, w ∈ Ts) (Z : ZZ D cI (rdw a b cI fd tk bf fl tp) A s H locs) (hdg : decode cc pc = .ok (.putfield 15, 3)) (kk : ∀ (H1 : Heap) (locs1 : List Loc), ZZ D cI (rdw a b cI v tk bf fl tp) A s H1 locs1 → W p l e R s m args below meth c H1 locs1 cells slots Q (F0 m (pc + 3) ls rest)) : W p l e R s m args below meth c H locs cells slots Q (F0 m pc ls (.int v :: .ref a :: rest)) := z_put X hTs Z iX0 tyX0 tyX0_ok nmX0 0 rfl rfl 1 (by decide) kw_49 rfl rfl (ty := .int) (by decide +kernel) rfl rfl (Nat.le_of_ble_eq_true rfl) rfl hdg kk
theorem G_X0_taken (X : CallFix p m c cc nL s args Ts RX0) (hTs : ∀ w ∈ TB, w ∈ Ts) (Z : ZZ D cI (rdw a b cI fd tk bf fl tp) A s H locs) (hdg : decode cc pc = .ok (.getfield 19, 3)) (kk : W p l e R s m args below meth c H locs cells slots Q (F0 m (pc + 3) ls (.int tk :: rest))) : W p l e R s m args below meth c H locs cells slots Q (F0 m pc ls (.ref a :: rest)) := z_get X hTs Z iX0 0 rfl rfl 2 (by decide) kw_50 rfl rfl hdg kk
theorem P_X0_taken {v : Int32} (X : CallFix p m c cc nL s args Ts RX0) (hTs : ∀ w ∈ TB, w ∈ Ts) (Z : ZZ D cI (rdw a b cI fd tk bf fl tp) A s H locs) (hdg : decode cc pc = .ok (.putfield 19, 3)) (kk : ∀ (H1 : Heap) (locs1 : List Loc), ZZ D cI (rdw a b cI fd v bf fl tp) A s H1 locs1 → W p l e R s m args below meth c H1 locs1 cells slots Q (F0 m (pc + 3) ls rest)) : W p l e R s m args below meth c H locs cells slots Q (F0 m pc ls (.int v :: .ref a :: rest)) := z_put X hTs Z iX0 tyX0 tyX0_ok nmX0 0 rfl rfl 2 (by decide) kw_50 rfl rfl (ty := .int) (by decide +kernel) rfl rfl (Nat.le_of_ble_eq_true rfl) rfl hdg kk
theorem G_X0_flag (X : CallFix p m c cc nL s args Ts RX0) (hTs : ∀ w ∈ TB, w ∈ Ts) (Z : ZZ D cI (rdw a b cI fd tk bf fl tp) A s H locs) (hdg : decode cc pc = .ok (.getfield 22, 3)) (kk : W p l e R s m args below meth c H locs cells slots Q (F0 m (pc + 3) ls (.int fl :: rest))) : W p l e R s m args below meth c H locs cells slots Q (F0 m pc ls (.ref a :: rest)) := z_get X hTs Z iX0 0 rfl rfl 4 (by decide) kw_53 rfl rfl hdg kk
theorem P_X0_flag {v : Int32} (X : CallFix p m c cc nL s args Ts RX0) (hTs : ∀ w ∈ TB, w ∈ Ts) (Z : ZZ D cI (rdw a b cI fd tk bf fl tp) A s H locs) (hv : narrow .boolean (.int v) = .int v ∧ fits .boolean (.int v) = true) (hdg : decode cc pc = .ok (.putfield 22, 3)) (kk : ∀ (H1 : Heap) (locs1 : List Loc), ZZ D cI (rdw a b cI fd tk bf v tp) A s H1 locs1 → W p l e R s m args below meth c H1 locs1 cells slots Q (F0 m (pc + 3) ls rest)) : W p l e R s m args below meth c H locs cells slots Q (F0 m pc ls (.int v :: .ref a :: rest)) := z_put X hTs Z iX0 tyX0 tyX0_ok nmX0 0 rfl rfl 4 (by decide) kw_53 rfl rfl (ty := .boolean) (by decide +kernel) hv.1 hv.2 (Nat.le_of_ble_eq_true rfl) rfl hdg kk
theorem G_X0_buffer (X : CallFix p m c cc nL s args Ts RX0) (hTs : ∀ w ∈ TB, w ∈ Ts) (Z : ZZ D cI (rdw a b cI fd tk bf fl tp) A s H locs) (hdg : decode cc pc = .ok (.getfield 26, 3)) (kk : W p l e R s m args below meth c H locs cells slots Q (F0 m (pc + 3) ls (.int bf :: rest))) : W p l e R s m args below meth c H locs cells slots Q (F0 m pc ls (.ref a :: rest)) := z_get X hTs Z iX0 0 rfl rfl 3 (by decide) kw_51 rfl rfl hdg kk
theorem P_X0_buffer {v : Int32} (X : CallFix p m c cc nL s args Ts RX0) (hTs : ∀ w ∈ TB, w ∈ Ts) (Z : ZZ D cI (rdw a b cI fd tk bf fl tp) A s H locs) (hdg : decode cc pc = .ok (.putfield 26, 3)) (kk : ∀ (H1 : Heap) (locs1 : List Loc), ZZ D cI (rdw a b cI fd tk v fl tp) A s H1 locs1 → W p l e R s m args below meth c H1 locs1 cells slots Q (F0 m (pc + 3) ls rest)) : W p l e R s m args below meth c H locs cells slots Q (F0 m pc ls (.int v :: .ref a :: rest)) := z_put X hTs Z iX0 tyX0 tyX0_ok nmX0 0 rfl rfl 3 (by decide) kw_51 rfl rfl (ty := .int) (by decide +kernel) rfl rfl (Nat.le_of_ble_eq_true rfl) rfl hdg kk
theorem G_X1_row (X : CallFix p m c cc nL s args Ts RX1) (hTs : ∀ w ∈ TB, w ∈ Ts) (Z : ZZ D cI (rcw a b cI ct rw) A s H locs) (hdg : decode cc pc = .ok (.getfield 9, 3)) (kk : W p l e R s m args below meth c H locs cells slots Q (F0 m (pc + 3) ls (.ref b :: rest))) : W p l e R s m args below meth c H locs cells slots Q (F0 m pc ls (.ref a :: rest)) := z_get X hTs Z iX1 0 rfl rfl 0 (by decide) kw_73 rfl rfl hdg kk
theorem G_X1_count (X : CallFix p m c cc nL s args Ts RX1) (hTs : ∀ w ∈ TB, w ∈ Ts) (Z : ZZ D cI (rcw a b cI ct rw) A s H locs) (hdg : decode cc pc = .ok (.getfield 15, 3)) (kk : W p l e R s m args below meth c H locs cells slots Q (F0 m (pc + 3) ls (.int ct :: rest))) : W p l e R s m args below meth c H locs cells slots Q (F0 m pc ls (.ref a :: rest)) := z_get X hTs Z iX1 0 rfl rfl 1 (by decide) kw_74 rfl rfl hdg kk
theorem P_X1_count {v : Int32} (X : CallFix p m c cc nL s args Ts RX1) (hTs : ∀ w ∈ TB, w ∈ Ts) (Z : ZZ D cI (rcw a b cI ct rw) A s H locs) (hdg : decode cc pc = .ok (.putfield 15, 3)) (kk : ∀ (H1 : Heap) (locs1 : List Loc), ZZ D cI (rcw a b cI v rw) A s H1 locs1 → W p l e R s m args below meth c H1 locs1 cells slots Q (F0 m (pc + 3) ls rest)) : W p l e R s m args below meth c H locs cells slots Q (F0 m pc ls (.int v :: .ref a :: rest)) := z_put X hTs Z iX1 tyX1 tyX1_ok nmX1 0 rfl rfl 1 (by decide) kw_74 rfl rfl (ty := .int) (by decide +kernel) rfl rfl (Nat.le_of_ble_eq_true rfl) rfl hdg kk
theorem G_X2_core (X : CallFix p m c cc nL s args Ts RX2) (hTs : ∀ w ∈ TB, w ∈ Ts) (Z : ZZ D cI (cw q cI g mm) A s H locs) (hdg : decode cc pc = .ok (.getfield 9, 3)) (kk : W p l e R s m args below meth c H locs cells slots Q (F0 m (pc + 3) ls (.ref (q 1) :: rest))) : W p l e R s m args below meth c H locs cells slots Q (F0 m pc ls (.ref (q 0) :: rest)) := z_get X hTs Z iX2 0 rfl rfl 0 (by decide) kw_81 rfl rfl hdg kk
theorem G_X2_reader (X : CallFix p m c cc nL s args Ts RX2) (hTs : ∀ w ∈ TB, w ∈ Ts) (Z : ZZ D cI (cw q cI g mm) A s H locs) (hdg : decode cc pc = .ok (.getfield 16, 3)) (kk : W p l e R s m args below meth c H locs cells slots Q (F0 m (pc + 3) ls (.ref (q 2) :: rest))) : W p l e R s m args below meth c H locs cells slots Q (F0 m pc ls (.ref (q 0) :: rest)) := z_get X hTs Z iX2 0 rfl rfl 1 (by decide) kw_82 rfl rfl hdg kk
theorem G_X2_prints (X : CallFix p m c cc nL s args Ts RX2) (hTs : ∀ w ∈ TB, w ∈ Ts) (Z : ZZ D cI (cw q cI g mm) A s H locs) (hdg : decode cc pc = .ok (.getfield 23, 3)) (kk : W p l e R s m args below meth c H locs cells slots Q (F0 m (pc + 3) ls (.ref (q 3) :: rest))) : W p l e R s m args below meth c H locs cells slots Q (F0 m pc ls (.ref (q 0) :: rest)) := z_get X hTs Z iX2 0 rfl rfl 2 (by decide) kw_83 rfl rfl hdg kk
theorem G_X2_steps (X : CallFix p m c cc nL s args Ts RX2) (hTs : ∀ w ∈ TB, w ∈ Ts) (Z : ZZ D cI (cw q cI g mm) A s H locs) (hdg : decode cc pc = .ok (.getfield 27, 3)) (kk : W p l e R s m args below meth c H locs cells slots Q (F0 m (pc + 3) ls (.ref (q 4) :: rest))) : W p l e R s m args below meth c H locs cells slots Q (F0 m pc ls (.ref (q 0) :: rest)) := z_get X hTs Z iX2 0 rfl rfl 3 (by decide) kw_84 rfl rfl hdg kk
theorem G_X2_ac (X : CallFix p m c cc nL s args Ts RX2) (hTs : ∀ w ∈ TB, w ∈ Ts) (Z : ZZ D cI (cw q cI g mm) A s H locs) (hdg : decode cc pc = .ok (.getfield 49, 3)) (kk : W p l e R s m args below meth c H locs cells slots Q (F0 m (pc + 3) ls (.int (g 0) :: rest))) : W p l e R s m args below meth c H locs cells slots Q (F0 m pc ls (.ref (q 0) :: rest)) := z_get X hTs Z iX2 0 rfl rfl 4 (by decide) kw_85 rfl rfl hdg kk
theorem P_X2_ac {v : Int32} (X : CallFix p m c cc nL s args Ts RX2) (hTs : ∀ w ∈ TB, w ∈ Ts) (Z : ZZ D cI (cw q cI g mm) A s H locs) (hdg : decode cc pc = .ok (.putfield 49, 3)) (kk : ∀ (H1 : Heap) (locs1 : List Loc), ZZ D cI (cw q cI (upd g 0 v) mm) A s H1 locs1 → W p l e R s m args below meth c H1 locs1 cells slots Q (F0 m (pc + 3) ls rest)) : W p l e R s m args below meth c H locs cells slots Q (F0 m pc ls (.int v :: .ref (q 0) :: rest)) := z_put X hTs Z iX2 tyX2 tyX2_ok nmX2 0 rfl rfl 4 (by decide) kw_85 rfl rfl (ty := .int) (by decide +kernel) rfl rfl (Nat.le_of_ble_eq_true rfl) rfl hdg kk
theorem G_X2_link (X : CallFix p m c cc nL s args Ts RX2) (hTs : ∀ w ∈ TB, w ∈ Ts) (Z : ZZ D cI (cw q cI g mm) A s H locs) (hdg : decode cc pc = .ok (.getfield 53, 3)) (kk : W p l e R s m args below meth c H locs cells slots Q (F0 m (pc + 3) ls (.int (g 1) :: rest))) : W p l e R s m args below meth c H locs cells slots Q (F0 m pc ls (.ref (q 0) :: rest)) := z_get X hTs Z iX2 0 rfl rfl 5 (by decide) kw_86 rfl rfl hdg kk
theorem P_X2_link {v : Int32} (X : CallFix p m c cc nL s args Ts RX2) (hTs : ∀ w ∈ TB, w ∈ Ts) (Z : ZZ D cI (cw q cI g mm) A s H locs) (hdg : decode cc pc = .ok (.putfield 53, 3)) (kk : ∀ (H1 : Heap) (locs1 : List Loc), ZZ D cI (cw q cI (upd g 1 v) mm) A s H1 locs1 → W p l e R s m args below meth c H1 locs1 cells slots Q (F0 m (pc + 3) ls rest)) : W p l e R s m args below meth c H locs cells slots Q (F0 m pc ls (.int v :: .ref (q 0) :: rest)) := z_put X hTs Z iX2 tyX2 tyX2_ok nmX2 0 rfl rfl 5 (by decide) kw_86 rfl rfl (ty := .int) (by decide +kernel) rfl rfl (Nat.le_of_ble_eq_true rfl) rfl hdg kk
theorem G_X2_pc (X : CallFix p m c cc nL s args Ts RX2) (hTs : ∀ w ∈ TB, w ∈ Ts) (Z : ZZ D cI (cw q cI g mm) A s H locs) (hdg : decode cc pc = .ok (.getfield 56, 3)) (kk : W p l e R s m args below meth c H locs cells slots Q (F0 m (pc + 3) ls (.int (g 2) :: rest))) : W p l e R s m args below meth c H locs cells slots Q (F0 m pc ls (.ref (q 0) :: rest)) := z_get X hTs Z iX2 0 rfl rfl 6 (by decide) kw_87 rfl rfl hdg kk
theorem P_X2_pc {v : Int32} (X : CallFix p m c cc nL s args Ts RX2) (hTs : ∀ w ∈ TB, w ∈ Ts) (Z : ZZ D cI (cw q cI g mm) A s H locs) (hdg : decode cc pc = .ok (.putfield 56, 3)) (kk : ∀ (H1 : Heap) (locs1 : List Loc), ZZ D cI (cw q cI (upd g 2 v) mm) A s H1 locs1 → W p l e R s m args below meth c H1 locs1 cells slots Q (F0 m (pc + 3) ls rest)) : W p l e R s m args below meth c H locs cells slots Q (F0 m pc ls (.int v :: .ref (q 0) :: rest)) := z_put X hTs Z iX2 tyX2 tyX2_ok nmX2 0 rfl rfl 6 (by decide) kw_87 rfl rfl (ty := .int) (by decide +kernel) rfl rfl (Nat.le_of_ble_eq_true rfl) rfl hdg kk
theorem G_X2_mq (X : CallFix p m c cc nL s args Ts RX2) (hTs : ∀ w ∈ TB, w ∈ Ts) (Z : ZZ D cI (cw q cI g mm) A s H locs) (hdg : decode cc pc = .ok (.getfield 59, 3)) (kk : W p l e R s m args below meth c H locs cells slots Q (F0 m (pc + 3) ls (.int (g 3) :: rest))) : W p l e R s m args below meth c H locs cells slots Q (F0 m pc ls (.ref (q 0) :: rest)) := z_get X hTs Z iX2 0 rfl rfl 7 (by decide) kw_88 rfl rfl hdg kk
theorem P_X2_mq {v : Int32} (X : CallFix p m c cc nL s args Ts RX2) (hTs : ∀ w ∈ TB, w ∈ Ts) (Z : ZZ D cI (cw q cI g mm) A s H locs) (hdg : decode cc pc = .ok (.putfield 59, 3)) (kk : ∀ (H1 : Heap) (locs1 : List Loc), ZZ D cI (cw q cI (upd g 3 v) mm) A s H1 locs1 → W p l e R s m args below meth c H1 locs1 cells slots Q (F0 m (pc + 3) ls rest)) : W p l e R s m args below meth c H locs cells slots Q (F0 m pc ls (.int v :: .ref (q 0) :: rest)) := z_put X hTs Z iX2 tyX2 tyX2_ok nmX2 0 rfl rfl 7 (by decide) kw_88 rfl rfl (ty := .int) (by decide +kernel) rfl rfl (Nat.le_of_ble_eq_true rfl) rfl hdg kk
theorem G_X2_sr (X : CallFix p m c cc nL s args Ts RX2) (hTs : ∀ w ∈ TB, w ∈ Ts) (Z : ZZ D cI (cw q cI g mm) A s H locs) (hdg : decode cc pc = .ok (.getfield 62, 3)) (kk : W p l e R s m args below meth c H locs cells slots Q (F0 m (pc + 3) ls (.int (g 4) :: rest))) : W p l e R s m args below meth c H locs cells slots Q (F0 m pc ls (.ref (q 0) :: rest)) := z_get X hTs Z iX2 0 rfl rfl 8 (by decide) kw_89 rfl rfl hdg kk
theorem P_X2_sr {v : Int32} (X : CallFix p m c cc nL s args Ts RX2) (hTs : ∀ w ∈ TB, w ∈ Ts) (Z : ZZ D cI (cw q cI g mm) A s H locs) (hdg : decode cc pc = .ok (.putfield 62, 3)) (kk : ∀ (H1 : Heap) (locs1 : List Loc), ZZ D cI (cw q cI (upd g 4 v) mm) A s H1 locs1 → W p l e R s m args below meth c H1 locs1 cells slots Q (F0 m (pc + 3) ls rest)) : W p l e R s m args below meth c H locs cells slots Q (F0 m pc ls (.int v :: .ref (q 0) :: rest)) := z_put X hTs Z iX2 tyX2 tyX2_ok nmX2 0 rfl rfl 8 (by decide) kw_89 rfl rfl (ty := .int) (by decide +kernel) rfl rfl (Nat.le_of_ble_eq_true rfl) rfl hdg kk
theorem G_X2_ion (X : CallFix p m c cc nL s args Ts RX2) (hTs : ∀ w ∈ TB, w ∈ Ts) (Z : ZZ D cI (cw q cI g mm) A s H locs) (hdg : decode cc pc = .ok (.getfield 65, 3)) (kk : W p l e R s m args below meth c H locs cells slots Q (F0 m (pc + 3) ls (.int (g 6) :: rest))) : W p l e R s m args below meth c H locs cells slots Q (F0 m pc ls (.ref (q 0) :: rest)) := z_get X hTs Z iX2 0 rfl rfl 10 (by decide) kw_91 rfl rfl hdg kk
theorem P_X2_ion {v : Int32} (X : CallFix p m c cc nL s args Ts RX2) (hTs : ∀ w ∈ TB, w ∈ Ts) (Z : ZZ D cI (cw q cI g mm) A s H locs) (hv : narrow .boolean (.int v) = .int v ∧ fits .boolean (.int v) = true) (hdg : decode cc pc = .ok (.putfield 65, 3)) (kk : ∀ (H1 : Heap) (locs1 : List Loc), ZZ D cI (cw q cI (upd g 6 v) mm) A s H1 locs1 → W p l e R s m args below meth c H1 locs1 cells slots Q (F0 m (pc + 3) ls rest)) : W p l e R s m args below meth c H locs cells slots Q (F0 m pc ls (.int v :: .ref (q 0) :: rest)) := z_put X hTs Z iX2 tyX2 tyX2_ok nmX2 0 rfl rfl 10 (by decide) kw_91 rfl rfl (ty := .boolean) (by decide +kernel) hv.1 hv.2 (Nat.le_of_ble_eq_true rfl) rfl hdg kk
theorem G_X2_delay (X : CallFix p m c cc nL s args Ts RX2) (hTs : ∀ w ∈ TB, w ∈ Ts) (Z : ZZ D cI (cw q cI g mm) A s H locs) (hdg : decode cc pc = .ok (.getfield 73, 3)) (kk : W p l e R s m args below meth c H locs cells slots Q (F0 m (pc + 3) ls (.int (g 7) :: rest))) : W p l e R s m args below meth c H locs cells slots Q (F0 m pc ls (.ref (q 0) :: rest)) := z_get X hTs Z iX2 0 rfl rfl 11 (by decide) kw_92 rfl rfl hdg kk
theorem P_X2_delay {v : Int32} (X : CallFix p m c cc nL s args Ts RX2) (hTs : ∀ w ∈ TB, w ∈ Ts) (Z : ZZ D cI (cw q cI g mm) A s H locs) (hv : narrow .boolean (.int v) = .int v ∧ fits .boolean (.int v) = true) (hdg : decode cc pc = .ok (.putfield 73, 3)) (kk : ∀ (H1 : Heap) (locs1 : List Loc), ZZ D cI (cw q cI (upd g 7 v) mm) A s H1 locs1 → W p l e R s m args below meth c H1 locs1 cells slots Q (F0 m (pc + 3) ls rest)) : W p l e R s m args below meth c H locs cells slots Q (F0 m pc ls (.int v :: .ref (q 0) :: rest)) := z_put X hTs Z iX2 tyX2 tyX2_ok nmX2 0 rfl rfl 11 (by decide) kw_92 rfl rfl (ty := .boolean) (by decide +kernel) hv.1 hv.2 (Nat.le_of_ble_eq_true rfl) rfl hdg kk
theorem G_X2_r_flag (X : CallFix p m c cc nL s args Ts RX2) (hTs : ∀ w ∈ TB, w ∈ Ts) (Z : ZZ D cI (cw q cI g mm) A s H locs) (hdg : decode cc pc = .ok (.getfield 76, 3)) (kk : W p l e R s m args below meth c H locs cells slots Q (F0 m (pc + 3) ls (.int (g 14) :: rest))) : W p l e R s m args below meth c H locs cells slots Q (F0 m pc ls (.ref (q 2) :: rest)) := z_getN X hTs Z iX0 2 rfl rfl 4 (by decide) kw_54 rfl rfl hdg kk
theorem P_X2_r_flag {v : Int32} (X : CallFix p m c cc nL s args Ts RX2) (hTs : ∀ w ∈ TB, w ∈ Ts) (Z : ZZ D cI (cw q cI g mm) A s H locs) (hv : narrow .boolean (.int v) = .int v ∧ fits .boolean (.int v) = true) (hdg : decode cc pc = .ok (.putfield 76, 3)) (kk : ∀ (H1 : Heap) (locs1 : List Loc), ZZ D cI (cw q cI (upd g 14 v) mm) A s H1 locs1 → W p l e R s m args below meth c H1 locs1 cells slots Q (F0 m (pc + 3) ls rest)) : W p l e R s m args below meth c H locs cells slots Q (F0 m pc ls (.int v :: .ref (q 2) :: rest)) := z_putN X hTs Z iX0 tyX0 tyX0_ok nmX0 2 rfl rfl 4 (by decide) kw_54 rfl rfl (ty := .boolean) (by decide +kernel) hv.1 hv.2 (Nat.le_of_ble_eq_true rfl) rfl hdg kk
theorem G_X2_r_buffer (X : CallFix p m c cc nL s args Ts RX2) (hTs : ∀ w ∈ TB, w ∈ Ts) (Z : ZZ D cI (cw q cI g mm) A s H locs) (hdg : decode cc pc = .ok (.getfield 79, 3)) (kk : W p l e R s m args below meth c H locs cells slots Q (F0 m (pc + 3) ls (.int (g 13) :: rest))) : W p l e R s m args below meth c H locs cells slots Q (F0 m pc ls (.ref (q 2) :: rest)) := z_getN X hTs Z iX0 2 rfl rfl 3 (by decide) kw_52 rfl rfl hdg kk
theorem P_X2_r_buffer {v : Int32} (X : CallFix p m c cc nL s args Ts RX2) (hTs : ∀ w ∈ TB, w ∈ Ts) (Z : ZZ D cI (cw q cI g mm) A s H locs) (hdg : decode cc pc = .ok (.putfield 79, 3)) (kk : ∀ (H1 : Heap) (locs1 : List Loc), ZZ D cI (cw q cI (upd g 13 v) mm) A s H1 locs1 → W p l e R s m args below meth c H1 locs1 cells slots Q (F0 m (pc + 3) ls rest)) : W p l e R s m args below meth c H locs cells slots Q (F0 m pc ls (.int v :: .ref (q 2) :: rest)) := z_putN X hTs Z iX0 tyX0 tyX0_ok nmX0 2 rfl rfl 3 (by decide) kw_52 rfl rfl (ty := .int) (by decide +kernel) rfl rfl (Nat.le_of_ble_eq_true rfl) rfl hdg kk
theorem G_X2_printerFlag (X : CallFix p m c cc nL s args Ts RX2) (hTs : ∀ w ∈ TB, w ∈ Ts) (Z : ZZ D cI (cw q cI g mm) A s H locs) (hdg : decode cc pc = .ok (.getfield 82, 3)) (kk : W p l e R s m args below meth c H locs cells slots Q (F0 m (pc + 3) ls (.int (g 8) :: rest))) : W p l e R s m args below meth c H locs cells slots Q (F0 m pc ls (.ref (q 0) :: rest)) := z_get X hTs Z iX2 0 rfl rfl 12 (by decide) kw_93 rfl rfl hdg kk
theorem P_X2_printerFlag {v : Int32} (X : CallFix p m c cc nL s args Ts RX2) (hTs : ∀ w ∈ TB, w ∈ Ts) (Z : ZZ D cI (cw q cI g mm) A s H locs) (hv : narrow .boolean (.int v) = .int v ∧ fits .boolean (.int v) = true) (hdg : decode cc pc = .ok (.putfield 82, 3)) (kk : ∀ (H1 : Heap) (locs1 : List Loc), ZZ D cI (cw q cI (upd g 8 v) mm) A s H1 locs1 → W p l e R s m args below meth c H1 locs1 cells slots Q (F0 m (pc + 3) ls rest)) : W p l e R s m args below meth c H locs cells slots Q (F0 m pc ls (.int v :: .ref (q 0) :: rest)) := z_put X hTs Z iX2 tyX2 tyX2_ok nmX2 0 rfl rfl 12 (by decide) kw_93 rfl rfl (ty := .boolean) (by decide +kernel) hv.1 hv.2 (Nat.le_of_ble_eq_true rfl) rfl hdg kk
theorem G_X2_halted (X : CallFix p m c cc nL s args Ts RX2) (hTs : ∀ w ∈ TB, w ∈ Ts) (Z : ZZ D cI (cw q cI g mm) A s H locs) (hdg : decode cc pc = .ok (.getfield 85, 3)) (kk : W p l e R s m args below meth c H locs cells slots Q (F0 m (pc + 3) ls (.int (g 5) :: rest))) : W p l e R s m args below meth c H locs cells slots Q (F0 m pc ls (.ref (q 0) :: rest)) := z_get X hTs Z iX2 0 rfl rfl 9 (by decide) kw_90 rfl rfl hdg kk
theorem P_X2_halted {v : Int32} (X : CallFix p m c cc nL s args Ts RX2) (hTs : ∀ w ∈ TB, w ∈ Ts) (Z : ZZ D cI (cw q cI g mm) A s H locs) (hv : narrow .boolean (.int v) = .int v ∧ fits .boolean (.int v) = true) (hdg : decode cc pc = .ok (.putfield 85, 3)) (kk : ∀ (H1 : Heap) (locs1 : List Loc), ZZ D cI (cw q cI (upd g 5 v) mm) A s H1 locs1 → W p l e R s m args below meth c H1 locs1 cells slots Q (F0 m (pc + 3) ls rest)) : W p l e R s m args below meth c H locs cells slots Q (F0 m pc ls (.int v :: .ref (q 0) :: rest)) := z_put X hTs Z iX2 tyX2 tyX2_ok nmX2 0 rfl rfl 9 (by decide) kw_90 rfl rfl (ty := .boolean) (by decide +kernel) hv.1 hv.2 (Nat.le_of_ble_eq_true rfl) rfl hdg kk
theorem G_X2_p_count (X : CallFix p m c cc nL s args Ts RX2) (hTs : ∀ w ∈ TB, w ∈ Ts) (Z : ZZ D cI (cw q cI g mm) A s H locs) (hdg : decode cc pc = .ok (.getfield 91, 3)) (kk : W p l e R s m args below meth c H locs cells slots Q (F0 m (pc + 3) ls (.int (g 15) :: rest))) : W p l e R s m args below meth c H locs cells slots Q (F0 m pc ls (.ref (q 3) :: rest)) := z_getN X hTs Z iX1 4 rfl rfl 1 (by decide) kw_75 rfl rfl hdg kk
theorem G_X2_interruptCount (X : CallFix p m c cc nL s args Ts RX2) (hTs : ∀ w ∈ TB, w ∈ Ts) (Z : ZZ D cI (cw q cI g mm) A s H locs) (hdg : decode cc pc = .ok (.getfield 97, 3)) (kk : W p l e R s m args below meth c H locs cells slots Q (F0 m (pc + 3) ls (.int (g 9) :: rest))) : W p l e R s m args below meth c H locs cells slots Q (F0 m pc ls (.ref (q 0) :: rest)) := z_get X hTs Z iX2 0 rfl rfl 13 (by decide) kw_94 rfl rfl hdg kk
theorem P_X2_interruptCount {v : Int32} (X : CallFix p m c cc nL s args Ts RX2) (hTs : ∀ w ∈ TB, w ∈ Ts) (Z : ZZ D cI (cw q cI g mm) A s H locs) (hdg : decode cc pc = .ok (.putfield 97, 3)) (kk : ∀ (H1 : Heap) (locs1 : List Loc), ZZ D cI (cw q cI (upd g 9 v) mm) A s H1 locs1 → W p l e R s m args below meth c H1 locs1 cells slots Q (F0 m (pc + 3) ls rest)) : W p l e R s m args below meth c H locs cells slots Q (F0 m pc ls (.int v :: .ref (q 0) :: rest)) := z_put X hTs Z iX2 tyX2 tyX2_ok nmX2 0 rfl rfl 13 (by decide) kw_94 rfl rfl (ty := .int) (by decide +kernel) rfl rfl (Nat.le_of_ble_eq_true rfl) rfl hdg kk
theorem G_X2_skipCount (X : CallFix p m c cc nL s args Ts RX2) (hTs : ∀ w ∈ TB, w ∈ Ts) (Z : ZZ D cI (cw q cI g mm) A s H locs) (hdg : decode cc pc = .ok (.getfield 100, 3)) (kk : W p l e R s m args below meth c H locs cells slots Q (F0 m (pc + 3) ls (.int (g 10) :: rest))) : W p l e R s m args below meth c H locs cells slots Q (F0 m pc ls (.ref (q 0) :: rest)) := z_get X hTs Z iX2 0 rfl rfl 14 (by decide) kw_95 rfl rfl hdg kk
theorem P_X2_skipCount {v : Int32} (X : CallFix p m c cc nL s args Ts RX2) (hTs : ∀ w ∈ TB, w ∈ Ts) (Z : ZZ D cI (cw q cI g mm) A s H locs) (hdg : decode cc pc = .ok (.putfield 100, 3)) (kk : ∀ (H1 : Heap) (locs1 : List Loc), ZZ D cI (cw q cI (upd g 10 v) mm) A s H1 locs1 → W p l e R s m args below meth c H1 locs1 cells slots Q (F0 m (pc + 3) ls rest)) : W p l e R s m args below meth c H locs cells slots Q (F0 m pc ls (.int v :: .ref (q 0) :: rest)) := z_put X hTs Z iX2 tyX2 tyX2_ok nmX2 0 rfl rfl 14 (by decide) kw_95 rfl rfl (ty := .int) (by decide +kernel) rfl rfl (Nat.le_of_ble_eq_true rfl) rfl hdg kk
theorem G_X3_core (X : CallFix p m c cc nL s args Ts RX3) (hTs : ∀ w ∈ TB, w ∈ Ts) (Z : ZZ D cI (mw q cI g mm) A s H locs) (hdg : decode cc pc = .ok (.getfield 7, 3)) (kk : W p l e R s m args below meth c H locs cells slots Q (F0 m (pc + 3) ls (.ref (q 1) :: rest))) : W p l e R s m args below meth c H locs cells slots Q (F0 m pc ls (.ref (q 0) :: rest)) := z_get X hTs Z iX3 0 rfl rfl 0 (by decide) kw_269 rfl rfl hdg kk
theorem G_X3_r (X : CallFix p m c cc nL s args Ts RX3) (hTs : ∀ w ∈ TB, w ∈ Ts) (Z : ZZ D cI (mw q cI g mm) A s H locs) (hdg : decode cc pc = .ok (.getfield 13, 3)) (kk : W p l e R s m args below meth c H locs cells slots Q (F0 m (pc + 3) ls (.ref (q 2) :: rest))) : W p l e R s m args below meth c H locs cells slots Q (F0 m pc ls (.ref (q 0) :: rest)) := z_get X hTs Z iX3 0 rfl rfl 1 (by decide) kw_270 rfl rfl hdg kk
theorem G_X3_tape (X : CallFix p m c cc nL s args Ts RX3) (hTs : ∀ w ∈ TB, w ∈ Ts) (Z : ZZ D cI (mw q cI g mm) A s H locs) (hdg : decode cc pc = .ok (.getfield 16, 3)) (kk : W p l e R s m args below meth c H locs cells slots Q (F0 m (pc + 3) ls (.ref (q 3) :: rest))) : W p l e R s m args below meth c H locs cells slots Q (F0 m pc ls (.ref (q 0) :: rest)) := z_get X hTs Z iX3 0 rfl rfl 2 (by decide) kw_271 rfl rfl hdg kk
theorem G_X3_out (X : CallFix p m c cc nL s args Ts RX3) (hTs : ∀ w ∈ TB, w ∈ Ts) (Z : ZZ D cI (mw q cI g mm) A s H locs) (hdg : decode cc pc = .ok (.getfield 19, 3)) (kk : W p l e R s m args below meth c H locs cells slots Q (F0 m (pc + 3) ls (.ref (q 4) :: rest))) : W p l e R s m args below meth c H locs cells slots Q (F0 m pc ls (.ref (q 0) :: rest)) := z_get X hTs Z iX3 0 rfl rfl 3 (by decide) kw_272 rfl rfl hdg kk
theorem G_X3_places (X : CallFix p m c cc nL s args Ts RX3) (hTs : ∀ w ∈ TB, w ∈ Ts) (Z : ZZ D cI (mw q cI g mm) A s H locs) (hdg : decode cc pc = .ok (.getfield 22, 3)) (kk : W p l e R s m args below meth c H locs cells slots Q (F0 m (pc + 3) ls (.ref (q 5) :: rest))) : W p l e R s m args below meth c H locs cells slots Q (F0 m pc ls (.ref (q 0) :: rest)) := z_get X hTs Z iX3 0 rfl rfl 4 (by decide) kw_273 rfl rfl hdg kk
theorem G_X3_fed (X : CallFix p m c cc nL s args Ts RX3) (hTs : ∀ w ∈ TB, w ∈ Ts) (Z : ZZ D cI (mw q cI g mm) A s H locs) (hdg : decode cc pc = .ok (.getfield 25, 3)) (kk : W p l e R s m args below meth c H locs cells slots Q (F0 m (pc + 3) ls (.int (g 0) :: rest))) : W p l e R s m args below meth c H locs cells slots Q (F0 m pc ls (.ref (q 0) :: rest)) := z_get X hTs Z iX3 0 rfl rfl 5 (by decide) kw_274 rfl rfl hdg kk
theorem P_X3_fed {v : Int32} (X : CallFix p m c cc nL s args Ts RX3) (hTs : ∀ w ∈ TB, w ∈ Ts) (Z : ZZ D cI (mw q cI g mm) A s H locs) (hdg : decode cc pc = .ok (.putfield 25, 3)) (kk : ∀ (H1 : Heap) (locs1 : List Loc), ZZ D cI (mw q cI (upd g 0 v) mm) A s H1 locs1 → W p l e R s m args below meth c H1 locs1 cells slots Q (F0 m (pc + 3) ls rest)) : W p l e R s m args below meth c H locs cells slots Q (F0 m pc ls (.int v :: .ref (q 0) :: rest)) := z_put X hTs Z iX3 tyX3 tyX3_ok nmX3 0 rfl rfl 5 (by decide) kw_274 rfl rfl (ty := .int) (by decide +kernel) rfl rfl (Nat.le_of_ble_eq_true rfl) rfl hdg kk
theorem G_X3_read (X : CallFix p m c cc nL s args Ts RX3) (hTs : ∀ w ∈ TB, w ∈ Ts) (Z : ZZ D cI (mw q cI g mm) A s H locs) (hdg : decode cc pc = .ok (.getfield 29, 3)) (kk : W p l e R s m args below meth c H locs cells slots Q (F0 m (pc + 3) ls (.int (g 1) :: rest))) : W p l e R s m args below meth c H locs cells slots Q (F0 m pc ls (.ref (q 0) :: rest)) := z_get X hTs Z iX3 0 rfl rfl 6 (by decide) kw_275 rfl rfl hdg kk
theorem P_X3_read {v : Int32} (X : CallFix p m c cc nL s args Ts RX3) (hTs : ∀ w ∈ TB, w ∈ Ts) (Z : ZZ D cI (mw q cI g mm) A s H locs) (hdg : decode cc pc = .ok (.putfield 29, 3)) (kk : ∀ (H1 : Heap) (locs1 : List Loc), ZZ D cI (mw q cI (upd g 1 v) mm) A s H1 locs1 → W p l e R s m args below meth c H1 locs1 cells slots Q (F0 m (pc + 3) ls rest)) : W p l e R s m args below meth c H locs cells slots Q (F0 m pc ls (.int v :: .ref (q 0) :: rest)) := z_put X hTs Z iX3 tyX3 tyX3_ok nmX3 0 rfl rfl 6 (by decide) kw_275 rfl rfl (ty := .int) (by decide +kernel) rfl rfl (Nat.le_of_ble_eq_true rfl) rfl hdg kk
theorem G_X3_skips (X : CallFix p m c cc nL s args Ts RX3) (hTs : ∀ w ∈ TB, w ∈ Ts) (Z : ZZ D cI (mw q cI g mm) A s H locs) (hdg : decode cc pc = .ok (.getfield 36, 3)) (kk : W p l e R s m args below meth c H locs cells slots Q (F0 m (pc + 3) ls (.int (g 5) :: rest))) : W p l e R s m args below meth c H locs cells slots Q (F0 m pc ls (.ref (q 0) :: rest)) := z_get X hTs Z iX3 0 rfl rfl 10 (by decide) kw_279 rfl rfl hdg kk
theorem P_X3_skips {v : Int32} (X : CallFix p m c cc nL s args Ts RX3) (hTs : ∀ w ∈ TB, w ∈ Ts) (Z : ZZ D cI (mw q cI g mm) A s H locs) (hdg : decode cc pc = .ok (.putfield 36, 3)) (kk : ∀ (H1 : Heap) (locs1 : List Loc), ZZ D cI (mw q cI (upd g 5 v) mm) A s H1 locs1 → W p l e R s m args below meth c H1 locs1 cells slots Q (F0 m (pc + 3) ls rest)) : W p l e R s m args below meth c H locs cells slots Q (F0 m pc ls (.int v :: .ref (q 0) :: rest)) := z_put X hTs Z iX3 tyX3 tyX3_ok nmX3 0 rfl rfl 10 (by decide) kw_279 rfl rfl (ty := .int) (by decide +kernel) rfl rfl (Nat.le_of_ble_eq_true rfl) rfl hdg kk
theorem G_X3_interrupts (X : CallFix p m c cc nL s args Ts RX3) (hTs : ∀ w ∈ TB, w ∈ Ts) (Z : ZZ D cI (mw q cI g mm) A s H locs) (hdg : decode cc pc = .ok (.getfield 39, 3)) (kk : W p l e R s m args below meth c H locs cells slots Q (F0 m (pc + 3) ls (.int (g 4) :: rest))) : W p l e R s m args below meth c H locs cells slots Q (F0 m pc ls (.ref (q 0) :: rest)) := z_get X hTs Z iX3 0 rfl rfl 9 (by decide) kw_278 rfl rfl hdg kk
theorem P_X3_interrupts {v : Int32} (X : CallFix p m c cc nL s args Ts RX3) (hTs : ∀ w ∈ TB, w ∈ Ts) (Z : ZZ D cI (mw q cI g mm) A s H locs) (hdg : decode cc pc = .ok (.putfield 39, 3)) (kk : ∀ (H1 : Heap) (locs1 : List Loc), ZZ D cI (mw q cI (upd g 4 v) mm) A s H1 locs1 → W p l e R s m args below meth c H1 locs1 cells slots Q (F0 m (pc + 3) ls rest)) : W p l e R s m args below meth c H locs cells slots Q (F0 m pc ls (.int v :: .ref (q 0) :: rest)) := z_put X hTs Z iX3 tyX3 tyX3_ok nmX3 0 rfl rfl 9 (by decide) kw_278 rfl rfl (ty := .int) (by decide +kernel) rfl rfl (Nat.le_of_ble_eq_true rfl) rfl hdg kk
theorem G_X3_steps (X : CallFix p m c cc nL s args Ts RX3) (hTs : ∀ w ∈ TB, w ∈ Ts) (Z : ZZ D cI (mw q cI g mm) A s H locs) (hdg : decode cc pc = .ok (.getfield 42, 3)) (kk : W p l e R s m args below meth c H locs cells slots Q (F0 m (pc + 3) ls (.int (g 3) :: rest))) : W p l e R s m args below meth c H locs cells slots Q (F0 m pc ls (.ref (q 0) :: rest)) := z_get X hTs Z iX3 0 rfl rfl 8 (by decide) kw_277 rfl rfl hdg kk
theorem P_X3_steps {v : Int32} (X : CallFix p m c cc nL s args Ts RX3) (hTs : ∀ w ∈ TB, w ∈ Ts) (Z : ZZ D cI (mw q cI g mm) A s H locs) (hdg : decode cc pc = .ok (.putfield 42, 3)) (kk : ∀ (H1 : Heap) (locs1 : List Loc), ZZ D cI (mw q cI (upd g 3 v) mm) A s H1 locs1 → W p l e R s m args below meth c H1 locs1 cells slots Q (F0 m (pc + 3) ls rest)) : W p l e R s m args below meth c H locs cells slots Q (F0 m pc ls (.int v :: .ref (q 0) :: rest)) := z_put X hTs Z iX3 tyX3 tyX3_ok nmX3 0 rfl rfl 8 (by decide) kw_277 rfl rfl (ty := .int) (by decide +kernel) rfl rfl (Nat.le_of_ble_eq_true rfl) rfl hdg kk
theorem G_X3_printed (X : CallFix p m c cc nL s args Ts RX3) (hTs : ∀ w ∈ TB, w ∈ Ts) (Z : ZZ D cI (mw q cI g mm) A s H locs) (hdg : decode cc pc = .ok (.getfield 79, 3)) (kk : W p l e R s m args below meth c H locs cells slots Q (F0 m (pc + 3) ls (.int (g 2) :: rest))) : W p l e R s m args below meth c H locs cells slots Q (F0 m pc ls (.ref (q 0) :: rest)) := z_get X hTs Z iX3 0 rfl rfl 7 (by decide) kw_276 rfl rfl hdg kk
theorem P_X3_printed {v : Int32} (X : CallFix p m c cc nL s args Ts RX3) (hTs : ∀ w ∈ TB, w ∈ Ts) (Z : ZZ D cI (mw q cI g mm) A s H locs) (hdg : decode cc pc = .ok (.putfield 79, 3)) (kk : ∀ (H1 : Heap) (locs1 : List Loc), ZZ D cI (mw q cI (upd g 2 v) mm) A s H1 locs1 → W p l e R s m args below meth c H1 locs1 cells slots Q (F0 m (pc + 3) ls rest)) : W p l e R s m args below meth c H locs cells slots Q (F0 m pc ls (.int v :: .ref (q 0) :: rest)) := z_put X hTs Z iX3 tyX3 tyX3_ok nmX3 0 rfl rfl 7 (by decide) kw_276 rfl rfl (ty := .int) (by decide +kernel) rfl rfl (Nat.le_of_ble_eq_true rfl) rfl hdg kk
theorem L_X2_core {own : String} {i : Int32} {j : Nat} (X : CallFix p m c cc nL s args Ts own) (Z : ZZ D cI (cw q cI g mm) A s H locs) (hi : vp_in i 4096) (hj : i.toNatClampNeg = j) (hdg : decode cc pc = .ok (.iaload, 1)) (kk : W p l e R s m args below meth c H locs cells slots Q (F0 m (pc + 1) ls (.int (mm 0 j) :: rest))) : W p l e R s m args below meth c H locs cells slots Q (F0 m pc ls (.int i :: .ref (q 1) :: rest)) := z_ld X Z 1 rfl hi hj hdg kk
theorem S_X2_core {own : String} {i x : Int32} {j : Nat} (X : CallFix p m c cc nL s args Ts own) (Z : ZZ D cI (cw q cI g mm) A s H locs) (hi : vp_in i 4096) (hj : i.toNatClampNeg = j) (hdg : decode cc pc = .ok (.iastore, 1)) (kk : ∀ (H1 : Heap) (locs1 : List Loc), ZZ D cI (cw q cI g (va_up mm 0 (upd (mm 0) j x))) A s H1 locs1 → W p l e R s m args below meth c H1 locs1 cells slots Q (F0 m (pc + 1) ls rest)) : W p l e R s m args below meth c H locs cells slots Q (F0 m pc ls (.int x :: .int i :: .ref (q 1) :: rest)) := z_st X Z 1 rfl hi hj rfl hdg kk
theorem L_X3_core {own : String} {i : Int32} {j : Nat} (X : CallFix p m c cc nL s args Ts own) (Z : ZZ D cI (mw q cI g mm) A s H locs) (hi : vp_in i 4096) (hj : i.toNatClampNeg = j) (hdg : decode cc pc = .ok (.iaload, 1)) (kk : W p l e R s m args below meth c H locs cells slots Q (F0 m (pc + 1) ls (.int (mm 0 j) :: rest))) : W p l e R s m args below meth c H locs cells slots Q (F0 m pc ls (.int i :: .ref (q 1) :: rest)) := z_ld X Z 1 rfl hi hj hdg kk
theorem S_X3_core {own : String} {i x : Int32} {j : Nat} (X : CallFix p m c cc nL s args Ts own) (Z : ZZ D cI (mw q cI g mm) A s H locs) (hi : vp_in i 4096) (hj : i.toNatClampNeg = j) (hdg : decode cc pc = .ok (.iastore, 1)) (kk : ∀ (H1 : Heap) (locs1 : List Loc), ZZ D cI (mw q cI g (va_up mm 0 (upd (mm 0) j x))) A s H1 locs1 → W p l e R s m args below meth c H1 locs1 cells slots Q (F0 m (pc + 1) ls rest)) : W p l e R s m args below meth c H locs cells slots Q (F0 m pc ls (.int x :: .int i :: .ref (q 1) :: rest)) := z_st X Z 1 rfl hi hj rfl hdg kk
theorem L_X3_r {own : String} {i : Int32} {j : Nat} (X : CallFix p m c cc nL s args Ts own) (Z : ZZ D cI (mw q cI g mm) A s H locs) (hi : vp_in i 11) (hj : i.toNatClampNeg = j) (hdg : decode cc pc = .ok (.iaload, 1)) (kk : W p l e R s m args below meth c H locs cells slots Q (F0 m (pc + 1) ls (.int (mm 1 j) :: rest))) : W p l e R s m args below meth c H locs cells slots Q (F0 m pc ls (.int i :: .ref (q 2) :: rest)) := z_ld X Z 2 rfl hi hj hdg kk
theorem S_X3_r {own : String} {i x : Int32} {j : Nat} (X : CallFix p m c cc nL s args Ts own) (Z : ZZ D cI (mw q cI g mm) A s H locs) (hi : vp_in i 11) (hj : i.toNatClampNeg = j) (hdg : decode cc pc = .ok (.iastore, 1)) (kk : ∀ (H1 : Heap) (locs1 : List Loc), ZZ D cI (mw q cI g (va_up mm 1 (upd (mm 1) j x))) A s H1 locs1 → W p l e R s m args below meth c H1 locs1 cells slots Q (F0 m (pc + 1) ls rest)) : W p l e R s m args below meth c H locs cells slots Q (F0 m pc ls (.int x :: .int i :: .ref (q 2) :: rest)) := z_st X Z 2 rfl hi hj rfl hdg kk
theorem L_X3_tape {own : String} {i : Int32} {j : Nat} (X : CallFix p m c cc nL s args Ts own) (Z : ZZ D cI (mw q cI g mm) A s H locs) (hi : vp_in i 400) (hj : i.toNatClampNeg = j) (hdg : decode cc pc = .ok (.iaload, 1)) (kk : W p l e R s m args below meth c H locs cells slots Q (F0 m (pc + 1) ls (.int (mm 2 j) :: rest))) : W p l e R s m args below meth c H locs cells slots Q (F0 m pc ls (.int i :: .ref (q 3) :: rest)) := z_ld X Z 3 rfl hi hj hdg kk
theorem S_X3_tape {own : String} {i x : Int32} {j : Nat} (X : CallFix p m c cc nL s args Ts own) (Z : ZZ D cI (mw q cI g mm) A s H locs) (hi : vp_in i 400) (hj : i.toNatClampNeg = j) (hdg : decode cc pc = .ok (.iastore, 1)) (kk : ∀ (H1 : Heap) (locs1 : List Loc), ZZ D cI (mw q cI g (va_up mm 2 (upd (mm 2) j x))) A s H1 locs1 → W p l e R s m args below meth c H1 locs1 cells slots Q (F0 m (pc + 1) ls rest)) : W p l e R s m args below meth c H locs cells slots Q (F0 m pc ls (.int x :: .int i :: .ref (q 3) :: rest)) := z_st X Z 3 rfl hi hj rfl hdg kk
theorem L_X3_out {own : String} {i : Int32} {j : Nat} (X : CallFix p m c cc nL s args Ts own) (Z : ZZ D cI (mw q cI g mm) A s H locs) (hi : vp_in i 64) (hj : i.toNatClampNeg = j) (hdg : decode cc pc = .ok (.iaload, 1)) (kk : W p l e R s m args below meth c H locs cells slots Q (F0 m (pc + 1) ls (.int (mm 3 j) :: rest))) : W p l e R s m args below meth c H locs cells slots Q (F0 m pc ls (.int i :: .ref (q 4) :: rest)) := z_ld X Z 4 rfl hi hj hdg kk
theorem S_X3_out {own : String} {i x : Int32} {j : Nat} (X : CallFix p m c cc nL s args Ts own) (Z : ZZ D cI (mw q cI g mm) A s H locs) (hi : vp_in i 64) (hj : i.toNatClampNeg = j) (hdg : decode cc pc = .ok (.iastore, 1)) (kk : ∀ (H1 : Heap) (locs1 : List Loc), ZZ D cI (mw q cI g (va_up mm 3 (upd (mm 3) j x))) A s H1 locs1 → W p l e R s m args below meth c H1 locs1 cells slots Q (F0 m (pc + 1) ls rest)) : W p l e R s m args below meth c H locs cells slots Q (F0 m pc ls (.int x :: .int i :: .ref (q 4) :: rest)) := z_st X Z 4 rfl hi hj rfl hdg kk
theorem L_X3_places {own : String} {i : Int32} {j : Nat} (X : CallFix p m c cc nL s args Ts own) (Z : ZZ D cI (mw q cI g mm) A s H locs) (hi : vp_in i 64) (hj : i.toNatClampNeg = j) (hdg : decode cc pc = .ok (.iaload, 1)) (kk : W p l e R s m args below meth c H locs cells slots Q (F0 m (pc + 1) ls (.int (mm 4 j) :: rest))) : W p l e R s m args below meth c H locs cells slots Q (F0 m pc ls (.int i :: .ref (q 5) :: rest)) := z_ld X Z 5 rfl hi hj hdg kk
theorem S_X3_places {own : String} {i x : Int32} {j : Nat} (X : CallFix p m c cc nL s args Ts own) (Z : ZZ D cI (mw q cI g mm) A s H locs) (hi : vp_in i 64) (hj : i.toNatClampNeg = j) (hdg : decode cc pc = .ok (.iastore, 1)) (kk : ∀ (H1 : Heap) (locs1 : List Loc), ZZ D cI (mw q cI g (va_up mm 4 (upd (mm 4) j x))) A s H1 locs1 → W p l e R s m args below meth c H1 locs1 cells slots Q (F0 m (pc + 1) ls rest)) : W p l e R s m args below meth c H locs cells slots Q (F0 m pc ls (.int x :: .int i :: .ref (q 5) :: rest)) := z_st X Z 5 rfl hi hj rfl hdg kk
theorem L_X0_tape {own : String} {i : Int32} {j : Nat} (X : CallFix p m c cc nL s args Ts own) (Z : ZZ D cI (rdw a b cI fd tk bf fl tp) A s H locs) (hi : vp_in i 400) (hj : i.toNatClampNeg = j) (hdg : decode cc pc = .ok (.iaload, 1)) (kk : W p l e R s m args below meth c H locs cells slots Q (F0 m (pc + 1) ls (.int (tp j) :: rest))) : W p l e R s m args below meth c H locs cells slots Q (F0 m pc ls (.int i :: .ref b :: rest)) := z_ld X Z 1 rfl hi hj hdg kk
theorem S_X0_tape {own : String} {i x : Int32} {j : Nat} (X : CallFix p m c cc nL s args Ts own) (Z : ZZ D cI (rdw a b cI fd tk bf fl tp) A s H locs) (hi : vp_in i 400) (hj : i.toNatClampNeg = j) (hdg : decode cc pc = .ok (.iastore, 1)) (kk : ∀ (H1 : Heap) (locs1 : List Loc), ZZ D cI (rdw a b cI fd tk bf fl (upd tp j x)) A s H1 locs1 → W p l e R s m args below meth c H1 locs1 cells slots Q (F0 m (pc + 1) ls rest)) : W p l e R s m args below meth c H locs cells slots Q (F0 m pc ls (.int x :: .int i :: .ref b :: rest)) := z_st X Z 1 rfl hi hj rfl hdg kk
theorem L_X1_row {own : String} {i : Int32} {j : Nat} (X : CallFix p m c cc nL s args Ts own) (Z : ZZ D cI (rcw a b cI ct rw) A s H locs) (hi : vp_in i 64) (hj : i.toNatClampNeg = j) (hdg : decode cc pc = .ok (.iaload, 1)) (kk : W p l e R s m args below meth c H locs cells slots Q (F0 m (pc + 1) ls (.int (rw j) :: rest))) : W p l e R s m args below meth c H locs cells slots Q (F0 m pc ls (.int i :: .ref b :: rest)) := z_ld X Z 1 rfl hi hj hdg kk
theorem S_X1_row {own : String} {i x : Int32} {j : Nat} (X : CallFix p m c cc nL s args Ts own) (Z : ZZ D cI (rcw a b cI ct rw) A s H locs) (hi : vp_in i 64) (hj : i.toNatClampNeg = j) (hdg : decode cc pc = .ok (.iastore, 1)) (kk : ∀ (H1 : Heap) (locs1 : List Loc), ZZ D cI (rcw a b cI ct (upd rw j x)) A s H1 locs1 → W p l e R s m args below meth c H1 locs1 cells slots Q (F0 m (pc + 1) ls rest)) : W p l e R s m args below meth c H locs cells slots Q (F0 m pc ls (.int x :: .int i :: .ref b :: rest)) := z_st X Z 1 rfl hi hj rfl hdg kk
end ROWS
theorem vin4095 (x : Int32) : vp_in (x &&& 4095) 4096 := pk_andIn x (m := 4095) 12 (by decide) (by decide)
theorem vin63 (x : Int32) : vp_in (x &&& 63) 64 := pk_andIn x (m := 63) 6 (by decide) (by decide)
theorem vin_of {a M : Int32} {n : Nat} (h1 : ¬ a < 0) (h2 : a ≤ M) (hM : M.toInt < n) : vp_in a n := by
  rw [vp_in_iff]
  rw [Int32.lt_iff_toInt_lt, Int32.toInt_zero] at h1
  rw [Int32.le_iff_toInt_le] at h2
  omega
theorem vin_lt {a M : Int32} {n : Nat} (h1 : ¬ a < 0) (h2 : a < M) (hM : M.toInt ≤ n) : vp_in a n := by
  rw [vp_in_iff]
  rw [Int32.lt_iff_toInt_lt, Int32.toInt_zero] at h1
  rw [Int32.lt_iff_toInt_lt] at h2
  omega
theorem vin_c {a : Int32} {n : Nat} (h : (0 ≤ a.toInt ∧ a.toInt < n)) : vp_in a n := vp_in_iff.mpr h
theorem nb_if {P : Prop} [Decidable P] : narrow .boolean (.int (if P then (1 : Int32) else 0)) = .int (if P then (1 : Int32) else 0) := by split <;> rfl
theorem nb_if2 {P : Prop} [Decidable P] : narrow .boolean (.int (if P then (0 : Int32) else 1)) = .int (if P then (0 : Int32) else 1) := by split <;> rfl
theorem sw_def {x : Int32} {lo hi : Int} (h : ¬ (x.toInt < lo ∨ hi < x.toInt)) : ∃ j : Nat, j ≤ (hi - lo).toNat ∧ x.toInt = lo + j := ⟨(x.toInt - lo).toNat, by omega, by omega⟩
