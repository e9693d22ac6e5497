theorem ggL_law_X8_init : GoodIn wsL_law wsX8_init := sorry
theorem gL_law_X8_init : GoodIn wsL_law (wsX8_init) := sorry
theorem ggL_law_X9_init : GoodIn wsL_law wsX9_init := sorry
theorem gL_law_X9_init : GoodIn wsL_law (wsX9_init) := sorry
theorem ggL_law_L_household : GoodIn wsL_law wsL_household := sorry
theorem gL_law_L_household : GoodIn wsL_law (va_wsS RL 126 yL_household wsL_household) := sorry
theorem ggL_law_X9_household : GoodIn wsL_law wsX9_household := sorry
theorem gL_law_X9_household : GoodIn wsL_law (wsV RL 131 RX9 yX9_household wsX9_household) := sorry
theorem ggL_law_X9_thrown : GoodIn wsL_law wsX9_thrown := sorry
theorem gL_law_X9_thrown : GoodIn wsL_law (wsV RL 132 RX9 yX9_thrown wsX9_thrown) := sorry
theorem ggL_law_L_join : GoodIn wsL_law wsL_join := sorry
theorem gL_law_L_join : GoodIn wsL_law (va_wsS RL 135 yL_join wsL_join) := sorry
theorem ggL_law_X9_join : GoodIn wsL_law wsX9_join := sorry
theorem gL_law_X9_join : GoodIn wsL_law (wsV RL 138 RX9 yX9_join wsX9_join) := sorry
theorem ggL_law_L_leave : GoodIn wsL_law wsL_leave := sorry
theorem gL_law_L_leave : GoodIn wsL_law (va_wsS RL 139 yL_leave wsL_leave) := sorry
theorem ggL_law_X9_leave : GoodIn wsL_law wsX9_leave := sorry
theorem gL_law_X9_leave : GoodIn wsL_law (wsV RL 141 RX9 yX9_leave wsX9_leave) := sorry
theorem ggL_law_L_draw : GoodIn wsL_law wsL_draw := sorry
theorem gL_law_L_draw : GoodIn wsL_law (va_wsS RL 142 yL_draw wsL_draw) := sorry
theorem ggL_law_X9_draw : GoodIn wsL_law wsX9_draw := sorry
theorem gL_law_X9_draw : GoodIn wsL_law (wsV RL 144 RX9 yX9_draw wsX9_draw) := sorry
theorem ggL_law_L_vote : GoodIn wsL_law wsL_vote := sorry
theorem gL_law_L_vote : GoodIn wsL_law (va_wsS RL 145 yL_vote wsL_vote) := sorry
theorem ggL_law_X9_vote : GoodIn wsL_law wsX9_vote := sorry
theorem gL_law_X9_vote : GoodIn wsL_law (wsV RL 148 RX9 yX9_vote wsX9_vote) := sorry
theorem ggL_law_L_rain : GoodIn wsL_law wsL_rain := sorry
theorem gL_law_L_rain : GoodIn wsL_law (va_wsS RL 149 yL_rain wsL_rain) := sorry
theorem ggL_law_X9_rain : GoodIn wsL_law wsX9_rain := sorry
theorem gL_law_X9_rain : GoodIn wsL_law (wsV RL 151 RX9 yX9_rain wsX9_rain) := sorry
theorem ggL_law_L_night : GoodIn wsL_law wsL_night := sorry
theorem gL_law_L_night : GoodIn wsL_law (va_wsS RL 152 yL_night wsL_night) := sorry
theorem ggL_law_X9_night : GoodIn wsL_law wsX9_night := sorry
theorem gL_law_X9_night : GoodIn wsL_law (wsV RL 154 RX9 yX9_night wsX9_night) := sorry
theorem ggL_law_L_collect : GoodIn wsL_law wsL_collect := sorry
theorem gL_law_L_collect : GoodIn wsL_law (va_wsS RL 155 yL_collect wsL_collect) := sorry
theorem ggL_law_X9_collect : GoodIn wsL_law wsX9_collect := sorry
theorem gL_law_X9_collect : GoodIn wsL_law (wsV RL 157 RX9 yX9_collect wsX9_collect) := sorry
theorem ggL_law_L_leather : GoodIn wsL_law wsL_leather := sorry
theorem gL_law_L_leather : GoodIn wsL_law (va_wsS RL 158 yL_leather wsL_leather) := sorry
theorem ggL_law_X9_leather : GoodIn wsL_law wsX9_leather := sorry
theorem gL_law_X9_leather : GoodIn wsL_law (wsV RL 160 RX9 yX9_leather wsX9_leather) := sorry
theorem ggL_law_L_householdOf : GoodIn wsL_law wsL_householdOf := sorry
theorem gL_law_L_householdOf : GoodIn wsL_law (va_wsS RL 161 yL_householdOf wsL_householdOf) := sorry
theorem ggL_law_X9_householdOf : GoodIn wsL_law wsX9_householdOf := sorry
theorem gL_law_X9_householdOf : GoodIn wsL_law (wsV RL 164 RX9 yX9_householdOf wsX9_householdOf) := sorry
theorem ggL_law_L_at : GoodIn wsL_law wsL_at := sorry
theorem gL_law_L_at : GoodIn wsL_law (va_wsS RL 165 yL_at wsL_at) := sorry
theorem ggL_law_X9_at : GoodIn wsL_law wsX9_at := sorry
theorem gL_law_X9_at : GoodIn wsL_law (wsV RL 167 RX9 yX9_at wsX9_at) := sorry
theorem ggL_law_L_neighbours : GoodIn wsL_law wsL_neighbours := sorry
theorem gL_law_L_neighbours : GoodIn wsL_law (va_wsS RL 168 yL_neighbours wsL_neighbours) := sorry
theorem ggL_law_X9_neighbours : GoodIn wsL_law wsX9_neighbours := sorry
theorem gL_law_X9_neighbours : GoodIn wsL_law (wsV RL 170 RX9 yX9_neighbours wsX9_neighbours) := sorry
theorem ggL_law_L_quarrels : GoodIn wsL_law wsL_quarrels := sorry
theorem gL_law_L_quarrels : GoodIn wsL_law (va_wsS RL 171 yL_quarrels wsL_quarrels) := sorry
theorem ggL_law_X9_quarrels : GoodIn wsL_law wsX9_quarrels := sorry
theorem gL_law_X9_quarrels : GoodIn wsL_law (wsV RL 173 RX9 yX9_quarrels wsX9_quarrels) := sorry
theorem ggL_law_L_wouldWin : GoodIn wsL_law wsL_wouldWin := sorry
theorem gL_law_L_wouldWin : GoodIn wsL_law (va_wsS RL 174 yL_wouldWin wsL_wouldWin) := sorry
theorem ggL_law_X9_wouldWin : GoodIn wsL_law wsX9_wouldWin := sorry
theorem gL_law_X9_wouldWin : GoodIn wsL_law (wsV RL 176 RX9 yX9_wouldWin wsX9_wouldWin) := sorry
theorem ggL_law_L_turnsBy : GoodIn wsL_law wsL_turnsBy := sorry
theorem gL_law_L_turnsBy : GoodIn wsL_law (va_wsS RL 177 yL_turnsBy wsL_turnsBy) := sorry
theorem ggL_law_X9_turnsBy : GoodIn wsL_law wsX9_turnsBy := sorry
theorem gL_law_X9_turnsBy : GoodIn wsL_law (wsV RL 179 RX9 yX9_turnsBy wsX9_turnsBy) := sorry
theorem ggL_law_L_isFor : GoodIn wsL_law wsL_isFor := sorry
theorem gL_law_L_isFor : GoodIn wsL_law (va_wsS RL 180 yL_isFor wsL_isFor) := sorry
theorem ggL_law_X9_isFor : GoodIn wsL_law wsX9_isFor := sorry
theorem gL_law_X9_isFor : GoodIn wsL_law (wsV RL 182 RX9 yX9_isFor wsX9_isFor) := sorry
theorem ggL_law_L_membersFor : GoodIn wsL_law wsL_membersFor := sorry
theorem gL_law_L_membersFor : GoodIn wsL_law (va_wsS RL 183 yL_membersFor wsL_membersFor) := sorry
theorem ggL_law_X9_membersFor : GoodIn wsL_law wsX9_membersFor := sorry
theorem gL_law_X9_membersFor : GoodIn wsL_law (wsV RL 185 RX9 yX9_membersFor wsX9_membersFor) := sorry
theorem ggL_law_L_turnIn : GoodIn wsL_law wsL_turnIn := sorry
theorem gL_law_L_turnIn : GoodIn wsL_law (va_wsS RL 186 yL_turnIn wsL_turnIn) := sorry
theorem ggL_law_X9_turnIn : GoodIn wsL_law wsX9_turnIn := sorry
theorem gL_law_X9_turnIn : GoodIn wsL_law (wsV RL 188 RX9 yX9_turnIn wsX9_turnIn) := sorry
theorem ggL_law_X8_possible : GoodIn wsL_law wsX8_possible := sorry
theorem gL_law_X8_possible : GoodIn wsL_law (wsV RL 189 RX8 yX8_possible wsX8_possible) := sorry
theorem ggL_law_X9_possible : GoodIn wsL_law wsX9_possible := sorry
theorem gL_law_X9_possible : GoodIn wsL_law (wsV RL 192 RX9 yX9_possible wsX9_possible) := sorry
theorem ggL_law_L_wouldBring : GoodIn wsL_law wsL_wouldBring := sorry
theorem gL_law_L_wouldBring : GoodIn wsL_law (va_wsS RL 193 yL_wouldBring wsL_wouldBring) := sorry
theorem ggL_law_X9_wouldBring : GoodIn wsL_law wsX9_wouldBring := sorry
theorem gL_law_X9_wouldBring : GoodIn wsL_law (wsV RL 195 RX9 yX9_wouldBring wsX9_wouldBring) := sorry
theorem ggL_law_L_wellIn : GoodIn wsL_law wsL_wellIn := sorry
theorem gL_law_L_wellIn : GoodIn wsL_law (va_wsS RL 196 yL_wellIn wsL_wellIn) := sorry
theorem ggL_law_X9_wellIn : GoodIn wsL_law wsX9_wellIn := sorry
theorem gL_law_X9_wellIn : GoodIn wsL_law (wsV RL 198 RX9 yX9_wellIn wsX9_wellIn) := sorry
theorem ggL_law_L_droughtIn : GoodIn wsL_law wsL_droughtIn := sorry
theorem gL_law_L_droughtIn : GoodIn wsL_law (va_wsS RL 199 yL_droughtIn wsL_droughtIn) := sorry
theorem ggL_law_X9_droughtIn : GoodIn wsL_law wsX9_droughtIn := sorry
theorem gL_law_X9_droughtIn : GoodIn wsL_law (wsV RL 201 RX9 yX9_droughtIn wsX9_droughtIn) := sorry
theorem ggL_law_X8_water : GoodIn wsL_law wsX8_water := sorry
theorem gL_law_X8_water : GoodIn wsL_law (wsV RL 202 RX8 yX8_water wsX8_water) := sorry
theorem ggL_law_X9_water : GoodIn wsL_law wsX9_water := sorry
theorem gL_law_X9_water : GoodIn wsL_law (wsV RL 205 RX9 yX9_water wsX9_water) := sorry
theorem ggL_law_X8_waterAgain : GoodIn wsL_law wsX8_waterAgain := sorry
theorem gL_law_X8_waterAgain : GoodIn wsL_law (wsV RL 206 RX8 yX8_waterAgain wsX8_waterAgain) := sorry
theorem ggL_law_X9_waterAgain : GoodIn wsL_law wsX9_waterAgain := sorry
theorem gL_law_X9_waterAgain : GoodIn wsL_law (wsV RL 209 RX9 yX9_waterAgain wsX9_waterAgain) := sorry
theorem ggL_law_L_append : GoodIn wsL_law wsL_append := sorry
theorem gL_law_L_append : GoodIn wsL_law (va_wsS RL 210 yL_append wsL_append) := sorry
theorem ggL_law_X9_append : GoodIn wsL_law wsX9_append := sorry
theorem gL_law_X9_append : GoodIn wsL_law (wsV RL 213 RX9 yX9_append wsX9_append) := sorry
theorem ggL_law_L_commands : GoodIn wsL_law wsL_commands := sorry
theorem gL_law_L_commands : GoodIn wsL_law (va_wsS RL 214 yL_commands wsL_commands) := sorry
theorem ggL_law_X9_commands : GoodIn wsL_law wsX9_commands := sorry
theorem gL_law_X9_commands : GoodIn wsL_law (wsV RL 216 RX9 yX9_commands wsX9_commands) := sorry
theorem ggL_law_X8_faultPosition : GoodIn wsL_law wsX8_faultPosition := sorry
theorem gL_law_X8_faultPosition : GoodIn wsL_law (wsV RL 217 RX8 yX8_faultPosition wsX8_faultPosition) := sorry
theorem ggL_law_X9_faultPosition : GoodIn wsL_law wsX9_faultPosition := sorry
theorem gL_law_X9_faultPosition : GoodIn wsL_law (wsV RL 220 RX9 yX9_faultPosition wsX9_faultPosition) := sorry
theorem ggL_law_L_reason : GoodIn wsL_law wsL_reason := sorry
theorem gL_law_L_reason : GoodIn wsL_law (va_wsS RL 221 yL_reason wsL_reason) := sorry
theorem ggL_law_X9_reason : GoodIn wsL_law wsX9_reason := sorry
theorem gL_law_X9_reason : GoodIn wsL_law (wsV RL 223 RX9 yX9_reason wsX9_reason) := sorry
theorem ggL_law_L_line : GoodIn wsL_law wsL_line := sorry
theorem gL_law_L_line : GoodIn wsL_law (va_wsS RL 224 yL_line wsL_line) := sorry
theorem ggL_law_X9_line : GoodIn wsL_law wsX9_line := sorry
theorem gL_law_X9_line : GoodIn wsL_law (wsV RL 226 RX9 yX9_line wsX9_line) := sorry
theorem ggL_law_L_character : GoodIn wsL_law wsL_character := sorry
theorem gL_law_L_character : GoodIn wsL_law (va_wsS RL 227 yL_character wsL_character) := sorry
theorem ggL_law_X9_character : GoodIn wsL_law wsX9_character := sorry
theorem gL_law_X9_character : GoodIn wsL_law (wsV RL 229 RX9 yX9_character wsX9_character) := sorry
theorem ggL_law_L_meanTemper : GoodIn wsL_law wsL_meanTemper := sorry
theorem gL_law_L_meanTemper : GoodIn wsL_law (va_wsS RL 230 yL_meanTemper wsL_meanTemper) := sorry
theorem ggL_law_X9_meanTemper : GoodIn wsL_law wsX9_meanTemper := sorry
theorem gL_law_X9_meanTemper : GoodIn wsL_law (wsV RL 233 RX9 yX9_meanTemper wsX9_meanTemper) := sorry
theorem ggL_law_L_share : GoodIn wsL_law wsL_share := sorry
theorem gL_law_L_share : GoodIn wsL_law (va_wsS RL 234 yL_share wsL_share) := sorry
theorem ggL_law_X9_share : GoodIn wsL_law wsX9_share := sorry
theorem gL_law_X9_share : GoodIn wsL_law (wsV RL 237 RX9 yX9_share wsX9_share) := sorry
theorem ggL_law_L_account : GoodIn wsL_law wsL_account := sorry
theorem gL_law_L_account : GoodIn wsL_law (va_wsS RL 238 yL_account wsL_account) := sorry
theorem ggL_law_X9_account : GoodIn wsL_law wsX9_account := sorry
theorem gL_law_X9_account : GoodIn wsL_law (wsV RL 240 RX9 yX9_account wsX9_account) := sorry
theorem ggL_law_L_undo : GoodIn wsL_law wsL_undo := sorry
theorem gL_law_L_undo : GoodIn wsL_law (va_wsS RL 241 yL_undo wsL_undo) := sorry
theorem ggL_law_X9_undo : GoodIn wsL_law wsX9_undo := sorry
theorem gL_law_X9_undo : GoodIn wsL_law (wsV RL 243 RX9 yX9_undo wsX9_undo) := sorry
theorem ggL_law_X8_save : GoodIn wsL_law wsX8_save := sorry
theorem gL_law_X8_save : GoodIn wsL_law (wsV RL 244 RX8 yX8_save wsX8_save) := sorry
theorem ggL_law_X9_save : GoodIn wsL_law wsX9_save := sorry
theorem gL_law_X9_save : GoodIn wsL_law (wsV RL 247 RX9 yX9_save wsX9_save) := sorry
theorem ggL_law_L_restore : GoodIn wsL_law wsL_restore := sorry
theorem gL_law_L_restore : GoodIn wsL_law (va_wsS RL 248 yL_restore wsL_restore) := sorry
theorem ggL_law_X9_restore : GoodIn wsL_law wsX9_restore := sorry
theorem gL_law_X9_restore : GoodIn wsL_law (wsV RL 250 RX9 yX9_restore wsX9_restore) := sorry
theorem dL_law_0 : decode cL_law 0 = .ok (.new 8, 3) := sorry
theorem dL_law_3 : decode cL_law 3 = .ok (.dup, 1) := sorry
theorem dL_law_4 : decode cL_law 4 = .ok (.invokespecial 122, 3) := sorry
theorem dL_law_7 : decode cL_law 7 = .ok (.astore_n 1, 1) := sorry
theorem dL_law_8 : decode cL_law 8 = .ok (.new 123, 3) := sorry
theorem dL_law_11 : decode cL_law 11 = .ok (.dup, 1) := sorry
theorem dL_law_12 : decode cL_law 12 = .ok (.invokespecial 125, 3) := sorry
theorem dL_law_15 : decode cL_law 15 = .ok (.astore_n 2, 1) := sorry
theorem dL_law_16 : decode cL_law 16 = .ok (.iconst 1, 1) := sorry
theorem dL_law_17 : decode cL_law 17 = .ok (.newarray .long, 2) := sorry
theorem dL_law_19 : decode cL_law 19 = .ok (.astore_n 3, 1) := sorry
theorem dL_law_20 : decode cL_law 20 = .ok (.iconst 1, 1) := sorry
theorem dL_law_21 : decode cL_law 21 = .ok (.newarray .double, 2) := sorry
theorem dL_law_23 : decode cL_law 23 = .ok (.astore 4, 2) := sorry
theorem dL_law_25 : decode cL_law 25 = .ok (.iconst 0, 1) := sorry
theorem dL_law_26 : decode cL_law 26 = .ok (.istore 5, 2) := sorry
theorem dL_law_28 : decode cL_law 28 = .ok (.iload 5, 2) := sorry
theorem dL_law_30 : decode cL_law 30 = .ok (.aload_n 0, 1) := sorry
theorem dL_law_31 : decode cL_law 31 = .ok (.arraylength, 1) := sorry
theorem dL_law_32 : decode cL_law 32 = .ok (.iconst 4, 1) := sorry
theorem dL_law_33 : decode cL_law 33 = .ok (.isub, 1) := sorry
theorem dL_law_34 : decode cL_law 34 = .ok (.if_icmp .gt 2034, 3) := sorry
theorem dL_law_37 : decode cL_law 37 = .ok (.aload_n 0, 1) := sorry
theorem dL_law_38 : decode cL_law 38 = .ok (.iload 5, 2) := sorry
theorem dL_law_40 : decode cL_law 40 = .ok (.iaload, 1) := sorry
theorem dL_law_41 : decode cL_law 41 = .ok (.bipush 63, 2) := sorry
theorem dL_law_43 : decode cL_law 43 = .ok (.iand, 1) := sorry
theorem dL_law_44 : decode cL_law 44 = .ok (.tableswitch 2018 0 35 #[160, 240, 296, 352, 408, 452, 508, 564, 620, 664, 732, 788, 844, 912, 980, 1048, 1104, 1160, 1216, 1229, 1285, 1353, 1409, 1422, 1435, 1493, 1537, 1550, 1606, 1662, 1718, 1784, 1861, 1917, 1961, 1974], 160) := sorry
theorem dL_law_204 : decode cL_law 204 = .ok (.aload_n 1, 1) := sorry
theorem dL_law_205 : decode cL_law 205 = .ok (.aload_n 0, 1) := sorry
theorem dL_law_206 : decode cL_law 206 = .ok (.iload 5, 2) := sorry
theorem dL_law_208 : decode cL_law 208 = .ok (.iconst 1, 1) := sorry
theorem dL_law_209 : decode cL_law 209 = .ok (.iadd, 1) := sorry
theorem dL_law_210 : decode cL_law 210 = .ok (.iaload, 1) := sorry
theorem dL_law_211 : decode cL_law 211 = .ok (.aload_n 0, 1) := sorry
theorem dL_law_212 : decode cL_law 212 = .ok (.iload 5, 2) := sorry
theorem dL_law_214 : decode cL_law 214 = .ok (.iconst 2, 1) := sorry
theorem dL_law_215 : decode cL_law 215 = .ok (.iadd, 1) := sorry
theorem dL_law_216 : decode cL_law 216 = .ok (.iaload, 1) := sorry
theorem dL_law_217 : decode cL_law 217 = .ok (.aload_n 0, 1) := sorry
theorem dL_law_218 : decode cL_law 218 = .ok (.iload 5, 2) := sorry
theorem dL_law_220 : decode cL_law 220 = .ok (.iconst 3, 1) := sorry
theorem dL_law_221 : decode cL_law 221 = .ok (.iadd, 1) := sorry
theorem dL_law_222 : decode cL_law 222 = .ok (.iaload, 1) := sorry
theorem dL_law_223 : decode cL_law 223 = .ok (.aload_n 3, 1) := sorry
theorem dL_law_224 : decode cL_law 224 = .ok (.invokestatic 126, 3) := sorry
theorem dL_law_227 : decode cL_law 227 = .ok (.istore 6, 2) := sorry
theorem dL_law_229 : decode cL_law 229 = .ok (.aload_n 2, 1) := sorry
theorem dL_law_230 : decode cL_law 230 = .ok (.aload_n 0, 1) := sorry
theorem dL_law_231 : decode cL_law 231 = .ok (.iload 5, 2) := sorry
theorem dL_law_233 : decode cL_law 233 = .ok (.iconst 1, 1) := sorry
theorem dL_law_234 : decode cL_law 234 = .ok (.iadd, 1) := sorry
theorem dL_law_235 : decode cL_law 235 = .ok (.iaload, 1) := sorry
theorem dL_law_236 : decode cL_law 236 = .ok (.aload_n 0, 1) := sorry
theorem dL_law_237 : decode cL_law 237 = .ok (.iload 5, 2) := sorry
theorem dL_law_239 : decode cL_law 239 = .ok (.iconst 2, 1) := sorry
theorem dL_law_240 : decode cL_law 240 = .ok (.iadd, 1) := sorry
theorem dL_law_241 : decode cL_law 241 = .ok (.iaload, 1) := sorry
theorem dL_law_242 : decode cL_law 242 = .ok (.aload_n 0, 1) := sorry
theorem dL_law_243 : decode cL_law 243 = .ok (.iload 5, 2) := sorry
theorem dL_law_245 : decode cL_law 245 = .ok (.iconst 3, 1) := sorry
theorem dL_law_246 : decode cL_law 246 = .ok (.iadd, 1) := sorry
theorem dL_law_247 : decode cL_law 247 = .ok (.iaload, 1) := sorry
theorem dL_law_248 : decode cL_law 248 = .ok (.invokevirtual 131, 3) := sorry
theorem dL_law_251 : decode cL_law 251 = .ok (.istore 7, 2) := sorry
theorem dL_law_253 : decode cL_law 253 = .ok (.aload_n 2, 1) := sorry
theorem dL_law_254 : decode cL_law 254 = .ok (.invokevirtual 132, 3) := sorry
theorem dL_law_257 : decode cL_law 257 = .ok (.iload 6, 2) := sorry
theorem dL_law_259 : decode cL_law 259 = .ok (.if_icmp .eq 5, 3) := sorry
theorem dL_law_262 : decode cL_law 262 = .ok (.iconst 0, 1) := sorry
theorem dL_law_263 : decode cL_law 263 = .ok (.ireturn, 1) := sorry
theorem dL_law_264 : decode cL_law 264 = .ok (.iload 6, 2) := sorry
theorem dL_law_266 : decode cL_law 266 = .ok (.ifCond .ne 15, 3) := sorry
theorem dL_law_269 : decode cL_law 269 = .ok (.aload_n 3, 1) := sorry
theorem dL_law_270 : decode cL_law 270 = .ok (.iconst 0, 1) := sorry
theorem dL_law_271 : decode cL_law 271 = .ok (.laload, 1) := sorry
theorem dL_law_272 : decode cL_law 272 = .ok (.iload 7, 2) := sorry
theorem dL_law_274 : decode cL_law 274 = .ok (.i2l, 1) := sorry
theorem dL_law_275 : decode cL_law 275 = .ok (.lcmp, 1) := sorry
theorem dL_law_276 : decode cL_law 276 = .ok (.ifCond .eq 5, 3) := sorry
theorem dL_law_279 : decode cL_law 279 = .ok (.iconst 0, 1) := sorry
theorem dL_law_280 : decode cL_law 280 = .ok (.ireturn, 1) := sorry
theorem dL_law_281 : decode cL_law 281 = .ok (.goto 1781, 3) := sorry
theorem dL_law_284 : decode cL_law 284 = .ok (.aload_n 1, 1) := sorry
theorem dL_law_285 : decode cL_law 285 = .ok (.aload_n 0, 1) := sorry
theorem dL_law_286 : decode cL_law 286 = .ok (.iload 5, 2) := sorry
theorem dL_law_288 : decode cL_law 288 = .ok (.iconst 1, 1) := sorry
theorem dL_law_289 : decode cL_law 289 = .ok (.iadd, 1) := sorry
theorem dL_law_290 : decode cL_law 290 = .ok (.iaload, 1) := sorry
theorem dL_law_291 : decode cL_law 291 = .ok (.aload_n 3, 1) := sorry
theorem dL_law_292 : decode cL_law 292 = .ok (.invokestatic 135, 3) := sorry
theorem dL_law_295 : decode cL_law 295 = .ok (.istore 6, 2) := sorry
theorem dL_law_297 : decode cL_law 297 = .ok (.aload_n 2, 1) := sorry
theorem dL_law_298 : decode cL_law 298 = .ok (.aload_n 0, 1) := sorry
theorem dL_law_299 : decode cL_law 299 = .ok (.iload 5, 2) := sorry
theorem dL_law_301 : decode cL_law 301 = .ok (.iconst 1, 1) := sorry
theorem dL_law_302 : decode cL_law 302 = .ok (.iadd, 1) := sorry
theorem dL_law_303 : decode cL_law 303 = .ok (.iaload, 1) := sorry
theorem dL_law_304 : decode cL_law 304 = .ok (.invokevirtual 138, 3) := sorry
theorem dL_law_307 : decode cL_law 307 = .ok (.istore 7, 2) := sorry
theorem dL_law_309 : decode cL_law 309 = .ok (.aload_n 2, 1) := sorry
theorem dL_law_310 : decode cL_law 310 = .ok (.invokevirtual 132, 3) := sorry
theorem dL_law_313 : decode cL_law 313 = .ok (.iload 6, 2) := sorry
theorem dL_law_315 : decode cL_law 315 = .ok (.if_icmp .eq 5, 3) := sorry
theorem dL_law_318 : decode cL_law 318 = .ok (.iconst 0, 1) := sorry
theorem dL_law_319 : decode cL_law 319 = .ok (.ireturn, 1) := sorry
theorem dL_law_320 : decode cL_law 320 = .ok (.iload 6, 2) := sorry
theorem dL_law_322 : decode cL_law 322 = .ok (.ifCond .ne 15, 3) := sorry
theorem dL_law_325 : decode cL_law 325 = .ok (.aload_n 3, 1) := sorry
theorem dL_law_326 : decode cL_law 326 = .ok (.iconst 0, 1) := sorry
theorem dL_law_327 : decode cL_law 327 = .ok (.laload, 1) := sorry
theorem dL_law_328 : decode cL_law 328 = .ok (.iload 7, 2) := sorry
theorem dL_law_330 : decode cL_law 330 = .ok (.i2l, 1) := sorry
theorem dL_law_331 : decode cL_law 331 = .ok (.lcmp, 1) := sorry
theorem dL_law_332 : decode cL_law 332 = .ok (.ifCond .eq 5, 3) := sorry
theorem dL_law_335 : decode cL_law 335 = .ok (.iconst 0, 1) := sorry
theorem dL_law_336 : decode cL_law 336 = .ok (.ireturn, 1) := sorry
theorem dL_law_337 : decode cL_law 337 = .ok (.goto 1725, 3) := sorry
theorem dL_law_340 : decode cL_law 340 = .ok (.aload_n 1, 1) := sorry
theorem dL_law_341 : decode cL_law 341 = .ok (.aload_n 0, 1) := sorry
theorem dL_law_342 : decode cL_law 342 = .ok (.iload 5, 2) := sorry
theorem dL_law_344 : decode cL_law 344 = .ok (.iconst 1, 1) := sorry
theorem dL_law_345 : decode cL_law 345 = .ok (.iadd, 1) := sorry
theorem dL_law_346 : decode cL_law 346 = .ok (.iaload, 1) := sorry
theorem dL_law_347 : decode cL_law 347 = .ok (.aload_n 3, 1) := sorry
theorem dL_law_348 : decode cL_law 348 = .ok (.invokestatic 139, 3) := sorry
theorem dL_law_351 : decode cL_law 351 = .ok (.istore 6, 2) := sorry
theorem dL_law_353 : decode cL_law 353 = .ok (.aload_n 2, 1) := sorry
theorem dL_law_354 : decode cL_law 354 = .ok (.aload_n 0, 1) := sorry
theorem dL_law_355 : decode cL_law 355 = .ok (.iload 5, 2) := sorry
theorem dL_law_357 : decode cL_law 357 = .ok (.iconst 1, 1) := sorry
theorem dL_law_358 : decode cL_law 358 = .ok (.iadd, 1) := sorry
theorem dL_law_359 : decode cL_law 359 = .ok (.iaload, 1) := sorry
theorem dL_law_360 : decode cL_law 360 = .ok (.invokevirtual 141, 3) := sorry
theorem dL_law_363 : decode cL_law 363 = .ok (.istore 7, 2) := sorry
theorem dL_law_365 : decode cL_law 365 = .ok (.aload_n 2, 1) := sorry
theorem dL_law_366 : decode cL_law 366 = .ok (.invokevirtual 132, 3) := sorry
theorem dL_law_369 : decode cL_law 369 = .ok (.iload 6, 2) := sorry
theorem dL_law_371 : decode cL_law 371 = .ok (.if_icmp .eq 5, 3) := sorry
theorem dL_law_374 : decode cL_law 374 = .ok (.iconst 0, 1) := sorry
theorem dL_law_375 : decode cL_law 375 = .ok (.ireturn, 1) := sorry
theorem dL_law_376 : decode cL_law 376 = .ok (.iload 6, 2) := sorry
theorem dL_law_378 : decode cL_law 378 = .ok (.ifCond .ne 15, 3) := sorry
theorem dL_law_381 : decode cL_law 381 = .ok (.aload_n 3, 1) := sorry
theorem dL_law_382 : decode cL_law 382 = .ok (.iconst 0, 1) := sorry
theorem dL_law_383 : decode cL_law 383 = .ok (.laload, 1) := sorry
theorem dL_law_384 : decode cL_law 384 = .ok (.iload 7, 2) := sorry
theorem dL_law_386 : decode cL_law 386 = .ok (.i2l, 1) := sorry
theorem dL_law_387 : decode cL_law 387 = .ok (.lcmp, 1) := sorry
theorem dL_law_388 : decode cL_law 388 = .ok (.ifCond .eq 5, 3) := sorry
theorem dL_law_391 : decode cL_law 391 = .ok (.iconst 0, 1) := sorry
theorem dL_law_392 : decode cL_law 392 = .ok (.ireturn, 1) := sorry
theorem dL_law_393 : decode cL_law 393 = .ok (.goto 1669, 3) := sorry
theorem dL_law_396 : decode cL_law 396 = .ok (.aload_n 1, 1) := sorry
theorem dL_law_397 : decode cL_law 397 = .ok (.aload_n 0, 1) := sorry
theorem dL_law_398 : decode cL_law 398 = .ok (.iload 5, 2) := sorry
theorem dL_law_400 : decode cL_law 400 = .ok (.iconst 1, 1) := sorry
theorem dL_law_401 : decode cL_law 401 = .ok (.iadd, 1) := sorry
theorem dL_law_402 : decode cL_law 402 = .ok (.iaload, 1) := sorry
theorem dL_law_403 : decode cL_law 403 = .ok (.aload_n 3, 1) := sorry
theorem dL_law_404 : decode cL_law 404 = .ok (.invokestatic 142, 3) := sorry
theorem dL_law_407 : decode cL_law 407 = .ok (.istore 6, 2) := sorry
theorem dL_law_409 : decode cL_law 409 = .ok (.aload_n 2, 1) := sorry
theorem dL_law_410 : decode cL_law 410 = .ok (.aload_n 0, 1) := sorry
theorem dL_law_411 : decode cL_law 411 = .ok (.iload 5, 2) := sorry
theorem dL_law_413 : decode cL_law 413 = .ok (.iconst 1, 1) := sorry
theorem dL_law_414 : decode cL_law 414 = .ok (.iadd, 1) := sorry
theorem dL_law_415 : decode cL_law 415 = .ok (.iaload, 1) := sorry
theorem dL_law_416 : decode cL_law 416 = .ok (.invokevirtual 144, 3) := sorry
theorem dL_law_419 : decode cL_law 419 = .ok (.istore 7, 2) := sorry
theorem dL_law_421 : decode cL_law 421 = .ok (.aload_n 2, 1) := sorry
theorem dL_law_422 : decode cL_law 422 = .ok (.invokevirtual 132, 3) := sorry
theorem dL_law_425 : decode cL_law 425 = .ok (.iload 6, 2) := sorry
theorem dL_law_427 : decode cL_law 427 = .ok (.if_icmp .eq 5, 3) := sorry
theorem dL_law_430 : decode cL_law 430 = .ok (.iconst 0, 1) := sorry
theorem dL_law_431 : decode cL_law 431 = .ok (.ireturn, 1) := sorry
theorem dL_law_432 : decode cL_law 432 = .ok (.iload 6, 2) := sorry
theorem dL_law_434 : decode cL_law 434 = .ok (.ifCond .ne 15, 3) := sorry
theorem dL_law_437 : decode cL_law 437 = .ok (.aload_n 3, 1) := sorry
theorem dL_law_438 : decode cL_law 438 = .ok (.iconst 0, 1) := sorry
theorem dL_law_439 : decode cL_law 439 = .ok (.laload, 1) := sorry
theorem dL_law_440 : decode cL_law 440 = .ok (.iload 7, 2) := sorry
theorem dL_law_442 : decode cL_law 442 = .ok (.i2l, 1) := sorry
theorem dL_law_443 : decode cL_law 443 = .ok (.lcmp, 1) := sorry
theorem dL_law_444 : decode cL_law 444 = .ok (.ifCond .eq 5, 3) := sorry
theorem dL_law_447 : decode cL_law 447 = .ok (.iconst 0, 1) := sorry
theorem dL_law_448 : decode cL_law 448 = .ok (.ireturn, 1) := sorry
theorem dL_law_449 : decode cL_law 449 = .ok (.goto 1613, 3) := sorry
theorem dL_law_452 : decode cL_law 452 = .ok (.aload_n 1, 1) := sorry
theorem dL_law_453 : decode cL_law 453 = .ok (.aload_n 3, 1) := sorry
theorem dL_law_454 : decode cL_law 454 = .ok (.invokestatic 145, 3) := sorry
theorem dL_law_457 : decode cL_law 457 = .ok (.istore 6, 2) := sorry
theorem dL_law_459 : decode cL_law 459 = .ok (.aload_n 2, 1) := sorry
theorem dL_law_460 : decode cL_law 460 = .ok (.invokevirtual 148, 3) := sorry
theorem dL_law_463 : decode cL_law 463 = .ok (.istore 7, 2) := sorry
theorem dL_law_465 : decode cL_law 465 = .ok (.aload_n 2, 1) := sorry
theorem dL_law_466 : decode cL_law 466 = .ok (.invokevirtual 132, 3) := sorry
theorem dL_law_469 : decode cL_law 469 = .ok (.iload 6, 2) := sorry
theorem dL_law_471 : decode cL_law 471 = .ok (.if_icmp .eq 5, 3) := sorry
theorem dL_law_474 : decode cL_law 474 = .ok (.iconst 0, 1) := sorry
theorem dL_law_475 : decode cL_law 475 = .ok (.ireturn, 1) := sorry
theorem dL_law_476 : decode cL_law 476 = .ok (.iload 6, 2) := sorry
theorem dL_law_478 : decode cL_law 478 = .ok (.ifCond .ne 15, 3) := sorry
theorem dL_law_481 : decode cL_law 481 = .ok (.aload_n 3, 1) := sorry
theorem dL_law_482 : decode cL_law 482 = .ok (.iconst 0, 1) := sorry
theorem dL_law_483 : decode cL_law 483 = .ok (.laload, 1) := sorry
theorem dL_law_484 : decode cL_law 484 = .ok (.iload 7, 2) := sorry
theorem dL_law_486 : decode cL_law 486 = .ok (.i2l, 1) := sorry
theorem dL_law_487 : decode cL_law 487 = .ok (.lcmp, 1) := sorry
theorem dL_law_488 : decode cL_law 488 = .ok (.ifCond .eq 5, 3) := sorry
theorem dL_law_491 : decode cL_law 491 = .ok (.iconst 0, 1) := sorry
theorem dL_law_492 : decode cL_law 492 = .ok (.ireturn, 1) := sorry
theorem dL_law_493 : decode cL_law 493 = .ok (.goto 1569, 3) := sorry
theorem dL_law_496 : decode cL_law 496 = .ok (.aload_n 1, 1) := sorry
theorem dL_law_497 : decode cL_law 497 = .ok (.aload_n 0, 1) := sorry
theorem dL_law_498 : decode cL_law 498 = .ok (.iload 5, 2) := sorry
theorem dL_law_500 : decode cL_law 500 = .ok (.iconst 1, 1) := sorry
theorem dL_law_501 : decode cL_law 501 = .ok (.iadd, 1) := sorry
theorem dL_law_502 : decode cL_law 502 = .ok (.iaload, 1) := sorry
theorem dL_law_503 : decode cL_law 503 = .ok (.aload_n 3, 1) := sorry
theorem dL_law_504 : decode cL_law 504 = .ok (.invokestatic 149, 3) := sorry
theorem dL_law_507 : decode cL_law 507 = .ok (.istore 6, 2) := sorry
theorem dL_law_509 : decode cL_law 509 = .ok (.aload_n 2, 1) := sorry
theorem dL_law_510 : decode cL_law 510 = .ok (.aload_n 0, 1) := sorry
theorem dL_law_511 : decode cL_law 511 = .ok (.iload 5, 2) := sorry
theorem dL_law_513 : decode cL_law 513 = .ok (.iconst 1, 1) := sorry
theorem dL_law_514 : decode cL_law 514 = .ok (.iadd, 1) := sorry
theorem dL_law_515 : decode cL_law 515 = .ok (.iaload, 1) := sorry
theorem dL_law_516 : decode cL_law 516 = .ok (.invokevirtual 151, 3) := sorry
theorem dL_law_519 : decode cL_law 519 = .ok (.istore 7, 2) := sorry
theorem dL_law_521 : decode cL_law 521 = .ok (.aload_n 2, 1) := sorry
theorem dL_law_522 : decode cL_law 522 = .ok (.invokevirtual 132, 3) := sorry
theorem dL_law_525 : decode cL_law 525 = .ok (.iload 6, 2) := sorry
theorem dL_law_527 : decode cL_law 527 = .ok (.if_icmp .eq 5, 3) := sorry
theorem dL_law_530 : decode cL_law 530 = .ok (.iconst 0, 1) := sorry
theorem dL_law_531 : decode cL_law 531 = .ok (.ireturn, 1) := sorry
theorem dL_law_532 : decode cL_law 532 = .ok (.iload 6, 2) := sorry
theorem dL_law_534 : decode cL_law 534 = .ok (.ifCond .ne 15, 3) := sorry
theorem dL_law_537 : decode cL_law 537 = .ok (.aload_n 3, 1) := sorry
theorem dL_law_538 : decode cL_law 538 = .ok (.iconst 0, 1) := sorry
theorem dL_law_539 : decode cL_law 539 = .ok (.laload, 1) := sorry
theorem dL_law_540 : decode cL_law 540 = .ok (.iload 7, 2) := sorry
theorem dL_law_542 : decode cL_law 542 = .ok (.i2l, 1) := sorry
theorem dL_law_543 : decode cL_law 543 = .ok (.lcmp, 1) := sorry
theorem dL_law_544 : decode cL_law 544 = .ok (.ifCond .eq 5, 3) := sorry
theorem dL_law_547 : decode cL_law 547 = .ok (.iconst 0, 1) := sorry
theorem dL_law_548 : decode cL_law 548 = .ok (.ireturn, 1) := sorry
theorem dL_law_549 : decode cL_law 549 = .ok (.goto 1513, 3) := sorry
theorem dL_law_552 : decode cL_law 552 = .ok (.aload_n 1, 1) := sorry
theorem dL_law_553 : decode cL_law 553 = .ok (.aload_n 0, 1) := sorry
theorem dL_law_554 : decode cL_law 554 = .ok (.iload 5, 2) := sorry
theorem dL_law_556 : decode cL_law 556 = .ok (.iconst 1, 1) := sorry
theorem dL_law_557 : decode cL_law 557 = .ok (.iadd, 1) := sorry
theorem dL_law_558 : decode cL_law 558 = .ok (.iaload, 1) := sorry
theorem dL_law_559 : decode cL_law 559 = .ok (.aload_n 3, 1) := sorry
theorem dL_law_560 : decode cL_law 560 = .ok (.invokestatic 152, 3) := sorry
theorem dL_law_563 : decode cL_law 563 = .ok (.istore 6, 2) := sorry
theorem dL_law_565 : decode cL_law 565 = .ok (.aload_n 2, 1) := sorry
theorem dL_law_566 : decode cL_law 566 = .ok (.aload_n 0, 1) := sorry
theorem dL_law_567 : decode cL_law 567 = .ok (.iload 5, 2) := sorry
theorem dL_law_569 : decode cL_law 569 = .ok (.iconst 1, 1) := sorry
theorem dL_law_570 : decode cL_law 570 = .ok (.iadd, 1) := sorry
theorem dL_law_571 : decode cL_law 571 = .ok (.iaload, 1) := sorry
theorem dL_law_572 : decode cL_law 572 = .ok (.invokevirtual 154, 3) := sorry
theorem dL_law_575 : decode cL_law 575 = .ok (.istore 7, 2) := sorry
theorem dL_law_577 : decode cL_law 577 = .ok (.aload_n 2, 1) := sorry
theorem dL_law_578 : decode cL_law 578 = .ok (.invokevirtual 132, 3) := sorry
theorem dL_law_581 : decode cL_law 581 = .ok (.iload 6, 2) := sorry
theorem dL_law_583 : decode cL_law 583 = .ok (.if_icmp .eq 5, 3) := sorry
theorem dL_law_586 : decode cL_law 586 = .ok (.iconst 0, 1) := sorry
theorem dL_law_587 : decode cL_law 587 = .ok (.ireturn, 1) := sorry
theorem dL_law_588 : decode cL_law 588 = .ok (.iload 6, 2) := sorry
theorem dL_law_590 : decode cL_law 590 = .ok (.ifCond .ne 15, 3) := sorry
theorem dL_law_593 : decode cL_law 593 = .ok (.aload_n 3, 1) := sorry
theorem dL_law_594 : decode cL_law 594 = .ok (.iconst 0, 1) := sorry
theorem dL_law_595 : decode cL_law 595 = .ok (.laload, 1) := sorry
theorem dL_law_596 : decode cL_law 596 = .ok (.iload 7, 2) := sorry
theorem dL_law_598 : decode cL_law 598 = .ok (.i2l, 1) := sorry
theorem dL_law_599 : decode cL_law 599 = .ok (.lcmp, 1) := sorry
theorem dL_law_600 : decode cL_law 600 = .ok (.ifCond .eq 5, 3) := sorry
theorem dL_law_603 : decode cL_law 603 = .ok (.iconst 0, 1) := sorry
theorem dL_law_604 : decode cL_law 604 = .ok (.ireturn, 1) := sorry
theorem dL_law_605 : decode cL_law 605 = .ok (.goto 1457, 3) := sorry
theorem dL_law_608 : decode cL_law 608 = .ok (.aload_n 1, 1) := sorry
theorem dL_law_609 : decode cL_law 609 = .ok (.aload_n 0, 1) := sorry
theorem dL_law_610 : decode cL_law 610 = .ok (.iload 5, 2) := sorry
theorem dL_law_612 : decode cL_law 612 = .ok (.iconst 1, 1) := sorry
theorem dL_law_613 : decode cL_law 613 = .ok (.iadd, 1) := sorry
theorem dL_law_614 : decode cL_law 614 = .ok (.iaload, 1) := sorry
theorem dL_law_615 : decode cL_law 615 = .ok (.aload_n 3, 1) := sorry
theorem dL_law_616 : decode cL_law 616 = .ok (.invokestatic 155, 3) := sorry
theorem dL_law_619 : decode cL_law 619 = .ok (.istore 6, 2) := sorry
theorem dL_law_621 : decode cL_law 621 = .ok (.aload_n 2, 1) := sorry
theorem dL_law_622 : decode cL_law 622 = .ok (.aload_n 0, 1) := sorry
theorem dL_law_623 : decode cL_law 623 = .ok (.iload 5, 2) := sorry
theorem dL_law_625 : decode cL_law 625 = .ok (.iconst 1, 1) := sorry
theorem dL_law_626 : decode cL_law 626 = .ok (.iadd, 1) := sorry
theorem dL_law_627 : decode cL_law 627 = .ok (.iaload, 1) := sorry
theorem dL_law_628 : decode cL_law 628 = .ok (.invokevirtual 157, 3) := sorry
theorem dL_law_631 : decode cL_law 631 = .ok (.istore 7, 2) := sorry
theorem dL_law_633 : decode cL_law 633 = .ok (.aload_n 2, 1) := sorry
theorem dL_law_634 : decode cL_law 634 = .ok (.invokevirtual 132, 3) := sorry
theorem dL_law_637 : decode cL_law 637 = .ok (.iload 6, 2) := sorry
theorem dL_law_639 : decode cL_law 639 = .ok (.if_icmp .eq 5, 3) := sorry
theorem dL_law_642 : decode cL_law 642 = .ok (.iconst 0, 1) := sorry
theorem dL_law_643 : decode cL_law 643 = .ok (.ireturn, 1) := sorry
theorem dL_law_644 : decode cL_law 644 = .ok (.iload 6, 2) := sorry
theorem dL_law_646 : decode cL_law 646 = .ok (.ifCond .ne 15, 3) := sorry
theorem dL_law_649 : decode cL_law 649 = .ok (.aload_n 3, 1) := sorry
theorem dL_law_650 : decode cL_law 650 = .ok (.iconst 0, 1) := sorry
theorem dL_law_651 : decode cL_law 651 = .ok (.laload, 1) := sorry
theorem dL_law_652 : decode cL_law 652 = .ok (.iload 7, 2) := sorry
theorem dL_law_654 : decode cL_law 654 = .ok (.i2l, 1) := sorry
theorem dL_law_655 : decode cL_law 655 = .ok (.lcmp, 1) := sorry
theorem dL_law_656 : decode cL_law 656 = .ok (.ifCond .eq 5, 3) := sorry
theorem dL_law_659 : decode cL_law 659 = .ok (.iconst 0, 1) := sorry
theorem dL_law_660 : decode cL_law 660 = .ok (.ireturn, 1) := sorry
theorem dL_law_661 : decode cL_law 661 = .ok (.goto 1401, 3) := sorry
theorem dL_law_664 : decode cL_law 664 = .ok (.aload_n 1, 1) := sorry
theorem dL_law_665 : decode cL_law 665 = .ok (.aload_n 3, 1) := sorry
theorem dL_law_666 : decode cL_law 666 = .ok (.invokestatic 158, 3) := sorry
theorem dL_law_669 : decode cL_law 669 = .ok (.istore 6, 2) := sorry
theorem dL_law_671 : decode cL_law 671 = .ok (.aload_n 2, 1) := sorry
theorem dL_law_672 : decode cL_law 672 = .ok (.invokevirtual 160, 3) := sorry
theorem dL_law_675 : decode cL_law 675 = .ok (.istore 7, 2) := sorry
theorem dL_law_677 : decode cL_law 677 = .ok (.aload_n 2, 1) := sorry
theorem dL_law_678 : decode cL_law 678 = .ok (.invokevirtual 132, 3) := sorry
theorem dL_law_681 : decode cL_law 681 = .ok (.iload 6, 2) := sorry
theorem dL_law_683 : decode cL_law 683 = .ok (.if_icmp .eq 5, 3) := sorry
theorem dL_law_686 : decode cL_law 686 = .ok (.iconst 0, 1) := sorry
theorem dL_law_687 : decode cL_law 687 = .ok (.ireturn, 1) := sorry
theorem dL_law_688 : decode cL_law 688 = .ok (.iload 6, 2) := sorry
theorem dL_law_690 : decode cL_law 690 = .ok (.ifCond .ne 15, 3) := sorry
theorem dL_law_693 : decode cL_law 693 = .ok (.aload_n 3, 1) := sorry
theorem dL_law_694 : decode cL_law 694 = .ok (.iconst 0, 1) := sorry
theorem dL_law_695 : decode cL_law 695 = .ok (.laload, 1) := sorry
theorem dL_law_696 : decode cL_law 696 = .ok (.iload 7, 2) := sorry
theorem dL_law_698 : decode cL_law 698 = .ok (.i2l, 1) := sorry
theorem dL_law_699 : decode cL_law 699 = .ok (.lcmp, 1) := sorry
theorem dL_law_700 : decode cL_law 700 = .ok (.ifCond .eq 5, 3) := sorry
theorem dL_law_703 : decode cL_law 703 = .ok (.iconst 0, 1) := sorry
theorem dL_law_704 : decode cL_law 704 = .ok (.ireturn, 1) := sorry
theorem dL_law_705 : decode cL_law 705 = .ok (.goto 1357, 3) := sorry
theorem dL_law_708 : decode cL_law 708 = .ok (.aload_n 1, 1) := sorry
theorem dL_law_709 : decode cL_law 709 = .ok (.aload_n 0, 1) := sorry
theorem dL_law_710 : decode cL_law 710 = .ok (.iload 5, 2) := sorry
theorem dL_law_712 : decode cL_law 712 = .ok (.iconst 1, 1) := sorry
theorem dL_law_713 : decode cL_law 713 = .ok (.iadd, 1) := sorry
theorem dL_law_714 : decode cL_law 714 = .ok (.iaload, 1) := sorry
theorem dL_law_715 : decode cL_law 715 = .ok (.aload_n 0, 1) := sorry
theorem dL_law_716 : decode cL_law 716 = .ok (.iload 5, 2) := sorry
theorem dL_law_718 : decode cL_law 718 = .ok (.iconst 2, 1) := sorry
theorem dL_law_719 : decode cL_law 719 = .ok (.iadd, 1) := sorry
theorem dL_law_720 : decode cL_law 720 = .ok (.iaload, 1) := sorry
theorem dL_law_721 : decode cL_law 721 = .ok (.aload_n 3, 1) := sorry
theorem dL_law_722 : decode cL_law 722 = .ok (.invokestatic 161, 3) := sorry
theorem dL_law_725 : decode cL_law 725 = .ok (.istore 6, 2) := sorry
theorem dL_law_727 : decode cL_law 727 = .ok (.aload_n 2, 1) := sorry
theorem dL_law_728 : decode cL_law 728 = .ok (.aload_n 0, 1) := sorry
theorem dL_law_729 : decode cL_law 729 = .ok (.iload 5, 2) := sorry
theorem dL_law_731 : decode cL_law 731 = .ok (.iconst 1, 1) := sorry
theorem dL_law_732 : decode cL_law 732 = .ok (.iadd, 1) := sorry
theorem dL_law_733 : decode cL_law 733 = .ok (.iaload, 1) := sorry
theorem dL_law_734 : decode cL_law 734 = .ok (.aload_n 0, 1) := sorry
theorem dL_law_735 : decode cL_law 735 = .ok (.iload 5, 2) := sorry
theorem dL_law_737 : decode cL_law 737 = .ok (.iconst 2, 1) := sorry
theorem dL_law_738 : decode cL_law 738 = .ok (.iadd, 1) := sorry
theorem dL_law_739 : decode cL_law 739 = .ok (.iaload, 1) := sorry
theorem dL_law_740 : decode cL_law 740 = .ok (.invokevirtual 164, 3) := sorry
theorem dL_law_743 : decode cL_law 743 = .ok (.istore 7, 2) := sorry
theorem dL_law_745 : decode cL_law 745 = .ok (.aload_n 2, 1) := sorry
theorem dL_law_746 : decode cL_law 746 = .ok (.invokevirtual 132, 3) := sorry
theorem dL_law_749 : decode cL_law 749 = .ok (.iload 6, 2) := sorry
theorem dL_law_751 : decode cL_law 751 = .ok (.if_icmp .eq 5, 3) := sorry
theorem dL_law_754 : decode cL_law 754 = .ok (.iconst 0, 1) := sorry
theorem dL_law_755 : decode cL_law 755 = .ok (.ireturn, 1) := sorry
theorem dL_law_756 : decode cL_law 756 = .ok (.iload 6, 2) := sorry
theorem dL_law_758 : decode cL_law 758 = .ok (.ifCond .ne 15, 3) := sorry
theorem dL_law_761 : decode cL_law 761 = .ok (.aload_n 3, 1) := sorry
theorem dL_law_762 : decode cL_law 762 = .ok (.iconst 0, 1) := sorry
theorem dL_law_763 : decode cL_law 763 = .ok (.laload, 1) := sorry
theorem dL_law_764 : decode cL_law 764 = .ok (.iload 7, 2) := sorry
theorem dL_law_766 : decode cL_law 766 = .ok (.i2l, 1) := sorry
theorem dL_law_767 : decode cL_law 767 = .ok (.lcmp, 1) := sorry
theorem dL_law_768 : decode cL_law 768 = .ok (.ifCond .eq 5, 3) := sorry
theorem dL_law_771 : decode cL_law 771 = .ok (.iconst 0, 1) := sorry
theorem dL_law_772 : decode cL_law 772 = .ok (.ireturn, 1) := sorry
theorem dL_law_773 : decode cL_law 773 = .ok (.goto 1289, 3) := sorry
theorem dL_law_776 : decode cL_law 776 = .ok (.aload_n 1, 1) := sorry
theorem dL_law_777 : decode cL_law 777 = .ok (.aload_n 0, 1) := sorry
theorem dL_law_778 : decode cL_law 778 = .ok (.iload 5, 2) := sorry
theorem dL_law_780 : decode cL_law 780 = .ok (.iconst 1, 1) := sorry
theorem dL_law_781 : decode cL_law 781 = .ok (.iadd, 1) := sorry
theorem dL_law_782 : decode cL_law 782 = .ok (.iaload, 1) := sorry
theorem dL_law_783 : decode cL_law 783 = .ok (.aload_n 3, 1) := sorry
theorem dL_law_784 : decode cL_law 784 = .ok (.invokestatic 165, 3) := sorry
theorem dL_law_787 : decode cL_law 787 = .ok (.istore 6, 2) := sorry
theorem dL_law_789 : decode cL_law 789 = .ok (.aload_n 2, 1) := sorry
theorem dL_law_790 : decode cL_law 790 = .ok (.aload_n 0, 1) := sorry
theorem dL_law_791 : decode cL_law 791 = .ok (.iload 5, 2) := sorry
theorem dL_law_793 : decode cL_law 793 = .ok (.iconst 1, 1) := sorry
theorem dL_law_794 : decode cL_law 794 = .ok (.iadd, 1) := sorry
theorem dL_law_795 : decode cL_law 795 = .ok (.iaload, 1) := sorry
theorem dL_law_796 : decode cL_law 796 = .ok (.invokevirtual 167, 3) := sorry
theorem dL_law_799 : decode cL_law 799 = .ok (.istore 7, 2) := sorry
theorem dL_law_801 : decode cL_law 801 = .ok (.aload_n 2, 1) := sorry
theorem dL_law_802 : decode cL_law 802 = .ok (.invokevirtual 132, 3) := sorry
theorem dL_law_805 : decode cL_law 805 = .ok (.iload 6, 2) := sorry
theorem dL_law_807 : decode cL_law 807 = .ok (.if_icmp .eq 5, 3) := sorry
theorem dL_law_810 : decode cL_law 810 = .ok (.iconst 0, 1) := sorry
theorem dL_law_811 : decode cL_law 811 = .ok (.ireturn, 1) := sorry
theorem dL_law_812 : decode cL_law 812 = .ok (.iload 6, 2) := sorry
theorem dL_law_814 : decode cL_law 814 = .ok (.ifCond .ne 15, 3) := sorry
theorem dL_law_817 : decode cL_law 817 = .ok (.aload_n 3, 1) := sorry
theorem dL_law_818 : decode cL_law 818 = .ok (.iconst 0, 1) := sorry
theorem dL_law_819 : decode cL_law 819 = .ok (.laload, 1) := sorry
theorem dL_law_820 : decode cL_law 820 = .ok (.iload 7, 2) := sorry
theorem dL_law_822 : decode cL_law 822 = .ok (.i2l, 1) := sorry
theorem dL_law_823 : decode cL_law 823 = .ok (.lcmp, 1) := sorry
theorem dL_law_824 : decode cL_law 824 = .ok (.ifCond .eq 5, 3) := sorry
theorem dL_law_827 : decode cL_law 827 = .ok (.iconst 0, 1) := sorry
theorem dL_law_828 : decode cL_law 828 = .ok (.ireturn, 1) := sorry
theorem dL_law_829 : decode cL_law 829 = .ok (.goto 1233, 3) := sorry
theorem dL_law_832 : decode cL_law 832 = .ok (.aload_n 1, 1) := sorry
theorem dL_law_833 : decode cL_law 833 = .ok (.aload_n 0, 1) := sorry
theorem dL_law_834 : decode cL_law 834 = .ok (.iload 5, 2) := sorry
theorem dL_law_836 : decode cL_law 836 = .ok (.iconst 1, 1) := sorry
theorem dL_law_837 : decode cL_law 837 = .ok (.iadd, 1) := sorry
theorem dL_law_838 : decode cL_law 838 = .ok (.iaload, 1) := sorry
theorem dL_law_839 : decode cL_law 839 = .ok (.aload_n 3, 1) := sorry
theorem dL_law_840 : decode cL_law 840 = .ok (.invokestatic 168, 3) := sorry
theorem dL_law_843 : decode cL_law 843 = .ok (.istore 6, 2) := sorry
theorem dL_law_845 : decode cL_law 845 = .ok (.aload_n 2, 1) := sorry
theorem dL_law_846 : decode cL_law 846 = .ok (.aload_n 0, 1) := sorry
theorem dL_law_847 : decode cL_law 847 = .ok (.iload 5, 2) := sorry
theorem dL_law_849 : decode cL_law 849 = .ok (.iconst 1, 1) := sorry
theorem dL_law_850 : decode cL_law 850 = .ok (.iadd, 1) := sorry
theorem dL_law_851 : decode cL_law 851 = .ok (.iaload, 1) := sorry
theorem dL_law_852 : decode cL_law 852 = .ok (.invokevirtual 170, 3) := sorry
theorem dL_law_855 : decode cL_law 855 = .ok (.istore 7, 2) := sorry
theorem dL_law_857 : decode cL_law 857 = .ok (.aload_n 2, 1) := sorry
theorem dL_law_858 : decode cL_law 858 = .ok (.invokevirtual 132, 3) := sorry
theorem dL_law_861 : decode cL_law 861 = .ok (.iload 6, 2) := sorry
theorem dL_law_863 : decode cL_law 863 = .ok (.if_icmp .eq 5, 3) := sorry
theorem dL_law_866 : decode cL_law 866 = .ok (.iconst 0, 1) := sorry
theorem dL_law_867 : decode cL_law 867 = .ok (.ireturn, 1) := sorry
theorem dL_law_868 : decode cL_law 868 = .ok (.iload 6, 2) := sorry
theorem dL_law_870 : decode cL_law 870 = .ok (.ifCond .ne 15, 3) := sorry
theorem dL_law_873 : decode cL_law 873 = .ok (.aload_n 3, 1) := sorry
theorem dL_law_874 : decode cL_law 874 = .ok (.iconst 0, 1) := sorry
theorem dL_law_875 : decode cL_law 875 = .ok (.laload, 1) := sorry
theorem dL_law_876 : decode cL_law 876 = .ok (.iload 7, 2) := sorry
theorem dL_law_878 : decode cL_law 878 = .ok (.i2l, 1) := sorry
theorem dL_law_879 : decode cL_law 879 = .ok (.lcmp, 1) := sorry
theorem dL_law_880 : decode cL_law 880 = .ok (.ifCond .eq 5, 3) := sorry
theorem dL_law_883 : decode cL_law 883 = .ok (.iconst 0, 1) := sorry
theorem dL_law_884 : decode cL_law 884 = .ok (.ireturn, 1) := sorry
theorem dL_law_885 : decode cL_law 885 = .ok (.goto 1177, 3) := sorry
theorem dL_law_888 : decode cL_law 888 = .ok (.aload_n 1, 1) := sorry
theorem dL_law_889 : decode cL_law 889 = .ok (.aload_n 0, 1) := sorry
theorem dL_law_890 : decode cL_law 890 = .ok (.iload 5, 2) := sorry
theorem dL_law_892 : decode cL_law 892 = .ok (.iconst 1, 1) := sorry
theorem dL_law_893 : decode cL_law 893 = .ok (.iadd, 1) := sorry
theorem dL_law_894 : decode cL_law 894 = .ok (.iaload, 1) := sorry
theorem dL_law_895 : decode cL_law 895 = .ok (.aload_n 0, 1) := sorry
theorem dL_law_896 : decode cL_law 896 = .ok (.iload 5, 2) := sorry
theorem dL_law_898 : decode cL_law 898 = .ok (.iconst 2, 1) := sorry
theorem dL_law_899 : decode cL_law 899 = .ok (.iadd, 1) := sorry
theorem dL_law_900 : decode cL_law 900 = .ok (.iaload, 1) := sorry
theorem dL_law_901 : decode cL_law 901 = .ok (.aload_n 3, 1) := sorry
theorem dL_law_902 : decode cL_law 902 = .ok (.invokestatic 171, 3) := sorry
theorem dL_law_905 : decode cL_law 905 = .ok (.istore 6, 2) := sorry
theorem dL_law_907 : decode cL_law 907 = .ok (.aload_n 2, 1) := sorry
theorem dL_law_908 : decode cL_law 908 = .ok (.aload_n 0, 1) := sorry
theorem dL_law_909 : decode cL_law 909 = .ok (.iload 5, 2) := sorry
theorem dL_law_911 : decode cL_law 911 = .ok (.iconst 1, 1) := sorry
theorem dL_law_912 : decode cL_law 912 = .ok (.iadd, 1) := sorry
theorem dL_law_913 : decode cL_law 913 = .ok (.iaload, 1) := sorry
theorem dL_law_914 : decode cL_law 914 = .ok (.aload_n 0, 1) := sorry
theorem dL_law_915 : decode cL_law 915 = .ok (.iload 5, 2) := sorry
theorem dL_law_917 : decode cL_law 917 = .ok (.iconst 2, 1) := sorry
theorem dL_law_918 : decode cL_law 918 = .ok (.iadd, 1) := sorry
theorem dL_law_919 : decode cL_law 919 = .ok (.iaload, 1) := sorry
theorem dL_law_920 : decode cL_law 920 = .ok (.invokevirtual 173, 3) := sorry
theorem dL_law_923 : decode cL_law 923 = .ok (.istore 7, 2) := sorry
theorem dL_law_925 : decode cL_law 925 = .ok (.aload_n 2, 1) := sorry
theorem dL_law_926 : decode cL_law 926 = .ok (.invokevirtual 132, 3) := sorry
theorem dL_law_929 : decode cL_law 929 = .ok (.iload 6, 2) := sorry
theorem dL_law_931 : decode cL_law 931 = .ok (.if_icmp .eq 5, 3) := sorry
theorem dL_law_934 : decode cL_law 934 = .ok (.iconst 0, 1) := sorry
theorem dL_law_935 : decode cL_law 935 = .ok (.ireturn, 1) := sorry
theorem dL_law_936 : decode cL_law 936 = .ok (.iload 6, 2) := sorry
theorem dL_law_938 : decode cL_law 938 = .ok (.ifCond .ne 15, 3) := sorry
theorem dL_law_941 : decode cL_law 941 = .ok (.aload_n 3, 1) := sorry
theorem dL_law_942 : decode cL_law 942 = .ok (.iconst 0, 1) := sorry
theorem dL_law_943 : decode cL_law 943 = .ok (.laload, 1) := sorry
theorem dL_law_944 : decode cL_law 944 = .ok (.iload 7, 2) := sorry
theorem dL_law_946 : decode cL_law 946 = .ok (.i2l, 1) := sorry
theorem dL_law_947 : decode cL_law 947 = .ok (.lcmp, 1) := sorry
theorem dL_law_948 : decode cL_law 948 = .ok (.ifCond .eq 5, 3) := sorry
theorem dL_law_951 : decode cL_law 951 = .ok (.iconst 0, 1) := sorry
theorem dL_law_952 : decode cL_law 952 = .ok (.ireturn, 1) := sorry
theorem dL_law_953 : decode cL_law 953 = .ok (.goto 1109, 3) := sorry
theorem dL_law_956 : decode cL_law 956 = .ok (.aload_n 1, 1) := sorry
theorem dL_law_957 : decode cL_law 957 = .ok (.aload_n 0, 1) := sorry
theorem dL_law_958 : decode cL_law 958 = .ok (.iload 5, 2) := sorry
theorem dL_law_960 : decode cL_law 960 = .ok (.iconst 1, 1) := sorry
theorem dL_law_961 : decode cL_law 961 = .ok (.iadd, 1) := sorry
theorem dL_law_962 : decode cL_law 962 = .ok (.iaload, 1) := sorry
theorem dL_law_963 : decode cL_law 963 = .ok (.aload_n 0, 1) := sorry
theorem dL_law_964 : decode cL_law 964 = .ok (.iload 5, 2) := sorry
theorem dL_law_966 : decode cL_law 966 = .ok (.iconst 2, 1) := sorry
theorem dL_law_967 : decode cL_law 967 = .ok (.iadd, 1) := sorry
theorem dL_law_968 : decode cL_law 968 = .ok (.iaload, 1) := sorry
theorem dL_law_969 : decode cL_law 969 = .ok (.aload_n 3, 1) := sorry
theorem dL_law_970 : decode cL_law 970 = .ok (.invokestatic 174, 3) := sorry
theorem dL_law_973 : decode cL_law 973 = .ok (.istore 6, 2) := sorry
theorem dL_law_975 : decode cL_law 975 = .ok (.aload_n 2, 1) := sorry
theorem dL_law_976 : decode cL_law 976 = .ok (.aload_n 0, 1) := sorry
theorem dL_law_977 : decode cL_law 977 = .ok (.iload 5, 2) := sorry
theorem dL_law_979 : decode cL_law 979 = .ok (.iconst 1, 1) := sorry
theorem dL_law_980 : decode cL_law 980 = .ok (.iadd, 1) := sorry
theorem dL_law_981 : decode cL_law 981 = .ok (.iaload, 1) := sorry
theorem dL_law_982 : decode cL_law 982 = .ok (.aload_n 0, 1) := sorry
theorem dL_law_983 : decode cL_law 983 = .ok (.iload 5, 2) := sorry
theorem dL_law_985 : decode cL_law 985 = .ok (.iconst 2, 1) := sorry
theorem dL_law_986 : decode cL_law 986 = .ok (.iadd, 1) := sorry
theorem dL_law_987 : decode cL_law 987 = .ok (.iaload, 1) := sorry
theorem dL_law_988 : decode cL_law 988 = .ok (.invokevirtual 176, 3) := sorry
theorem dL_law_991 : decode cL_law 991 = .ok (.istore 7, 2) := sorry
theorem dL_law_993 : decode cL_law 993 = .ok (.aload_n 2, 1) := sorry
theorem dL_law_994 : decode cL_law 994 = .ok (.invokevirtual 132, 3) := sorry
theorem dL_law_997 : decode cL_law 997 = .ok (.iload 6, 2) := sorry
theorem dL_law_999 : decode cL_law 999 = .ok (.if_icmp .eq 5, 3) := sorry
theorem dL_law_1002 : decode cL_law 1002 = .ok (.iconst 0, 1) := sorry
theorem dL_law_1003 : decode cL_law 1003 = .ok (.ireturn, 1) := sorry
theorem dL_law_1004 : decode cL_law 1004 = .ok (.iload 6, 2) := sorry
theorem dL_law_1006 : decode cL_law 1006 = .ok (.ifCond .ne 15, 3) := sorry
theorem dL_law_1009 : decode cL_law 1009 = .ok (.aload_n 3, 1) := sorry
theorem dL_law_1010 : decode cL_law 1010 = .ok (.iconst 0, 1) := sorry
theorem dL_law_1011 : decode cL_law 1011 = .ok (.laload, 1) := sorry
theorem dL_law_1012 : decode cL_law 1012 = .ok (.iload 7, 2) := sorry
theorem dL_law_1014 : decode cL_law 1014 = .ok (.i2l, 1) := sorry
theorem dL_law_1015 : decode cL_law 1015 = .ok (.lcmp, 1) := sorry
theorem dL_law_1016 : decode cL_law 1016 = .ok (.ifCond .eq 5, 3) := sorry
theorem dL_law_1019 : decode cL_law 1019 = .ok (.iconst 0, 1) := sorry
theorem dL_law_1020 : decode cL_law 1020 = .ok (.ireturn, 1) := sorry
theorem dL_law_1021 : decode cL_law 1021 = .ok (.goto 1041, 3) := sorry
theorem dL_law_1024 : decode cL_law 1024 = .ok (.aload_n 1, 1) := sorry
theorem dL_law_1025 : decode cL_law 1025 = .ok (.aload_n 0, 1) := sorry
theorem dL_law_1026 : decode cL_law 1026 = .ok (.iload 5, 2) := sorry
theorem dL_law_1028 : decode cL_law 1028 = .ok (.iconst 1, 1) := sorry
theorem dL_law_1029 : decode cL_law 1029 = .ok (.iadd, 1) := sorry
theorem dL_law_1030 : decode cL_law 1030 = .ok (.iaload, 1) := sorry
theorem dL_law_1031 : decode cL_law 1031 = .ok (.aload_n 0, 1) := sorry
theorem dL_law_1032 : decode cL_law 1032 = .ok (.iload 5, 2) := sorry
theorem dL_law_1034 : decode cL_law 1034 = .ok (.iconst 2, 1) := sorry
theorem dL_law_1035 : decode cL_law 1035 = .ok (.iadd, 1) := sorry
theorem dL_law_1036 : decode cL_law 1036 = .ok (.iaload, 1) := sorry
theorem dL_law_1037 : decode cL_law 1037 = .ok (.aload_n 3, 1) := sorry
theorem dL_law_1038 : decode cL_law 1038 = .ok (.invokestatic 177, 3) := sorry
theorem dL_law_1041 : decode cL_law 1041 = .ok (.istore 6, 2) := sorry
theorem dL_law_1043 : decode cL_law 1043 = .ok (.aload_n 2, 1) := sorry
theorem dL_law_1044 : decode cL_law 1044 = .ok (.aload_n 0, 1) := sorry
theorem dL_law_1045 : decode cL_law 1045 = .ok (.iload 5, 2) := sorry
theorem dL_law_1047 : decode cL_law 1047 = .ok (.iconst 1, 1) := sorry
theorem dL_law_1048 : decode cL_law 1048 = .ok (.iadd, 1) := sorry
theorem dL_law_1049 : decode cL_law 1049 = .ok (.iaload, 1) := sorry
theorem dL_law_1050 : decode cL_law 1050 = .ok (.aload_n 0, 1) := sorry
theorem dL_law_1051 : decode cL_law 1051 = .ok (.iload 5, 2) := sorry
theorem dL_law_1053 : decode cL_law 1053 = .ok (.iconst 2, 1) := sorry
theorem dL_law_1054 : decode cL_law 1054 = .ok (.iadd, 1) := sorry
theorem dL_law_1055 : decode cL_law 1055 = .ok (.iaload, 1) := sorry
theorem dL_law_1056 : decode cL_law 1056 = .ok (.invokevirtual 179, 3) := sorry
theorem dL_law_1059 : decode cL_law 1059 = .ok (.istore 7, 2) := sorry
theorem dL_law_1061 : decode cL_law 1061 = .ok (.aload_n 2, 1) := sorry
theorem dL_law_1062 : decode cL_law 1062 = .ok (.invokevirtual 132, 3) := sorry
theorem dL_law_1065 : decode cL_law 1065 = .ok (.iload 6, 2) := sorry
theorem dL_law_1067 : decode cL_law 1067 = .ok (.if_icmp .eq 5, 3) := sorry
theorem dL_law_1070 : decode cL_law 1070 = .ok (.iconst 0, 1) := sorry
theorem dL_law_1071 : decode cL_law 1071 = .ok (.ireturn, 1) := sorry
theorem dL_law_1072 : decode cL_law 1072 = .ok (.iload 6, 2) := sorry
theorem dL_law_1074 : decode cL_law 1074 = .ok (.ifCond .ne 15, 3) := sorry
theorem dL_law_1077 : decode cL_law 1077 = .ok (.aload_n 3, 1) := sorry
theorem dL_law_1078 : decode cL_law 1078 = .ok (.iconst 0, 1) := sorry
theorem dL_law_1079 : decode cL_law 1079 = .ok (.laload, 1) := sorry
theorem dL_law_1080 : decode cL_law 1080 = .ok (.iload 7, 2) := sorry
theorem dL_law_1082 : decode cL_law 1082 = .ok (.i2l, 1) := sorry
theorem dL_law_1083 : decode cL_law 1083 = .ok (.lcmp, 1) := sorry
theorem dL_law_1084 : decode cL_law 1084 = .ok (.ifCond .eq 5, 3) := sorry
theorem dL_law_1087 : decode cL_law 1087 = .ok (.iconst 0, 1) := sorry
theorem dL_law_1088 : decode cL_law 1088 = .ok (.ireturn, 1) := sorry
theorem dL_law_1089 : decode cL_law 1089 = .ok (.goto 973, 3) := sorry
theorem dL_law_1092 : decode cL_law 1092 = .ok (.aload_n 1, 1) := sorry
theorem dL_law_1093 : decode cL_law 1093 = .ok (.aload_n 0, 1) := sorry
theorem dL_law_1094 : decode cL_law 1094 = .ok (.iload 5, 2) := sorry
theorem dL_law_1096 : decode cL_law 1096 = .ok (.iconst 1, 1) := sorry
theorem dL_law_1097 : decode cL_law 1097 = .ok (.iadd, 1) := sorry
theorem dL_law_1098 : decode cL_law 1098 = .ok (.iaload, 1) := sorry
theorem dL_law_1099 : decode cL_law 1099 = .ok (.aload_n 3, 1) := sorry
theorem dL_law_1100 : decode cL_law 1100 = .ok (.invokestatic 180, 3) := sorry
theorem dL_law_1103 : decode cL_law 1103 = .ok (.istore 6, 2) := sorry
theorem dL_law_1105 : decode cL_law 1105 = .ok (.aload_n 2, 1) := sorry
theorem dL_law_1106 : decode cL_law 1106 = .ok (.aload_n 0, 1) := sorry
theorem dL_law_1107 : decode cL_law 1107 = .ok (.iload 5, 2) := sorry
theorem dL_law_1109 : decode cL_law 1109 = .ok (.iconst 1, 1) := sorry
theorem dL_law_1110 : decode cL_law 1110 = .ok (.iadd, 1) := sorry
theorem dL_law_1111 : decode cL_law 1111 = .ok (.iaload, 1) := sorry
theorem dL_law_1112 : decode cL_law 1112 = .ok (.invokevirtual 182, 3) := sorry
theorem dL_law_1115 : decode cL_law 1115 = .ok (.istore 7, 2) := sorry
theorem dL_law_1117 : decode cL_law 1117 = .ok (.aload_n 2, 1) := sorry
theorem dL_law_1118 : decode cL_law 1118 = .ok (.invokevirtual 132, 3) := sorry
theorem dL_law_1121 : decode cL_law 1121 = .ok (.iload 6, 2) := sorry
theorem dL_law_1123 : decode cL_law 1123 = .ok (.if_icmp .eq 5, 3) := sorry
theorem dL_law_1126 : decode cL_law 1126 = .ok (.iconst 0, 1) := sorry
theorem dL_law_1127 : decode cL_law 1127 = .ok (.ireturn, 1) := sorry
theorem dL_law_1128 : decode cL_law 1128 = .ok (.iload 6, 2) := sorry
theorem dL_law_1130 : decode cL_law 1130 = .ok (.ifCond .ne 15, 3) := sorry
theorem dL_law_1133 : decode cL_law 1133 = .ok (.aload_n 3, 1) := sorry
theorem dL_law_1134 : decode cL_law 1134 = .ok (.iconst 0, 1) := sorry
theorem dL_law_1135 : decode cL_law 1135 = .ok (.laload, 1) := sorry
theorem dL_law_1136 : decode cL_law 1136 = .ok (.iload 7, 2) := sorry
theorem dL_law_1138 : decode cL_law 1138 = .ok (.i2l, 1) := sorry
theorem dL_law_1139 : decode cL_law 1139 = .ok (.lcmp, 1) := sorry
theorem dL_law_1140 : decode cL_law 1140 = .ok (.ifCond .eq 5, 3) := sorry
theorem dL_law_1143 : decode cL_law 1143 = .ok (.iconst 0, 1) := sorry
theorem dL_law_1144 : decode cL_law 1144 = .ok (.ireturn, 1) := sorry
theorem dL_law_1145 : decode cL_law 1145 = .ok (.goto 917, 3) := sorry
theorem dL_law_1148 : decode cL_law 1148 = .ok (.aload_n 1, 1) := sorry
theorem dL_law_1149 : decode cL_law 1149 = .ok (.aload_n 0, 1) := sorry
theorem dL_law_1150 : decode cL_law 1150 = .ok (.iload 5, 2) := sorry
theorem dL_law_1152 : decode cL_law 1152 = .ok (.iconst 1, 1) := sorry
theorem dL_law_1153 : decode cL_law 1153 = .ok (.iadd, 1) := sorry
theorem dL_law_1154 : decode cL_law 1154 = .ok (.iaload, 1) := sorry
theorem dL_law_1155 : decode cL_law 1155 = .ok (.aload_n 3, 1) := sorry
theorem dL_law_1156 : decode cL_law 1156 = .ok (.invokestatic 183, 3) := sorry
theorem dL_law_1159 : decode cL_law 1159 = .ok (.istore 6, 2) := sorry
theorem dL_law_1161 : decode cL_law 1161 = .ok (.aload_n 2, 1) := sorry
theorem dL_law_1162 : decode cL_law 1162 = .ok (.aload_n 0, 1) := sorry
theorem dL_law_1163 : decode cL_law 1163 = .ok (.iload 5, 2) := sorry
theorem dL_law_1165 : decode cL_law 1165 = .ok (.iconst 1, 1) := sorry
theorem dL_law_1166 : decode cL_law 1166 = .ok (.iadd, 1) := sorry
theorem dL_law_1167 : decode cL_law 1167 = .ok (.iaload, 1) := sorry
theorem dL_law_1168 : decode cL_law 1168 = .ok (.invokevirtual 185, 3) := sorry
theorem dL_law_1171 : decode cL_law 1171 = .ok (.istore 7, 2) := sorry
theorem dL_law_1173 : decode cL_law 1173 = .ok (.aload_n 2, 1) := sorry
theorem dL_law_1174 : decode cL_law 1174 = .ok (.invokevirtual 132, 3) := sorry
theorem dL_law_1177 : decode cL_law 1177 = .ok (.iload 6, 2) := sorry
theorem dL_law_1179 : decode cL_law 1179 = .ok (.if_icmp .eq 5, 3) := sorry
theorem dL_law_1182 : decode cL_law 1182 = .ok (.iconst 0, 1) := sorry
theorem dL_law_1183 : decode cL_law 1183 = .ok (.ireturn, 1) := sorry
theorem dL_law_1184 : decode cL_law 1184 = .ok (.iload 6, 2) := sorry
theorem dL_law_1186 : decode cL_law 1186 = .ok (.ifCond .ne 15, 3) := sorry
theorem dL_law_1189 : decode cL_law 1189 = .ok (.aload_n 3, 1) := sorry
theorem dL_law_1190 : decode cL_law 1190 = .ok (.iconst 0, 1) := sorry
theorem dL_law_1191 : decode cL_law 1191 = .ok (.laload, 1) := sorry
theorem dL_law_1192 : decode cL_law 1192 = .ok (.iload 7, 2) := sorry
theorem dL_law_1194 : decode cL_law 1194 = .ok (.i2l, 1) := sorry
theorem dL_law_1195 : decode cL_law 1195 = .ok (.lcmp, 1) := sorry
theorem dL_law_1196 : decode cL_law 1196 = .ok (.ifCond .eq 5, 3) := sorry
theorem dL_law_1199 : decode cL_law 1199 = .ok (.iconst 0, 1) := sorry
theorem dL_law_1200 : decode cL_law 1200 = .ok (.ireturn, 1) := sorry
theorem dL_law_1201 : decode cL_law 1201 = .ok (.goto 861, 3) := sorry
theorem dL_law_1204 : decode cL_law 1204 = .ok (.aload_n 1, 1) := sorry
theorem dL_law_1205 : decode cL_law 1205 = .ok (.aload_n 0, 1) := sorry
theorem dL_law_1206 : decode cL_law 1206 = .ok (.iload 5, 2) := sorry
theorem dL_law_1208 : decode cL_law 1208 = .ok (.iconst 1, 1) := sorry
theorem dL_law_1209 : decode cL_law 1209 = .ok (.iadd, 1) := sorry
theorem dL_law_1210 : decode cL_law 1210 = .ok (.iaload, 1) := sorry
theorem dL_law_1211 : decode cL_law 1211 = .ok (.aload_n 3, 1) := sorry
theorem dL_law_1212 : decode cL_law 1212 = .ok (.invokestatic 186, 3) := sorry
theorem dL_law_1215 : decode cL_law 1215 = .ok (.istore 6, 2) := sorry
theorem dL_law_1217 : decode cL_law 1217 = .ok (.aload_n 2, 1) := sorry
theorem dL_law_1218 : decode cL_law 1218 = .ok (.aload_n 0, 1) := sorry
theorem dL_law_1219 : decode cL_law 1219 = .ok (.iload 5, 2) := sorry
theorem dL_law_1221 : decode cL_law 1221 = .ok (.iconst 1, 1) := sorry
theorem dL_law_1222 : decode cL_law 1222 = .ok (.iadd, 1) := sorry
theorem dL_law_1223 : decode cL_law 1223 = .ok (.iaload, 1) := sorry
theorem dL_law_1224 : decode cL_law 1224 = .ok (.invokevirtual 188, 3) := sorry
theorem dL_law_1227 : decode cL_law 1227 = .ok (.istore 7, 2) := sorry
theorem dL_law_1229 : decode cL_law 1229 = .ok (.aload_n 2, 1) := sorry
theorem dL_law_1230 : decode cL_law 1230 = .ok (.invokevirtual 132, 3) := sorry
theorem dL_law_1233 : decode cL_law 1233 = .ok (.iload 6, 2) := sorry
theorem dL_law_1235 : decode cL_law 1235 = .ok (.if_icmp .eq 5, 3) := sorry
theorem dL_law_1238 : decode cL_law 1238 = .ok (.iconst 0, 1) := sorry
theorem dL_law_1239 : decode cL_law 1239 = .ok (.ireturn, 1) := sorry
theorem dL_law_1240 : decode cL_law 1240 = .ok (.iload 6, 2) := sorry
theorem dL_law_1242 : decode cL_law 1242 = .ok (.ifCond .ne 15, 3) := sorry
theorem dL_law_1245 : decode cL_law 1245 = .ok (.aload_n 3, 1) := sorry
theorem dL_law_1246 : decode cL_law 1246 = .ok (.iconst 0, 1) := sorry
theorem dL_law_1247 : decode cL_law 1247 = .ok (.laload, 1) := sorry
theorem dL_law_1248 : decode cL_law 1248 = .ok (.iload 7, 2) := sorry
theorem dL_law_1250 : decode cL_law 1250 = .ok (.i2l, 1) := sorry
theorem dL_law_1251 : decode cL_law 1251 = .ok (.lcmp, 1) := sorry
theorem dL_law_1252 : decode cL_law 1252 = .ok (.ifCond .eq 5, 3) := sorry
theorem dL_law_1255 : decode cL_law 1255 = .ok (.iconst 0, 1) := sorry
theorem dL_law_1256 : decode cL_law 1256 = .ok (.ireturn, 1) := sorry
theorem dL_law_1257 : decode cL_law 1257 = .ok (.goto 805, 3) := sorry
theorem dL_law_1260 : decode cL_law 1260 = .ok (.aload_n 1, 1) := sorry
theorem dL_law_1261 : decode cL_law 1261 = .ok (.invokevirtual 189, 3) := sorry
theorem dL_law_1264 : decode cL_law 1264 = .ok (.aload_n 2, 1) := sorry
theorem dL_law_1265 : decode cL_law 1265 = .ok (.invokevirtual 192, 3) := sorry
theorem dL_law_1268 : decode cL_law 1268 = .ok (.if_icmp .eq 794, 3) := sorry
theorem dL_law_1271 : decode cL_law 1271 = .ok (.iconst 0, 1) := sorry
theorem dL_law_1272 : decode cL_law 1272 = .ok (.ireturn, 1) := sorry
theorem dL_law_1273 : decode cL_law 1273 = .ok (.aload_n 1, 1) := sorry
theorem dL_law_1274 : decode cL_law 1274 = .ok (.aload_n 0, 1) := sorry
theorem dL_law_1275 : decode cL_law 1275 = .ok (.iload 5, 2) := sorry
theorem dL_law_1277 : decode cL_law 1277 = .ok (.iconst 1, 1) := sorry
theorem dL_law_1278 : decode cL_law 1278 = .ok (.iadd, 1) := sorry
theorem dL_law_1279 : decode cL_law 1279 = .ok (.iaload, 1) := sorry
theorem dL_law_1280 : decode cL_law 1280 = .ok (.aload_n 3, 1) := sorry
theorem dL_law_1281 : decode cL_law 1281 = .ok (.invokestatic 193, 3) := sorry
theorem dL_law_1284 : decode cL_law 1284 = .ok (.istore 6, 2) := sorry
theorem dL_law_1286 : decode cL_law 1286 = .ok (.aload_n 2, 1) := sorry
theorem dL_law_1287 : decode cL_law 1287 = .ok (.aload_n 0, 1) := sorry
theorem dL_law_1288 : decode cL_law 1288 = .ok (.iload 5, 2) := sorry
theorem dL_law_1290 : decode cL_law 1290 = .ok (.iconst 1, 1) := sorry
theorem dL_law_1291 : decode cL_law 1291 = .ok (.iadd, 1) := sorry
theorem dL_law_1292 : decode cL_law 1292 = .ok (.iaload, 1) := sorry
theorem dL_law_1293 : decode cL_law 1293 = .ok (.invokevirtual 195, 3) := sorry
theorem dL_law_1296 : decode cL_law 1296 = .ok (.istore 7, 2) := sorry
theorem dL_law_1298 : decode cL_law 1298 = .ok (.aload_n 2, 1) := sorry
theorem dL_law_1299 : decode cL_law 1299 = .ok (.invokevirtual 132, 3) := sorry
theorem dL_law_1302 : decode cL_law 1302 = .ok (.iload 6, 2) := sorry
theorem dL_law_1304 : decode cL_law 1304 = .ok (.if_icmp .eq 5, 3) := sorry
theorem dL_law_1307 : decode cL_law 1307 = .ok (.iconst 0, 1) := sorry
theorem dL_law_1308 : decode cL_law 1308 = .ok (.ireturn, 1) := sorry
theorem dL_law_1309 : decode cL_law 1309 = .ok (.iload 6, 2) := sorry
theorem dL_law_1311 : decode cL_law 1311 = .ok (.ifCond .ne 15, 3) := sorry
theorem dL_law_1314 : decode cL_law 1314 = .ok (.aload_n 3, 1) := sorry
theorem dL_law_1315 : decode cL_law 1315 = .ok (.iconst 0, 1) := sorry
theorem dL_law_1316 : decode cL_law 1316 = .ok (.laload, 1) := sorry
theorem dL_law_1317 : decode cL_law 1317 = .ok (.iload 7, 2) := sorry
theorem dL_law_1319 : decode cL_law 1319 = .ok (.i2l, 1) := sorry
theorem dL_law_1320 : decode cL_law 1320 = .ok (.lcmp, 1) := sorry
theorem dL_law_1321 : decode cL_law 1321 = .ok (.ifCond .eq 5, 3) := sorry
theorem dL_law_1324 : decode cL_law 1324 = .ok (.iconst 0, 1) := sorry
theorem dL_law_1325 : decode cL_law 1325 = .ok (.ireturn, 1) := sorry
theorem dL_law_1326 : decode cL_law 1326 = .ok (.goto 736, 3) := sorry
theorem dL_law_1329 : decode cL_law 1329 = .ok (.aload_n 1, 1) := sorry
theorem dL_law_1330 : decode cL_law 1330 = .ok (.aload_n 0, 1) := sorry
theorem dL_law_1331 : decode cL_law 1331 = .ok (.iload 5, 2) := sorry
theorem dL_law_1333 : decode cL_law 1333 = .ok (.iconst 1, 1) := sorry
theorem dL_law_1334 : decode cL_law 1334 = .ok (.iadd, 1) := sorry
theorem dL_law_1335 : decode cL_law 1335 = .ok (.iaload, 1) := sorry
theorem dL_law_1336 : decode cL_law 1336 = .ok (.aload_n 0, 1) := sorry
theorem dL_law_1337 : decode cL_law 1337 = .ok (.iload 5, 2) := sorry
theorem dL_law_1339 : decode cL_law 1339 = .ok (.iconst 2, 1) := sorry
theorem dL_law_1340 : decode cL_law 1340 = .ok (.iadd, 1) := sorry
theorem dL_law_1341 : decode cL_law 1341 = .ok (.iaload, 1) := sorry
theorem dL_law_1342 : decode cL_law 1342 = .ok (.aload_n 3, 1) := sorry
theorem dL_law_1343 : decode cL_law 1343 = .ok (.invokestatic 196, 3) := sorry
theorem dL_law_1346 : decode cL_law 1346 = .ok (.istore 6, 2) := sorry
theorem dL_law_1348 : decode cL_law 1348 = .ok (.aload_n 2, 1) := sorry
theorem dL_law_1349 : decode cL_law 1349 = .ok (.aload_n 0, 1) := sorry
theorem dL_law_1350 : decode cL_law 1350 = .ok (.iload 5, 2) := sorry
theorem dL_law_1352 : decode cL_law 1352 = .ok (.iconst 1, 1) := sorry
theorem dL_law_1353 : decode cL_law 1353 = .ok (.iadd, 1) := sorry
theorem dL_law_1354 : decode cL_law 1354 = .ok (.iaload, 1) := sorry
theorem dL_law_1355 : decode cL_law 1355 = .ok (.aload_n 0, 1) := sorry
theorem dL_law_1356 : decode cL_law 1356 = .ok (.iload 5, 2) := sorry
theorem dL_law_1358 : decode cL_law 1358 = .ok (.iconst 2, 1) := sorry
theorem dL_law_1359 : decode cL_law 1359 = .ok (.iadd, 1) := sorry
theorem dL_law_1360 : decode cL_law 1360 = .ok (.iaload, 1) := sorry
theorem dL_law_1361 : decode cL_law 1361 = .ok (.invokevirtual 198, 3) := sorry
theorem dL_law_1364 : decode cL_law 1364 = .ok (.istore 7, 2) := sorry
theorem dL_law_1366 : decode cL_law 1366 = .ok (.aload_n 2, 1) := sorry
theorem dL_law_1367 : decode cL_law 1367 = .ok (.invokevirtual 132, 3) := sorry
theorem dL_law_1370 : decode cL_law 1370 = .ok (.iload 6, 2) := sorry
theorem dL_law_1372 : decode cL_law 1372 = .ok (.if_icmp .eq 5, 3) := sorry
theorem dL_law_1375 : decode cL_law 1375 = .ok (.iconst 0, 1) := sorry
theorem dL_law_1376 : decode cL_law 1376 = .ok (.ireturn, 1) := sorry
theorem dL_law_1377 : decode cL_law 1377 = .ok (.iload 6, 2) := sorry
theorem dL_law_1379 : decode cL_law 1379 = .ok (.ifCond .ne 15, 3) := sorry
theorem dL_law_1382 : decode cL_law 1382 = .ok (.aload_n 3, 1) := sorry
theorem dL_law_1383 : decode cL_law 1383 = .ok (.iconst 0, 1) := sorry
theorem dL_law_1384 : decode cL_law 1384 = .ok (.laload, 1) := sorry
theorem dL_law_1385 : decode cL_law 1385 = .ok (.iload 7, 2) := sorry
theorem dL_law_1387 : decode cL_law 1387 = .ok (.i2l, 1) := sorry
theorem dL_law_1388 : decode cL_law 1388 = .ok (.lcmp, 1) := sorry
theorem dL_law_1389 : decode cL_law 1389 = .ok (.ifCond .eq 5, 3) := sorry
theorem dL_law_1392 : decode cL_law 1392 = .ok (.iconst 0, 1) := sorry
theorem dL_law_1393 : decode cL_law 1393 = .ok (.ireturn, 1) := sorry
theorem dL_law_1394 : decode cL_law 1394 = .ok (.goto 668, 3) := sorry
theorem dL_law_1397 : decode cL_law 1397 = .ok (.aload_n 1, 1) := sorry
theorem dL_law_1398 : decode cL_law 1398 = .ok (.aload_n 0, 1) := sorry
theorem dL_law_1399 : decode cL_law 1399 = .ok (.iload 5, 2) := sorry
theorem dL_law_1401 : decode cL_law 1401 = .ok (.iconst 1, 1) := sorry
theorem dL_law_1402 : decode cL_law 1402 = .ok (.iadd, 1) := sorry
theorem dL_law_1403 : decode cL_law 1403 = .ok (.iaload, 1) := sorry
theorem dL_law_1404 : decode cL_law 1404 = .ok (.aload_n 3, 1) := sorry
theorem dL_law_1405 : decode cL_law 1405 = .ok (.invokestatic 199, 3) := sorry
theorem dL_law_1408 : decode cL_law 1408 = .ok (.istore 6, 2) := sorry
theorem dL_law_1410 : decode cL_law 1410 = .ok (.aload_n 2, 1) := sorry
theorem dL_law_1411 : decode cL_law 1411 = .ok (.aload_n 0, 1) := sorry
theorem dL_law_1412 : decode cL_law 1412 = .ok (.iload 5, 2) := sorry
theorem dL_law_1414 : decode cL_law 1414 = .ok (.iconst 1, 1) := sorry
theorem dL_law_1415 : decode cL_law 1415 = .ok (.iadd, 1) := sorry
theorem dL_law_1416 : decode cL_law 1416 = .ok (.iaload, 1) := sorry
theorem dL_law_1417 : decode cL_law 1417 = .ok (.invokevirtual 201, 3) := sorry
theorem dL_law_1420 : decode cL_law 1420 = .ok (.istore 7, 2) := sorry
theorem dL_law_1422 : decode cL_law 1422 = .ok (.aload_n 2, 1) := sorry
theorem dL_law_1423 : decode cL_law 1423 = .ok (.invokevirtual 132, 3) := sorry
theorem dL_law_1426 : decode cL_law 1426 = .ok (.iload 6, 2) := sorry
theorem dL_law_1428 : decode cL_law 1428 = .ok (.if_icmp .eq 5, 3) := sorry
theorem dL_law_1431 : decode cL_law 1431 = .ok (.iconst 0, 1) := sorry
theorem dL_law_1432 : decode cL_law 1432 = .ok (.ireturn, 1) := sorry
theorem dL_law_1433 : decode cL_law 1433 = .ok (.iload 6, 2) := sorry
theorem dL_law_1435 : decode cL_law 1435 = .ok (.ifCond .ne 15, 3) := sorry
theorem dL_law_1438 : decode cL_law 1438 = .ok (.aload_n 3, 1) := sorry
theorem dL_law_1439 : decode cL_law 1439 = .ok (.iconst 0, 1) := sorry
theorem dL_law_1440 : decode cL_law 1440 = .ok (.laload, 1) := sorry
theorem dL_law_1441 : decode cL_law 1441 = .ok (.iload 7, 2) := sorry
theorem dL_law_1443 : decode cL_law 1443 = .ok (.i2l, 1) := sorry
theorem dL_law_1444 : decode cL_law 1444 = .ok (.lcmp, 1) := sorry
theorem dL_law_1445 : decode cL_law 1445 = .ok (.ifCond .eq 5, 3) := sorry
theorem dL_law_1448 : decode cL_law 1448 = .ok (.iconst 0, 1) := sorry
theorem dL_law_1449 : decode cL_law 1449 = .ok (.ireturn, 1) := sorry
theorem dL_law_1450 : decode cL_law 1450 = .ok (.goto 612, 3) := sorry
theorem dL_law_1453 : decode cL_law 1453 = .ok (.aload_n 1, 1) := sorry
theorem dL_law_1454 : decode cL_law 1454 = .ok (.invokevirtual 202, 3) := sorry
theorem dL_law_1457 : decode cL_law 1457 = .ok (.aload_n 2, 1) := sorry
theorem dL_law_1458 : decode cL_law 1458 = .ok (.invokevirtual 205, 3) := sorry
theorem dL_law_1461 : decode cL_law 1461 = .ok (.if_icmp .eq 601, 3) := sorry
theorem dL_law_1464 : decode cL_law 1464 = .ok (.iconst 0, 1) := sorry
theorem dL_law_1465 : decode cL_law 1465 = .ok (.ireturn, 1) := sorry
theorem dL_law_1466 : decode cL_law 1466 = .ok (.aload_n 1, 1) := sorry
theorem dL_law_1467 : decode cL_law 1467 = .ok (.invokevirtual 206, 3) := sorry
theorem dL_law_1470 : decode cL_law 1470 = .ok (.aload_n 2, 1) := sorry
theorem dL_law_1471 : decode cL_law 1471 = .ok (.invokevirtual 209, 3) := sorry
theorem dL_law_1474 : decode cL_law 1474 = .ok (.if_icmp .eq 588, 3) := sorry
theorem dL_law_1477 : decode cL_law 1477 = .ok (.iconst 0, 1) := sorry
theorem dL_law_1478 : decode cL_law 1478 = .ok (.ireturn, 1) := sorry
theorem dL_law_1479 : decode cL_law 1479 = .ok (.aload_n 1, 1) := sorry
theorem dL_law_1480 : decode cL_law 1480 = .ok (.aload_n 0, 1) := sorry
theorem dL_law_1481 : decode cL_law 1481 = .ok (.iload 5, 2) := sorry
theorem dL_law_1483 : decode cL_law 1483 = .ok (.iconst 1, 1) := sorry
theorem dL_law_1484 : decode cL_law 1484 = .ok (.iadd, 1) := sorry
theorem dL_law_1485 : decode cL_law 1485 = .ok (.iaload, 1) := sorry
theorem dL_law_1486 : decode cL_law 1486 = .ok (.i2c, 1) := sorry
theorem dL_law_1487 : decode cL_law 1487 = .ok (.aload_n 3, 1) := sorry
theorem dL_law_1488 : decode cL_law 1488 = .ok (.invokestatic 210, 3) := sorry
theorem dL_law_1491 : decode cL_law 1491 = .ok (.istore 6, 2) := sorry
theorem dL_law_1493 : decode cL_law 1493 = .ok (.aload_n 2, 1) := sorry
theorem dL_law_1494 : decode cL_law 1494 = .ok (.aload_n 0, 1) := sorry
theorem dL_law_1495 : decode cL_law 1495 = .ok (.iload 5, 2) := sorry
theorem dL_law_1497 : decode cL_law 1497 = .ok (.iconst 1, 1) := sorry
theorem dL_law_1498 : decode cL_law 1498 = .ok (.iadd, 1) := sorry
theorem dL_law_1499 : decode cL_law 1499 = .ok (.iaload, 1) := sorry
theorem dL_law_1500 : decode cL_law 1500 = .ok (.i2c, 1) := sorry
theorem dL_law_1501 : decode cL_law 1501 = .ok (.invokevirtual 213, 3) := sorry
theorem dL_law_1504 : decode cL_law 1504 = .ok (.istore 7, 2) := sorry
theorem dL_law_1506 : decode cL_law 1506 = .ok (.aload_n 2, 1) := sorry
theorem dL_law_1507 : decode cL_law 1507 = .ok (.invokevirtual 132, 3) := sorry
theorem dL_law_1510 : decode cL_law 1510 = .ok (.iload 6, 2) := sorry
theorem dL_law_1512 : decode cL_law 1512 = .ok (.if_icmp .eq 5, 3) := sorry
theorem dL_law_1515 : decode cL_law 1515 = .ok (.iconst 0, 1) := sorry
theorem dL_law_1516 : decode cL_law 1516 = .ok (.ireturn, 1) := sorry
theorem dL_law_1517 : decode cL_law 1517 = .ok (.iload 6, 2) := sorry
theorem dL_law_1519 : decode cL_law 1519 = .ok (.ifCond .ne 15, 3) := sorry
theorem dL_law_1522 : decode cL_law 1522 = .ok (.aload_n 3, 1) := sorry
theorem dL_law_1523 : decode cL_law 1523 = .ok (.iconst 0, 1) := sorry
theorem dL_law_1524 : decode cL_law 1524 = .ok (.laload, 1) := sorry
theorem dL_law_1525 : decode cL_law 1525 = .ok (.iload 7, 2) := sorry
theorem dL_law_1527 : decode cL_law 1527 = .ok (.i2l, 1) := sorry
theorem dL_law_1528 : decode cL_law 1528 = .ok (.lcmp, 1) := sorry
theorem dL_law_1529 : decode cL_law 1529 = .ok (.ifCond .eq 5, 3) := sorry
theorem dL_law_1532 : decode cL_law 1532 = .ok (.iconst 0, 1) := sorry
theorem dL_law_1533 : decode cL_law 1533 = .ok (.ireturn, 1) := sorry
theorem dL_law_1534 : decode cL_law 1534 = .ok (.goto 528, 3) := sorry
theorem dL_law_1537 : decode cL_law 1537 = .ok (.aload_n 1, 1) := sorry
theorem dL_law_1538 : decode cL_law 1538 = .ok (.aload_n 3, 1) := sorry
theorem dL_law_1539 : decode cL_law 1539 = .ok (.invokestatic 214, 3) := sorry
theorem dL_law_1542 : decode cL_law 1542 = .ok (.istore 6, 2) := sorry
theorem dL_law_1544 : decode cL_law 1544 = .ok (.aload_n 2, 1) := sorry
theorem dL_law_1545 : decode cL_law 1545 = .ok (.invokevirtual 216, 3) := sorry
theorem dL_law_1548 : decode cL_law 1548 = .ok (.istore 7, 2) := sorry
theorem dL_law_1550 : decode cL_law 1550 = .ok (.aload_n 2, 1) := sorry
theorem dL_law_1551 : decode cL_law 1551 = .ok (.invokevirtual 132, 3) := sorry
theorem dL_law_1554 : decode cL_law 1554 = .ok (.iload 6, 2) := sorry
theorem dL_law_1556 : decode cL_law 1556 = .ok (.if_icmp .eq 5, 3) := sorry
theorem dL_law_1559 : decode cL_law 1559 = .ok (.iconst 0, 1) := sorry
theorem dL_law_1560 : decode cL_law 1560 = .ok (.ireturn, 1) := sorry
theorem dL_law_1561 : decode cL_law 1561 = .ok (.iload 6, 2) := sorry
theorem dL_law_1563 : decode cL_law 1563 = .ok (.ifCond .ne 15, 3) := sorry
theorem dL_law_1566 : decode cL_law 1566 = .ok (.aload_n 3, 1) := sorry
theorem dL_law_1567 : decode cL_law 1567 = .ok (.iconst 0, 1) := sorry
theorem dL_law_1568 : decode cL_law 1568 = .ok (.laload, 1) := sorry
theorem dL_law_1569 : decode cL_law 1569 = .ok (.iload 7, 2) := sorry
theorem dL_law_1571 : decode cL_law 1571 = .ok (.i2l, 1) := sorry
theorem dL_law_1572 : decode cL_law 1572 = .ok (.lcmp, 1) := sorry
theorem dL_law_1573 : decode cL_law 1573 = .ok (.ifCond .eq 5, 3) := sorry
theorem dL_law_1576 : decode cL_law 1576 = .ok (.iconst 0, 1) := sorry
theorem dL_law_1577 : decode cL_law 1577 = .ok (.ireturn, 1) := sorry
theorem dL_law_1578 : decode cL_law 1578 = .ok (.goto 484, 3) := sorry
theorem dL_law_1581 : decode cL_law 1581 = .ok (.aload_n 1, 1) := sorry
theorem dL_law_1582 : decode cL_law 1582 = .ok (.invokevirtual 217, 3) := sorry
theorem dL_law_1585 : decode cL_law 1585 = .ok (.aload_n 2, 1) := sorry
theorem dL_law_1586 : decode cL_law 1586 = .ok (.invokevirtual 220, 3) := sorry
theorem dL_law_1589 : decode cL_law 1589 = .ok (.if_icmp .eq 473, 3) := sorry
theorem dL_law_1592 : decode cL_law 1592 = .ok (.iconst 0, 1) := sorry
theorem dL_law_1593 : decode cL_law 1593 = .ok (.ireturn, 1) := sorry
theorem dL_law_1594 : decode cL_law 1594 = .ok (.aload_n 1, 1) := sorry
theorem dL_law_1595 : decode cL_law 1595 = .ok (.aload_n 0, 1) := sorry
theorem dL_law_1596 : decode cL_law 1596 = .ok (.iload 5, 2) := sorry
theorem dL_law_1598 : decode cL_law 1598 = .ok (.iconst 1, 1) := sorry
theorem dL_law_1599 : decode cL_law 1599 = .ok (.iadd, 1) := sorry
theorem dL_law_1600 : decode cL_law 1600 = .ok (.iaload, 1) := sorry
theorem dL_law_1601 : decode cL_law 1601 = .ok (.aload_n 3, 1) := sorry
theorem dL_law_1602 : decode cL_law 1602 = .ok (.invokestatic 221, 3) := sorry
theorem dL_law_1605 : decode cL_law 1605 = .ok (.istore 6, 2) := sorry
theorem dL_law_1607 : decode cL_law 1607 = .ok (.aload_n 2, 1) := sorry
theorem dL_law_1608 : decode cL_law 1608 = .ok (.aload_n 0, 1) := sorry
theorem dL_law_1609 : decode cL_law 1609 = .ok (.iload 5, 2) := sorry
theorem dL_law_1611 : decode cL_law 1611 = .ok (.iconst 1, 1) := sorry
theorem dL_law_1612 : decode cL_law 1612 = .ok (.iadd, 1) := sorry
theorem dL_law_1613 : decode cL_law 1613 = .ok (.iaload, 1) := sorry
theorem dL_law_1614 : decode cL_law 1614 = .ok (.invokevirtual 223, 3) := sorry
theorem dL_law_1617 : decode cL_law 1617 = .ok (.istore 7, 2) := sorry
theorem dL_law_1619 : decode cL_law 1619 = .ok (.aload_n 2, 1) := sorry
theorem dL_law_1620 : decode cL_law 1620 = .ok (.invokevirtual 132, 3) := sorry
theorem dL_law_1623 : decode cL_law 1623 = .ok (.iload 6, 2) := sorry
theorem dL_law_1625 : decode cL_law 1625 = .ok (.if_icmp .eq 5, 3) := sorry
theorem dL_law_1628 : decode cL_law 1628 = .ok (.iconst 0, 1) := sorry
theorem dL_law_1629 : decode cL_law 1629 = .ok (.ireturn, 1) := sorry
theorem dL_law_1630 : decode cL_law 1630 = .ok (.iload 6, 2) := sorry
theorem dL_law_1632 : decode cL_law 1632 = .ok (.ifCond .ne 15, 3) := sorry
theorem dL_law_1635 : decode cL_law 1635 = .ok (.aload_n 3, 1) := sorry
theorem dL_law_1636 : decode cL_law 1636 = .ok (.iconst 0, 1) := sorry
theorem dL_law_1637 : decode cL_law 1637 = .ok (.laload, 1) := sorry
theorem dL_law_1638 : decode cL_law 1638 = .ok (.iload 7, 2) := sorry
theorem dL_law_1640 : decode cL_law 1640 = .ok (.i2l, 1) := sorry
theorem dL_law_1641 : decode cL_law 1641 = .ok (.lcmp, 1) := sorry
theorem dL_law_1642 : decode cL_law 1642 = .ok (.ifCond .eq 5, 3) := sorry
theorem dL_law_1645 : decode cL_law 1645 = .ok (.iconst 0, 1) := sorry
theorem dL_law_1646 : decode cL_law 1646 = .ok (.ireturn, 1) := sorry
theorem dL_law_1647 : decode cL_law 1647 = .ok (.goto 415, 3) := sorry
theorem dL_law_1650 : decode cL_law 1650 = .ok (.aload_n 1, 1) := sorry
theorem dL_law_1651 : decode cL_law 1651 = .ok (.aload_n 0, 1) := sorry
theorem dL_law_1652 : decode cL_law 1652 = .ok (.iload 5, 2) := sorry
theorem dL_law_1654 : decode cL_law 1654 = .ok (.iconst 1, 1) := sorry
theorem dL_law_1655 : decode cL_law 1655 = .ok (.iadd, 1) := sorry
theorem dL_law_1656 : decode cL_law 1656 = .ok (.iaload, 1) := sorry
theorem dL_law_1657 : decode cL_law 1657 = .ok (.aload_n 3, 1) := sorry
theorem dL_law_1658 : decode cL_law 1658 = .ok (.invokestatic 224, 3) := sorry
theorem dL_law_1661 : decode cL_law 1661 = .ok (.istore 6, 2) := sorry
theorem dL_law_1663 : decode cL_law 1663 = .ok (.aload_n 2, 1) := sorry
theorem dL_law_1664 : decode cL_law 1664 = .ok (.aload_n 0, 1) := sorry
theorem dL_law_1665 : decode cL_law 1665 = .ok (.iload 5, 2) := sorry
theorem dL_law_1667 : decode cL_law 1667 = .ok (.iconst 1, 1) := sorry
theorem dL_law_1668 : decode cL_law 1668 = .ok (.iadd, 1) := sorry
theorem dL_law_1669 : decode cL_law 1669 = .ok (.iaload, 1) := sorry
theorem dL_law_1670 : decode cL_law 1670 = .ok (.invokevirtual 226, 3) := sorry
theorem dL_law_1673 : decode cL_law 1673 = .ok (.istore 7, 2) := sorry
theorem dL_law_1675 : decode cL_law 1675 = .ok (.aload_n 2, 1) := sorry
theorem dL_law_1676 : decode cL_law 1676 = .ok (.invokevirtual 132, 3) := sorry
theorem dL_law_1679 : decode cL_law 1679 = .ok (.iload 6, 2) := sorry
theorem dL_law_1681 : decode cL_law 1681 = .ok (.if_icmp .eq 5, 3) := sorry
theorem dL_law_1684 : decode cL_law 1684 = .ok (.iconst 0, 1) := sorry
theorem dL_law_1685 : decode cL_law 1685 = .ok (.ireturn, 1) := sorry
theorem dL_law_1686 : decode cL_law 1686 = .ok (.iload 6, 2) := sorry
theorem dL_law_1688 : decode cL_law 1688 = .ok (.ifCond .ne 15, 3) := sorry
theorem dL_law_1691 : decode cL_law 1691 = .ok (.aload_n 3, 1) := sorry
theorem dL_law_1692 : decode cL_law 1692 = .ok (.iconst 0, 1) := sorry
theorem dL_law_1693 : decode cL_law 1693 = .ok (.laload, 1) := sorry
theorem dL_law_1694 : decode cL_law 1694 = .ok (.iload 7, 2) := sorry
theorem dL_law_1696 : decode cL_law 1696 = .ok (.i2l, 1) := sorry
theorem dL_law_1697 : decode cL_law 1697 = .ok (.lcmp, 1) := sorry
theorem dL_law_1698 : decode cL_law 1698 = .ok (.ifCond .eq 5, 3) := sorry
theorem dL_law_1701 : decode cL_law 1701 = .ok (.iconst 0, 1) := sorry
theorem dL_law_1702 : decode cL_law 1702 = .ok (.ireturn, 1) := sorry
theorem dL_law_1703 : decode cL_law 1703 = .ok (.goto 359, 3) := sorry
theorem dL_law_1706 : decode cL_law 1706 = .ok (.aload_n 1, 1) := sorry
theorem dL_law_1707 : decode cL_law 1707 = .ok (.aload_n 0, 1) := sorry
theorem dL_law_1708 : decode cL_law 1708 = .ok (.iload 5, 2) := sorry
theorem dL_law_1710 : decode cL_law 1710 = .ok (.iconst 1, 1) := sorry
theorem dL_law_1711 : decode cL_law 1711 = .ok (.iadd, 1) := sorry
theorem dL_law_1712 : decode cL_law 1712 = .ok (.iaload, 1) := sorry
theorem dL_law_1713 : decode cL_law 1713 = .ok (.aload_n 3, 1) := sorry
theorem dL_law_1714 : decode cL_law 1714 = .ok (.invokestatic 227, 3) := sorry
theorem dL_law_1717 : decode cL_law 1717 = .ok (.istore 6, 2) := sorry
theorem dL_law_1719 : decode cL_law 1719 = .ok (.aload_n 2, 1) := sorry
theorem dL_law_1720 : decode cL_law 1720 = .ok (.aload_n 0, 1) := sorry
theorem dL_law_1721 : decode cL_law 1721 = .ok (.iload 5, 2) := sorry
theorem dL_law_1723 : decode cL_law 1723 = .ok (.iconst 1, 1) := sorry
theorem dL_law_1724 : decode cL_law 1724 = .ok (.iadd, 1) := sorry
theorem dL_law_1725 : decode cL_law 1725 = .ok (.iaload, 1) := sorry
theorem dL_law_1726 : decode cL_law 1726 = .ok (.invokevirtual 229, 3) := sorry
theorem dL_law_1729 : decode cL_law 1729 = .ok (.istore 7, 2) := sorry
theorem dL_law_1731 : decode cL_law 1731 = .ok (.aload_n 2, 1) := sorry
theorem dL_law_1732 : decode cL_law 1732 = .ok (.invokevirtual 132, 3) := sorry
theorem dL_law_1735 : decode cL_law 1735 = .ok (.iload 6, 2) := sorry
theorem dL_law_1737 : decode cL_law 1737 = .ok (.if_icmp .eq 5, 3) := sorry
theorem dL_law_1740 : decode cL_law 1740 = .ok (.iconst 0, 1) := sorry
theorem dL_law_1741 : decode cL_law 1741 = .ok (.ireturn, 1) := sorry
theorem dL_law_1742 : decode cL_law 1742 = .ok (.iload 6, 2) := sorry
theorem dL_law_1744 : decode cL_law 1744 = .ok (.ifCond .ne 15, 3) := sorry
theorem dL_law_1747 : decode cL_law 1747 = .ok (.aload_n 3, 1) := sorry
theorem dL_law_1748 : decode cL_law 1748 = .ok (.iconst 0, 1) := sorry
theorem dL_law_1749 : decode cL_law 1749 = .ok (.laload, 1) := sorry
theorem dL_law_1750 : decode cL_law 1750 = .ok (.iload 7, 2) := sorry
theorem dL_law_1752 : decode cL_law 1752 = .ok (.i2l, 1) := sorry
theorem dL_law_1753 : decode cL_law 1753 = .ok (.lcmp, 1) := sorry
theorem dL_law_1754 : decode cL_law 1754 = .ok (.ifCond .eq 5, 3) := sorry
theorem dL_law_1757 : decode cL_law 1757 = .ok (.iconst 0, 1) := sorry
theorem dL_law_1758 : decode cL_law 1758 = .ok (.ireturn, 1) := sorry
theorem dL_law_1759 : decode cL_law 1759 = .ok (.goto 303, 3) := sorry
theorem dL_law_1762 : decode cL_law 1762 = .ok (.aload_n 1, 1) := sorry
theorem dL_law_1763 : decode cL_law 1763 = .ok (.aload 4, 2) := sorry
theorem dL_law_1765 : decode cL_law 1765 = .ok (.invokestatic 230, 3) := sorry
theorem dL_law_1768 : decode cL_law 1768 = .ok (.istore 6, 2) := sorry
theorem dL_law_1770 : decode cL_law 1770 = .ok (.aload_n 2, 1) := sorry
theorem dL_law_1771 : decode cL_law 1771 = .ok (.invokevirtual 233, 3) := sorry
theorem dL_law_1774 : decode cL_law 1774 = .ok (.fstore 7, 2) := sorry
theorem dL_law_1776 : decode cL_law 1776 = .ok (.aload_n 2, 1) := sorry
theorem dL_law_1777 : decode cL_law 1777 = .ok (.invokevirtual 132, 3) := sorry
theorem dL_law_1780 : decode cL_law 1780 = .ok (.iload 6, 2) := sorry
theorem dL_law_1782 : decode cL_law 1782 = .ok (.if_icmp .eq 5, 3) := sorry
theorem dL_law_1785 : decode cL_law 1785 = .ok (.iconst 0, 1) := sorry
theorem dL_law_1786 : decode cL_law 1786 = .ok (.ireturn, 1) := sorry
theorem dL_law_1787 : decode cL_law 1787 = .ok (.iload 6, 2) := sorry
theorem dL_law_1789 : decode cL_law 1789 = .ok (.ifCond .ne 36, 3) := sorry
theorem dL_law_1792 : decode cL_law 1792 = .ok (.aload 4, 2) := sorry
theorem dL_law_1794 : decode cL_law 1794 = .ok (.iconst 0, 1) := sorry
theorem dL_law_1795 : decode cL_law 1795 = .ok (.daload, 1) := sorry
theorem dL_law_1796 : decode cL_law 1796 = .ok (.fload 7, 2) := sorry
theorem dL_law_1798 : decode cL_law 1798 = .ok (.f2d, 1) := sorry
theorem dL_law_1799 : decode cL_law 1799 = .ok (.dcmp .l, 1) := sorry
theorem dL_law_1800 : decode cL_law 1800 = .ok (.ifCond .eq 25, 3) := sorry
theorem dL_law_1803 : decode cL_law 1803 = .ok (.aload 4, 2) := sorry
theorem dL_law_1805 : decode cL_law 1805 = .ok (.iconst 0, 1) := sorry
theorem dL_law_1806 : decode cL_law 1806 = .ok (.daload, 1) := sorry
theorem dL_law_1807 : decode cL_law 1807 = .ok (.aload 4, 2) := sorry
theorem dL_law_1809 : decode cL_law 1809 = .ok (.iconst 0, 1) := sorry
theorem dL_law_1810 : decode cL_law 1810 = .ok (.daload, 1) := sorry
theorem dL_law_1811 : decode cL_law 1811 = .ok (.dcmp .l, 1) := sorry
theorem dL_law_1812 : decode cL_law 1812 = .ok (.ifCond .eq 11, 3) := sorry
theorem dL_law_1815 : decode cL_law 1815 = .ok (.fload 7, 2) := sorry
theorem dL_law_1817 : decode cL_law 1817 = .ok (.fload 7, 2) := sorry
theorem dL_law_1819 : decode cL_law 1819 = .ok (.fcmp .l, 1) := sorry
theorem dL_law_1820 : decode cL_law 1820 = .ok (.ifCond .ne 5, 3) := sorry
theorem dL_law_1823 : decode cL_law 1823 = .ok (.iconst 0, 1) := sorry
theorem dL_law_1824 : decode cL_law 1824 = .ok (.ireturn, 1) := sorry
theorem dL_law_1825 : decode cL_law 1825 = .ok (.goto 237, 3) := sorry
theorem dL_law_1828 : decode cL_law 1828 = .ok (.aload_n 1, 1) := sorry
theorem dL_law_1829 : decode cL_law 1829 = .ok (.aload_n 0, 1) := sorry
theorem dL_law_1830 : decode cL_law 1830 = .ok (.iload 5, 2) := sorry
theorem dL_law_1832 : decode cL_law 1832 = .ok (.iconst 1, 1) := sorry
theorem dL_law_1833 : decode cL_law 1833 = .ok (.iadd, 1) := sorry
theorem dL_law_1834 : decode cL_law 1834 = .ok (.iaload, 1) := sorry
theorem dL_law_1835 : decode cL_law 1835 = .ok (.aload 4, 2) := sorry
theorem dL_law_1837 : decode cL_law 1837 = .ok (.invokestatic 234, 3) := sorry
theorem dL_law_1840 : decode cL_law 1840 = .ok (.istore 6, 2) := sorry
theorem dL_law_1842 : decode cL_law 1842 = .ok (.aload_n 2, 1) := sorry
theorem dL_law_1843 : decode cL_law 1843 = .ok (.aload_n 0, 1) := sorry
theorem dL_law_1844 : decode cL_law 1844 = .ok (.iload 5, 2) := sorry
theorem dL_law_1846 : decode cL_law 1846 = .ok (.iconst 1, 1) := sorry
theorem dL_law_1847 : decode cL_law 1847 = .ok (.iadd, 1) := sorry
theorem dL_law_1848 : decode cL_law 1848 = .ok (.iaload, 1) := sorry
theorem dL_law_1849 : decode cL_law 1849 = .ok (.invokevirtual 237, 3) := sorry
theorem dL_law_1852 : decode cL_law 1852 = .ok (.dstore 7, 2) := sorry
theorem dL_law_1854 : decode cL_law 1854 = .ok (.aload_n 2, 1) := sorry
theorem dL_law_1855 : decode cL_law 1855 = .ok (.invokevirtual 132, 3) := sorry
theorem dL_law_1858 : decode cL_law 1858 = .ok (.iload 6, 2) := sorry
theorem dL_law_1860 : decode cL_law 1860 = .ok (.if_icmp .eq 5, 3) := sorry
theorem dL_law_1863 : decode cL_law 1863 = .ok (.iconst 0, 1) := sorry
theorem dL_law_1864 : decode cL_law 1864 = .ok (.ireturn, 1) := sorry
theorem dL_law_1865 : decode cL_law 1865 = .ok (.iload 6, 2) := sorry
theorem dL_law_1867 : decode cL_law 1867 = .ok (.ifCond .ne 35, 3) := sorry
theorem dL_law_1870 : decode cL_law 1870 = .ok (.aload 4, 2) := sorry
theorem dL_law_1872 : decode cL_law 1872 = .ok (.iconst 0, 1) := sorry
theorem dL_law_1873 : decode cL_law 1873 = .ok (.daload, 1) := sorry
theorem dL_law_1874 : decode cL_law 1874 = .ok (.dload 7, 2) := sorry
theorem dL_law_1876 : decode cL_law 1876 = .ok (.dcmp .l, 1) := sorry
theorem dL_law_1877 : decode cL_law 1877 = .ok (.ifCond .eq 25, 3) := sorry
theorem dL_law_1880 : decode cL_law 1880 = .ok (.aload 4, 2) := sorry
theorem dL_law_1882 : decode cL_law 1882 = .ok (.iconst 0, 1) := sorry
theorem dL_law_1883 : decode cL_law 1883 = .ok (.daload, 1) := sorry
theorem dL_law_1884 : decode cL_law 1884 = .ok (.aload 4, 2) := sorry
theorem dL_law_1886 : decode cL_law 1886 = .ok (.iconst 0, 1) := sorry
theorem dL_law_1887 : decode cL_law 1887 = .ok (.daload, 1) := sorry
theorem dL_law_1888 : decode cL_law 1888 = .ok (.dcmp .l, 1) := sorry
theorem dL_law_1889 : decode cL_law 1889 = .ok (.ifCond .eq 11, 3) := sorry
theorem dL_law_1892 : decode cL_law 1892 = .ok (.dload 7, 2) := sorry
theorem dL_law_1894 : decode cL_law 1894 = .ok (.dload 7, 2) := sorry
theorem dL_law_1896 : decode cL_law 1896 = .ok (.dcmp .l, 1) := sorry
theorem dL_law_1897 : decode cL_law 1897 = .ok (.ifCond .ne 5, 3) := sorry
theorem dL_law_1900 : decode cL_law 1900 = .ok (.iconst 0, 1) := sorry
theorem dL_law_1901 : decode cL_law 1901 = .ok (.ireturn, 1) := sorry
theorem dL_law_1902 : decode cL_law 1902 = .ok (.goto 160, 3) := sorry
theorem dL_law_1905 : decode cL_law 1905 = .ok (.aload_n 1, 1) := sorry
theorem dL_law_1906 : decode cL_law 1906 = .ok (.aload_n 0, 1) := sorry
theorem dL_law_1907 : decode cL_law 1907 = .ok (.iload 5, 2) := sorry
theorem dL_law_1909 : decode cL_law 1909 = .ok (.iconst 1, 1) := sorry
theorem dL_law_1910 : decode cL_law 1910 = .ok (.iadd, 1) := sorry
theorem dL_law_1911 : decode cL_law 1911 = .ok (.iaload, 1) := sorry
theorem dL_law_1912 : decode cL_law 1912 = .ok (.aload_n 3, 1) := sorry
theorem dL_law_1913 : decode cL_law 1913 = .ok (.invokestatic 238, 3) := sorry
theorem dL_law_1916 : decode cL_law 1916 = .ok (.istore 6, 2) := sorry
theorem dL_law_1918 : decode cL_law 1918 = .ok (.aload_n 2, 1) := sorry
theorem dL_law_1919 : decode cL_law 1919 = .ok (.aload_n 0, 1) := sorry
theorem dL_law_1920 : decode cL_law 1920 = .ok (.iload 5, 2) := sorry
theorem dL_law_1922 : decode cL_law 1922 = .ok (.iconst 1, 1) := sorry
theorem dL_law_1923 : decode cL_law 1923 = .ok (.iadd, 1) := sorry
theorem dL_law_1924 : decode cL_law 1924 = .ok (.iaload, 1) := sorry
theorem dL_law_1925 : decode cL_law 1925 = .ok (.invokevirtual 240, 3) := sorry
theorem dL_law_1928 : decode cL_law 1928 = .ok (.istore 7, 2) := sorry
theorem dL_law_1930 : decode cL_law 1930 = .ok (.aload_n 2, 1) := sorry
theorem dL_law_1931 : decode cL_law 1931 = .ok (.invokevirtual 132, 3) := sorry
theorem dL_law_1934 : decode cL_law 1934 = .ok (.iload 6, 2) := sorry
theorem dL_law_1936 : decode cL_law 1936 = .ok (.if_icmp .eq 5, 3) := sorry
theorem dL_law_1939 : decode cL_law 1939 = .ok (.iconst 0, 1) := sorry
theorem dL_law_1940 : decode cL_law 1940 = .ok (.ireturn, 1) := sorry
theorem dL_law_1941 : decode cL_law 1941 = .ok (.iload 6, 2) := sorry
theorem dL_law_1943 : decode cL_law 1943 = .ok (.ifCond .ne 15, 3) := sorry
theorem dL_law_1946 : decode cL_law 1946 = .ok (.aload_n 3, 1) := sorry
theorem dL_law_1947 : decode cL_law 1947 = .ok (.iconst 0, 1) := sorry
theorem dL_law_1948 : decode cL_law 1948 = .ok (.laload, 1) := sorry
theorem dL_law_1949 : decode cL_law 1949 = .ok (.iload 7, 2) := sorry
theorem dL_law_1951 : decode cL_law 1951 = .ok (.i2l, 1) := sorry
theorem dL_law_1952 : decode cL_law 1952 = .ok (.lcmp, 1) := sorry
theorem dL_law_1953 : decode cL_law 1953 = .ok (.ifCond .eq 5, 3) := sorry
theorem dL_law_1956 : decode cL_law 1956 = .ok (.iconst 0, 1) := sorry
theorem dL_law_1957 : decode cL_law 1957 = .ok (.ireturn, 1) := sorry
theorem dL_law_1958 : decode cL_law 1958 = .ok (.goto 104, 3) := sorry
theorem dL_law_1961 : decode cL_law 1961 = .ok (.aload_n 1, 1) := sorry
theorem dL_law_1962 : decode cL_law 1962 = .ok (.aload_n 3, 1) := sorry
theorem dL_law_1963 : decode cL_law 1963 = .ok (.invokestatic 241, 3) := sorry
theorem dL_law_1966 : decode cL_law 1966 = .ok (.istore 6, 2) := sorry
theorem dL_law_1968 : decode cL_law 1968 = .ok (.aload_n 2, 1) := sorry
theorem dL_law_1969 : decode cL_law 1969 = .ok (.invokevirtual 243, 3) := sorry
theorem dL_law_1972 : decode cL_law 1972 = .ok (.istore 7, 2) := sorry
theorem dL_law_1974 : decode cL_law 1974 = .ok (.aload_n 2, 1) := sorry
theorem dL_law_1975 : decode cL_law 1975 = .ok (.invokevirtual 132, 3) := sorry
theorem dL_law_1978 : decode cL_law 1978 = .ok (.iload 6, 2) := sorry
theorem dL_law_1980 : decode cL_law 1980 = .ok (.if_icmp .eq 5, 3) := sorry
theorem dL_law_1983 : decode cL_law 1983 = .ok (.iconst 0, 1) := sorry
theorem dL_law_1984 : decode cL_law 1984 = .ok (.ireturn, 1) := sorry
theorem dL_law_1985 : decode cL_law 1985 = .ok (.iload 6, 2) := sorry
theorem dL_law_1987 : decode cL_law 1987 = .ok (.ifCond .ne 15, 3) := sorry
theorem dL_law_1990 : decode cL_law 1990 = .ok (.aload_n 3, 1) := sorry
theorem dL_law_1991 : decode cL_law 1991 = .ok (.iconst 0, 1) := sorry
theorem dL_law_1992 : decode cL_law 1992 = .ok (.laload, 1) := sorry
theorem dL_law_1993 : decode cL_law 1993 = .ok (.iload 7, 2) := sorry
theorem dL_law_1995 : decode cL_law 1995 = .ok (.i2l, 1) := sorry
theorem dL_law_1996 : decode cL_law 1996 = .ok (.lcmp, 1) := sorry
theorem dL_law_1997 : decode cL_law 1997 = .ok (.ifCond .eq 5, 3) := sorry
theorem dL_law_2000 : decode cL_law 2000 = .ok (.iconst 0, 1) := sorry
theorem dL_law_2001 : decode cL_law 2001 = .ok (.ireturn, 1) := sorry
theorem dL_law_2002 : decode cL_law 2002 = .ok (.goto 60, 3) := sorry
theorem dL_law_2005 : decode cL_law 2005 = .ok (.aload_n 1, 1) := sorry
theorem dL_law_2006 : decode cL_law 2006 = .ok (.invokevirtual 244, 3) := sorry
theorem dL_law_2009 : decode cL_law 2009 = .ok (.aload_n 2, 1) := sorry
theorem dL_law_2010 : decode cL_law 2010 = .ok (.invokevirtual 247, 3) := sorry
theorem dL_law_2013 : decode cL_law 2013 = .ok (.if_icmp .eq 49, 3) := sorry
theorem dL_law_2016 : decode cL_law 2016 = .ok (.iconst 0, 1) := sorry
theorem dL_law_2017 : decode cL_law 2017 = .ok (.ireturn, 1) := sorry
theorem dL_law_2018 : decode cL_law 2018 = .ok (.aload_n 1, 1) := sorry
theorem dL_law_2019 : decode cL_law 2019 = .ok (.aload_n 3, 1) := sorry
theorem dL_law_2020 : decode cL_law 2020 = .ok (.invokestatic 248, 3) := sorry
theorem dL_law_2023 : decode cL_law 2023 = .ok (.istore 6, 2) := sorry
theorem dL_law_2025 : decode cL_law 2025 = .ok (.aload_n 2, 1) := sorry
theorem dL_law_2026 : decode cL_law 2026 = .ok (.invokevirtual 250, 3) := sorry
theorem dL_law_2029 : decode cL_law 2029 = .ok (.istore 7, 2) := sorry
theorem dL_law_2031 : decode cL_law 2031 = .ok (.aload_n 2, 1) := sorry
theorem dL_law_2032 : decode cL_law 2032 = .ok (.invokevirtual 132, 3) := sorry
theorem dL_law_2035 : decode cL_law 2035 = .ok (.iload 6, 2) := sorry
theorem dL_law_2037 : decode cL_law 2037 = .ok (.if_icmp .eq 5, 3) := sorry
theorem dL_law_2040 : decode cL_law 2040 = .ok (.iconst 0, 1) := sorry
theorem dL_law_2041 : decode cL_law 2041 = .ok (.ireturn, 1) := sorry
theorem dL_law_2042 : decode cL_law 2042 = .ok (.iload 6, 2) := sorry
theorem dL_law_2044 : decode cL_law 2044 = .ok (.ifCond .ne 15, 3) := sorry
theorem dL_law_2047 : decode cL_law 2047 = .ok (.aload_n 3, 1) := sorry
theorem dL_law_2048 : decode cL_law 2048 = .ok (.iconst 0, 1) := sorry
theorem dL_law_2049 : decode cL_law 2049 = .ok (.laload, 1) := sorry
theorem dL_law_2050 : decode cL_law 2050 = .ok (.iload 7, 2) := sorry
theorem dL_law_2052 : decode cL_law 2052 = .ok (.i2l, 1) := sorry
theorem dL_law_2053 : decode cL_law 2053 = .ok (.lcmp, 1) := sorry
theorem dL_law_2054 : decode cL_law 2054 = .ok (.ifCond .eq 5, 3) := sorry
theorem dL_law_2057 : decode cL_law 2057 = .ok (.iconst 0, 1) := sorry
theorem dL_law_2058 : decode cL_law 2058 = .ok (.ireturn, 1) := sorry
theorem dL_law_2059 : decode cL_law 2059 = .ok (.goto 3, 3) := sorry
theorem dL_law_2062 : decode cL_law 2062 = .ok (.iinc 5 4, 3) := sorry
theorem dL_law_2065 : decode cL_law 2065 = .ok (.goto (-2037), 3) := sorry
theorem dL_law_2068 : decode cL_law 2068 = .ok (.iconst 1, 1) := sorry
theorem dL_law_2069 : decode cL_law 2069 = .ok (.ireturn, 1) := sorry
