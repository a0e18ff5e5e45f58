theorem tvl_0 {i Ln : Nat} (hi : i + 4 ≤ Ln) (hL : Ln ≤ 2048) : (nI i).toNatClampNeg = i + 0 := nI_clamp (by omega)
theorem tvli_0 {i Ln : Nat} (hi : i + 4 ≤ Ln) (hL : Ln ≤ 2048) : vp_in (nI i) Ln := vp_in_nI (by omega) (by omega)
theorem tvl_1 {i Ln : Nat} (hi : i + 4 ≤ Ln) (hL : Ln ≤ 2048) : (nI i + 1).toNatClampNeg = i + 1 := by
  rw [show (1 : Int32) = nI 1 from rfl, nI_add, nI_clamp (by omega)]
theorem tvli_1 {i Ln : Nat} (hi : i + 4 ≤ Ln) (hL : Ln ≤ 2048) : vp_in (nI i + 1) Ln := by
  rw [show (1 : Int32) = nI 1 from rfl, nI_add]
  exact vp_in_nI (by omega) (by omega)
theorem tvl_2 {i Ln : Nat} (hi : i + 4 ≤ Ln) (hL : Ln ≤ 2048) : (nI i + 2).toNatClampNeg = i + 2 := by
  rw [show (2 : Int32) = nI 2 from rfl, nI_add, nI_clamp (by omega)]
theorem tvli_2 {i Ln : Nat} (hi : i + 4 ≤ Ln) (hL : Ln ≤ 2048) : vp_in (nI i + 2) Ln := by
  rw [show (2 : Int32) = nI 2 from rfl, nI_add]
  exact vp_in_nI (by omega) (by omega)
theorem tvl_3 {i Ln : Nat} (hi : i + 4 ≤ Ln) (hL : Ln ≤ 2048) : (nI i + 3).toNatClampNeg = i + 3 := by
  rw [show (3 : Int32) = nI 3 from rfl, nI_add, nI_clamp (by omega)]
theorem tvli_3 {i Ln : Nat} (hi : i + 4 ≤ Ln) (hL : Ln ≤ 2048) : vp_in (nI i + 3) Ln := by
  rw [show (3 : Int32) = nI 3 from rfl, nI_add]
  exact vp_in_nI (by omega) (by omega)
theorem ml_RL_146 : Cond.methodLink RL 146 yL_addHolder ∈ tvGW := tvgc (tvc_2 (List.mem_of_getElem? (i := 229) (by decide +kernel))) rfl
theorem ml_RL_151 : Cond.methodLink RL 151 yX9_addHolder ∈ tvGW := tvgc (tvc_6 (List.mem_of_getElem? (i := 217) (by decide +kernel))) rfl
theorem ml_RL_152 : Cond.methodLink RL 152 yX9_thrown ∈ tvGW := tvgc (tvc_6 (List.mem_of_getElem? (i := 213) (by decide +kernel))) rfl
theorem ml_RL_155 : Cond.methodLink RL 155 yL_addBox ∈ tvGW := tvgc (tvc_3 (List.mem_of_getElem? (i := 166) (by decide +kernel))) rfl
theorem ml_RL_158 : Cond.methodLink RL 158 yX9_addBox ∈ tvGW := tvgc (tvc_7 (List.mem_of_getElem? (i := 11) (by decide +kernel))) rfl
theorem ml_RL_159 : Cond.methodLink RL 159 yL_setTide ∈ tvGW := tvgc (tvc_3 (List.mem_of_getElem? (i := 206) (by decide +kernel))) rfl
theorem ml_RL_162 : Cond.methodLink RL 162 yX9_setTide ∈ tvGW := tvgc (tvc_7 (List.mem_of_getElem? (i := 27) (by decide +kernel))) rfl
theorem ml_RL_163 : Cond.methodLink RL 163 yL_turnKey ∈ tvGW := tvgc (tvc_3 (List.mem_of_getElem? (i := 221) (by decide +kernel))) rfl
theorem ml_RL_165 : Cond.methodLink RL 165 yX9_turnKey ∈ tvGW := tvgc (tvc_7 (List.mem_of_getElem? (i := 35) (by decide +kernel))) rfl
theorem ml_RL_166 : Cond.methodLink RL 166 yL_changeCode ∈ tvGW := tvgc (tvc_4 (List.mem_of_getElem? (i := 64) (by decide +kernel))) rfl
theorem ml_RL_168 : Cond.methodLink RL 168 yX9_changeCode ∈ tvGW := tvgc (tvc_7 (List.mem_of_getElem? (i := 96) (by decide +kernel))) rfl
theorem ml_RL_169 : Cond.methodLink RL 169 yL_deposit ∈ tvGW := tvgc (tvc_4 (List.mem_of_getElem? (i := 83) (by decide +kernel))) rfl
theorem ml_RL_171 : Cond.methodLink RL 171 yX9_deposit ∈ tvGW := tvgc (tvc_7 (List.mem_of_getElem? (i := 104) (by decide +kernel))) rfl
theorem ml_RL_172 : Cond.methodLink RL 172 yL_withdraw ∈ tvGW := tvgc (tvc_4 (List.mem_of_getElem? (i := 110) (by decide +kernel))) rfl
theorem ml_RL_174 : Cond.methodLink RL 174 yX9_withdraw ∈ tvGW := tvgc (tvc_7 (List.mem_of_getElem? (i := 112) (by decide +kernel))) rfl
theorem ml_RL_175 : Cond.methodLink RL 175 yL_close ∈ tvGW := tvgc (tvc_4 (List.mem_of_getElem? (i := 130) (by decide +kernel))) rfl
theorem ml_RL_177 : Cond.methodLink RL 177 yX9_close ∈ tvGW := tvgc (tvc_7 (List.mem_of_getElem? (i := 120) (by decide +kernel))) rfl
theorem ml_RL_178 : Cond.methodLink RL 178 yL_pass ∈ tvGW := tvgc (tvc_4 (List.mem_of_getElem? (i := 142) (by decide +kernel))) rfl
theorem ml_RL_180 : Cond.methodLink RL 180 yX9_pass ∈ tvGW := tvgc (tvc_7 (List.mem_of_getElem? (i := 132) (by decide +kernel))) rfl
theorem ml_RL_181 : Cond.methodLink RL 181 yX8_time ∈ tvGW := tvgc (tvc_2 (List.mem_of_getElem? (i := 27) (by decide +kernel))) rfl
theorem ml_RL_184 : Cond.methodLink RL 184 yX9_time ∈ tvGW := tvgc (tvc_7 (List.mem_of_getElem? (i := 148) (by decide +kernel))) rfl
theorem ml_RL_185 : Cond.methodLink RL 185 yX8_isLowTide ∈ tvGW := tvgc (tvc_2 (List.mem_of_getElem? (i := 31) (by decide +kernel))) rfl
theorem ml_RL_188 : Cond.methodLink RL 188 yX9_isLowTide ∈ tvGW := tvgc (tvc_7 (List.mem_of_getElem? (i := 152) (by decide +kernel))) rfl
theorem ml_RL_189 : Cond.methodLink RL 189 yL_lowMinutes ∈ tvGW := tvgc (tvc_4 (List.mem_of_getElem? (i := 158) (by decide +kernel))) rfl
theorem ml_RL_191 : Cond.methodLink RL 191 yX9_lowMinutes ∈ tvGW := tvgc (tvc_7 (List.mem_of_getElem? (i := 156) (by decide +kernel))) rfl
theorem ml_RL_192 : Cond.methodLink RL 192 yL_lowMinutesByCounting ∈ tvGW := tvgc (tvc_4 (List.mem_of_getElem? (i := 170) (by decide +kernel))) rfl
theorem ml_RL_194 : Cond.methodLink RL 194 yX9_lowMinutesByCounting ∈ tvGW := tvgc (tvc_7 (List.mem_of_getElem? (i := 160) (by decide +kernel))) rfl
theorem ml_RL_195 : Cond.methodLink RL 195 yX8_alarm ∈ tvGW := tvgc (tvc_2 (List.mem_of_getElem? (i := 43) (by decide +kernel))) rfl
theorem ml_RL_198 : Cond.methodLink RL 198 yX9_alarm ∈ tvGW := tvgc (tvc_7 (List.mem_of_getElem? (i := 165) (by decide +kernel))) rfl
theorem ml_RL_199 : Cond.methodLink RL 199 yX8_holders ∈ tvGW := tvgc (tvc_2 (List.mem_of_getElem? (i := 47) (by decide +kernel))) rfl
theorem ml_RL_202 : Cond.methodLink RL 202 yX9_holders ∈ tvGW := tvgc (tvc_7 (List.mem_of_getElem? (i := 169) (by decide +kernel))) rfl
theorem ml_RL_203 : Cond.methodLink RL 203 yL_attempts ∈ tvGW := tvgc (tvc_4 (List.mem_of_getElem? (i := 178) (by decide +kernel))) rfl
theorem ml_RL_205 : Cond.methodLink RL 205 yX9_attempts ∈ tvGW := tvgc (tvc_7 (List.mem_of_getElem? (i := 173) (by decide +kernel))) rfl
theorem ml_RL_206 : Cond.methodLink RL 206 yL_minutesLocked ∈ tvGW := tvgc (tvc_4 (List.mem_of_getElem? (i := 191) (by decide +kernel))) rfl
theorem ml_RL_208 : Cond.methodLink RL 208 yX9_minutesLocked ∈ tvGW := tvgc (tvc_7 (List.mem_of_getElem? (i := 177) (by decide +kernel))) rfl
theorem ml_RL_209 : Cond.methodLink RL 209 yL_boxesOf ∈ tvGW := tvgc (tvc_4 (List.mem_of_getElem? (i := 199) (by decide +kernel))) rfl
theorem ml_RL_211 : Cond.methodLink RL 211 yX9_boxesOf ∈ tvGW := tvgc (tvc_7 (List.mem_of_getElem? (i := 181) (by decide +kernel))) rfl
theorem ml_RL_212 : Cond.methodLink RL 212 yX8_boxes ∈ tvGW := tvgc (tvc_2 (List.mem_of_getElem? (i := 51) (by decide +kernel))) rfl
theorem ml_RL_215 : Cond.methodLink RL 215 yX9_boxes ∈ tvGW := tvgc (tvc_7 (List.mem_of_getElem? (i := 185) (by decide +kernel))) rfl
theorem ml_RL_216 : Cond.methodLink RL 216 yL_otherHolder ∈ tvGW := tvgc (tvc_4 (List.mem_of_getElem? (i := 211) (by decide +kernel))) rfl
theorem ml_RL_218 : Cond.methodLink RL 218 yX9_otherHolder ∈ tvGW := tvgc (tvc_7 (List.mem_of_getElem? (i := 189) (by decide +kernel))) rfl
theorem ml_RL_219 : Cond.methodLink RL 219 yL_status ∈ tvGW := tvgc (tvc_4 (List.mem_of_getElem? (i := 229) (by decide +kernel))) rfl
theorem ml_RL_221 : Cond.methodLink RL 221 yX9_status ∈ tvGW := tvgc (tvc_7 (List.mem_of_getElem? (i := 193) (by decide +kernel))) rfl
theorem ml_RL_222 : Cond.methodLink RL 222 yL_firstHolder ∈ tvGW := tvgc (tvc_4 (List.mem_of_getElem? (i := 237) (by decide +kernel))) rfl
theorem ml_RL_224 : Cond.methodLink RL 224 yX9_firstHolder ∈ tvGW := tvgc (tvc_7 (List.mem_of_getElem? (i := 197) (by decide +kernel))) rfl
theorem ml_RL_225 : Cond.methodLink RL 225 yL_remainingDelay ∈ tvGW := tvgc (tvc_5 (List.mem_of_getElem? (i := 9) (by decide +kernel))) rfl
theorem ml_RL_227 : Cond.methodLink RL 227 yX9_remainingDelay ∈ tvGW := tvgc (tvc_7 (List.mem_of_getElem? (i := 201) (by decide +kernel))) rfl
theorem ml_RL_228 : Cond.methodLink RL 228 yL_minutesUntilOpen ∈ tvGW := tvgc (tvc_5 (List.mem_of_getElem? (i := 17) (by decide +kernel))) rfl
theorem ml_RL_230 : Cond.methodLink RL 230 yX9_minutesUntilOpen ∈ tvGW := tvgc (tvc_7 (List.mem_of_getElem? (i := 209) (by decide +kernel))) rfl
theorem ml_RL_231 : Cond.methodLink RL 231 yL_minutesUntilOpenBySimulation ∈ tvGW := tvgc (tvc_5 (List.mem_of_getElem? (i := 24) (by decide +kernel))) rfl
theorem ml_RL_233 : Cond.methodLink RL 233 yX9_minutesUntilOpenBySimulation ∈ tvGW := tvgc (tvc_7 (List.mem_of_getElem? (i := 213) (by decide +kernel))) rfl
theorem ml_RL_234 : Cond.methodLink RL 234 yL_pearls ∈ tvGW := tvgc (tvc_5 (List.mem_of_getElem? (i := 36) (by decide +kernel))) rfl
theorem ml_RL_236 : Cond.methodLink RL 236 yX9_pearls ∈ tvGW := tvgc (tvc_7 (List.mem_of_getElem? (i := 218) (by decide +kernel))) rfl
theorem ml_RL_237 : Cond.methodLink RL 237 yL_pearl ∈ tvGW := tvgc (tvc_5 (List.mem_of_getElem? (i := 44) (by decide +kernel))) rfl
theorem ml_RL_239 : Cond.methodLink RL 239 yX9_pearl ∈ tvGW := tvgc (tvc_7 (List.mem_of_getElem? (i := 222) (by decide +kernel))) rfl
theorem ml_RL_240 : Cond.methodLink RL 240 yL_boxByValue ∈ tvGW := tvgc (tvc_5 (List.mem_of_getElem? (i := 53) (by decide +kernel))) rfl
theorem ml_RL_242 : Cond.methodLink RL 242 yX9_boxByValue ∈ tvGW := tvgc (tvc_7 (List.mem_of_getElem? (i := 226) (by decide +kernel))) rfl
theorem ml_RL_243 : Cond.methodLink RL 243 yX8_totalValue ∈ tvGW := tvgc (tvc_2 (List.mem_of_getElem? (i := 55) (by decide +kernel))) rfl
theorem ml_RL_247 : Cond.methodLink RL 247 yX9_totalValue ∈ tvGW := tvgc (tvc_7 (List.mem_of_getElem? (i := 234) (by decide +kernel))) rfl
theorem ml_RL_248 : Cond.methodLink RL 248 yX8_totalValueByLedger ∈ tvGW := tvgc (tvc_2 (List.mem_of_getElem? (i := 79) (by decide +kernel))) rfl
theorem ml_RL_251 : Cond.methodLink RL 251 yX9_totalValueByLedger ∈ tvGW := tvgc (tvc_7 (List.mem_of_getElem? (i := 238) (by decide +kernel))) rfl
theorem ml_RL_252 : Cond.methodLink RL 252 yL_meanValue ∈ tvGW := tvgc (tvc_5 (List.mem_of_getElem? (i := 69) (by decide +kernel))) rfl
theorem ml_RL_255 : Cond.methodLink RL 255 yX9_meanValue ∈ tvGW := tvgc (tvc_8 (List.mem_of_getElem? (i := 2) (by decide +kernel))) rfl
theorem ml_RL_256 : Cond.methodLink RL 256 yL_failureRate ∈ tvGW := tvgc (tvc_5 (List.mem_of_getElem? (i := 97) (by decide +kernel))) rfl
theorem ml_RL_258 : Cond.methodLink RL 258 yX9_failureRate ∈ tvGW := tvgc (tvc_8 (List.mem_of_getElem? (i := 6) (by decide +kernel))) rfl
theorem ml_RL_259 : Cond.methodLink RL 259 yX8_events ∈ tvGW := tvgc (tvc_2 (List.mem_of_getElem? (i := 83) (by decide +kernel))) rfl
theorem ml_RL_262 : Cond.methodLink RL 262 yX9_events ∈ tvGW := tvgc (tvc_8 (List.mem_of_getElem? (i := 10) (by decide +kernel))) rfl
theorem ml_RL_263 : Cond.methodLink RL 263 yL_eventKind ∈ tvGW := tvgc (tvc_5 (List.mem_of_getElem? (i := 105) (by decide +kernel))) rfl
theorem ml_RL_265 : Cond.methodLink RL 265 yX9_eventKind ∈ tvGW := tvgc (tvc_8 (List.mem_of_getElem? (i := 14) (by decide +kernel))) rfl
theorem ml_RL_266 : Cond.methodLink RL 266 yL_eventTime ∈ tvGW := tvgc (tvc_5 (List.mem_of_getElem? (i := 120) (by decide +kernel))) rfl
theorem ml_RL_268 : Cond.methodLink RL 268 yX9_eventTime ∈ tvGW := tvgc (tvc_8 (List.mem_of_getElem? (i := 22) (by decide +kernel))) rfl
theorem ml_RL_269 : Cond.methodLink RL 269 yL_eventNumber ∈ tvGW := tvgc (tvc_5 (List.mem_of_getElem? (i := 131) (by decide +kernel))) rfl
theorem ml_RL_271 : Cond.methodLink RL 271 yX9_eventNumber ∈ tvGW := tvgc (tvc_8 (List.mem_of_getElem? (i := 26) (by decide +kernel))) rfl
theorem ml_RL_272 : Cond.methodLink RL 272 yX8_isConsistent ∈ tvGW := tvgc (tvc_2 (List.mem_of_getElem? (i := 87) (by decide +kernel))) rfl
theorem ml_RL_275 : Cond.methodLink RL 275 yX9_isConsistent ∈ tvGW := tvgc (tvc_8 (List.mem_of_getElem? (i := 30) (by decide +kernel))) rfl
theorem ml_RL_276 : Cond.methodLink RL 276 yL_writeBox ∈ tvGW := tvgc (tvc_5 (List.mem_of_getElem? (i := 138) (by decide +kernel))) rfl
theorem ml_RL_278 : Cond.methodLink RL 278 yX9_writeBox ∈ tvGW := tvgc (tvc_8 (List.mem_of_getElem? (i := 36) (by decide +kernel))) rfl
theorem ml_RL_279 : Cond.methodLink RL 279 yX8_writeEvents ∈ tvGW := tvgc (tvc_2 (List.mem_of_getElem? (i := 200) (by decide +kernel))) rfl
theorem ml_RL_282 : Cond.methodLink RL 282 yX9_writeEvents ∈ tvGW := tvgc (tvc_8 (List.mem_of_getElem? (i := 48) (by decide +kernel))) rfl
theorem ml_RL_283 : Cond.methodLink RL 283 yL_charAt ∈ tvGW := tvgc (tvc_5 (List.mem_of_getElem? (i := 145) (by decide +kernel))) rfl
theorem ml_RL_285 : Cond.methodLink RL 285 yX9_charAt ∈ tvGW := tvgc (tvc_8 (List.mem_of_getElem? (i := 52) (by decide +kernel))) rfl
theorem ml_RL_286 : Cond.methodLink RL 286 yL_type ∈ tvGW := tvgc (tvc_5 (List.mem_of_getElem? (i := 157) (by decide +kernel))) rfl
theorem ml_RL_289 : Cond.methodLink RL 289 yX9_type ∈ tvGW := tvgc (tvc_8 (List.mem_of_getElem? (i := 56) (by decide +kernel))) rfl
theorem ml_RL_290 : Cond.methodLink RL 290 yL_run ∈ tvGW := tvgc (tvc_5 (List.mem_of_getElem? (i := 173) (by decide +kernel))) rfl
theorem ml_RL_293 : Cond.methodLink RL 293 yX9_run ∈ tvGW := tvgc (tvc_8 (List.mem_of_getElem? (i := 60) (by decide +kernel))) rfl
theorem ml_RL_294 : Cond.methodLink RL 294 yL_errorPosition ∈ tvGW := tvgc (tvc_6 (List.mem_of_getElem? (i := 101) (by decide +kernel))) rfl
theorem ml_RL_296 : Cond.methodLink RL 296 yX9_errorPosition ∈ tvGW := tvgc (tvc_8 (List.mem_of_getElem? (i := 124) (by decide +kernel))) rfl
theorem ml_RL_297 : Cond.methodLink RL 297 yL_failedCommand ∈ tvGW := tvgc (tvc_6 (List.mem_of_getElem? (i := 109) (by decide +kernel))) rfl
theorem ml_RL_299 : Cond.methodLink RL 299 yX9_failedCommand ∈ tvGW := tvgc (tvc_8 (List.mem_of_getElem? (i := 128) (by decide +kernel))) rfl
theorem ml_RL_300 : Cond.methodLink RL 300 yL_wasWrongCode ∈ tvGW := tvgc (tvc_6 (List.mem_of_getElem? (i := 120) (by decide +kernel))) rfl
theorem ml_RL_302 : Cond.methodLink RL 302 yX9_wasWrongCode ∈ tvGW := tvgc (tvc_8 (List.mem_of_getElem? (i := 132) (by decide +kernel))) rfl
theorem ml_RL_303 : Cond.methodLink RL 303 yL_undo ∈ tvGW := tvgc (tvc_6 (List.mem_of_getElem? (i := 127) (by decide +kernel))) rfl
theorem ml_RL_305 : Cond.methodLink RL 305 yX9_undo ∈ tvGW := tvgc (tvc_8 (List.mem_of_getElem? (i := 136) (by decide +kernel))) rfl
theorem ml_RL_306 : Cond.methodLink RL 306 yX8_save ∈ tvGW := tvgc (tvc_2 (List.mem_of_getElem? (i := 225) (by decide +kernel))) rfl
theorem ml_RL_309 : Cond.methodLink RL 309 yX9_save ∈ tvGW := tvgc (tvc_8 (List.mem_of_getElem? (i := 140) (by decide +kernel))) rfl
theorem ml_RL_310 : Cond.methodLink RL 310 yL_restore ∈ tvGW := tvgc (tvc_6 (List.mem_of_getElem? (i := 140) (by decide +kernel))) rfl
theorem ml_RL_312 : Cond.methodLink RL 312 yX9_restore ∈ tvGW := tvgc (tvc_8 (List.mem_of_getElem? (i := 144) (by decide +kernel))) rfl
