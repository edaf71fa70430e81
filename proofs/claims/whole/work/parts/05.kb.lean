set_option maxRecDepth 20000 in
theorem k_150 : cdOk 150 cd150 (byY 150) = true := by decide +kernel
set_option maxRecDepth 20000 in
theorem k_151 : cdOk 151 cd151 (byY 151) = true := by decide +kernel
set_option maxRecDepth 20000 in
theorem k_152 : cdOk 152 cd152 (byY 152) = true := by decide +kernel
set_option maxRecDepth 20000 in
theorem k_153 : cdOk 153 cd153 (byY 153) = true := by decide +kernel
set_option maxRecDepth 20000 in
theorem k_154 : cdOk 154 cd154 (byY 154) = true := by decide +kernel
set_option maxRecDepth 20000 in
theorem k_155 : cdOk 155 cd155 (byY 155) = true := by decide +kernel
set_option maxRecDepth 20000 in
theorem k_156 : cdOk 156 cd156 (byY 156) = true := by decide +kernel
set_option maxRecDepth 20000 in
theorem k_157 : cdOk 157 cd157 (byY 157) = true := by decide +kernel
set_option maxRecDepth 20000 in
theorem k_158 : cdOk 158 cd158 (byY 158) = true := by decide +kernel
set_option maxRecDepth 20000 in
theorem k_159 : cdOk 159 cd159 (byY 159) = true := by decide +kernel
set_option maxRecDepth 20000 in
theorem k_160 : cdOk 160 cd160 (byY 160) = true := by decide +kernel
set_option maxRecDepth 20000 in
theorem k_161 : cdOk 161 cd161 (byY 161) = true := by decide +kernel
set_option maxRecDepth 20000 in
theorem k_162 : cdOk 162 cd162 (byY 162) = true := by decide +kernel
set_option maxRecDepth 20000 in
theorem k_163 : cdOk 163 cd163 (byY 163) = true := by decide +kernel
set_option maxRecDepth 20000 in
theorem k_164 : cdOk 164 cd164 (byY 164) = true := by decide +kernel
set_option maxRecDepth 20000 in
theorem k_165 : cdOk 165 cd165 (byY 165) = true := by decide +kernel
set_option maxRecDepth 20000 in
theorem k_166 : cdOk 166 cd166 (byY 166) = true := by decide +kernel
set_option maxRecDepth 20000 in
theorem k_167 : cdOk 167 cd167 (byY 167) = true := by decide +kernel
set_option maxRecDepth 20000 in
theorem k_168 : cdOk 168 cd168 (byY 168) = true := by decide +kernel
set_option maxRecDepth 20000 in
theorem k_169 : cdOk 169 cd169 (byY 169) = true := by decide +kernel
set_option maxRecDepth 20000 in
theorem k_170 : cdOk 170 cd170 (byY 170) = true := by decide +kernel
set_option maxRecDepth 20000 in
theorem k_171 : cdOk 171 cd171 (byY 171) = true := by decide +kernel
set_option maxRecDepth 20000 in
theorem k_172 : cdOk 172 cd172 (byY 172) = true := by decide +kernel
set_option maxRecDepth 20000 in
theorem k_173 : cdOk 173 cd173 (byY 173) = true := by decide +kernel
set_option maxRecDepth 20000 in
theorem k_174 : cdOk 174 cd174 (byY 174) = true := by decide +kernel
set_option maxRecDepth 20000 in
theorem k_175 : cdOk 175 cd175 (byY 175) = true := by decide +kernel
set_option maxRecDepth 20000 in
theorem k_176 : cdOk 176 cd176 (byY 176) = true := by decide +kernel
set_option maxRecDepth 20000 in
theorem k_177 : cdOk 177 cd177 (byY 177) = true := by decide +kernel
set_option maxRecDepth 20000 in
theorem k_178 : cdOk 178 cd178 (byY 178) = true := by decide +kernel
set_option maxRecDepth 20000 in
theorem k_179 : cdOk 179 cd179 (byY 179) = true := by decide +kernel
set_option maxRecDepth 20000 in
theorem k_180 : cdOk 180 cd180 (byY 180) = true := by decide +kernel
set_option maxRecDepth 20000 in
theorem k_181 : cdOk 181 cd181 (byY 181) = true := by decide +kernel
set_option maxRecDepth 20000 in
theorem k_182 : cdOk 182 cd182 (byY 182) = true := by decide +kernel
set_option maxRecDepth 20000 in
theorem k_183 : cdOk 183 cd183 (byY 183) = true := by decide +kernel
set_option maxRecDepth 20000 in
theorem k_184 : cdOk 184 cd184 (byY 184) = true := by decide +kernel
set_option maxRecDepth 20000 in
theorem k_185 : cdOk 185 cd185 (byY 185) = true := by decide +kernel
set_option maxRecDepth 20000 in
theorem k_186 : cdOk 186 cd186 (byY 186) = true := by decide +kernel
set_option maxRecDepth 20000 in
theorem k_187 : cdOk 187 cd187 (byY 187) = true := by decide +kernel
set_option maxRecDepth 20000 in
theorem k_188 : cdOk 188 cd188 (byY 188) = true := by decide +kernel
set_option maxRecDepth 20000 in
theorem k_189 : cdOk 189 cd189 (byY 189) = true := by decide +kernel
set_option maxRecDepth 20000 in
theorem k_190 : cdOk 190 cd190 (byY 190) = true := by decide +kernel
set_option maxRecDepth 20000 in
theorem k_191 : cdOk 191 cd191 (byY 191) = true := by decide +kernel
set_option maxRecDepth 20000 in
theorem k_192 : cdOk 192 cd192 (byY 192) = true := by decide +kernel
set_option maxRecDepth 20000 in
theorem k_193 : cdOk 193 cd193 (byY 193) = true := by decide +kernel
set_option maxRecDepth 20000 in
theorem k_194 : cdOk 194 cd194 (byY 194) = true := by decide +kernel
set_option maxRecDepth 20000 in
theorem k_195 : cdOk 195 cd195 (byY 195) = true := by decide +kernel
set_option maxRecDepth 20000 in
theorem k_196 : cdOk 196 cd196 (byY 196) = true := by decide +kernel
set_option maxRecDepth 20000 in
theorem k_197 : cdOk 197 cd197 (byY 197) = true := by decide +kernel
set_option maxRecDepth 20000 in
theorem k_198 : cdOk 198 cd198 (byY 198) = true := by decide +kernel
set_option maxRecDepth 20000 in
theorem k_199 : cdOk 199 cd199 (byY 199) = true := by decide +kernel
set_option maxRecDepth 20000 in
theorem k_200 : cdOk 200 cd200 (byY 200) = true := by decide +kernel
set_option maxRecDepth 20000 in
theorem k_201 : cdOk 201 cd201 (byY 201) = true := by decide +kernel
set_option maxRecDepth 20000 in
theorem k_202 : cdOk 202 cd202 (byY 202) = true := by decide +kernel
set_option maxRecDepth 20000 in
theorem k_203 : cdOk 203 cd203 (byY 203) = true := by decide +kernel
set_option maxRecDepth 20000 in
theorem k_204 : cdOk 204 cd204 (byY 204) = true := by decide +kernel
set_option maxRecDepth 20000 in
theorem k_205 : cdOk 205 cd205 (byY 205) = true := by decide +kernel
set_option maxRecDepth 20000 in
theorem k_206 : cdOk 206 cd206 (byY 206) = true := by decide +kernel
set_option maxRecDepth 20000 in
theorem k_207 : cdOk 207 cd207 (byY 207) = true := by decide +kernel
set_option maxRecDepth 20000 in
theorem k_208 : cdOk 208 cd208 (byY 208) = true := by decide +kernel
set_option maxRecDepth 20000 in
theorem k_209 : cdOk 209 cd209 (byY 209) = true := by decide +kernel
set_option maxRecDepth 20000 in
theorem k_210 : cdOk 210 cd210 (byY 210) = true := by decide +kernel
set_option maxRecDepth 20000 in
theorem k_211 : cdOk 211 cd211 (byY 211) = true := by decide +kernel
set_option maxRecDepth 20000 in
theorem k_212 : cdOk 212 cd212 (byY 212) = true := by decide +kernel
set_option maxRecDepth 20000 in
theorem k_213 : cdOk 213 cd213 (byY 213) = true := by decide +kernel
set_option maxRecDepth 20000 in
theorem k_214 : cdOk 214 cd214 (byY 214) = true := by decide +kernel
set_option maxRecDepth 20000 in
theorem k_215 : cdOk 215 cd215 (byY 215) = true := by decide +kernel
set_option maxRecDepth 20000 in
theorem k_216 : cdOk 216 cd216 (byY 216) = true := by decide +kernel
set_option maxRecDepth 20000 in
theorem k_217 : cdOk 217 cd217 (byY 217) = true := by decide +kernel
set_option maxRecDepth 20000 in
theorem k_218 : cdOk 218 cd218 (byY 218) = true := by decide +kernel
set_option maxRecDepth 20000 in
theorem k_219 : cdOk 219 cd219 (byY 219) = true := by decide +kernel
set_option maxRecDepth 20000 in
theorem k_220 : cdOk 220 cd220 (byY 220) = true := by decide +kernel
set_option maxRecDepth 20000 in
theorem k_221 : cdOk 221 cd221 (byY 221) = true := by decide +kernel
set_option maxRecDepth 20000 in
theorem k_222 : cdOk 222 cd222 (byY 222) = true := by decide +kernel
set_option maxRecDepth 20000 in
theorem k_223 : cdOk 223 cd223 (byY 223) = true := by decide +kernel
set_option maxRecDepth 20000 in
theorem k_224 : cdOk 224 cd224 (byY 224) = true := by decide +kernel
set_option maxRecDepth 20000 in
theorem k_225 : cdOk 225 cd225 (byY 225) = true := by decide +kernel
set_option maxRecDepth 20000 in
theorem k_226 : cdOk 226 cd226 (byY 226) = true := by decide +kernel
set_option maxRecDepth 20000 in
theorem k_227 : cdOk 227 cd227 (byY 227) = true := by decide +kernel
set_option maxRecDepth 20000 in
theorem k_228 : cdOk 228 cd228 (byY 228) = true := by decide +kernel
set_option maxRecDepth 20000 in
theorem k_229 : cdOk 229 cd229 (byY 229) = true := by decide +kernel
set_option maxRecDepth 20000 in
theorem k_230 : cdOk 230 cd230 (byY 230) = true := by decide +kernel
set_option maxRecDepth 20000 in
theorem k_231 : cdOk 231 cd231 (byY 231) = true := by decide +kernel
set_option maxRecDepth 20000 in
theorem k_232_0 : cdOk 232 cd232_0 (byY 232) = true := by decide +kernel
set_option maxRecDepth 20000 in
theorem k_232_1 : cdOk 232 cd232_1 (byY 232) = true := by decide +kernel
set_option maxRecDepth 20000 in
theorem k_232_2 : cdOk 232 cd232_2 (byY 232) = true := by decide +kernel
set_option maxRecDepth 20000 in
theorem k_232_3 : cdOk 232 cd232_3 (byY 232) = true := by decide +kernel
theorem cdOk_app_232 : ∀ {a b : List (Nat × Op × Bool)}, cdOk 232 a (byY 232) = true → cdOk 232 b (byY 232) = true → cdOk 232 (a ++ b) (byY 232) = true := fun {a b} h1 h2 => by unfold cdOk at *; rw [List.all_append, h1, h2]; rfl
theorem k_232 : cdOk 232 cd232 (byY 232) = true := cdOk_app_232 k_232_0 (cdOk_app_232 k_232_1 (cdOk_app_232 k_232_2 (k_232_3)))
set_option maxRecDepth 20000 in
theorem k_233 : cdOk 233 cd233 (byY 233) = true := by decide +kernel
set_option maxRecDepth 20000 in
theorem k_234 : cdOk 234 cd234 (byY 234) = true := by decide +kernel
set_option maxRecDepth 20000 in
theorem k_235 : cdOk 235 cd235 (byY 235) = true := by decide +kernel
set_option maxRecDepth 20000 in
theorem k_236 : cdOk 236 cd236 (byY 236) = true := by decide +kernel
set_option maxRecDepth 20000 in
theorem k_237 : cdOk 237 cd237 (byY 237) = true := by decide +kernel
set_option maxRecDepth 20000 in
theorem k_238 : cdOk 238 cd238 (byY 238) = true := by decide +kernel
set_option maxRecDepth 20000 in
theorem k_239 : cdOk 239 cd239 (byY 239) = true := by decide +kernel
set_option maxRecDepth 20000 in
theorem k_240 : cdOk 240 cd240 (byY 240) = true := by decide +kernel
set_option maxRecDepth 20000 in
theorem k_241 : cdOk 241 cd241 (byY 241) = true := by decide +kernel
set_option maxRecDepth 20000 in
theorem k_242 : cdOk 242 cd242 (byY 242) = true := by decide +kernel
set_option maxRecDepth 20000 in
theorem k_243 : cdOk 243 cd243 (byY 243) = true := by decide +kernel
set_option maxRecDepth 20000 in
theorem k_244 : cdOk 244 cd244 (byY 244) = true := by decide +kernel
set_option maxRecDepth 20000 in
theorem k_245 : cdOk 245 cd245 (byY 245) = true := by decide +kernel
set_option maxRecDepth 20000 in
theorem k_246 : cdOk 246 cd246 (byY 246) = true := by decide +kernel
set_option maxRecDepth 20000 in
theorem k_247 : cdOk 247 cd247 (byY 247) = true := by decide +kernel
set_option maxRecDepth 20000 in
theorem k_248 : cdOk 248 cd248 (byY 248) = true := by decide +kernel
set_option maxRecDepth 20000 in
theorem k_249 : cdOk 249 cd249 (byY 249) = true := by decide +kernel
set_option maxRecDepth 20000 in
theorem k_250 : cdOk 250 cd250 (byY 250) = true := by decide +kernel
set_option maxRecDepth 20000 in
theorem k_251 : cdOk 251 cd251 (byY 251) = true := by decide +kernel
set_option maxRecDepth 20000 in
theorem k_252 : cdOk 252 cd252 (byY 252) = true := by decide +kernel
set_option maxRecDepth 20000 in
theorem k_253 : cdOk 253 cd253 (byY 253) = true := by decide +kernel
set_option maxRecDepth 20000 in
theorem k_254 : cdOk 254 cd254 (byY 254) = true := by decide +kernel
set_option maxRecDepth 20000 in
theorem k_255 : cdOk 255 cd255 (byY 255) = true := by decide +kernel
set_option maxRecDepth 20000 in
theorem k_256 : cdOk 256 cd256 (byY 256) = true := by decide +kernel
set_option maxRecDepth 20000 in
theorem k_257 : cdOk 257 cd257 (byY 257) = true := by decide +kernel
set_option maxRecDepth 20000 in
theorem k_258 : cdOk 258 cd258 (byY 258) = true := by decide +kernel
set_option maxRecDepth 20000 in
theorem k_259 : cdOk 259 cd259 (byY 259) = true := by decide +kernel
set_option maxRecDepth 20000 in
theorem k_260_0 : cdOk 260 cd260_0 (byY 260) = true := by decide +kernel
set_option maxRecDepth 20000 in
theorem k_260_1 : cdOk 260 cd260_1 (byY 260) = true := by decide +kernel
set_option maxRecDepth 20000 in
theorem k_260_2 : cdOk 260 cd260_2 (byY 260) = true := by decide +kernel
theorem cdOk_app_260 : ∀ {a b : List (Nat × Op × Bool)}, cdOk 260 a (byY 260) = true → cdOk 260 b (byY 260) = true → cdOk 260 (a ++ b) (byY 260) = true := fun {a b} h1 h2 => by unfold cdOk at *; rw [List.all_append, h1, h2]; rfl
theorem k_260 : cdOk 260 cd260 (byY 260) = true := cdOk_app_260 k_260_0 (cdOk_app_260 k_260_1 (k_260_2))
set_option maxRecDepth 20000 in
theorem k_261 : cdOk 261 cd261 (byY 261) = true := by decide +kernel
set_option maxRecDepth 20000 in
theorem k_262 : cdOk 262 cd262 (byY 262) = true := by decide +kernel
set_option maxRecDepth 20000 in
theorem k_263 : cdOk 263 cd263 (byY 263) = true := by decide +kernel
set_option maxRecDepth 20000 in
theorem k_264 : cdOk 264 cd264 (byY 264) = true := by decide +kernel
set_option maxRecDepth 20000 in
theorem k_265 : cdOk 265 cd265 (byY 265) = true := by decide +kernel
set_option maxRecDepth 20000 in
theorem k_266 : cdOk 266 cd266 (byY 266) = true := by decide +kernel
set_option maxRecDepth 20000 in
theorem k_267 : cdOk 267 cd267 (byY 267) = true := by decide +kernel
set_option maxRecDepth 20000 in
theorem k_268 : cdOk 268 cd268 (byY 268) = true := by decide +kernel
set_option maxRecDepth 20000 in
theorem k_269 : cdOk 269 cd269 (byY 269) = true := by decide +kernel
set_option maxRecDepth 20000 in
theorem k_270 : cdOk 270 cd270 (byY 270) = true := by decide +kernel
set_option maxRecDepth 20000 in
theorem k_271 : cdOk 271 cd271 (byY 271) = true := by decide +kernel
set_option maxRecDepth 20000 in
theorem k_272 : cdOk 272 cd272 (byY 272) = true := by decide +kernel
set_option maxRecDepth 20000 in
theorem k_273_0 : cdOk 273 cd273_0 (byY 273) = true := by decide +kernel
set_option maxRecDepth 20000 in
theorem k_273_1 : cdOk 273 cd273_1 (byY 273) = true := by decide +kernel
set_option maxRecDepth 20000 in
theorem k_273_2 : cdOk 273 cd273_2 (byY 273) = true := by decide +kernel
set_option maxRecDepth 20000 in
theorem k_273_3 : cdOk 273 cd273_3 (byY 273) = true := by decide +kernel
theorem cdOk_app_273 : ∀ {a b : List (Nat × Op × Bool)}, cdOk 273 a (byY 273) = true → cdOk 273 b (byY 273) = true → cdOk 273 (a ++ b) (byY 273) = true := fun {a b} h1 h2 => by unfold cdOk at *; rw [List.all_append, h1, h2]; rfl
theorem k_273 : cdOk 273 cd273 (byY 273) = true := cdOk_app_273 k_273_0 (cdOk_app_273 k_273_1 (cdOk_app_273 k_273_2 (k_273_3)))
set_option maxRecDepth 20000 in
theorem k_274 : cdOk 274 cd274 (byY 274) = true := by decide +kernel
set_option maxRecDepth 20000 in
theorem k_275 : cdOk 275 cd275 (byY 275) = true := by decide +kernel
set_option maxRecDepth 20000 in
theorem k_276 : cdOk 276 cd276 (byY 276) = true := by decide +kernel
set_option maxRecDepth 20000 in
theorem k_277 : cdOk 277 cd277 (byY 277) = true := by decide +kernel
set_option maxRecDepth 20000 in
theorem k_278_0 : cdOk 278 cd278_0 (byY 278) = true := by decide +kernel
set_option maxRecDepth 20000 in
theorem k_278_1 : cdOk 278 cd278_1 (byY 278) = true := by decide +kernel
set_option maxRecDepth 20000 in
theorem k_278_2 : cdOk 278 cd278_2 (byY 278) = true := by decide +kernel
set_option maxRecDepth 20000 in
theorem k_278_3 : cdOk 278 cd278_3 (byY 278) = true := by decide +kernel
theorem cdOk_app_278 : ∀ {a b : List (Nat × Op × Bool)}, cdOk 278 a (byY 278) = true → cdOk 278 b (byY 278) = true → cdOk 278 (a ++ b) (byY 278) = true := fun {a b} h1 h2 => by unfold cdOk at *; rw [List.all_append, h1, h2]; rfl
theorem k_278 : cdOk 278 cd278 (byY 278) = true := cdOk_app_278 k_278_0 (cdOk_app_278 k_278_1 (cdOk_app_278 k_278_2 (k_278_3)))
set_option maxRecDepth 20000 in
theorem k_279 : cdOk 279 cd279 (byY 279) = true := by decide +kernel
set_option maxRecDepth 20000 in
theorem k_280 : cdOk 280 cd280 (byY 280) = true := by decide +kernel
set_option maxRecDepth 20000 in
theorem k_281 : cdOk 281 cd281 (byY 281) = true := by decide +kernel
set_option maxRecDepth 20000 in
theorem k_282 : cdOk 282 cd282 (byY 282) = true := by decide +kernel
set_option maxRecDepth 20000 in
theorem k_283 : cdOk 283 cd283 (byY 283) = true := by decide +kernel
set_option maxRecDepth 20000 in
theorem k_284 : cdOk 284 cd284 (byY 284) = true := by decide +kernel
set_option maxRecDepth 20000 in
theorem k_285 : cdOk 285 cd285 (byY 285) = true := by decide +kernel
set_option maxRecDepth 20000 in
theorem k_286 : cdOk 286 cd286 (byY 286) = true := by decide +kernel
set_option maxRecDepth 20000 in
theorem k_287 : cdOk 287 cd287 (byY 287) = true := by decide +kernel
set_option maxRecDepth 20000 in
theorem k_288 : cdOk 288 cd288 (byY 288) = true := by decide +kernel
set_option maxRecDepth 20000 in
theorem k_289 : cdOk 289 cd289 (byY 289) = true := by decide +kernel
set_option maxRecDepth 20000 in
theorem k_290 : cdOk 290 cd290 (byY 290) = true := by decide +kernel
set_option maxRecDepth 20000 in
theorem k_291 : cdOk 291 cd291 (byY 291) = true := by decide +kernel
set_option maxRecDepth 20000 in
theorem k_292 : cdOk 292 cd292 (byY 292) = true := by decide +kernel
set_option maxRecDepth 20000 in
theorem k_293 : cdOk 293 cd293 (byY 293) = true := by decide +kernel
set_option maxRecDepth 20000 in
theorem k_294 : cdOk 294 cd294 (byY 294) = true := by decide +kernel
set_option maxRecDepth 20000 in
theorem k_295 : cdOk 295 cd295 (byY 295) = true := by decide +kernel
set_option maxRecDepth 20000 in
theorem k_296 : cdOk 296 cd296 (byY 296) = true := by decide +kernel
set_option maxRecDepth 20000 in
theorem k_297 : cdOk 297 cd297 (byY 297) = true := by decide +kernel
set_option maxRecDepth 20000 in
theorem k_298 : cdOk 298 cd298 (byY 298) = true := by decide +kernel
set_option maxRecDepth 20000 in
theorem k_299 : cdOk 299 cd299 (byY 299) = true := by decide +kernel
set_option maxRecDepth 20000 in
theorem k_300 : cdOk 300 cd300 (byY 300) = true := by decide +kernel
