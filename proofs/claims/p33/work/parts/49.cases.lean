theorem qw_507 : (.methodLink RL 13 yX11_feed : Cond) ∈ wsA := mA (i := 507) (by decide +kernel) rfl
theorem qw_508 : (.instanceMethod yX11_feed : Cond) ∈ wsA := mA (i := 508) (by decide +kernel) rfl
theorem qw_509 : (.selects RX11 yX11_feed yX11_feed : Cond) ∈ wsA := mA (i := 509) (by decide +kernel) rfl
theorem qw_510 : (.code yX11_feed cX11_feed 6 (some .int) : Cond) ∈ wsA := mA (i := 510) (by decide +kernel) rfl
theorem qw_515 : (.methodLink RL 18 yX11_end : Cond) ∈ wsA := mA (i := 515) (by decide +kernel) rfl
theorem qw_516 : (.instanceMethod yX11_end : Cond) ∈ wsA := mA (i := 516) (by decide +kernel) rfl
theorem qw_517 : (.selects RX11 yX11_end yX11_end : Cond) ∈ wsA := mA (i := 517) (by decide +kernel) rfl
theorem qw_518 : (.code yX11_end cX11_end 2 (some .int) : Cond) ∈ wsA := mA (i := 518) (by decide +kernel) rfl
theorem qw_519 : (.methodLink RL 23 yX11_dinner : Cond) ∈ wsA := mA (i := 519) (by decide +kernel) rfl
theorem qw_520 : (.instanceMethod yX11_dinner : Cond) ∈ wsA := mA (i := 520) (by decide +kernel) rfl
theorem qw_521 : (.selects RX11 yX11_dinner yX11_dinner : Cond) ∈ wsA := mA (i := 521) (by decide +kernel) rfl
theorem qw_522 : (.code yX11_dinner cX11_dinner 2 (some .int) : Cond) ∈ wsA := mA (i := 522) (by decide +kernel) rfl
theorem qw_663 : (.methodLink RL 28 yX11_rule : Cond) ∈ wsA := mA (i := 663) (by decide +kernel) rfl
theorem qw_664 : (.instanceMethod yX11_rule : Cond) ∈ wsA := mA (i := 664) (by decide +kernel) rfl
theorem qw_665 : (.selects RX11 yX11_rule yX11_rule : Cond) ∈ wsA := mA (i := 665) (by decide +kernel) rfl
theorem qw_666 : (.code yX11_rule cX11_rule 3 (some .int) : Cond) ∈ wsA := mA (i := 666) (by decide +kernel) rfl
theorem qw_731 : (.methodLink RL 32 yX11_force : Cond) ∈ wsA := mA (i := 731) (by decide +kernel) rfl
theorem qw_732 : (.instanceMethod yX11_force : Cond) ∈ wsA := mA (i := 732) (by decide +kernel) rfl
theorem qw_733 : (.selects RX11 yX11_force yX11_force : Cond) ∈ wsA := mA (i := 733) (by decide +kernel) rfl
theorem qw_734 : (.code yX11_force cX11_force 3 (some .int) : Cond) ∈ wsA := mA (i := 734) (by decide +kernel) rfl
theorem qw_735 : (.methodLink RL 36 yX11_dish : Cond) ∈ wsA := mA (i := 735) (by decide +kernel) rfl
theorem qw_736 : (.instanceMethod yX11_dish : Cond) ∈ wsA := mA (i := 736) (by decide +kernel) rfl
theorem qw_737 : (.selects RX11 yX11_dish yX11_dish : Cond) ∈ wsA := mA (i := 737) (by decide +kernel) rfl
theorem qw_738 : (.code yX11_dish cX11_dish 3 (some .int) : Cond) ∈ wsA := mA (i := 738) (by decide +kernel) rfl
theorem qw_758 : (.methodLink RL 41 yX11_guest : Cond) ∈ wsA := mA (i := 758) (by decide +kernel) rfl
theorem qw_759 : (.instanceMethod yX11_guest : Cond) ∈ wsA := mA (i := 759) (by decide +kernel) rfl
theorem qw_760 : (.selects RX11 yX11_guest yX11_guest : Cond) ∈ wsA := mA (i := 760) (by decide +kernel) rfl
theorem qw_761 : (.code yX11_guest cX11_guest 3 (some .int) : Cond) ∈ wsA := mA (i := 761) (by decide +kernel) rfl
theorem qw_774 : (.methodLink RL 45 yX11_clashes : Cond) ∈ wsA := mA (i := 774) (by decide +kernel) rfl
theorem qw_775 : (.instanceMethod yX11_clashes : Cond) ∈ wsA := mA (i := 775) (by decide +kernel) rfl
theorem qw_776 : (.selects RX11 yX11_clashes yX11_clashes : Cond) ∈ wsA := mA (i := 776) (by decide +kernel) rfl
theorem qw_777 : (.code yX11_clashes cX11_clashes 2 (some .int) : Cond) ∈ wsA := mA (i := 777) (by decide +kernel) rfl
theorem qw_785 : (.methodLink RL 49 yX11_throat : Cond) ∈ wsA := mA (i := 785) (by decide +kernel) rfl
theorem qw_786 : (.instanceMethod yX11_throat : Cond) ∈ wsA := mA (i := 786) (by decide +kernel) rfl
theorem qw_787 : (.selects RX11 yX11_throat yX11_throat : Cond) ∈ wsA := mA (i := 787) (by decide +kernel) rfl
theorem qw_788 : (.code yX11_throat cX11_throat 2 (some .int) : Cond) ∈ wsA := mA (i := 788) (by decide +kernel) rfl
theorem qw_790 : (.methodLink RL 53 yX11_minute : Cond) ∈ wsA := mA (i := 790) (by decide +kernel) rfl
theorem qw_791 : (.instanceMethod yX11_minute : Cond) ∈ wsA := mA (i := 791) (by decide +kernel) rfl
theorem qw_792 : (.selects RX11 yX11_minute yX11_minute : Cond) ∈ wsA := mA (i := 792) (by decide +kernel) rfl
theorem qw_793 : (.code yX11_minute cX11_minute 1 (some .int) : Cond) ∈ wsA := mA (i := 793) (by decide +kernel) rfl
theorem qw_890 : (.methodLink RL 57 yX11_offer : Cond) ∈ wsA := mA (i := 890) (by decide +kernel) rfl
theorem qw_891 : (.instanceMethod yX11_offer : Cond) ∈ wsA := mA (i := 891) (by decide +kernel) rfl
theorem qw_892 : (.selects RX11 yX11_offer yX11_offer : Cond) ∈ wsA := mA (i := 892) (by decide +kernel) rfl
theorem qw_893 : (.code yX11_offer cX11_offer 4 (some .int) : Cond) ∈ wsA := mA (i := 893) (by decide +kernel) rfl
theorem qw_894 : (.methodLink RL 61 yX11_serve : Cond) ∈ wsA := mA (i := 894) (by decide +kernel) rfl
theorem qw_895 : (.instanceMethod yX11_serve : Cond) ∈ wsA := mA (i := 895) (by decide +kernel) rfl
theorem qw_896 : (.selects RX11 yX11_serve yX11_serve : Cond) ∈ wsA := mA (i := 896) (by decide +kernel) rfl
theorem qw_897 : (.code yX11_serve cX11_serve 2 (some .int) : Cond) ∈ wsA := mA (i := 897) (by decide +kernel) rfl
theorem qw_898 : (.methodLink RL 65 yX11_fetch : Cond) ∈ wsA := mA (i := 898) (by decide +kernel) rfl
theorem qw_899 : (.instanceMethod yX11_fetch : Cond) ∈ wsA := mA (i := 899) (by decide +kernel) rfl
theorem qw_900 : (.selects RX11 yX11_fetch yX11_fetch : Cond) ∈ wsA := mA (i := 900) (by decide +kernel) rfl
theorem qw_901 : (.code yX11_fetch cX11_fetch 3 (some .int) : Cond) ∈ wsA := mA (i := 901) (by decide +kernel) rfl
theorem qw_908 : (.methodLink RL 69 yX11_tell : Cond) ∈ wsA := mA (i := 908) (by decide +kernel) rfl
theorem qw_909 : (.instanceMethod yX11_tell : Cond) ∈ wsA := mA (i := 909) (by decide +kernel) rfl
theorem qw_910 : (.selects RX11 yX11_tell yX11_tell : Cond) ∈ wsA := mA (i := 910) (by decide +kernel) rfl
theorem qw_911 : (.code yX11_tell cX11_tell 3 (some .int) : Cond) ∈ wsA := mA (i := 911) (by decide +kernel) rfl
theorem qw_913 : (.methodLink RL 73 yX11_undo : Cond) ∈ wsA := mA (i := 913) (by decide +kernel) rfl
theorem qw_914 : (.instanceMethod yX11_undo : Cond) ∈ wsA := mA (i := 914) (by decide +kernel) rfl
theorem qw_915 : (.selects RX11 yX11_undo yX11_undo : Cond) ∈ wsA := mA (i := 915) (by decide +kernel) rfl
theorem qw_916 : (.code yX11_undo cX11_undo 1 (some .int) : Cond) ∈ wsA := mA (i := 916) (by decide +kernel) rfl
theorem qw_921 : (.methodLink RL 77 yX11_ahead : Cond) ∈ wsA := mA (i := 921) (by decide +kernel) rfl
theorem qw_922 : (.instanceMethod yX11_ahead : Cond) ∈ wsA := mA (i := 922) (by decide +kernel) rfl
theorem qw_923 : (.selects RX11 yX11_ahead yX11_ahead : Cond) ∈ wsA := mA (i := 923) (by decide +kernel) rfl
theorem qw_924 : (.code yX11_ahead cX11_ahead 4 (some .int) : Cond) ∈ wsA := mA (i := 924) (by decide +kernel) rfl
theorem qw_935 : (.methodLink RL 82 yX11_said : Cond) ∈ wsA := mA (i := 935) (by decide +kernel) rfl
theorem qw_936 : (.instanceMethod yX11_said : Cond) ∈ wsA := mA (i := 936) (by decide +kernel) rfl
theorem qw_937 : (.selects RX11 yX11_said yX11_said : Cond) ∈ wsA := mA (i := 937) (by decide +kernel) rfl
theorem qw_938 : (.code yX11_said cX11_said 3 (some .int) : Cond) ∈ wsA := mA (i := 938) (by decide +kernel) rfl
theorem qw_939 : (.methodLink RL 86 yX11_quiet : Cond) ∈ wsA := mA (i := 939) (by decide +kernel) rfl
theorem qw_940 : (.instanceMethod yX11_quiet : Cond) ∈ wsA := mA (i := 940) (by decide +kernel) rfl
theorem qw_941 : (.selects RX11 yX11_quiet yX11_quiet : Cond) ∈ wsA := mA (i := 941) (by decide +kernel) rfl
theorem qw_942 : (.code yX11_quiet cX11_quiet 2 (some .int) : Cond) ∈ wsA := mA (i := 942) (by decide +kernel) rfl
theorem qw_1291 : (.methodLink RL 17 yX12_feed : Cond) ∈ wsA := mA (i := 1291) (by decide +kernel) rfl
theorem qw_1299 : (.methodLink RL 22 yX12_end : Cond) ∈ wsA := mA (i := 1299) (by decide +kernel) rfl
theorem qw_1303 : (.methodLink RL 31 yX12_rule : Cond) ∈ wsA := mA (i := 1303) (by decide +kernel) rfl
theorem qw_1456 : (.methodLink RL 27 yX12_dinner : Cond) ∈ wsA := mA (i := 1456) (by decide +kernel) rfl
theorem qw_1464 : (.methodLink RL 35 yX12_force : Cond) ∈ wsA := mA (i := 1464) (by decide +kernel) rfl
theorem qw_1472 : (.methodLink RL 40 yX12_dish : Cond) ∈ wsA := mA (i := 1472) (by decide +kernel) rfl
theorem qw_1481 : (.methodLink RL 44 yX12_guest : Cond) ∈ wsA := mA (i := 1481) (by decide +kernel) rfl
theorem qw_1489 : (.methodLink RL 48 yX12_clashes : Cond) ∈ wsA := mA (i := 1489) (by decide +kernel) rfl
theorem qw_1502 : (.methodLink RL 52 yX12_throat : Cond) ∈ wsA := mA (i := 1502) (by decide +kernel) rfl
theorem qw_1510 : (.methodLink RL 76 yX12_undo : Cond) ∈ wsA := mA (i := 1510) (by decide +kernel) rfl
theorem qw_1514 : (.methodLink RL 56 yX12_minute : Cond) ∈ wsA := mA (i := 1514) (by decide +kernel) rfl
theorem qw_1599 : (.methodLink RL 60 yX12_offer : Cond) ∈ wsA := mA (i := 1599) (by decide +kernel) rfl
theorem qw_1603 : (.methodLink RL 64 yX12_serve : Cond) ∈ wsA := mA (i := 1603) (by decide +kernel) rfl
theorem qw_1607 : (.methodLink RL 68 yX12_fetch : Cond) ∈ wsA := mA (i := 1607) (by decide +kernel) rfl
theorem qw_1611 : (.methodLink RL 72 yX12_tell : Cond) ∈ wsA := mA (i := 1611) (by decide +kernel) rfl
theorem qw_1615 : (.methodLink RL 81 yX12_ahead : Cond) ∈ wsA := mA (i := 1615) (by decide +kernel) rfl
theorem qw_1632 : (.methodLink RL 85 yX12_said : Cond) ∈ wsA := mA (i := 1632) (by decide +kernel) rfl
theorem qw_1640 : (.methodLink RL 89 yX12_quiet : Cond) ∈ wsA := mA (i := 1640) (by decide +kernel) rfl
theorem dL_law_192 : decode cL_law 192 = .ok (.aload_n 1, 1) := by decide +kernel
theorem dL_law_193 : decode cL_law 193 = .ok (.aload_n 0, 1) := by decide +kernel
theorem dL_law_194 : decode cL_law 194 = .ok (.iload_n 3, 1) := by decide +kernel
theorem dL_law_195 : decode cL_law 195 = .ok (.iconst 1, 1) := by decide +kernel
theorem dL_law_196 : decode cL_law 196 = .ok (.iadd, 1) := by decide +kernel
theorem dL_law_197 : decode cL_law 197 = .ok (.iaload, 1) := by decide +kernel
theorem dL_law_198 : decode cL_law 198 = .ok (.aload_n 0, 1) := by decide +kernel
theorem dL_law_199 : decode cL_law 199 = .ok (.iload_n 3, 1) := by decide +kernel
theorem dL_law_200 : decode cL_law 200 = .ok (.iconst 2, 1) := by decide +kernel
theorem dL_law_201 : decode cL_law 201 = .ok (.iadd, 1) := by decide +kernel
theorem dL_law_202 : decode cL_law 202 = .ok (.iaload, 1) := by decide +kernel
theorem dL_law_203 : decode cL_law 203 = .ok (.aload_n 0, 1) := by decide +kernel
theorem dL_law_204 : decode cL_law 204 = .ok (.iload_n 3, 1) := by decide +kernel
theorem dL_law_205 : decode cL_law 205 = .ok (.iconst 3, 1) := by decide +kernel
theorem dL_law_206 : decode cL_law 206 = .ok (.iadd, 1) := by decide +kernel
theorem dL_law_207 : decode cL_law 207 = .ok (.iaload, 1) := by decide +kernel
theorem dL_law_208 : decode cL_law 208 = .ok (.aload_n 0, 1) := by decide +kernel
theorem dL_law_209 : decode cL_law 209 = .ok (.iload_n 3, 1) := by decide +kernel
theorem dL_law_210 : decode cL_law 210 = .ok (.iconst 4, 1) := by decide +kernel
theorem dL_law_211 : decode cL_law 211 = .ok (.iadd, 1) := by decide +kernel
theorem dL_law_212 : decode cL_law 212 = .ok (.iaload, 1) := by decide +kernel
theorem dL_law_213 : decode cL_law 213 = .ok (.aload_n 0, 1) := by decide +kernel
theorem dL_law_214 : decode cL_law 214 = .ok (.iload_n 3, 1) := by decide +kernel
theorem dL_law_215 : decode cL_law 215 = .ok (.iconst 5, 1) := by decide +kernel
theorem dL_law_216 : decode cL_law 216 = .ok (.iadd, 1) := by decide +kernel
theorem dL_law_217 : decode cL_law 217 = .ok (.iaload, 1) := by decide +kernel
theorem dL_law_218 : decode cL_law 218 = .ok (.invokevirtual 13, 3) := by decide +kernel
theorem dL_law_221 : decode cL_law 221 = .ok (.pop, 1) := by decide +kernel
theorem dL_law_222 : decode cL_law 222 = .ok (.aload_n 2, 1) := by decide +kernel
theorem dL_law_223 : decode cL_law 223 = .ok (.aload_n 0, 1) := by decide +kernel
theorem dL_law_224 : decode cL_law 224 = .ok (.iload_n 3, 1) := by decide +kernel
theorem dL_law_225 : decode cL_law 225 = .ok (.iconst 1, 1) := by decide +kernel
theorem dL_law_226 : decode cL_law 226 = .ok (.iadd, 1) := by decide +kernel
theorem dL_law_227 : decode cL_law 227 = .ok (.iaload, 1) := by decide +kernel
theorem dL_law_228 : decode cL_law 228 = .ok (.aload_n 0, 1) := by decide +kernel
theorem dL_law_229 : decode cL_law 229 = .ok (.iload_n 3, 1) := by decide +kernel
theorem dL_law_230 : decode cL_law 230 = .ok (.iconst 2, 1) := by decide +kernel
theorem dL_law_231 : decode cL_law 231 = .ok (.iadd, 1) := by decide +kernel
theorem dL_law_232 : decode cL_law 232 = .ok (.iaload, 1) := by decide +kernel
theorem dL_law_233 : decode cL_law 233 = .ok (.aload_n 0, 1) := by decide +kernel
theorem dL_law_234 : decode cL_law 234 = .ok (.iload_n 3, 1) := by decide +kernel
theorem dL_law_235 : decode cL_law 235 = .ok (.iconst 3, 1) := by decide +kernel
theorem dL_law_236 : decode cL_law 236 = .ok (.iadd, 1) := by decide +kernel
theorem dL_law_237 : decode cL_law 237 = .ok (.iaload, 1) := by decide +kernel
theorem dL_law_238 : decode cL_law 238 = .ok (.aload_n 0, 1) := by decide +kernel
theorem dL_law_239 : decode cL_law 239 = .ok (.iload_n 3, 1) := by decide +kernel
theorem dL_law_240 : decode cL_law 240 = .ok (.iconst 4, 1) := by decide +kernel
theorem dL_law_241 : decode cL_law 241 = .ok (.iadd, 1) := by decide +kernel
theorem dL_law_242 : decode cL_law 242 = .ok (.iaload, 1) := by decide +kernel
theorem dL_law_243 : decode cL_law 243 = .ok (.aload_n 0, 1) := by decide +kernel
theorem dL_law_244 : decode cL_law 244 = .ok (.iload_n 3, 1) := by decide +kernel
theorem dL_law_245 : decode cL_law 245 = .ok (.iconst 5, 1) := by decide +kernel
theorem dL_law_246 : decode cL_law 246 = .ok (.iadd, 1) := by decide +kernel
theorem dL_law_247 : decode cL_law 247 = .ok (.iaload, 1) := by decide +kernel
theorem dL_law_248 : decode cL_law 248 = .ok (.invokevirtual 17, 3) := by decide +kernel
theorem dL_law_251 : decode cL_law 251 = .ok (.pop, 1) := by decide +kernel
theorem dL_law_252 : decode cL_law 252 = .ok (.goto 958, 3) := by decide +kernel
theorem dL_law_255 : decode cL_law 255 = .ok (.aload_n 1, 1) := by decide +kernel
theorem dL_law_256 : decode cL_law 256 = .ok (.aload_n 0, 1) := by decide +kernel
theorem dL_law_257 : decode cL_law 257 = .ok (.iload_n 3, 1) := by decide +kernel
theorem dL_law_258 : decode cL_law 258 = .ok (.iconst 1, 1) := by decide +kernel
theorem dL_law_259 : decode cL_law 259 = .ok (.iadd, 1) := by decide +kernel
theorem dL_law_260 : decode cL_law 260 = .ok (.iaload, 1) := by decide +kernel
theorem dL_law_261 : decode cL_law 261 = .ok (.invokevirtual 18, 3) := by decide +kernel
theorem dL_law_264 : decode cL_law 264 = .ok (.pop, 1) := by decide +kernel
theorem dL_law_265 : decode cL_law 265 = .ok (.aload_n 2, 1) := by decide +kernel
theorem dL_law_266 : decode cL_law 266 = .ok (.aload_n 0, 1) := by decide +kernel
theorem dL_law_267 : decode cL_law 267 = .ok (.iload_n 3, 1) := by decide +kernel
theorem dL_law_268 : decode cL_law 268 = .ok (.iconst 1, 1) := by decide +kernel
theorem dL_law_269 : decode cL_law 269 = .ok (.iadd, 1) := by decide +kernel
theorem dL_law_270 : decode cL_law 270 = .ok (.iaload, 1) := by decide +kernel
theorem dL_law_271 : decode cL_law 271 = .ok (.invokevirtual 22, 3) := by decide +kernel
theorem dL_law_274 : decode cL_law 274 = .ok (.pop, 1) := by decide +kernel
theorem dL_law_275 : decode cL_law 275 = .ok (.goto 935, 3) := by decide +kernel
theorem dL_law_278 : decode cL_law 278 = .ok (.aload_n 1, 1) := by decide +kernel
theorem dL_law_279 : decode cL_law 279 = .ok (.invokevirtual 23, 3) := by decide +kernel
theorem dL_law_282 : decode cL_law 282 = .ok (.pop, 1) := by decide +kernel
theorem dL_law_283 : decode cL_law 283 = .ok (.aload_n 2, 1) := by decide +kernel
theorem dL_law_284 : decode cL_law 284 = .ok (.invokevirtual 27, 3) := by decide +kernel
theorem dL_law_287 : decode cL_law 287 = .ok (.pop, 1) := by decide +kernel
theorem dL_law_288 : decode cL_law 288 = .ok (.goto 922, 3) := by decide +kernel
theorem dL_law_291 : decode cL_law 291 = .ok (.aload_n 1, 1) := by decide +kernel
theorem dL_law_292 : decode cL_law 292 = .ok (.invokevirtual 28, 3) := by decide +kernel
theorem dL_law_295 : decode cL_law 295 = .ok (.pop, 1) := by decide +kernel
theorem dL_law_296 : decode cL_law 296 = .ok (.aload_n 2, 1) := by decide +kernel
theorem dL_law_297 : decode cL_law 297 = .ok (.invokevirtual 31, 3) := by decide +kernel
theorem dL_law_300 : decode cL_law 300 = .ok (.pop, 1) := by decide +kernel
theorem dL_law_301 : decode cL_law 301 = .ok (.goto 909, 3) := by decide +kernel
theorem dL_law_304 : decode cL_law 304 = .ok (.aload_n 1, 1) := by decide +kernel
theorem dL_law_305 : decode cL_law 305 = .ok (.aload_n 0, 1) := by decide +kernel
theorem dL_law_306 : decode cL_law 306 = .ok (.iload_n 3, 1) := by decide +kernel
theorem dL_law_307 : decode cL_law 307 = .ok (.iconst 1, 1) := by decide +kernel
theorem dL_law_308 : decode cL_law 308 = .ok (.iadd, 1) := by decide +kernel
theorem dL_law_309 : decode cL_law 309 = .ok (.iaload, 1) := by decide +kernel
theorem dL_law_310 : decode cL_law 310 = .ok (.invokevirtual 32, 3) := by decide +kernel
theorem dL_law_313 : decode cL_law 313 = .ok (.pop, 1) := by decide +kernel
theorem dL_law_314 : decode cL_law 314 = .ok (.aload_n 2, 1) := by decide +kernel
theorem dL_law_315 : decode cL_law 315 = .ok (.aload_n 0, 1) := by decide +kernel
theorem dL_law_316 : decode cL_law 316 = .ok (.iload_n 3, 1) := by decide +kernel
theorem dL_law_317 : decode cL_law 317 = .ok (.iconst 1, 1) := by decide +kernel
theorem dL_law_318 : decode cL_law 318 = .ok (.iadd, 1) := by decide +kernel
theorem dL_law_319 : decode cL_law 319 = .ok (.iaload, 1) := by decide +kernel
theorem dL_law_320 : decode cL_law 320 = .ok (.invokevirtual 35, 3) := by decide +kernel
theorem dL_law_323 : decode cL_law 323 = .ok (.pop, 1) := by decide +kernel
theorem dL_law_324 : decode cL_law 324 = .ok (.goto 886, 3) := by decide +kernel
theorem dL_law_327 : decode cL_law 327 = .ok (.aload_n 1, 1) := by decide +kernel
theorem dL_law_328 : decode cL_law 328 = .ok (.aload_n 0, 1) := by decide +kernel
theorem dL_law_329 : decode cL_law 329 = .ok (.iload_n 3, 1) := by decide +kernel
theorem dL_law_330 : decode cL_law 330 = .ok (.iconst 1, 1) := by decide +kernel
theorem dL_law_331 : decode cL_law 331 = .ok (.iadd, 1) := by decide +kernel
theorem dL_law_332 : decode cL_law 332 = .ok (.iaload, 1) := by decide +kernel
theorem dL_law_333 : decode cL_law 333 = .ok (.aload_n 0, 1) := by decide +kernel
theorem dL_law_334 : decode cL_law 334 = .ok (.iload_n 3, 1) := by decide +kernel
theorem dL_law_335 : decode cL_law 335 = .ok (.iconst 2, 1) := by decide +kernel
theorem dL_law_336 : decode cL_law 336 = .ok (.iadd, 1) := by decide +kernel
theorem dL_law_337 : decode cL_law 337 = .ok (.iaload, 1) := by decide +kernel
theorem dL_law_338 : decode cL_law 338 = .ok (.invokevirtual 36, 3) := by decide +kernel
theorem dL_law_341 : decode cL_law 341 = .ok (.pop, 1) := by decide +kernel
theorem dL_law_342 : decode cL_law 342 = .ok (.aload_n 2, 1) := by decide +kernel
theorem dL_law_343 : decode cL_law 343 = .ok (.aload_n 0, 1) := by decide +kernel
theorem dL_law_344 : decode cL_law 344 = .ok (.iload_n 3, 1) := by decide +kernel
theorem dL_law_345 : decode cL_law 345 = .ok (.iconst 1, 1) := by decide +kernel
theorem dL_law_346 : decode cL_law 346 = .ok (.iadd, 1) := by decide +kernel
theorem dL_law_347 : decode cL_law 347 = .ok (.iaload, 1) := by decide +kernel
theorem dL_law_348 : decode cL_law 348 = .ok (.aload_n 0, 1) := by decide +kernel
theorem dL_law_349 : decode cL_law 349 = .ok (.iload_n 3, 1) := by decide +kernel
theorem dL_law_350 : decode cL_law 350 = .ok (.iconst 2, 1) := by decide +kernel
theorem dL_law_351 : decode cL_law 351 = .ok (.iadd, 1) := by decide +kernel
theorem dL_law_352 : decode cL_law 352 = .ok (.iaload, 1) := by decide +kernel
theorem dL_law_353 : decode cL_law 353 = .ok (.invokevirtual 40, 3) := by decide +kernel
theorem dL_law_356 : decode cL_law 356 = .ok (.pop, 1) := by decide +kernel
theorem dL_law_357 : decode cL_law 357 = .ok (.goto 853, 3) := by decide +kernel
theorem dL_law_360 : decode cL_law 360 = .ok (.aload_n 1, 1) := by decide +kernel
theorem dL_law_361 : decode cL_law 361 = .ok (.aload_n 0, 1) := by decide +kernel
theorem dL_law_362 : decode cL_law 362 = .ok (.iload_n 3, 1) := by decide +kernel
theorem dL_law_363 : decode cL_law 363 = .ok (.iconst 1, 1) := by decide +kernel
theorem dL_law_364 : decode cL_law 364 = .ok (.iadd, 1) := by decide +kernel
theorem dL_law_365 : decode cL_law 365 = .ok (.iaload, 1) := by decide +kernel
theorem dL_law_366 : decode cL_law 366 = .ok (.aload_n 0, 1) := by decide +kernel
theorem dL_law_367 : decode cL_law 367 = .ok (.iload_n 3, 1) := by decide +kernel
theorem dL_law_368 : decode cL_law 368 = .ok (.iconst 2, 1) := by decide +kernel
theorem dL_law_369 : decode cL_law 369 = .ok (.iadd, 1) := by decide +kernel
theorem dL_law_370 : decode cL_law 370 = .ok (.iaload, 1) := by decide +kernel
theorem dL_law_371 : decode cL_law 371 = .ok (.invokevirtual 41, 3) := by decide +kernel
theorem dL_law_374 : decode cL_law 374 = .ok (.pop, 1) := by decide +kernel
theorem dL_law_375 : decode cL_law 375 = .ok (.aload_n 2, 1) := by decide +kernel
theorem dL_law_376 : decode cL_law 376 = .ok (.aload_n 0, 1) := by decide +kernel
theorem dL_law_377 : decode cL_law 377 = .ok (.iload_n 3, 1) := by decide +kernel
theorem dL_law_378 : decode cL_law 378 = .ok (.iconst 1, 1) := by decide +kernel
theorem dL_law_379 : decode cL_law 379 = .ok (.iadd, 1) := by decide +kernel
theorem dL_law_380 : decode cL_law 380 = .ok (.iaload, 1) := by decide +kernel
theorem dL_law_381 : decode cL_law 381 = .ok (.aload_n 0, 1) := by decide +kernel
theorem dL_law_382 : decode cL_law 382 = .ok (.iload_n 3, 1) := by decide +kernel
theorem dL_law_383 : decode cL_law 383 = .ok (.iconst 2, 1) := by decide +kernel
theorem dL_law_384 : decode cL_law 384 = .ok (.iadd, 1) := by decide +kernel
theorem dL_law_385 : decode cL_law 385 = .ok (.iaload, 1) := by decide +kernel
theorem dL_law_386 : decode cL_law 386 = .ok (.invokevirtual 44, 3) := by decide +kernel
theorem dL_law_389 : decode cL_law 389 = .ok (.pop, 1) := by decide +kernel
theorem dL_law_390 : decode cL_law 390 = .ok (.goto 820, 3) := by decide +kernel
theorem dL_law_393 : decode cL_law 393 = .ok (.aload_n 1, 1) := by decide +kernel
theorem dL_law_394 : decode cL_law 394 = .ok (.aload_n 0, 1) := by decide +kernel
theorem dL_law_395 : decode cL_law 395 = .ok (.iload_n 3, 1) := by decide +kernel
theorem dL_law_396 : decode cL_law 396 = .ok (.iconst 1, 1) := by decide +kernel
theorem dL_law_397 : decode cL_law 397 = .ok (.iadd, 1) := by decide +kernel
theorem dL_law_398 : decode cL_law 398 = .ok (.iaload, 1) := by decide +kernel
theorem dL_law_399 : decode cL_law 399 = .ok (.invokevirtual 45, 3) := by decide +kernel
theorem dL_law_402 : decode cL_law 402 = .ok (.pop, 1) := by decide +kernel
theorem dL_law_403 : decode cL_law 403 = .ok (.aload_n 2, 1) := by decide +kernel
theorem dL_law_404 : decode cL_law 404 = .ok (.aload_n 0, 1) := by decide +kernel
theorem dL_law_405 : decode cL_law 405 = .ok (.iload_n 3, 1) := by decide +kernel
theorem dL_law_406 : decode cL_law 406 = .ok (.iconst 1, 1) := by decide +kernel
theorem dL_law_407 : decode cL_law 407 = .ok (.iadd, 1) := by decide +kernel
theorem dL_law_408 : decode cL_law 408 = .ok (.iaload, 1) := by decide +kernel
theorem dL_law_409 : decode cL_law 409 = .ok (.invokevirtual 48, 3) := by decide +kernel
theorem dL_law_412 : decode cL_law 412 = .ok (.pop, 1) := by decide +kernel
theorem dL_law_413 : decode cL_law 413 = .ok (.goto 797, 3) := by decide +kernel
theorem dL_law_416 : decode cL_law 416 = .ok (.aload_n 1, 1) := by decide +kernel
theorem dL_law_417 : decode cL_law 417 = .ok (.aload_n 0, 1) := by decide +kernel
theorem dL_law_418 : decode cL_law 418 = .ok (.iload_n 3, 1) := by decide +kernel
theorem dL_law_419 : decode cL_law 419 = .ok (.iconst 1, 1) := by decide +kernel
theorem dL_law_420 : decode cL_law 420 = .ok (.iadd, 1) := by decide +kernel
theorem dL_law_421 : decode cL_law 421 = .ok (.iaload, 1) := by decide +kernel
theorem dL_law_422 : decode cL_law 422 = .ok (.invokevirtual 49, 3) := by decide +kernel
theorem dL_law_425 : decode cL_law 425 = .ok (.pop, 1) := by decide +kernel
theorem dL_law_426 : decode cL_law 426 = .ok (.aload_n 2, 1) := by decide +kernel
theorem dL_law_427 : decode cL_law 427 = .ok (.aload_n 0, 1) := by decide +kernel
theorem dL_law_428 : decode cL_law 428 = .ok (.iload_n 3, 1) := by decide +kernel
theorem dL_law_429 : decode cL_law 429 = .ok (.iconst 1, 1) := by decide +kernel
theorem dL_law_430 : decode cL_law 430 = .ok (.iadd, 1) := by decide +kernel
theorem dL_law_431 : decode cL_law 431 = .ok (.iaload, 1) := by decide +kernel
theorem dL_law_432 : decode cL_law 432 = .ok (.invokevirtual 52, 3) := by decide +kernel
theorem dL_law_435 : decode cL_law 435 = .ok (.pop, 1) := by decide +kernel
theorem dL_law_436 : decode cL_law 436 = .ok (.goto 774, 3) := by decide +kernel
theorem dL_law_439 : decode cL_law 439 = .ok (.aload_n 1, 1) := by decide +kernel
theorem dL_law_440 : decode cL_law 440 = .ok (.invokevirtual 53, 3) := by decide +kernel
theorem dL_law_443 : decode cL_law 443 = .ok (.pop, 1) := by decide +kernel
theorem dL_law_444 : decode cL_law 444 = .ok (.aload_n 2, 1) := by decide +kernel
theorem dL_law_445 : decode cL_law 445 = .ok (.invokevirtual 56, 3) := by decide +kernel
theorem dL_law_448 : decode cL_law 448 = .ok (.pop, 1) := by decide +kernel
theorem dL_law_449 : decode cL_law 449 = .ok (.goto 761, 3) := by decide +kernel
theorem dL_law_452 : decode cL_law 452 = .ok (.aload_n 1, 1) := by decide +kernel
theorem dL_law_453 : decode cL_law 453 = .ok (.aload_n 0, 1) := by decide +kernel
theorem dL_law_454 : decode cL_law 454 = .ok (.iload_n 3, 1) := by decide +kernel
theorem dL_law_455 : decode cL_law 455 = .ok (.iconst 1, 1) := by decide +kernel
theorem dL_law_456 : decode cL_law 456 = .ok (.iadd, 1) := by decide +kernel
theorem dL_law_457 : decode cL_law 457 = .ok (.iaload, 1) := by decide +kernel
theorem dL_law_458 : decode cL_law 458 = .ok (.invokevirtual 57, 3) := by decide +kernel
theorem dL_law_461 : decode cL_law 461 = .ok (.pop, 1) := by decide +kernel
theorem dL_law_462 : decode cL_law 462 = .ok (.aload_n 2, 1) := by decide +kernel
theorem dL_law_463 : decode cL_law 463 = .ok (.aload_n 0, 1) := by decide +kernel
theorem dL_law_464 : decode cL_law 464 = .ok (.iload_n 3, 1) := by decide +kernel
theorem dL_law_465 : decode cL_law 465 = .ok (.iconst 1, 1) := by decide +kernel
theorem dL_law_466 : decode cL_law 466 = .ok (.iadd, 1) := by decide +kernel
theorem dL_law_467 : decode cL_law 467 = .ok (.iaload, 1) := by decide +kernel
theorem dL_law_468 : decode cL_law 468 = .ok (.invokevirtual 60, 3) := by decide +kernel
theorem dL_law_471 : decode cL_law 471 = .ok (.pop, 1) := by decide +kernel
theorem dL_law_472 : decode cL_law 472 = .ok (.goto 738, 3) := by decide +kernel
theorem dL_law_475 : decode cL_law 475 = .ok (.aload_n 1, 1) := by decide +kernel
theorem dL_law_476 : decode cL_law 476 = .ok (.aload_n 0, 1) := by decide +kernel
theorem dL_law_477 : decode cL_law 477 = .ok (.iload_n 3, 1) := by decide +kernel
theorem dL_law_478 : decode cL_law 478 = .ok (.iconst 1, 1) := by decide +kernel
theorem dL_law_479 : decode cL_law 479 = .ok (.iadd, 1) := by decide +kernel
theorem dL_law_480 : decode cL_law 480 = .ok (.iaload, 1) := by decide +kernel
theorem dL_law_481 : decode cL_law 481 = .ok (.invokevirtual 61, 3) := by decide +kernel
theorem dL_law_484 : decode cL_law 484 = .ok (.pop, 1) := by decide +kernel
theorem dL_law_485 : decode cL_law 485 = .ok (.aload_n 2, 1) := by decide +kernel
theorem dL_law_486 : decode cL_law 486 = .ok (.aload_n 0, 1) := by decide +kernel
theorem dL_law_487 : decode cL_law 487 = .ok (.iload_n 3, 1) := by decide +kernel
theorem dL_law_488 : decode cL_law 488 = .ok (.iconst 1, 1) := by decide +kernel
theorem dL_law_489 : decode cL_law 489 = .ok (.iadd, 1) := by decide +kernel
theorem dL_law_490 : decode cL_law 490 = .ok (.iaload, 1) := by decide +kernel
theorem dL_law_491 : decode cL_law 491 = .ok (.invokevirtual 64, 3) := by decide +kernel
theorem dL_law_494 : decode cL_law 494 = .ok (.pop, 1) := by decide +kernel
theorem dL_law_495 : decode cL_law 495 = .ok (.goto 715, 3) := by decide +kernel
theorem dL_law_498 : decode cL_law 498 = .ok (.aload_n 1, 1) := by decide +kernel
theorem dL_law_499 : decode cL_law 499 = .ok (.aload_n 0, 1) := by decide +kernel
theorem dL_law_500 : decode cL_law 500 = .ok (.iload_n 3, 1) := by decide +kernel
theorem dL_law_501 : decode cL_law 501 = .ok (.iconst 1, 1) := by decide +kernel
theorem dL_law_502 : decode cL_law 502 = .ok (.iadd, 1) := by decide +kernel
theorem dL_law_503 : decode cL_law 503 = .ok (.iaload, 1) := by decide +kernel
theorem dL_law_504 : decode cL_law 504 = .ok (.invokevirtual 65, 3) := by decide +kernel
theorem dL_law_507 : decode cL_law 507 = .ok (.pop, 1) := by decide +kernel
theorem dL_law_508 : decode cL_law 508 = .ok (.aload_n 2, 1) := by decide +kernel
theorem dL_law_509 : decode cL_law 509 = .ok (.aload_n 0, 1) := by decide +kernel
theorem dL_law_510 : decode cL_law 510 = .ok (.iload_n 3, 1) := by decide +kernel
theorem dL_law_511 : decode cL_law 511 = .ok (.iconst 1, 1) := by decide +kernel
theorem dL_law_512 : decode cL_law 512 = .ok (.iadd, 1) := by decide +kernel
theorem dL_law_513 : decode cL_law 513 = .ok (.iaload, 1) := by decide +kernel
theorem dL_law_514 : decode cL_law 514 = .ok (.invokevirtual 68, 3) := by decide +kernel
theorem dL_law_517 : decode cL_law 517 = .ok (.pop, 1) := by decide +kernel
theorem dL_law_518 : decode cL_law 518 = .ok (.goto 692, 3) := by decide +kernel
theorem dL_law_521 : decode cL_law 521 = .ok (.aload_n 1, 1) := by decide +kernel
theorem dL_law_522 : decode cL_law 522 = .ok (.aload_n 0, 1) := by decide +kernel
theorem dL_law_523 : decode cL_law 523 = .ok (.iload_n 3, 1) := by decide +kernel
theorem dL_law_524 : decode cL_law 524 = .ok (.iconst 1, 1) := by decide +kernel
theorem dL_law_525 : decode cL_law 525 = .ok (.iadd, 1) := by decide +kernel
theorem dL_law_526 : decode cL_law 526 = .ok (.iaload, 1) := by decide +kernel
theorem dL_law_527 : decode cL_law 527 = .ok (.aload_n 0, 1) := by decide +kernel
theorem dL_law_528 : decode cL_law 528 = .ok (.iload_n 3, 1) := by decide +kernel
theorem dL_law_529 : decode cL_law 529 = .ok (.iconst 2, 1) := by decide +kernel
theorem dL_law_530 : decode cL_law 530 = .ok (.iadd, 1) := by decide +kernel
theorem dL_law_531 : decode cL_law 531 = .ok (.iaload, 1) := by decide +kernel
theorem dL_law_532 : decode cL_law 532 = .ok (.invokevirtual 69, 3) := by decide +kernel
theorem dL_law_535 : decode cL_law 535 = .ok (.pop, 1) := by decide +kernel
theorem dL_law_536 : decode cL_law 536 = .ok (.aload_n 2, 1) := by decide +kernel
theorem dL_law_537 : decode cL_law 537 = .ok (.aload_n 0, 1) := by decide +kernel
theorem dL_law_538 : decode cL_law 538 = .ok (.iload_n 3, 1) := by decide +kernel
theorem dL_law_539 : decode cL_law 539 = .ok (.iconst 1, 1) := by decide +kernel
theorem dL_law_540 : decode cL_law 540 = .ok (.iadd, 1) := by decide +kernel
theorem dL_law_541 : decode cL_law 541 = .ok (.iaload, 1) := by decide +kernel
theorem dL_law_542 : decode cL_law 542 = .ok (.aload_n 0, 1) := by decide +kernel
theorem dL_law_543 : decode cL_law 543 = .ok (.iload_n 3, 1) := by decide +kernel
theorem dL_law_544 : decode cL_law 544 = .ok (.iconst 2, 1) := by decide +kernel
theorem dL_law_545 : decode cL_law 545 = .ok (.iadd, 1) := by decide +kernel
theorem dL_law_546 : decode cL_law 546 = .ok (.iaload, 1) := by decide +kernel
theorem dL_law_547 : decode cL_law 547 = .ok (.invokevirtual 72, 3) := by decide +kernel
theorem dL_law_550 : decode cL_law 550 = .ok (.pop, 1) := by decide +kernel
theorem dL_law_551 : decode cL_law 551 = .ok (.goto 659, 3) := by decide +kernel
theorem dL_law_554 : decode cL_law 554 = .ok (.aload_n 1, 1) := by decide +kernel
theorem dL_law_555 : decode cL_law 555 = .ok (.invokevirtual 73, 3) := by decide +kernel
theorem dL_law_558 : decode cL_law 558 = .ok (.pop, 1) := by decide +kernel
theorem dL_law_559 : decode cL_law 559 = .ok (.aload_n 2, 1) := by decide +kernel
theorem dL_law_560 : decode cL_law 560 = .ok (.invokevirtual 76, 3) := by decide +kernel
theorem dL_law_563 : decode cL_law 563 = .ok (.pop, 1) := by decide +kernel
theorem dL_law_564 : decode cL_law 564 = .ok (.goto 646, 3) := by decide +kernel
theorem dL_law_567 : decode cL_law 567 = .ok (.aload_n 1, 1) := by decide +kernel
theorem dL_law_568 : decode cL_law 568 = .ok (.aload_n 0, 1) := by decide +kernel
theorem dL_law_569 : decode cL_law 569 = .ok (.iload_n 3, 1) := by decide +kernel
theorem dL_law_570 : decode cL_law 570 = .ok (.iconst 1, 1) := by decide +kernel
theorem dL_law_571 : decode cL_law 571 = .ok (.iadd, 1) := by decide +kernel
theorem dL_law_572 : decode cL_law 572 = .ok (.iaload, 1) := by decide +kernel
theorem dL_law_573 : decode cL_law 573 = .ok (.aload_n 0, 1) := by decide +kernel
theorem dL_law_574 : decode cL_law 574 = .ok (.iload_n 3, 1) := by decide +kernel
theorem dL_law_575 : decode cL_law 575 = .ok (.iconst 2, 1) := by decide +kernel
theorem dL_law_576 : decode cL_law 576 = .ok (.iadd, 1) := by decide +kernel
theorem dL_law_577 : decode cL_law 577 = .ok (.iaload, 1) := by decide +kernel
theorem dL_law_578 : decode cL_law 578 = .ok (.aload_n 0, 1) := by decide +kernel
theorem dL_law_579 : decode cL_law 579 = .ok (.iload_n 3, 1) := by decide +kernel
theorem dL_law_580 : decode cL_law 580 = .ok (.iconst 3, 1) := by decide +kernel
theorem dL_law_581 : decode cL_law 581 = .ok (.iadd, 1) := by decide +kernel
theorem dL_law_582 : decode cL_law 582 = .ok (.iaload, 1) := by decide +kernel
theorem dL_law_583 : decode cL_law 583 = .ok (.invokevirtual 77, 3) := by decide +kernel
theorem dL_law_586 : decode cL_law 586 = .ok (.pop, 1) := by decide +kernel
theorem dL_law_587 : decode cL_law 587 = .ok (.aload_n 2, 1) := by decide +kernel
theorem dL_law_588 : decode cL_law 588 = .ok (.aload_n 0, 1) := by decide +kernel
theorem dL_law_589 : decode cL_law 589 = .ok (.iload_n 3, 1) := by decide +kernel
theorem dL_law_590 : decode cL_law 590 = .ok (.iconst 1, 1) := by decide +kernel
theorem dL_law_591 : decode cL_law 591 = .ok (.iadd, 1) := by decide +kernel
theorem dL_law_592 : decode cL_law 592 = .ok (.iaload, 1) := by decide +kernel
theorem dL_law_593 : decode cL_law 593 = .ok (.aload_n 0, 1) := by decide +kernel
theorem dL_law_594 : decode cL_law 594 = .ok (.iload_n 3, 1) := by decide +kernel
theorem dL_law_595 : decode cL_law 595 = .ok (.iconst 2, 1) := by decide +kernel
theorem dL_law_596 : decode cL_law 596 = .ok (.iadd, 1) := by decide +kernel
theorem dL_law_597 : decode cL_law 597 = .ok (.iaload, 1) := by decide +kernel
theorem dL_law_598 : decode cL_law 598 = .ok (.aload_n 0, 1) := by decide +kernel
theorem dL_law_599 : decode cL_law 599 = .ok (.iload_n 3, 1) := by decide +kernel
theorem dL_law_600 : decode cL_law 600 = .ok (.iconst 3, 1) := by decide +kernel
theorem dL_law_601 : decode cL_law 601 = .ok (.iadd, 1) := by decide +kernel
theorem dL_law_602 : decode cL_law 602 = .ok (.iaload, 1) := by decide +kernel
theorem dL_law_603 : decode cL_law 603 = .ok (.invokevirtual 81, 3) := by decide +kernel
theorem dL_law_606 : decode cL_law 606 = .ok (.pop, 1) := by decide +kernel
theorem dL_law_607 : decode cL_law 607 = .ok (.goto 603, 3) := by decide +kernel
theorem dL_law_610 : decode cL_law 610 = .ok (.aload_n 1, 1) := by decide +kernel
theorem dL_law_611 : decode cL_law 611 = .ok (.aload_n 0, 1) := by decide +kernel
theorem dL_law_612 : decode cL_law 612 = .ok (.iload_n 3, 1) := by decide +kernel
theorem dL_law_613 : decode cL_law 613 = .ok (.iconst 1, 1) := by decide +kernel
theorem dL_law_614 : decode cL_law 614 = .ok (.iadd, 1) := by decide +kernel
theorem dL_law_615 : decode cL_law 615 = .ok (.iaload, 1) := by decide +kernel
theorem dL_law_616 : decode cL_law 616 = .ok (.invokevirtual 82, 3) := by decide +kernel
theorem dL_law_619 : decode cL_law 619 = .ok (.pop, 1) := by decide +kernel
theorem dL_law_620 : decode cL_law 620 = .ok (.aload_n 2, 1) := by decide +kernel
theorem dL_law_621 : decode cL_law 621 = .ok (.aload_n 0, 1) := by decide +kernel
theorem dL_law_622 : decode cL_law 622 = .ok (.iload_n 3, 1) := by decide +kernel
theorem dL_law_623 : decode cL_law 623 = .ok (.iconst 1, 1) := by decide +kernel
theorem dL_law_624 : decode cL_law 624 = .ok (.iadd, 1) := by decide +kernel
theorem dL_law_625 : decode cL_law 625 = .ok (.iaload, 1) := by decide +kernel
theorem dL_law_626 : decode cL_law 626 = .ok (.invokevirtual 85, 3) := by decide +kernel
theorem dL_law_629 : decode cL_law 629 = .ok (.pop, 1) := by decide +kernel
theorem dL_law_630 : decode cL_law 630 = .ok (.goto 580, 3) := by decide +kernel
theorem dL_law_633 : decode cL_law 633 = .ok (.aload_n 1, 1) := by decide +kernel
theorem dL_law_634 : decode cL_law 634 = .ok (.invokevirtual 86, 3) := by decide +kernel
theorem dL_law_637 : decode cL_law 637 = .ok (.pop, 1) := by decide +kernel
theorem dL_law_638 : decode cL_law 638 = .ok (.aload_n 2, 1) := by decide +kernel
theorem dL_law_639 : decode cL_law 639 = .ok (.invokevirtual 89, 3) := by decide +kernel
theorem dL_law_642 : decode cL_law 642 = .ok (.pop, 1) := by decide +kernel
theorem dL_law_643 : decode cL_law 643 = .ok (.goto 567, 3) := by decide +kernel
/-! THE CLAIM OUT OF ONE WALK OF THE LAW'S BODY. Your part is whole_start (and what it stands on); all else here is the same for every law, but numbers. -/
def R_law : String := "SpokenBiteLaw"
def lw_P (b : Addr) (xs : List Int32) (args : Array Value) (s : State) : Prop := args = #[.ref b] ∧ s.IntsAt b xs ∧ xs.length ≤ 3072 ∧ (Jvm.Cond.and given_1 narrow_1).before args s = true
def lw_Q (_ : Array Value) (s : State) (o : Outcome) (t : State) : Prop := o = .returned (some (.int 1)) ∧ Framed s o t [] 600000 7302250
def lw_Z (below : List Frame) (a : Array Value) (s : State) : State → Prop := fun t => ∃ o, t.status = .running ∧ Ended t below o ∧ lw_Q a s o t
/-- the law's own end, with 1 on the stack, nothing written that was there before, its room as the claim has it -/
theorem lw_ret {p : Program} {l : Launch} {e : Env} {s : State} {m : MethodId} {below : List Frame} {meth : Method} {c : Code} {b : Nat} (hx : p.tables.exec = Jvm.exec) (hb : c.code = code) (hr : meth.sig.returnType = ret) (hlocks : meth.locks = false) {pc : Nat} {H : Heap} {ls : Array Slot} (hdg : decode code pc = .ok (.ireturn, 1)) : W p l e room_1 s m #[Value.ref b] below meth c H [] 600000 7302250 (lw_Z below #[Value.ref b] s) (F0 m pc ls [.int 1]) := by
  intro T hT X
  obtain ⟨fs, hret, hrun, hended, hW, hframe⟩ := X.leave (v := some (.int 1)) (hlocks := hlocks) (fun h => by rw [hr] at h; cases h)
  have hmeth' : T.vm.method? m = some meth := X.method'
  refine ⟨T.setFrames fs, ?_, .returned (some (.int 1)), hrun, hended, rfl, ⟨_, rfl⟩, hW, hframe⟩
  jvm_step X.here [X.here.top, hx, hb, hdg, hmeth', hr, ret, narrow_b1]
  (try refine ⟨rfl, ?_⟩); (try refine ⟨rfl, ?_⟩)
  first | (intro acts; rw [hret _ acts rfl rfl rfl]) | rw [hret _ _ rfl rfl rfl]
  exact Steps.refl _
/-- what holds at the law's entry: the machine, the code, the tables' words (any of lw_tbl by 'hts w (by decide +kernel)'), the script of L ints xs at the cell b, what the Statement gives of the start (any of its parts by flat_of_before) -/
def lw_At (p : Program) (s : State) (m : MethodId) (meth : Method) (c : Code) (b L : Nat) (xs : Nat → Int32) : Prop :=
  p.tables.exec = Jvm.exec ∧ c.code = code ∧ meth.sig.returnType = ret ∧ c.maxLocals = 4 ∧ s.vm.findClass R_law = some m.cls ∧ (∀ w ∈ lw_tbl, w.before #[Value.ref b] s = true) ∧ va_X b L xs s s.heap ∧ b < s.heap.size ∧ meth.locks = false ∧ (Jvm.Cond.and given_1 narrow_1).before #[Value.ref b] s = true

theorem AD.tt {A : Nat → Prop} {L : List Nat} (h : AD A L) : AD (fun _ => True) L := ⟨h.1, fun _ _ _ => trivial⟩
theorem AD.of {A : Nat → Prop} {ws : va_W} (h : va_D A ws) : AD A (ws.map (fun c => c.1)) := by
  have g : ∀ k p : Nat, (ws.map (fun c => c.1))[k]? = some p → ∃ c, ws[k]? = some c ∧ c.1 = p := by
    intro k p hk
    rw [List.getElem?_map] at hk
    cases hc : ws[k]? with
    | none => rw [hc] at hk; cases hk
    | some c => rw [hc] at hk; exact ⟨c, rfl, Option.some.inj hk⟩
  refine ⟨fun i j p hi hj => ?_, fun k p hk => ?_⟩
  · obtain ⟨c, h1, h2⟩ := g i p hi
    obtain ⟨d, h3, h4⟩ := g j p hj
    exact h.1 i j c d h1 h3 (h2.trans h4.symm)
  · obtain ⟨c, h1, h2⟩ := g k p hk
    rw [← h2]; exact h.2 k c h1
theorem AD.app {A : Nat → Prop} {L1 L2 : List Nat} (h : AD A (L1 ++ L2)) : AD A L1 ∧ AD A L2 ∧ (∀ i p : Nat, L1[i]? = some p → ∀ j : Nat, ¬ L2[j]? = some p) ∧ (∀ i p : Nat, L2[i]? = some p → ∀ j : Nat, ¬ L1[j]? = some p) := by
  have e1 : ∀ i p : Nat, L1[i]? = some p → (L1 ++ L2)[i]? = some p ∧ i < L1.length := by
    intro i p hi
    have hlt : i < L1.length := by
      rcases Nat.lt_or_ge i L1.length with g | g
      · exact g
      · rw [List.getElem?_eq_none g] at hi; cases hi
    exact ⟨by rw [List.getElem?_append_left hlt]; exact hi, hlt⟩
  have e2 : ∀ i p : Nat, L2[i]? = some p → (L1 ++ L2)[L1.length + i]? = some p := by
    intro i p hi
    rw [List.getElem?_append_right (Nat.le_add_right _ _), Nat.add_sub_cancel_left]; exact hi
  have e3 : ∀ i p : Nat, L1[i]? = some p → ∀ j : Nat, ¬ L2[j]? = some p := by
    intro i p hi j hj
    have := h.1 _ _ p (e1 i p hi).1 (e2 j p hj)
    have := (e1 i p hi).2
    omega
  refine ⟨⟨fun i j p hi hj => h.1 i j p (e1 i p hi).1 (e1 j p hj).1, fun k p hk => h.2 k p (e1 k p hk).1⟩, ⟨fun i j p hi hj => ?_, fun k p hk => h.2 _ p (e2 k p hk)⟩, e3, fun i p hi j hj => e3 j p hj i hi⟩
  have := h.1 _ _ p (e2 i p hi) (e2 j p hj)
  omega
theorem P_app {D : va_G} {cl : List vw_C} {w1 w2 : va_W} {H : Heap} (h : va_P D cl (w1 ++ w2) H) : va_P D cl w1 H ∧ va_P D cl w2 H := by
  refine ⟨fun k q hk => ?_, fun k q hk => ?_⟩
  · have hlt : k < w1.length := by
      rcases Nat.lt_or_ge k w1.length with g | g
      · exact g
      · rw [List.getElem?_eq_none g] at hk; cases hk
    exact h k q (by rw [List.getElem?_append_left hlt]; exact hk)
  · exact h (w1.length + k) q (by rw [List.getElem?_append_right (Nat.le_add_right _ _), Nat.add_sub_cancel_left]; exact hk)
theorem in_A {A : Nat → Prop} {L : List Nat} {H0 H : Heap} {locs : List Loc} (hN : AD A L) (hA : ∀ q : Nat, H0.size ≤ q → A q) (hS : va_S A H0 H locs) {p : Nat} (h : inL L H.size p) : A p := by
  rcases h with ⟨k, h⟩ | h
  · exact hN.2 k p h
  · exact hA p (Nat.le_trans hS.1 h)
theorem sc_in {i y n : Int32} {L : Nat} (ey : y = i + n) (hi : 0 ≤ i.toInt ∧ i.toInt + 6 ≤ (L : Int)) (hL : L ≤ 3072) (hn : 0 ≤ n.toInt ∧ n.toInt ≤ 5) : vp_in y L := by
  have e : y.toInt = i.toInt + n.toInt := by rw [ey]; exact i32_add (by omega) (by omega)
  exact vp_in_iff.mpr ⟨by omega, by omega⟩
theorem sc_i0 {i : Int32} {L : Nat} (hi : 0 ≤ i.toInt ∧ i.toInt + 6 ≤ (L : Int)) : vp_in i L := vp_in_iff.mpr ⟨hi.1, by omega⟩
theorem len6 {y n : Int32} {L : Nat} (hL : L ≤ 3072) (en : n = Int32.ofNat L) (ey : y = n - 6) : y.toInt = (L : Int) - 6 := by
  have e1 : n.toInt = (L : Int) := by rw [en]; exact nI_toInt (n := L) (by omega)
  have m6 : (6 : Int32).toInt = 6 := rfl
  rw [ey]
  have := i32_sub (x := n) (y := 6) (by omega) (by omega)
  omega
section
variable {dC : Nat → ClassId} {dI : Nat → Nat → Nat} {a : Nat → Nat} {k : Nat → ClassId} {q : Nat → Nat → Option Nat} {x : Int32} {md ix : Nat → Int32} {H H1 : Heap} {L : List Nat} {s : State} {tys : List (ClassId × FieldType)}
theorem xP.keep (h : xP dC dI a k q x md ix H) (hd : ∀ i p : Nat, (xL a)[i]? = some p → ∀ j : Nat, ¬ L[j]? = some p) (hk : ∀ p : Nat, p < H.size → ¬ inL L H.size p → H1[p]? = H[p]?) : xP dC dI a k q x md ix H1 := by
  obtain ⟨v, z, w, f, g, hI, hP⟩ := h
  exact ⟨v, z, w, f, g, hI, keepP hP xW_L hd hk⟩
theorem xP.recv (h : xP dC dI a k q x md ix H) (hK : va_K (dC, dI) classes tys s) : ∃ cell : Cell, H[a 0]? = some cell ∧ cell.vm.isStatics = false ∧ s.vm.findClass RX11 = some cell.cls := by
  obtain ⟨v, z, w, f, g, hI, hP⟩ := h
  exact va_recv hK hP (ci := 11) (q0 := 0) rfl rfl
theorem mP.keep (h : mP dC dI a k q x md ix H) (hd : ∀ i p : Nat, (mL a)[i]? = some p → ∀ j : Nat, ¬ L[j]? = some p) (hk : ∀ p : Nat, p < H.size → ¬ inL L H.size p → H1[p]? = H[p]?) : mP dC dI a k q x md ix H1 := by
  obtain ⟨v, z, w, f, g, hI, hP⟩ := h
  exact ⟨v, z, w, f, g, hI, keepP hP mW_L hd hk⟩
theorem mP.recv (h : mP dC dI a k q x md ix H) (hK : va_K (dC, dI) classes tys s) : ∃ cell : Cell, H[a 0]? = some cell ∧ cell.vm.isStatics = false ∧ s.vm.findClass RX12 = some cell.cls := by
  obtain ⟨v, z, w, f, g, hI, hP⟩ := h
  exact va_recv hK hP (ci := 12) (q0 := 0) rfl rfl

end
def lwC (p : Program) (s : State) (m : MethodId) (meth : Method) (c : Code) (A : Nat → Prop) (kA vA : Nat → Nat) (dC : Nat → ClassId) (dI : Nat → Nat → Nat) (b : Nat) (xs : Nat → Int32) (L : Nat) (a : Nat → Nat) (k : Nat → ClassId) (q : Nat → Nat → Option Nat) (a2 : Nat → Nat) (k2 : Nat → ClassId) : Prop := lw_At p s m meth c b L xs ∧ L ≤ 3072 ∧ (∀ p : Nat, s.heap.size ≤ p → A p) ∧ (∀ p : Nat, A p → s.heap.size ≤ p) ∧ xE s ∧ xT kA vA A s s.heap ∧ xQ a q ∧ AD A (xL a) ∧ AD A (mL a2) ∧ (∀ i p : Nat, (xL a)[i]? = some p → ∀ j : Nat, ¬ (mL a2)[j]? = some p) ∧ (∀ i p : Nat, (mL a2)[i]? = some p → ∀ j : Nat, ¬ (xL a)[j]? = some p) ∧ va_K (dC, dI) classes (xK k) s ∧ va_K (dC, dI) classes (mK k2) s

set_option maxHeartbeats 4000000 in
set_option maxRecDepth 100000 in
theorem law_0 {p : Program} {l : Launch} {e : Env} {s : State} {m : MethodId} {below : List Frame} {meth : Method} {c : Code} {A : Nat → Prop} {kA vA : Nat → Nat} {dC : Nat → ClassId} {dI : Nat → Nat → Nat} {b : Nat} {xs : Nat → Int32} {L : Nat} {a : Nat → Nat} {k : Nat → ClassId} {q : Nat → Nat → Option Nat} {a2 : Nat → Nat} {k2 : Nat → ClassId} {q2 : Nat → Nat → Option Nat} (C1 : lwC p s m meth c A kA vA dC dI b xs L a k q a2 k2) {x : Int32} {md ix : Nat → Int32} (hM : (∀ j : Nat, j < 4 → md j = 0 ∨ md j = 1)) {H : Heap} {locs : List Loc} (hX : xP dC dI a k q x md ix H) (hY : mP dC dI a2 k2 q2 x md ix H) (hS : va_S A s.heap H locs) {ls : Array Slot} {i : Int32} (hi : 0 ≤ i.toInt ∧ i.toInt + 6 ≤ (L : Int)) (hl : lv_has ls 4 [(3, .int i), (2, .ref (a2 0)), (1, .ref (a 0)), (0, .ref b)])
    (hC : ∀ (x : Int32) (md ix : Nat → Int32) (H : Heap) (locs : List Loc), (∀ j : Nat, j < 4 → md j = 0 ∨ md j = 1) → xP dC dI a k q x md ix H → mP dC dI a2 k2 q2 x md ix H → va_S A s.heap H locs → W p l e room_1 s m #[Value.ref b] below meth c H locs 152 8829 (lw_Z below #[Value.ref b] s) (F0 m 1210 ls [])) : W p l e room_1 s m #[Value.ref b] below meth c H locs 152 8829 (lw_Z below #[Value.ref b] s) (F0 m 192 ls []) := by
  obtain ⟨C0, hL, hA, hAq, hE, hT, hQ, hNx, hNm, hdx, hdm, hKx, hKm⟩ := C1
  obtain ⟨hx, hb, hr, hml, hown, hts, hXs, hbl, hlocks, hgv⟩ := id C0
  have hown : s.vm.findClass RL = some m.cls := hown
  have hq : ∀ w ∈ wsA, w.before _ s = true := fun w h => hts w (List.mem_filter.mp h).1
  have hbA : ¬ A b := fun h => Nat.not_le.mpr hbl (hAq b h)
  refine lv_aload_n hx hb dL_law_192 rfl (lv_at hl 2 rfl) ?_
  refine lv_aload_n hx hb dL_law_193 rfl (lv_at hl 3 rfl) ?_
  refine lv_iload_n hx hb dL_law_194 rfl (lv_at hl 0 rfl) ?_
  refine lv_iconst (v := 1) hx hb dL_law_195 (by decide) ?_
  refine lv_iadd hx hb dL_law_196 ?_
  refine lv_topi (fun y1_1 ey1_1 => ?_)
  refine va_sld hx hb hXs hbl hbA hS (sc_in ey1_1 hi hL (by decide)) dL_law_197 ?_
  refine lv_topi (fun z1_1 ez1_1 => ?_)
  refine lv_aload_n hx hb dL_law_198 rfl (lv_at hl 3 rfl) ?_
  refine lv_iload_n hx hb dL_law_199 rfl (lv_at hl 0 rfl) ?_
  refine lv_iconst (v := 2) hx hb dL_law_200 (by decide) ?_
  refine lv_iadd hx hb dL_law_201 ?_
  refine lv_topi (fun y1_2 ey1_2 => ?_)
  refine va_sld hx hb hXs hbl hbA hS (sc_in ey1_2 hi hL (by decide)) dL_law_202 ?_
  refine lv_topi (fun z1_2 ez1_2 => ?_)
  refine lv_aload_n hx hb dL_law_203 rfl (lv_at hl 3 rfl) ?_
  refine lv_iload_n hx hb dL_law_204 rfl (lv_at hl 0 rfl) ?_
  refine lv_iconst (v := 3) hx hb dL_law_205 (by decide) ?_
  refine lv_iadd hx hb dL_law_206 ?_
  refine lv_topi (fun y1_3 ey1_3 => ?_)
  refine va_sld hx hb hXs hbl hbA hS (sc_in ey1_3 hi hL (by decide)) dL_law_207 ?_
  refine lv_topi (fun z1_3 ez1_3 => ?_)
  refine lv_aload_n hx hb dL_law_208 rfl (lv_at hl 3 rfl) ?_
  refine lv_iload_n hx hb dL_law_209 rfl (lv_at hl 0 rfl) ?_
  refine lv_iconst (v := 4) hx hb dL_law_210 (by decide) ?_
  refine lv_iadd hx hb dL_law_211 ?_
  refine lv_topi (fun y1_4 ey1_4 => ?_)
  refine va_sld hx hb hXs hbl hbA hS (sc_in ey1_4 hi hL (by decide)) dL_law_212 ?_
  refine lv_topi (fun z1_4 ez1_4 => ?_)
  refine lv_aload_n hx hb dL_law_213 rfl (lv_at hl 3 rfl) ?_
  refine lv_iload_n hx hb dL_law_214 rfl (lv_at hl 0 rfl) ?_
  refine lv_iconst (v := 5) hx hb dL_law_215 (by decide) ?_
  refine lv_iadd hx hb dL_law_216 ?_
  refine lv_topi (fun y1_5 ey1_5 => ?_)
  refine va_sld hx hb hXs hbl hbA hS (sc_in ey1_5 hi hL (by decide)) dL_law_217 ?_
  refine lv_topi (fun z1_5 ez1_5 => ?_)
  have hFx : ∀ p : Nat, inL (xL a) H.size p → A p := fun p h => in_A hNx hA hS h
  refine va_calli (va_runV (As := [.int z1_1, .int z1_2, .int z1_3, .int z1_4, .int z1_5]) (rest := []) ⟨hx, hb, hml, hown, hq⟩ (X_feed l dC dI _ kA vA a k q hQ hNx.tt x md ix hM z1_1 z1_2 z1_3 z1_4 z1_5) (cwV 5 hq (gV qw_507 qw_508 qw_509 qw_119 qw_510) rfl rfl rfl (by decide +kernel) ⟨Nat.le_of_ble_eq_true rfl, Nat.le_of_ble_eq_true rfl⟩) ⟨fun ar U g mk h => by obtain ⟨q0, q1, qX, qK, qE, qT⟩ := h; exact ⟨q0, q1, qX, va_K.moved (u := U) (U := U.calling g mk ar) (Vm.Alike.refl U.vm) qK, xE.same rfl qE, xT.same rfl qT⟩, hX.recv hKx, fun U hU hW => ⟨rfl, by rw [hU], by rw [hU]; exact hX, va_K.moved hW.alike hKx, xE.warm hW hE, by rw [hU]; exact xT.call hW hT hS hFx⟩⟩ rfl rfl hl.1 rfl (lv_room (Nat.le_of_ble_eq_true rfl)) dL_law_218 ⟨Nat.le_of_ble_eq_true rfl, Nat.le_of_ble_eq_true rfl⟩) hS (fun p _ h => hFx p h) hFx (fun r_1 u1 t1 H1 locs ht1 hvm1 hw1 hB1 hz1 hk1 hS => ?_)
  have hX1 : xP dC dI a k q x md ix t1.heap := hB1
  rw [ht1] at hX1
  have hY := hY.keep hdm hk1
  refine lv_pop hx hb dL_law_221 rfl ?_
  refine lv_aload_n hx hb dL_law_222 rfl (lv_at hl 1 rfl) ?_
  refine lv_aload_n hx hb dL_law_223 rfl (lv_at hl 3 rfl) ?_
  refine lv_iload_n hx hb dL_law_224 rfl (lv_at hl 0 rfl) ?_
  refine lv_iconst (v := 1) hx hb dL_law_225 (by decide) ?_
  refine lv_iadd hx hb dL_law_226 ?_
  refine lv_topi (fun y2_1 ey2_1 => ?_)
  refine va_sld hx hb hXs hbl hbA hS (sc_in ey2_1 hi hL (by decide)) dL_law_227 ?_
  refine lv_topi (fun z2_1 ez2_1 => ?_)
  refine lv_aload_n hx hb dL_law_228 rfl (lv_at hl 3 rfl) ?_
  refine lv_iload_n hx hb dL_law_229 rfl (lv_at hl 0 rfl) ?_
  refine lv_iconst (v := 2) hx hb dL_law_230 (by decide) ?_
  refine lv_iadd hx hb dL_law_231 ?_
  refine lv_topi (fun y2_2 ey2_2 => ?_)
  refine va_sld hx hb hXs hbl hbA hS (sc_in ey2_2 hi hL (by decide)) dL_law_232 ?_
  refine lv_topi (fun z2_2 ez2_2 => ?_)
  refine lv_aload_n hx hb dL_law_233 rfl (lv_at hl 3 rfl) ?_
  refine lv_iload_n hx hb dL_law_234 rfl (lv_at hl 0 rfl) ?_
  refine lv_iconst (v := 3) hx hb dL_law_235 (by decide) ?_
  refine lv_iadd hx hb dL_law_236 ?_
  refine lv_topi (fun y2_3 ey2_3 => ?_)
  refine va_sld hx hb hXs hbl hbA hS (sc_in ey2_3 hi hL (by decide)) dL_law_237 ?_
  refine lv_topi (fun z2_3 ez2_3 => ?_)
  refine lv_aload_n hx hb dL_law_238 rfl (lv_at hl 3 rfl) ?_
  refine lv_iload_n hx hb dL_law_239 rfl (lv_at hl 0 rfl) ?_
  refine lv_iconst (v := 4) hx hb dL_law_240 (by decide) ?_
  refine lv_iadd hx hb dL_law_241 ?_
  refine lv_topi (fun y2_4 ey2_4 => ?_)
  refine va_sld hx hb hXs hbl hbA hS (sc_in ey2_4 hi hL (by decide)) dL_law_242 ?_
  refine lv_topi (fun z2_4 ez2_4 => ?_)
  refine lv_aload_n hx hb dL_law_243 rfl (lv_at hl 3 rfl) ?_
  refine lv_iload_n hx hb dL_law_244 rfl (lv_at hl 0 rfl) ?_
  refine lv_iconst (v := 5) hx hb dL_law_245 (by decide) ?_
  refine lv_iadd hx hb dL_law_246 ?_
  refine lv_topi (fun y2_5 ey2_5 => ?_)
  refine va_sld hx hb hXs hbl hbA hS (sc_in ey2_5 hi hL (by decide)) dL_law_247 ?_
  refine lv_topi (fun z2_5 ez2_5 => ?_)
  have hFm : ∀ p : Nat, inL (mL a2) H1.size p → A p := fun p h => in_A hNm hA hS h
  refine va_calli (va_runV (As := [.int z2_1, .int z2_2, .int z2_3, .int z2_4, .int z2_5]) (rest := []) ⟨hx, hb, hml, hown, hq⟩ (M_feed l dC dI _ a2 k2 q2 hNm.tt x md ix hM z2_1 z2_2 z2_3 z2_4 z2_5) (cwV 5 hq (gV qw_1291 qw_1292 qw_1293 qw_131 qw_1294) rfl rfl rfl (by decide +kernel) ⟨Nat.le_of_ble_eq_true rfl, Nat.le_of_ble_eq_true rfl⟩) ⟨fun ar U g mk h => by obtain ⟨q0, q1, qX, qK, qE⟩ := h; exact ⟨q0, q1, qX, va_K.moved (u := U) (U := U.calling g mk ar) (Vm.Alike.refl U.vm) qK, xE.same rfl qE⟩, hY.recv hKm, fun U hU hW => ⟨rfl, by rw [hU], by rw [hU]; exact hY, va_K.moved hW.alike hKm, xE.warm hW hE⟩⟩ rfl rfl hl.1 rfl (lv_room (Nat.le_of_ble_eq_true rfl)) dL_law_248 ⟨Nat.le_of_ble_eq_true rfl, Nat.le_of_ble_eq_true rfl⟩) hS (fun p _ h => hFm p h) hFm (fun r_2 u2 t2 H2 locs ht2 hvm2 hw2 hB2 hz2 hk2 hS => ?_)
  have hY2 : mP dC dI a2 k2 q2 x md ix t2.heap := hB2
  rw [ht2] at hY2
  have hX2 := hX1.keep hdx hk2
  refine lv_pop hx hb dL_law_251 rfl ?_
  refine lv_goto (tgt := 1210) hx hb dL_law_252 (by decide) ?_
  exact hC _ _ _ _ _ hM hX2 hY2 hS

set_option maxHeartbeats 4000000 in
set_option maxRecDepth 100000 in
theorem law_1 {p : Program} {l : Launch} {e : Env} {s : State} {m : MethodId} {below : List Frame} {meth : Method} {c : Code} {A : Nat → Prop} {kA vA : Nat → Nat} {dC : Nat → ClassId} {dI : Nat → Nat → Nat} {b : Nat} {xs : Nat → Int32} {L : Nat} {a : Nat → Nat} {k : Nat → ClassId} {q : Nat → Nat → Option Nat} {a2 : Nat → Nat} {k2 : Nat → ClassId} {q2 : Nat → Nat → Option Nat} (C1 : lwC p s m meth c A kA vA dC dI b xs L a k q a2 k2) {x : Int32} {md ix : Nat → Int32} (hM : (∀ j : Nat, j < 4 → md j = 0 ∨ md j = 1)) {H : Heap} {locs : List Loc} (hX : xP dC dI a k q x md ix H) (hY : mP dC dI a2 k2 q2 x md ix H) (hS : va_S A s.heap H locs) {ls : Array Slot} {i : Int32} (hi : 0 ≤ i.toInt ∧ i.toInt + 6 ≤ (L : Int)) (hl : lv_has ls 4 [(3, .int i), (2, .ref (a2 0)), (1, .ref (a 0)), (0, .ref b)])
    (hC : ∀ (x : Int32) (md ix : Nat → Int32) (H : Heap) (locs : List Loc), (∀ j : Nat, j < 4 → md j = 0 ∨ md j = 1) → xP dC dI a k q x md ix H → mP dC dI a2 k2 q2 x md ix H → va_S A s.heap H locs → W p l e room_1 s m #[Value.ref b] below meth c H locs 152 8829 (lw_Z below #[Value.ref b] s) (F0 m 1210 ls [])) : W p l e room_1 s m #[Value.ref b] below meth c H locs 152 8829 (lw_Z below #[Value.ref b] s) (F0 m 255 ls []) := by
  obtain ⟨C0, hL, hA, hAq, hE, hT, hQ, hNx, hNm, hdx, hdm, hKx, hKm⟩ := C1
  obtain ⟨hx, hb, hr, hml, hown, hts, hXs, hbl, hlocks, hgv⟩ := id C0
  have hown : s.vm.findClass RL = some m.cls := hown
  have hq : ∀ w ∈ wsA, w.before _ s = true := fun w h => hts w (List.mem_filter.mp h).1
  have hbA : ¬ A b := fun h => Nat.not_le.mpr hbl (hAq b h)
  refine lv_aload_n hx hb dL_law_255 rfl (lv_at hl 2 rfl) ?_
  refine lv_aload_n hx hb dL_law_256 rfl (lv_at hl 3 rfl) ?_
  refine lv_iload_n hx hb dL_law_257 rfl (lv_at hl 0 rfl) ?_
  refine lv_iconst (v := 1) hx hb dL_law_258 (by decide) ?_
  refine lv_iadd hx hb dL_law_259 ?_
  refine lv_topi (fun y1_1 ey1_1 => ?_)
  refine va_sld hx hb hXs hbl hbA hS (sc_in ey1_1 hi hL (by decide)) dL_law_260 ?_
  refine lv_topi (fun z1_1 ez1_1 => ?_)
  have hFx : ∀ p : Nat, inL (xL a) H.size p → A p := fun p h => in_A hNx hA hS h
  refine va_calli (va_runV (As := [.int z1_1]) (rest := []) ⟨hx, hb, hml, hown, hq⟩ (X_end l dC dI _ kA vA a k q hQ hNx.tt x md ix hM z1_1) (cwV 1 hq (gV qw_515 qw_516 qw_517 qw_119 qw_518) rfl rfl rfl (by decide +kernel) ⟨Nat.le_of_ble_eq_true rfl, Nat.le_of_ble_eq_true rfl⟩) ⟨fun ar U g mk h => by obtain ⟨q0, q1, qX, qK, qE, qT⟩ := h; exact ⟨q0, q1, qX, va_K.moved (u := U) (U := U.calling g mk ar) (Vm.Alike.refl U.vm) qK, xE.same rfl qE, xT.same rfl qT⟩, hX.recv hKx, fun U hU hW => ⟨rfl, by rw [hU], by rw [hU]; exact hX, va_K.moved hW.alike hKx, xE.warm hW hE, by rw [hU]; exact xT.call hW hT hS hFx⟩⟩ rfl rfl hl.1 rfl (lv_room (Nat.le_of_ble_eq_true rfl)) dL_law_261 ⟨Nat.le_of_ble_eq_true rfl, Nat.le_of_ble_eq_true rfl⟩) hS (fun p _ h => hFx p h) hFx (fun r_1 u1 t1 H1 locs ht1 hvm1 hw1 hB1 hz1 hk1 hS => ?_)
  have hX1 : xP dC dI a k q x md ix t1.heap := hB1
  rw [ht1] at hX1
  have hY := hY.keep hdm hk1
  refine lv_pop hx hb dL_law_264 rfl ?_
  refine lv_aload_n hx hb dL_law_265 rfl (lv_at hl 1 rfl) ?_
  refine lv_aload_n hx hb dL_law_266 rfl (lv_at hl 3 rfl) ?_
  refine lv_iload_n hx hb dL_law_267 rfl (lv_at hl 0 rfl) ?_
  refine lv_iconst (v := 1) hx hb dL_law_268 (by decide) ?_
  refine lv_iadd hx hb dL_law_269 ?_
  refine lv_topi (fun y2_1 ey2_1 => ?_)
  refine va_sld hx hb hXs hbl hbA hS (sc_in ey2_1 hi hL (by decide)) dL_law_270 ?_
  refine lv_topi (fun z2_1 ez2_1 => ?_)
  have hFm : ∀ p : Nat, inL (mL a2) H1.size p → A p := fun p h => in_A hNm hA hS h
  refine va_calli (va_runV (As := [.int z2_1]) (rest := []) ⟨hx, hb, hml, hown, hq⟩ (M_end l dC dI _ a2 k2 q2 hNm.tt x md ix hM z2_1) (cwV 1 hq (gV qw_1299 qw_1300 qw_1301 qw_131 qw_1302) rfl rfl rfl (by decide +kernel) ⟨Nat.le_of_ble_eq_true rfl, Nat.le_of_ble_eq_true rfl⟩) ⟨fun ar U g mk h => by obtain ⟨q0, q1, qX, qK, qE⟩ := h; exact ⟨q0, q1, qX, va_K.moved (u := U) (U := U.calling g mk ar) (Vm.Alike.refl U.vm) qK, xE.same rfl qE⟩, hY.recv hKm, fun U hU hW => ⟨rfl, by rw [hU], by rw [hU]; exact hY, va_K.moved hW.alike hKm, xE.warm hW hE⟩⟩ rfl rfl hl.1 rfl (lv_room (Nat.le_of_ble_eq_true rfl)) dL_law_271 ⟨Nat.le_of_ble_eq_true rfl, Nat.le_of_ble_eq_true rfl⟩) hS (fun p _ h => hFm p h) hFm (fun r_2 u2 t2 H2 locs ht2 hvm2 hw2 hB2 hz2 hk2 hS => ?_)
  have hY2 : mP dC dI a2 k2 q2 x md ix t2.heap := hB2
  rw [ht2] at hY2
  have hX2 := hX1.keep hdx hk2
  refine lv_pop hx hb dL_law_274 rfl ?_
  refine lv_goto (tgt := 1210) hx hb dL_law_275 (by decide) ?_
  exact hC _ _ _ _ _ hM hX2 hY2 hS

set_option maxHeartbeats 4000000 in
set_option maxRecDepth 100000 in
theorem law_2 {p : Program} {l : Launch} {e : Env} {s : State} {m : MethodId} {below : List Frame} {meth : Method} {c : Code} {A : Nat → Prop} {kA vA : Nat → Nat} {dC : Nat → ClassId} {dI : Nat → Nat → Nat} {b : Nat} {xs : Nat → Int32} {L : Nat} {a : Nat → Nat} {k : Nat → ClassId} {q : Nat → Nat → Option Nat} {a2 : Nat → Nat} {k2 : Nat → ClassId} {q2 : Nat → Nat → Option Nat} (C1 : lwC p s m meth c A kA vA dC dI b xs L a k q a2 k2) {x : Int32} {md ix : Nat → Int32} (hM : (∀ j : Nat, j < 4 → md j = 0 ∨ md j = 1)) {H : Heap} {locs : List Loc} (hX : xP dC dI a k q x md ix H) (hY : mP dC dI a2 k2 q2 x md ix H) (hS : va_S A s.heap H locs) {ls : Array Slot} {i : Int32} (hi : 0 ≤ i.toInt ∧ i.toInt + 6 ≤ (L : Int)) (hl : lv_has ls 4 [(3, .int i), (2, .ref (a2 0)), (1, .ref (a 0)), (0, .ref b)])
    (hC : ∀ (x : Int32) (md ix : Nat → Int32) (H : Heap) (locs : List Loc), (∀ j : Nat, j < 4 → md j = 0 ∨ md j = 1) → xP dC dI a k q x md ix H → mP dC dI a2 k2 q2 x md ix H → va_S A s.heap H locs → W p l e room_1 s m #[Value.ref b] below meth c H locs 152 8829 (lw_Z below #[Value.ref b] s) (F0 m 1210 ls [])) : W p l e room_1 s m #[Value.ref b] below meth c H locs 152 8829 (lw_Z below #[Value.ref b] s) (F0 m 278 ls []) := by
  obtain ⟨C0, hL, hA, hAq, hE, hT, hQ, hNx, hNm, hdx, hdm, hKx, hKm⟩ := C1
  obtain ⟨hx, hb, hr, hml, hown, hts, hXs, hbl, hlocks, hgv⟩ := id C0
  have hown : s.vm.findClass RL = some m.cls := hown
  have hq : ∀ w ∈ wsA, w.before _ s = true := fun w h => hts w (List.mem_filter.mp h).1
  have hbA : ¬ A b := fun h => Nat.not_le.mpr hbl (hAq b h)
  refine lv_aload_n hx hb dL_law_278 rfl (lv_at hl 2 rfl) ?_
  have hFx : ∀ p : Nat, inL (xL a) H.size p → A p := fun p h => in_A hNx hA hS h
  refine va_calli (va_runV (As := []) (rest := []) ⟨hx, hb, hml, hown, hq⟩ (X_dinner l dC dI _ kA vA a k q hQ hNx.tt x md ix hM ) (cwV 0 hq (gV qw_519 qw_520 qw_521 qw_119 qw_522) rfl rfl rfl (by decide +kernel) ⟨Nat.le_of_ble_eq_true rfl, Nat.le_of_ble_eq_true rfl⟩) ⟨fun ar U g mk h => by obtain ⟨q0, q1, qX, qK, qE, qT⟩ := h; exact ⟨q0, q1, qX, va_K.moved (u := U) (U := U.calling g mk ar) (Vm.Alike.refl U.vm) qK, xE.same rfl qE, xT.same rfl qT⟩, hX.recv hKx, fun U hU hW => ⟨rfl, by rw [hU], by rw [hU]; exact hX, va_K.moved hW.alike hKx, xE.warm hW hE, by rw [hU]; exact xT.call hW hT hS hFx⟩⟩ rfl rfl hl.1 rfl (lv_room (Nat.le_of_ble_eq_true rfl)) dL_law_279 ⟨Nat.le_of_ble_eq_true rfl, Nat.le_of_ble_eq_true rfl⟩) hS (fun p _ h => hFx p h) hFx (fun r_1 u1 t1 H1 locs ht1 hvm1 hw1 hB1 hz1 hk1 hS => ?_)
  have hX1 : xP dC dI a k q x md ix t1.heap := hB1
  rw [ht1] at hX1
  have hY := hY.keep hdm hk1
  refine lv_pop hx hb dL_law_282 rfl ?_
  refine lv_aload_n hx hb dL_law_283 rfl (lv_at hl 1 rfl) ?_
  have hFm : ∀ p : Nat, inL (mL a2) H1.size p → A p := fun p h => in_A hNm hA hS h
  refine va_calli (va_runV (As := []) (rest := []) ⟨hx, hb, hml, hown, hq⟩ (M_dinner l dC dI _ a2 k2 q2 hNm.tt x md ix hM ) (cwV 0 hq (gV qw_1456 qw_1457 qw_1458 qw_131 qw_1459) rfl rfl rfl (by decide +kernel) ⟨Nat.le_of_ble_eq_true rfl, Nat.le_of_ble_eq_true rfl⟩) ⟨fun ar U g mk h => by obtain ⟨q0, q1, qX, qK, qE⟩ := h; exact ⟨q0, q1, qX, va_K.moved (u := U) (U := U.calling g mk ar) (Vm.Alike.refl U.vm) qK, xE.same rfl qE⟩, hY.recv hKm, fun U hU hW => ⟨rfl, by rw [hU], by rw [hU]; exact hY, va_K.moved hW.alike hKm, xE.warm hW hE⟩⟩ rfl rfl hl.1 rfl (lv_room (Nat.le_of_ble_eq_true rfl)) dL_law_284 ⟨Nat.le_of_ble_eq_true rfl, Nat.le_of_ble_eq_true rfl⟩) hS (fun p _ h => hFm p h) hFm (fun r_2 u2 t2 H2 locs ht2 hvm2 hw2 hB2 hz2 hk2 hS => ?_)
  have hY2 : mP dC dI a2 k2 q2 x md ix t2.heap := hB2
  rw [ht2] at hY2
  have hX2 := hX1.keep hdx hk2
  refine lv_pop hx hb dL_law_287 rfl ?_
  refine lv_goto (tgt := 1210) hx hb dL_law_288 (by decide) ?_
  exact hC _ _ _ _ _ hM hX2 hY2 hS

set_option maxHeartbeats 4000000 in
set_option maxRecDepth 100000 in
theorem law_3 {p : Program} {l : Launch} {e : Env} {s : State} {m : MethodId} {below : List Frame} {meth : Method} {c : Code} {A : Nat → Prop} {kA vA : Nat → Nat} {dC : Nat → ClassId} {dI : Nat → Nat → Nat} {b : Nat} {xs : Nat → Int32} {L : Nat} {a : Nat → Nat} {k : Nat → ClassId} {q : Nat → Nat → Option Nat} {a2 : Nat → Nat} {k2 : Nat → ClassId} {q2 : Nat → Nat → Option Nat} (C1 : lwC p s m meth c A kA vA dC dI b xs L a k q a2 k2) {x : Int32} {md ix : Nat → Int32} (hM : (∀ j : Nat, j < 4 → md j = 0 ∨ md j = 1)) {H : Heap} {locs : List Loc} (hX : xP dC dI a k q x md ix H) (hY : mP dC dI a2 k2 q2 x md ix H) (hS : va_S A s.heap H locs) {ls : Array Slot} {i : Int32} (hi : 0 ≤ i.toInt ∧ i.toInt + 6 ≤ (L : Int)) (hl : lv_has ls 4 [(3, .int i), (2, .ref (a2 0)), (1, .ref (a 0)), (0, .ref b)])
    (hC : ∀ (x : Int32) (md ix : Nat → Int32) (H : Heap) (locs : List Loc), (∀ j : Nat, j < 4 → md j = 0 ∨ md j = 1) → xP dC dI a k q x md ix H → mP dC dI a2 k2 q2 x md ix H → va_S A s.heap H locs → W p l e room_1 s m #[Value.ref b] below meth c H locs 152 8829 (lw_Z below #[Value.ref b] s) (F0 m 1210 ls [])) : W p l e room_1 s m #[Value.ref b] below meth c H locs 152 8829 (lw_Z below #[Value.ref b] s) (F0 m 291 ls []) := by
  obtain ⟨C0, hL, hA, hAq, hE, hT, hQ, hNx, hNm, hdx, hdm, hKx, hKm⟩ := C1
  obtain ⟨hx, hb, hr, hml, hown, hts, hXs, hbl, hlocks, hgv⟩ := id C0
  have hown : s.vm.findClass RL = some m.cls := hown
  have hq : ∀ w ∈ wsA, w.before _ s = true := fun w h => hts w (List.mem_filter.mp h).1
  have hbA : ¬ A b := fun h => Nat.not_le.mpr hbl (hAq b h)
  refine lv_aload_n hx hb dL_law_291 rfl (lv_at hl 2 rfl) ?_
  have hFx : ∀ p : Nat, inL (xL a) H.size p → A p := fun p h => in_A hNx hA hS h
  refine va_calli (va_runV (As := []) (rest := []) ⟨hx, hb, hml, hown, hq⟩ (X_rule l dC dI _ kA vA a k q hQ hNx.tt x md ix hM ) (cwV 0 hq (gV qw_663 qw_664 qw_665 qw_119 qw_666) rfl rfl rfl (by decide +kernel) ⟨Nat.le_of_ble_eq_true rfl, Nat.le_of_ble_eq_true rfl⟩) ⟨fun ar U g mk h => by obtain ⟨q0, q1, qX, qK, qE, qT⟩ := h; exact ⟨q0, q1, qX, va_K.moved (u := U) (U := U.calling g mk ar) (Vm.Alike.refl U.vm) qK, xE.same rfl qE, xT.same rfl qT⟩, hX.recv hKx, fun U hU hW => ⟨rfl, by rw [hU], by rw [hU]; exact hX, va_K.moved hW.alike hKx, xE.warm hW hE, by rw [hU]; exact xT.call hW hT hS hFx⟩⟩ rfl rfl hl.1 rfl (lv_room (Nat.le_of_ble_eq_true rfl)) dL_law_292 ⟨Nat.le_of_ble_eq_true rfl, Nat.le_of_ble_eq_true rfl⟩) hS (fun p _ h => hFx p h) hFx (fun r_1 u1 t1 H1 locs ht1 hvm1 hw1 hB1 hz1 hk1 hS => ?_)
  have hX1 : xP dC dI a k q x md ix t1.heap := hB1
  rw [ht1] at hX1
  have hY := hY.keep hdm hk1
  refine lv_pop hx hb dL_law_295 rfl ?_
  refine lv_aload_n hx hb dL_law_296 rfl (lv_at hl 1 rfl) ?_
  have hFm : ∀ p : Nat, inL (mL a2) H1.size p → A p := fun p h => in_A hNm hA hS h
  refine va_calli (va_runV (As := []) (rest := []) ⟨hx, hb, hml, hown, hq⟩ (M_rule l dC dI _ a2 k2 q2 hNm.tt x md ix hM ) (cwV 0 hq (gV qw_1303 qw_1304 qw_1305 qw_131 qw_1306) rfl rfl rfl (by decide +kernel) ⟨Nat.le_of_ble_eq_true rfl, Nat.le_of_ble_eq_true rfl⟩) ⟨fun ar U g mk h => by obtain ⟨q0, q1, qX, qK, qE⟩ := h; exact ⟨q0, q1, qX, va_K.moved (u := U) (U := U.calling g mk ar) (Vm.Alike.refl U.vm) qK, xE.same rfl qE⟩, hY.recv hKm, fun U hU hW => ⟨rfl, by rw [hU], by rw [hU]; exact hY, va_K.moved hW.alike hKm, xE.warm hW hE⟩⟩ rfl rfl hl.1 rfl (lv_room (Nat.le_of_ble_eq_true rfl)) dL_law_297 ⟨Nat.le_of_ble_eq_true rfl, Nat.le_of_ble_eq_true rfl⟩) hS (fun p _ h => hFm p h) hFm (fun r_2 u2 t2 H2 locs ht2 hvm2 hw2 hB2 hz2 hk2 hS => ?_)
  have hY2 : mP dC dI a2 k2 q2 x md ix t2.heap := hB2
  rw [ht2] at hY2
  have hX2 := hX1.keep hdx hk2
  refine lv_pop hx hb dL_law_300 rfl ?_
  refine lv_goto (tgt := 1210) hx hb dL_law_301 (by decide) ?_
  exact hC _ _ _ _ _ hM hX2 hY2 hS

set_option maxHeartbeats 4000000 in
set_option maxRecDepth 100000 in
theorem law_4 {p : Program} {l : Launch} {e : Env} {s : State} {m : MethodId} {below : List Frame} {meth : Method} {c : Code} {A : Nat → Prop} {kA vA : Nat → Nat} {dC : Nat → ClassId} {dI : Nat → Nat → Nat} {b : Nat} {xs : Nat → Int32} {L : Nat} {a : Nat → Nat} {k : Nat → ClassId} {q : Nat → Nat → Option Nat} {a2 : Nat → Nat} {k2 : Nat → ClassId} {q2 : Nat → Nat → Option Nat} (C1 : lwC p s m meth c A kA vA dC dI b xs L a k q a2 k2) {x : Int32} {md ix : Nat → Int32} (hM : (∀ j : Nat, j < 4 → md j = 0 ∨ md j = 1)) {H : Heap} {locs : List Loc} (hX : xP dC dI a k q x md ix H) (hY : mP dC dI a2 k2 q2 x md ix H) (hS : va_S A s.heap H locs) {ls : Array Slot} {i : Int32} (hi : 0 ≤ i.toInt ∧ i.toInt + 6 ≤ (L : Int)) (hl : lv_has ls 4 [(3, .int i), (2, .ref (a2 0)), (1, .ref (a 0)), (0, .ref b)])
    (hC : ∀ (x : Int32) (md ix : Nat → Int32) (H : Heap) (locs : List Loc), (∀ j : Nat, j < 4 → md j = 0 ∨ md j = 1) → xP dC dI a k q x md ix H → mP dC dI a2 k2 q2 x md ix H → va_S A s.heap H locs → W p l e room_1 s m #[Value.ref b] below meth c H locs 152 8829 (lw_Z below #[Value.ref b] s) (F0 m 1210 ls [])) : W p l e room_1 s m #[Value.ref b] below meth c H locs 152 8829 (lw_Z below #[Value.ref b] s) (F0 m 304 ls []) := by
  obtain ⟨C0, hL, hA, hAq, hE, hT, hQ, hNx, hNm, hdx, hdm, hKx, hKm⟩ := C1
  obtain ⟨hx, hb, hr, hml, hown, hts, hXs, hbl, hlocks, hgv⟩ := id C0
  have hown : s.vm.findClass RL = some m.cls := hown
  have hq : ∀ w ∈ wsA, w.before _ s = true := fun w h => hts w (List.mem_filter.mp h).1
  have hbA : ¬ A b := fun h => Nat.not_le.mpr hbl (hAq b h)
  refine lv_aload_n hx hb dL_law_304 rfl (lv_at hl 2 rfl) ?_
  refine lv_aload_n hx hb dL_law_305 rfl (lv_at hl 3 rfl) ?_
  refine lv_iload_n hx hb dL_law_306 rfl (lv_at hl 0 rfl) ?_
  refine lv_iconst (v := 1) hx hb dL_law_307 (by decide) ?_
  refine lv_iadd hx hb dL_law_308 ?_
  refine lv_topi (fun y1_1 ey1_1 => ?_)
  refine va_sld hx hb hXs hbl hbA hS (sc_in ey1_1 hi hL (by decide)) dL_law_309 ?_
  refine lv_topi (fun z1_1 ez1_1 => ?_)
  have hFx : ∀ p : Nat, inL (xL a) H.size p → A p := fun p h => in_A hNx hA hS h
  refine va_calli (va_runV (As := [.int z1_1]) (rest := []) ⟨hx, hb, hml, hown, hq⟩ (X_force l dC dI _ kA vA a k q hQ hNx.tt x md ix hM z1_1) (cwV 1 hq (gV qw_731 qw_732 qw_733 qw_119 qw_734) rfl rfl rfl (by decide +kernel) ⟨Nat.le_of_ble_eq_true rfl, Nat.le_of_ble_eq_true rfl⟩) ⟨fun ar U g mk h => by obtain ⟨q0, q1, qX, qK, qE, qT⟩ := h; exact ⟨q0, q1, qX, va_K.moved (u := U) (U := U.calling g mk ar) (Vm.Alike.refl U.vm) qK, xE.same rfl qE, xT.same rfl qT⟩, hX.recv hKx, fun U hU hW => ⟨rfl, by rw [hU], by rw [hU]; exact hX, va_K.moved hW.alike hKx, xE.warm hW hE, by rw [hU]; exact xT.call hW hT hS hFx⟩⟩ rfl rfl hl.1 rfl (lv_room (Nat.le_of_ble_eq_true rfl)) dL_law_310 ⟨Nat.le_of_ble_eq_true rfl, Nat.le_of_ble_eq_true rfl⟩) hS (fun p _ h => hFx p h) hFx (fun r_1 u1 t1 H1 locs ht1 hvm1 hw1 hB1 hz1 hk1 hS => ?_)
  have hX1 : xP dC dI a k q x md ix t1.heap := hB1
  rw [ht1] at hX1
  have hY := hY.keep hdm hk1
  refine lv_pop hx hb dL_law_313 rfl ?_
  refine lv_aload_n hx hb dL_law_314 rfl (lv_at hl 1 rfl) ?_
  refine lv_aload_n hx hb dL_law_315 rfl (lv_at hl 3 rfl) ?_
  refine lv_iload_n hx hb dL_law_316 rfl (lv_at hl 0 rfl) ?_
  refine lv_iconst (v := 1) hx hb dL_law_317 (by decide) ?_
  refine lv_iadd hx hb dL_law_318 ?_
  refine lv_topi (fun y2_1 ey2_1 => ?_)
  refine va_sld hx hb hXs hbl hbA hS (sc_in ey2_1 hi hL (by decide)) dL_law_319 ?_
  refine lv_topi (fun z2_1 ez2_1 => ?_)
  have hFm : ∀ p : Nat, inL (mL a2) H1.size p → A p := fun p h => in_A hNm hA hS h
  refine va_calli (va_runV (As := [.int z2_1]) (rest := []) ⟨hx, hb, hml, hown, hq⟩ (M_force l dC dI _ a2 k2 q2 hNm.tt x md ix hM z2_1) (cwV 1 hq (gV qw_1464 qw_1465 qw_1466 qw_131 qw_1467) rfl rfl rfl (by decide +kernel) ⟨Nat.le_of_ble_eq_true rfl, Nat.le_of_ble_eq_true rfl⟩) ⟨fun ar U g mk h => by obtain ⟨q0, q1, qX, qK, qE⟩ := h; exact ⟨q0, q1, qX, va_K.moved (u := U) (U := U.calling g mk ar) (Vm.Alike.refl U.vm) qK, xE.same rfl qE⟩, hY.recv hKm, fun U hU hW => ⟨rfl, by rw [hU], by rw [hU]; exact hY, va_K.moved hW.alike hKm, xE.warm hW hE⟩⟩ rfl rfl hl.1 rfl (lv_room (Nat.le_of_ble_eq_true rfl)) dL_law_320 ⟨Nat.le_of_ble_eq_true rfl, Nat.le_of_ble_eq_true rfl⟩) hS (fun p _ h => hFm p h) hFm (fun r_2 u2 t2 H2 locs ht2 hvm2 hw2 hB2 hz2 hk2 hS => ?_)
  have hY2 : mP dC dI a2 k2 q2 x md ix t2.heap := hB2
  rw [ht2] at hY2
  have hX2 := hX1.keep hdx hk2
  refine lv_pop hx hb dL_law_323 rfl ?_
  refine lv_goto (tgt := 1210) hx hb dL_law_324 (by decide) ?_
  exact hC _ _ _ _ _ hM hX2 hY2 hS

set_option maxHeartbeats 4000000 in
set_option maxRecDepth 100000 in
theorem law_5 {p : Program} {l : Launch} {e : Env} {s : State} {m : MethodId} {below : List Frame} {meth : Method} {c : Code} {A : Nat → Prop} {kA vA : Nat → Nat} {dC : Nat → ClassId} {dI : Nat → Nat → Nat} {b : Nat} {xs : Nat → Int32} {L : Nat} {a : Nat → Nat} {k : Nat → ClassId} {q : Nat → Nat → Option Nat} {a2 : Nat → Nat} {k2 : Nat → ClassId} {q2 : Nat → Nat → Option Nat} (C1 : lwC p s m meth c A kA vA dC dI b xs L a k q a2 k2) {x : Int32} {md ix : Nat → Int32} (hM : (∀ j : Nat, j < 4 → md j = 0 ∨ md j = 1)) {H : Heap} {locs : List Loc} (hX : xP dC dI a k q x md ix H) (hY : mP dC dI a2 k2 q2 x md ix H) (hS : va_S A s.heap H locs) {ls : Array Slot} {i : Int32} (hi : 0 ≤ i.toInt ∧ i.toInt + 6 ≤ (L : Int)) (hl : lv_has ls 4 [(3, .int i), (2, .ref (a2 0)), (1, .ref (a 0)), (0, .ref b)])
    (hC : ∀ (x : Int32) (md ix : Nat → Int32) (H : Heap) (locs : List Loc), (∀ j : Nat, j < 4 → md j = 0 ∨ md j = 1) → xP dC dI a k q x md ix H → mP dC dI a2 k2 q2 x md ix H → va_S A s.heap H locs → W p l e room_1 s m #[Value.ref b] below meth c H locs 152 8829 (lw_Z below #[Value.ref b] s) (F0 m 1210 ls [])) : W p l e room_1 s m #[Value.ref b] below meth c H locs 152 8829 (lw_Z below #[Value.ref b] s) (F0 m 327 ls []) := by
  obtain ⟨C0, hL, hA, hAq, hE, hT, hQ, hNx, hNm, hdx, hdm, hKx, hKm⟩ := C1
  obtain ⟨hx, hb, hr, hml, hown, hts, hXs, hbl, hlocks, hgv⟩ := id C0
  have hown : s.vm.findClass RL = some m.cls := hown
  have hq : ∀ w ∈ wsA, w.before _ s = true := fun w h => hts w (List.mem_filter.mp h).1
  have hbA : ¬ A b := fun h => Nat.not_le.mpr hbl (hAq b h)
  refine lv_aload_n hx hb dL_law_327 rfl (lv_at hl 2 rfl) ?_
  refine lv_aload_n hx hb dL_law_328 rfl (lv_at hl 3 rfl) ?_
  refine lv_iload_n hx hb dL_law_329 rfl (lv_at hl 0 rfl) ?_
  refine lv_iconst (v := 1) hx hb dL_law_330 (by decide) ?_
  refine lv_iadd hx hb dL_law_331 ?_
  refine lv_topi (fun y1_1 ey1_1 => ?_)
  refine va_sld hx hb hXs hbl hbA hS (sc_in ey1_1 hi hL (by decide)) dL_law_332 ?_
  refine lv_topi (fun z1_1 ez1_1 => ?_)
  refine lv_aload_n hx hb dL_law_333 rfl (lv_at hl 3 rfl) ?_
  refine lv_iload_n hx hb dL_law_334 rfl (lv_at hl 0 rfl) ?_
  refine lv_iconst (v := 2) hx hb dL_law_335 (by decide) ?_
  refine lv_iadd hx hb dL_law_336 ?_
  refine lv_topi (fun y1_2 ey1_2 => ?_)
  refine va_sld hx hb hXs hbl hbA hS (sc_in ey1_2 hi hL (by decide)) dL_law_337 ?_
  refine lv_topi (fun z1_2 ez1_2 => ?_)
  have hFx : ∀ p : Nat, inL (xL a) H.size p → A p := fun p h => in_A hNx hA hS h
  refine va_calli (va_runV (As := [.int z1_1, .int z1_2]) (rest := []) ⟨hx, hb, hml, hown, hq⟩ (X_dish l dC dI _ kA vA a k q hQ hNx.tt x md ix hM z1_1 z1_2) (cwV 2 hq (gV qw_735 qw_736 qw_737 qw_119 qw_738) rfl rfl rfl (by decide +kernel) ⟨Nat.le_of_ble_eq_true rfl, Nat.le_of_ble_eq_true rfl⟩) ⟨fun ar U g mk h => by obtain ⟨q0, q1, qX, qK, qE, qT⟩ := h; exact ⟨q0, q1, qX, va_K.moved (u := U) (U := U.calling g mk ar) (Vm.Alike.refl U.vm) qK, xE.same rfl qE, xT.same rfl qT⟩, hX.recv hKx, fun U hU hW => ⟨rfl, by rw [hU], by rw [hU]; exact hX, va_K.moved hW.alike hKx, xE.warm hW hE, by rw [hU]; exact xT.call hW hT hS hFx⟩⟩ rfl rfl hl.1 rfl (lv_room (Nat.le_of_ble_eq_true rfl)) dL_law_338 ⟨Nat.le_of_ble_eq_true rfl, Nat.le_of_ble_eq_true rfl⟩) hS (fun p _ h => hFx p h) hFx (fun r_1 u1 t1 H1 locs ht1 hvm1 hw1 hB1 hz1 hk1 hS => ?_)
  have hX1 : xP dC dI a k q x md ix t1.heap := hB1
  rw [ht1] at hX1
  have hY := hY.keep hdm hk1
  refine lv_pop hx hb dL_law_341 rfl ?_
  refine lv_aload_n hx hb dL_law_342 rfl (lv_at hl 1 rfl) ?_
  refine lv_aload_n hx hb dL_law_343 rfl (lv_at hl 3 rfl) ?_
  refine lv_iload_n hx hb dL_law_344 rfl (lv_at hl 0 rfl) ?_
  refine lv_iconst (v := 1) hx hb dL_law_345 (by decide) ?_
  refine lv_iadd hx hb dL_law_346 ?_
  refine lv_topi (fun y2_1 ey2_1 => ?_)
  refine va_sld hx hb hXs hbl hbA hS (sc_in ey2_1 hi hL (by decide)) dL_law_347 ?_
  refine lv_topi (fun z2_1 ez2_1 => ?_)
  refine lv_aload_n hx hb dL_law_348 rfl (lv_at hl 3 rfl) ?_
  refine lv_iload_n hx hb dL_law_349 rfl (lv_at hl 0 rfl) ?_
  refine lv_iconst (v := 2) hx hb dL_law_350 (by decide) ?_
  refine lv_iadd hx hb dL_law_351 ?_
  refine lv_topi (fun y2_2 ey2_2 => ?_)
  refine va_sld hx hb hXs hbl hbA hS (sc_in ey2_2 hi hL (by decide)) dL_law_352 ?_
  refine lv_topi (fun z2_2 ez2_2 => ?_)
  have hFm : ∀ p : Nat, inL (mL a2) H1.size p → A p := fun p h => in_A hNm hA hS h
  refine va_calli (va_runV (As := [.int z2_1, .int z2_2]) (rest := []) ⟨hx, hb, hml, hown, hq⟩ (M_dish l dC dI _ a2 k2 q2 hNm.tt x md ix hM z2_1 z2_2) (cwV 2 hq (gV qw_1472 qw_1473 qw_1474 qw_131 qw_1475) rfl rfl rfl (by decide +kernel) ⟨Nat.le_of_ble_eq_true rfl, Nat.le_of_ble_eq_true rfl⟩) ⟨fun ar U g mk h => by obtain ⟨q0, q1, qX, qK, qE⟩ := h; exact ⟨q0, q1, qX, va_K.moved (u := U) (U := U.calling g mk ar) (Vm.Alike.refl U.vm) qK, xE.same rfl qE⟩, hY.recv hKm, fun U hU hW => ⟨rfl, by rw [hU], by rw [hU]; exact hY, va_K.moved hW.alike hKm, xE.warm hW hE⟩⟩ rfl rfl hl.1 rfl (lv_room (Nat.le_of_ble_eq_true rfl)) dL_law_353 ⟨Nat.le_of_ble_eq_true rfl, Nat.le_of_ble_eq_true rfl⟩) hS (fun p _ h => hFm p h) hFm (fun r_2 u2 t2 H2 locs ht2 hvm2 hw2 hB2 hz2 hk2 hS => ?_)
  have hY2 : mP dC dI a2 k2 q2 x md ix t2.heap := hB2
  rw [ht2] at hY2
  have hX2 := hX1.keep hdx hk2
  refine lv_pop hx hb dL_law_356 rfl ?_
  refine lv_goto (tgt := 1210) hx hb dL_law_357 (by decide) ?_
  exact hC _ _ _ _ _ hM hX2 hY2 hS

set_option maxHeartbeats 4000000 in
set_option maxRecDepth 100000 in
theorem law_6 {p : Program} {l : Launch} {e : Env} {s : State} {m : MethodId} {below : List Frame} {meth : Method} {c : Code} {A : Nat → Prop} {kA vA : Nat → Nat} {dC : Nat → ClassId} {dI : Nat → Nat → Nat} {b : Nat} {xs : Nat → Int32} {L : Nat} {a : Nat → Nat} {k : Nat → ClassId} {q : Nat → Nat → Option Nat} {a2 : Nat → Nat} {k2 : Nat → ClassId} {q2 : Nat → Nat → Option Nat} (C1 : lwC p s m meth c A kA vA dC dI b xs L a k q a2 k2) {x : Int32} {md ix : Nat → Int32} (hM : (∀ j : Nat, j < 4 → md j = 0 ∨ md j = 1)) {H : Heap} {locs : List Loc} (hX : xP dC dI a k q x md ix H) (hY : mP dC dI a2 k2 q2 x md ix H) (hS : va_S A s.heap H locs) {ls : Array Slot} {i : Int32} (hi : 0 ≤ i.toInt ∧ i.toInt + 6 ≤ (L : Int)) (hl : lv_has ls 4 [(3, .int i), (2, .ref (a2 0)), (1, .ref (a 0)), (0, .ref b)])
    (hC : ∀ (x : Int32) (md ix : Nat → Int32) (H : Heap) (locs : List Loc), (∀ j : Nat, j < 4 → md j = 0 ∨ md j = 1) → xP dC dI a k q x md ix H → mP dC dI a2 k2 q2 x md ix H → va_S A s.heap H locs → W p l e room_1 s m #[Value.ref b] below meth c H locs 152 8829 (lw_Z below #[Value.ref b] s) (F0 m 1210 ls [])) : W p l e room_1 s m #[Value.ref b] below meth c H locs 152 8829 (lw_Z below #[Value.ref b] s) (F0 m 360 ls []) := by
  obtain ⟨C0, hL, hA, hAq, hE, hT, hQ, hNx, hNm, hdx, hdm, hKx, hKm⟩ := C1
  obtain ⟨hx, hb, hr, hml, hown, hts, hXs, hbl, hlocks, hgv⟩ := id C0
  have hown : s.vm.findClass RL = some m.cls := hown
  have hq : ∀ w ∈ wsA, w.before _ s = true := fun w h => hts w (List.mem_filter.mp h).1
  have hbA : ¬ A b := fun h => Nat.not_le.mpr hbl (hAq b h)
  refine lv_aload_n hx hb dL_law_360 rfl (lv_at hl 2 rfl) ?_
  refine lv_aload_n hx hb dL_law_361 rfl (lv_at hl 3 rfl) ?_
  refine lv_iload_n hx hb dL_law_362 rfl (lv_at hl 0 rfl) ?_
  refine lv_iconst (v := 1) hx hb dL_law_363 (by decide) ?_
  refine lv_iadd hx hb dL_law_364 ?_
  refine lv_topi (fun y1_1 ey1_1 => ?_)
  refine va_sld hx hb hXs hbl hbA hS (sc_in ey1_1 hi hL (by decide)) dL_law_365 ?_
  refine lv_topi (fun z1_1 ez1_1 => ?_)
  refine lv_aload_n hx hb dL_law_366 rfl (lv_at hl 3 rfl) ?_
  refine lv_iload_n hx hb dL_law_367 rfl (lv_at hl 0 rfl) ?_
  refine lv_iconst (v := 2) hx hb dL_law_368 (by decide) ?_
  refine lv_iadd hx hb dL_law_369 ?_
  refine lv_topi (fun y1_2 ey1_2 => ?_)
  refine va_sld hx hb hXs hbl hbA hS (sc_in ey1_2 hi hL (by decide)) dL_law_370 ?_
  refine lv_topi (fun z1_2 ez1_2 => ?_)
  have hFx : ∀ p : Nat, inL (xL a) H.size p → A p := fun p h => in_A hNx hA hS h
  refine va_calli (va_runV (As := [.int z1_1, .int z1_2]) (rest := []) ⟨hx, hb, hml, hown, hq⟩ (X_guest l dC dI _ kA vA a k q hQ hNx.tt x md ix hM z1_1 z1_2) (cwV 2 hq (gV qw_758 qw_759 qw_760 qw_119 qw_761) rfl rfl rfl (by decide +kernel) ⟨Nat.le_of_ble_eq_true rfl, Nat.le_of_ble_eq_true rfl⟩) ⟨fun ar U g mk h => by obtain ⟨q0, q1, qX, qK, qE, qT⟩ := h; exact ⟨q0, q1, qX, va_K.moved (u := U) (U := U.calling g mk ar) (Vm.Alike.refl U.vm) qK, xE.same rfl qE, xT.same rfl qT⟩, hX.recv hKx, fun U hU hW => ⟨rfl, by rw [hU], by rw [hU]; exact hX, va_K.moved hW.alike hKx, xE.warm hW hE, by rw [hU]; exact xT.call hW hT hS hFx⟩⟩ rfl rfl hl.1 rfl (lv_room (Nat.le_of_ble_eq_true rfl)) dL_law_371 ⟨Nat.le_of_ble_eq_true rfl, Nat.le_of_ble_eq_true rfl⟩) hS (fun p _ h => hFx p h) hFx (fun r_1 u1 t1 H1 locs ht1 hvm1 hw1 hB1 hz1 hk1 hS => ?_)
  have hX1 : xP dC dI a k q x md ix t1.heap := hB1
  rw [ht1] at hX1
  have hY := hY.keep hdm hk1
  refine lv_pop hx hb dL_law_374 rfl ?_
  refine lv_aload_n hx hb dL_law_375 rfl (lv_at hl 1 rfl) ?_
  refine lv_aload_n hx hb dL_law_376 rfl (lv_at hl 3 rfl) ?_
  refine lv_iload_n hx hb dL_law_377 rfl (lv_at hl 0 rfl) ?_
  refine lv_iconst (v := 1) hx hb dL_law_378 (by decide) ?_
  refine lv_iadd hx hb dL_law_379 ?_
  refine lv_topi (fun y2_1 ey2_1 => ?_)
  refine va_sld hx hb hXs hbl hbA hS (sc_in ey2_1 hi hL (by decide)) dL_law_380 ?_
  refine lv_topi (fun z2_1 ez2_1 => ?_)
  refine lv_aload_n hx hb dL_law_381 rfl (lv_at hl 3 rfl) ?_
  refine lv_iload_n hx hb dL_law_382 rfl (lv_at hl 0 rfl) ?_
  refine lv_iconst (v := 2) hx hb dL_law_383 (by decide) ?_
  refine lv_iadd hx hb dL_law_384 ?_
  refine lv_topi (fun y2_2 ey2_2 => ?_)
  refine va_sld hx hb hXs hbl hbA hS (sc_in ey2_2 hi hL (by decide)) dL_law_385 ?_
  refine lv_topi (fun z2_2 ez2_2 => ?_)
  have hFm : ∀ p : Nat, inL (mL a2) H1.size p → A p := fun p h => in_A hNm hA hS h
  refine va_calli (va_runV (As := [.int z2_1, .int z2_2]) (rest := []) ⟨hx, hb, hml, hown, hq⟩ (M_guest l dC dI _ a2 k2 q2 hNm.tt x md ix hM z2_1 z2_2) (cwV 2 hq (gV qw_1481 qw_1482 qw_1483 qw_131 qw_1484) rfl rfl rfl (by decide +kernel) ⟨Nat.le_of_ble_eq_true rfl, Nat.le_of_ble_eq_true rfl⟩) ⟨fun ar U g mk h => by obtain ⟨q0, q1, qX, qK, qE⟩ := h; exact ⟨q0, q1, qX, va_K.moved (u := U) (U := U.calling g mk ar) (Vm.Alike.refl U.vm) qK, xE.same rfl qE⟩, hY.recv hKm, fun U hU hW => ⟨rfl, by rw [hU], by rw [hU]; exact hY, va_K.moved hW.alike hKm, xE.warm hW hE⟩⟩ rfl rfl hl.1 rfl (lv_room (Nat.le_of_ble_eq_true rfl)) dL_law_386 ⟨Nat.le_of_ble_eq_true rfl, Nat.le_of_ble_eq_true rfl⟩) hS (fun p _ h => hFm p h) hFm (fun r_2 u2 t2 H2 locs ht2 hvm2 hw2 hB2 hz2 hk2 hS => ?_)
  have hY2 : mP dC dI a2 k2 q2 x md ix t2.heap := hB2
  rw [ht2] at hY2
  have hX2 := hX1.keep hdx hk2
  refine lv_pop hx hb dL_law_389 rfl ?_
  refine lv_goto (tgt := 1210) hx hb dL_law_390 (by decide) ?_
  exact hC _ _ _ _ _ hM hX2 hY2 hS

set_option maxHeartbeats 4000000 in
set_option maxRecDepth 100000 in
theorem law_7 {p : Program} {l : Launch} {e : Env} {s : State} {m : MethodId} {below : List Frame} {meth : Method} {c : Code} {A : Nat → Prop} {kA vA : Nat → Nat} {dC : Nat → ClassId} {dI : Nat → Nat → Nat} {b : Nat} {xs : Nat → Int32} {L : Nat} {a : Nat → Nat} {k : Nat → ClassId} {q : Nat → Nat → Option Nat} {a2 : Nat → Nat} {k2 : Nat → ClassId} {q2 : Nat → Nat → Option Nat} (C1 : lwC p s m meth c A kA vA dC dI b xs L a k q a2 k2) {x : Int32} {md ix : Nat → Int32} (hM : (∀ j : Nat, j < 4 → md j = 0 ∨ md j = 1)) {H : Heap} {locs : List Loc} (hX : xP dC dI a k q x md ix H) (hY : mP dC dI a2 k2 q2 x md ix H) (hS : va_S A s.heap H locs) {ls : Array Slot} {i : Int32} (hi : 0 ≤ i.toInt ∧ i.toInt + 6 ≤ (L : Int)) (hl : lv_has ls 4 [(3, .int i), (2, .ref (a2 0)), (1, .ref (a 0)), (0, .ref b)])
    (hC : ∀ (x : Int32) (md ix : Nat → Int32) (H : Heap) (locs : List Loc), (∀ j : Nat, j < 4 → md j = 0 ∨ md j = 1) → xP dC dI a k q x md ix H → mP dC dI a2 k2 q2 x md ix H → va_S A s.heap H locs → W p l e room_1 s m #[Value.ref b] below meth c H locs 152 8829 (lw_Z below #[Value.ref b] s) (F0 m 1210 ls [])) : W p l e room_1 s m #[Value.ref b] below meth c H locs 152 8829 (lw_Z below #[Value.ref b] s) (F0 m 393 ls []) := by
  obtain ⟨C0, hL, hA, hAq, hE, hT, hQ, hNx, hNm, hdx, hdm, hKx, hKm⟩ := C1
  obtain ⟨hx, hb, hr, hml, hown, hts, hXs, hbl, hlocks, hgv⟩ := id C0
  have hown : s.vm.findClass RL = some m.cls := hown
  have hq : ∀ w ∈ wsA, w.before _ s = true := fun w h => hts w (List.mem_filter.mp h).1
  have hbA : ¬ A b := fun h => Nat.not_le.mpr hbl (hAq b h)
  refine lv_aload_n hx hb dL_law_393 rfl (lv_at hl 2 rfl) ?_
  refine lv_aload_n hx hb dL_law_394 rfl (lv_at hl 3 rfl) ?_
  refine lv_iload_n hx hb dL_law_395 rfl (lv_at hl 0 rfl) ?_
  refine lv_iconst (v := 1) hx hb dL_law_396 (by decide) ?_
  refine lv_iadd hx hb dL_law_397 ?_
  refine lv_topi (fun y1_1 ey1_1 => ?_)
  refine va_sld hx hb hXs hbl hbA hS (sc_in ey1_1 hi hL (by decide)) dL_law_398 ?_
  refine lv_topi (fun z1_1 ez1_1 => ?_)
  have hFx : ∀ p : Nat, inL (xL a) H.size p → A p := fun p h => in_A hNx hA hS h
  refine va_calli (va_runV (As := [.int z1_1]) (rest := []) ⟨hx, hb, hml, hown, hq⟩ (X_clashes l dC dI _ kA vA a k q hQ hNx.tt x md ix hM z1_1) (cwV 1 hq (gV qw_774 qw_775 qw_776 qw_119 qw_777) rfl rfl rfl (by decide +kernel) ⟨Nat.le_of_ble_eq_true rfl, Nat.le_of_ble_eq_true rfl⟩) ⟨fun ar U g mk h => by obtain ⟨q0, q1, qX, qK, qE, qT⟩ := h; exact ⟨q0, q1, qX, va_K.moved (u := U) (U := U.calling g mk ar) (Vm.Alike.refl U.vm) qK, xE.same rfl qE, xT.same rfl qT⟩, hX.recv hKx, fun U hU hW => ⟨rfl, by rw [hU], by rw [hU]; exact hX, va_K.moved hW.alike hKx, xE.warm hW hE, by rw [hU]; exact xT.call hW hT hS hFx⟩⟩ rfl rfl hl.1 rfl (lv_room (Nat.le_of_ble_eq_true rfl)) dL_law_399 ⟨Nat.le_of_ble_eq_true rfl, Nat.le_of_ble_eq_true rfl⟩) hS (fun p _ h => hFx p h) hFx (fun r_1 u1 t1 H1 locs ht1 hvm1 hw1 hB1 hz1 hk1 hS => ?_)
  have hX1 : xP dC dI a k q x md ix t1.heap := hB1
  rw [ht1] at hX1
  have hY := hY.keep hdm hk1
  refine lv_pop hx hb dL_law_402 rfl ?_
  refine lv_aload_n hx hb dL_law_403 rfl (lv_at hl 1 rfl) ?_
  refine lv_aload_n hx hb dL_law_404 rfl (lv_at hl 3 rfl) ?_
  refine lv_iload_n hx hb dL_law_405 rfl (lv_at hl 0 rfl) ?_
  refine lv_iconst (v := 1) hx hb dL_law_406 (by decide) ?_
  refine lv_iadd hx hb dL_law_407 ?_
  refine lv_topi (fun y2_1 ey2_1 => ?_)
  refine va_sld hx hb hXs hbl hbA hS (sc_in ey2_1 hi hL (by decide)) dL_law_408 ?_
  refine lv_topi (fun z2_1 ez2_1 => ?_)
  have hFm : ∀ p : Nat, inL (mL a2) H1.size p → A p := fun p h => in_A hNm hA hS h
  refine va_calli (va_runV (As := [.int z2_1]) (rest := []) ⟨hx, hb, hml, hown, hq⟩ (M_clashes l dC dI _ a2 k2 q2 hNm.tt x md ix hM z2_1) (cwV 1 hq (gV qw_1489 qw_1490 qw_1491 qw_131 qw_1492) rfl rfl rfl (by decide +kernel) ⟨Nat.le_of_ble_eq_true rfl, Nat.le_of_ble_eq_true rfl⟩) ⟨fun ar U g mk h => by obtain ⟨q0, q1, qX, qK, qE⟩ := h; exact ⟨q0, q1, qX, va_K.moved (u := U) (U := U.calling g mk ar) (Vm.Alike.refl U.vm) qK, xE.same rfl qE⟩, hY.recv hKm, fun U hU hW => ⟨rfl, by rw [hU], by rw [hU]; exact hY, va_K.moved hW.alike hKm, xE.warm hW hE⟩⟩ rfl rfl hl.1 rfl (lv_room (Nat.le_of_ble_eq_true rfl)) dL_law_409 ⟨Nat.le_of_ble_eq_true rfl, Nat.le_of_ble_eq_true rfl⟩) hS (fun p _ h => hFm p h) hFm (fun r_2 u2 t2 H2 locs ht2 hvm2 hw2 hB2 hz2 hk2 hS => ?_)
  have hY2 : mP dC dI a2 k2 q2 x md ix t2.heap := hB2
  rw [ht2] at hY2
  have hX2 := hX1.keep hdx hk2
  refine lv_pop hx hb dL_law_412 rfl ?_
  refine lv_goto (tgt := 1210) hx hb dL_law_413 (by decide) ?_
  exact hC _ _ _ _ _ hM hX2 hY2 hS

set_option maxHeartbeats 4000000 in
set_option maxRecDepth 100000 in
theorem law_8 {p : Program} {l : Launch} {e : Env} {s : State} {m : MethodId} {below : List Frame} {meth : Method} {c : Code} {A : Nat → Prop} {kA vA : Nat → Nat} {dC : Nat → ClassId} {dI : Nat → Nat → Nat} {b : Nat} {xs : Nat → Int32} {L : Nat} {a : Nat → Nat} {k : Nat → ClassId} {q : Nat → Nat → Option Nat} {a2 : Nat → Nat} {k2 : Nat → ClassId} {q2 : Nat → Nat → Option Nat} (C1 : lwC p s m meth c A kA vA dC dI b xs L a k q a2 k2) {x : Int32} {md ix : Nat → Int32} (hM : (∀ j : Nat, j < 4 → md j = 0 ∨ md j = 1)) {H : Heap} {locs : List Loc} (hX : xP dC dI a k q x md ix H) (hY : mP dC dI a2 k2 q2 x md ix H) (hS : va_S A s.heap H locs) {ls : Array Slot} {i : Int32} (hi : 0 ≤ i.toInt ∧ i.toInt + 6 ≤ (L : Int)) (hl : lv_has ls 4 [(3, .int i), (2, .ref (a2 0)), (1, .ref (a 0)), (0, .ref b)])
    (hC : ∀ (x : Int32) (md ix : Nat → Int32) (H : Heap) (locs : List Loc), (∀ j : Nat, j < 4 → md j = 0 ∨ md j = 1) → xP dC dI a k q x md ix H → mP dC dI a2 k2 q2 x md ix H → va_S A s.heap H locs → W p l e room_1 s m #[Value.ref b] below meth c H locs 152 8829 (lw_Z below #[Value.ref b] s) (F0 m 1210 ls [])) : W p l e room_1 s m #[Value.ref b] below meth c H locs 152 8829 (lw_Z below #[Value.ref b] s) (F0 m 416 ls []) := by
  obtain ⟨C0, hL, hA, hAq, hE, hT, hQ, hNx, hNm, hdx, hdm, hKx, hKm⟩ := C1
  obtain ⟨hx, hb, hr, hml, hown, hts, hXs, hbl, hlocks, hgv⟩ := id C0
  have hown : s.vm.findClass RL = some m.cls := hown
  have hq : ∀ w ∈ wsA, w.before _ s = true := fun w h => hts w (List.mem_filter.mp h).1
  have hbA : ¬ A b := fun h => Nat.not_le.mpr hbl (hAq b h)
  refine lv_aload_n hx hb dL_law_416 rfl (lv_at hl 2 rfl) ?_
  refine lv_aload_n hx hb dL_law_417 rfl (lv_at hl 3 rfl) ?_
  refine lv_iload_n hx hb dL_law_418 rfl (lv_at hl 0 rfl) ?_
  refine lv_iconst (v := 1) hx hb dL_law_419 (by decide) ?_
  refine lv_iadd hx hb dL_law_420 ?_
  refine lv_topi (fun y1_1 ey1_1 => ?_)
  refine va_sld hx hb hXs hbl hbA hS (sc_in ey1_1 hi hL (by decide)) dL_law_421 ?_
  refine lv_topi (fun z1_1 ez1_1 => ?_)
  have hFx : ∀ p : Nat, inL (xL a) H.size p → A p := fun p h => in_A hNx hA hS h
  refine va_calli (va_runV (As := [.int z1_1]) (rest := []) ⟨hx, hb, hml, hown, hq⟩ (X_throat l dC dI _ kA vA a k q hQ hNx.tt x md ix hM z1_1) (cwV 1 hq (gV qw_785 qw_786 qw_787 qw_119 qw_788) rfl rfl rfl (by decide +kernel) ⟨Nat.le_of_ble_eq_true rfl, Nat.le_of_ble_eq_true rfl⟩) ⟨fun ar U g mk h => by obtain ⟨q0, q1, qX, qK, qE, qT⟩ := h; exact ⟨q0, q1, qX, va_K.moved (u := U) (U := U.calling g mk ar) (Vm.Alike.refl U.vm) qK, xE.same rfl qE, xT.same rfl qT⟩, hX.recv hKx, fun U hU hW => ⟨rfl, by rw [hU], by rw [hU]; exact hX, va_K.moved hW.alike hKx, xE.warm hW hE, by rw [hU]; exact xT.call hW hT hS hFx⟩⟩ rfl rfl hl.1 rfl (lv_room (Nat.le_of_ble_eq_true rfl)) dL_law_422 ⟨Nat.le_of_ble_eq_true rfl, Nat.le_of_ble_eq_true rfl⟩) hS (fun p _ h => hFx p h) hFx (fun r_1 u1 t1 H1 locs ht1 hvm1 hw1 hB1 hz1 hk1 hS => ?_)
  have hX1 : xP dC dI a k q x md ix t1.heap := hB1
  rw [ht1] at hX1
  have hY := hY.keep hdm hk1
  refine lv_pop hx hb dL_law_425 rfl ?_
  refine lv_aload_n hx hb dL_law_426 rfl (lv_at hl 1 rfl) ?_
  refine lv_aload_n hx hb dL_law_427 rfl (lv_at hl 3 rfl) ?_
  refine lv_iload_n hx hb dL_law_428 rfl (lv_at hl 0 rfl) ?_
  refine lv_iconst (v := 1) hx hb dL_law_429 (by decide) ?_
  refine lv_iadd hx hb dL_law_430 ?_
  refine lv_topi (fun y2_1 ey2_1 => ?_)
  refine va_sld hx hb hXs hbl hbA hS (sc_in ey2_1 hi hL (by decide)) dL_law_431 ?_
  refine lv_topi (fun z2_1 ez2_1 => ?_)
  have hFm : ∀ p : Nat, inL (mL a2) H1.size p → A p := fun p h => in_A hNm hA hS h
  refine va_calli (va_runV (As := [.int z2_1]) (rest := []) ⟨hx, hb, hml, hown, hq⟩ (M_throat l dC dI _ a2 k2 q2 hNm.tt x md ix hM z2_1) (cwV 1 hq (gV qw_1502 qw_1503 qw_1504 qw_131 qw_1505) rfl rfl rfl (by decide +kernel) ⟨Nat.le_of_ble_eq_true rfl, Nat.le_of_ble_eq_true rfl⟩) ⟨fun ar U g mk h => by obtain ⟨q0, q1, qX, qK, qE⟩ := h; exact ⟨q0, q1, qX, va_K.moved (u := U) (U := U.calling g mk ar) (Vm.Alike.refl U.vm) qK, xE.same rfl qE⟩, hY.recv hKm, fun U hU hW => ⟨rfl, by rw [hU], by rw [hU]; exact hY, va_K.moved hW.alike hKm, xE.warm hW hE⟩⟩ rfl rfl hl.1 rfl (lv_room (Nat.le_of_ble_eq_true rfl)) dL_law_432 ⟨Nat.le_of_ble_eq_true rfl, Nat.le_of_ble_eq_true rfl⟩) hS (fun p _ h => hFm p h) hFm (fun r_2 u2 t2 H2 locs ht2 hvm2 hw2 hB2 hz2 hk2 hS => ?_)
  have hY2 : mP dC dI a2 k2 q2 x md ix t2.heap := hB2
  rw [ht2] at hY2
  have hX2 := hX1.keep hdx hk2
  refine lv_pop hx hb dL_law_435 rfl ?_
  refine lv_goto (tgt := 1210) hx hb dL_law_436 (by decide) ?_
  exact hC _ _ _ _ _ hM hX2 hY2 hS

set_option maxHeartbeats 4000000 in
set_option maxRecDepth 100000 in
theorem law_9 {p : Program} {l : Launch} {e : Env} {s : State} {m : MethodId} {below : List Frame} {meth : Method} {c : Code} {A : Nat → Prop} {kA vA : Nat → Nat} {dC : Nat → ClassId} {dI : Nat → Nat → Nat} {b : Nat} {xs : Nat → Int32} {L : Nat} {a : Nat → Nat} {k : Nat → ClassId} {q : Nat → Nat → Option Nat} {a2 : Nat → Nat} {k2 : Nat → ClassId} {q2 : Nat → Nat → Option Nat} (C1 : lwC p s m meth c A kA vA dC dI b xs L a k q a2 k2) {x : Int32} {md ix : Nat → Int32} (hM : (∀ j : Nat, j < 4 → md j = 0 ∨ md j = 1)) {H : Heap} {locs : List Loc} (hX : xP dC dI a k q x md ix H) (hY : mP dC dI a2 k2 q2 x md ix H) (hS : va_S A s.heap H locs) {ls : Array Slot} {i : Int32} (hi : 0 ≤ i.toInt ∧ i.toInt + 6 ≤ (L : Int)) (hl : lv_has ls 4 [(3, .int i), (2, .ref (a2 0)), (1, .ref (a 0)), (0, .ref b)])
    (hC : ∀ (x : Int32) (md ix : Nat → Int32) (H : Heap) (locs : List Loc), (∀ j : Nat, j < 4 → md j = 0 ∨ md j = 1) → xP dC dI a k q x md ix H → mP dC dI a2 k2 q2 x md ix H → va_S A s.heap H locs → W p l e room_1 s m #[Value.ref b] below meth c H locs 152 8829 (lw_Z below #[Value.ref b] s) (F0 m 1210 ls [])) : W p l e room_1 s m #[Value.ref b] below meth c H locs 152 8829 (lw_Z below #[Value.ref b] s) (F0 m 439 ls []) := by
  obtain ⟨C0, hL, hA, hAq, hE, hT, hQ, hNx, hNm, hdx, hdm, hKx, hKm⟩ := C1
  obtain ⟨hx, hb, hr, hml, hown, hts, hXs, hbl, hlocks, hgv⟩ := id C0
  have hown : s.vm.findClass RL = some m.cls := hown
  have hq : ∀ w ∈ wsA, w.before _ s = true := fun w h => hts w (List.mem_filter.mp h).1
  have hbA : ¬ A b := fun h => Nat.not_le.mpr hbl (hAq b h)
  refine lv_aload_n hx hb dL_law_439 rfl (lv_at hl 2 rfl) ?_
  have hFx : ∀ p : Nat, inL (xL a) H.size p → A p := fun p h => in_A hNx hA hS h
  refine va_calli (va_runV (As := []) (rest := []) ⟨hx, hb, hml, hown, hq⟩ (X_minute l dC dI _ kA vA a k q hQ hNx.tt x md ix hM ) (cwV 0 hq (gV qw_790 qw_791 qw_792 qw_119 qw_793) rfl rfl rfl (by decide +kernel) ⟨Nat.le_of_ble_eq_true rfl, Nat.le_of_ble_eq_true rfl⟩) ⟨fun ar U g mk h => by obtain ⟨q0, q1, qX, qK, qE, qT⟩ := h; exact ⟨q0, q1, qX, va_K.moved (u := U) (U := U.calling g mk ar) (Vm.Alike.refl U.vm) qK, xE.same rfl qE, xT.same rfl qT⟩, hX.recv hKx, fun U hU hW => ⟨rfl, by rw [hU], by rw [hU]; exact hX, va_K.moved hW.alike hKx, xE.warm hW hE, by rw [hU]; exact xT.call hW hT hS hFx⟩⟩ rfl rfl hl.1 rfl (lv_room (Nat.le_of_ble_eq_true rfl)) dL_law_440 ⟨Nat.le_of_ble_eq_true rfl, Nat.le_of_ble_eq_true rfl⟩) hS (fun p _ h => hFx p h) hFx (fun r_1 u1 t1 H1 locs ht1 hvm1 hw1 hB1 hz1 hk1 hS => ?_)
  have hX1 : xP dC dI a k q x md ix t1.heap := hB1
  rw [ht1] at hX1
  have hY := hY.keep hdm hk1
  refine lv_pop hx hb dL_law_443 rfl ?_
  refine lv_aload_n hx hb dL_law_444 rfl (lv_at hl 1 rfl) ?_
  have hFm : ∀ p : Nat, inL (mL a2) H1.size p → A p := fun p h => in_A hNm hA hS h
  refine va_calli (va_runV (As := []) (rest := []) ⟨hx, hb, hml, hown, hq⟩ (M_minute l dC dI _ a2 k2 q2 hNm.tt x md ix hM ) (cwV 0 hq (gV qw_1514 qw_1515 qw_1516 qw_131 qw_1517) rfl rfl rfl (by decide +kernel) ⟨Nat.le_of_ble_eq_true rfl, Nat.le_of_ble_eq_true rfl⟩) ⟨fun ar U g mk h => by obtain ⟨q0, q1, qX, qK, qE⟩ := h; exact ⟨q0, q1, qX, va_K.moved (u := U) (U := U.calling g mk ar) (Vm.Alike.refl U.vm) qK, xE.same rfl qE⟩, hY.recv hKm, fun U hU hW => ⟨rfl, by rw [hU], by rw [hU]; exact hY, va_K.moved hW.alike hKm, xE.warm hW hE⟩⟩ rfl rfl hl.1 rfl (lv_room (Nat.le_of_ble_eq_true rfl)) dL_law_445 ⟨Nat.le_of_ble_eq_true rfl, Nat.le_of_ble_eq_true rfl⟩) hS (fun p _ h => hFm p h) hFm (fun r_2 u2 t2 H2 locs ht2 hvm2 hw2 hB2 hz2 hk2 hS => ?_)
  have hY2 : mP dC dI a2 k2 q2 x md ix t2.heap := hB2
  rw [ht2] at hY2
  have hX2 := hX1.keep hdx hk2
  refine lv_pop hx hb dL_law_448 rfl ?_
  refine lv_goto (tgt := 1210) hx hb dL_law_449 (by decide) ?_
  exact hC _ _ _ _ _ hM hX2 hY2 hS

set_option maxHeartbeats 4000000 in
set_option maxRecDepth 100000 in
theorem law_10 {p : Program} {l : Launch} {e : Env} {s : State} {m : MethodId} {below : List Frame} {meth : Method} {c : Code} {A : Nat → Prop} {kA vA : Nat → Nat} {dC : Nat → ClassId} {dI : Nat → Nat → Nat} {b : Nat} {xs : Nat → Int32} {L : Nat} {a : Nat → Nat} {k : Nat → ClassId} {q : Nat → Nat → Option Nat} {a2 : Nat → Nat} {k2 : Nat → ClassId} {q2 : Nat → Nat → Option Nat} (C1 : lwC p s m meth c A kA vA dC dI b xs L a k q a2 k2) {x : Int32} {md ix : Nat → Int32} (hM : (∀ j : Nat, j < 4 → md j = 0 ∨ md j = 1)) {H : Heap} {locs : List Loc} (hX : xP dC dI a k q x md ix H) (hY : mP dC dI a2 k2 q2 x md ix H) (hS : va_S A s.heap H locs) {ls : Array Slot} {i : Int32} (hi : 0 ≤ i.toInt ∧ i.toInt + 6 ≤ (L : Int)) (hl : lv_has ls 4 [(3, .int i), (2, .ref (a2 0)), (1, .ref (a 0)), (0, .ref b)])
    (hC : ∀ (x : Int32) (md ix : Nat → Int32) (H : Heap) (locs : List Loc), (∀ j : Nat, j < 4 → md j = 0 ∨ md j = 1) → xP dC dI a k q x md ix H → mP dC dI a2 k2 q2 x md ix H → va_S A s.heap H locs → W p l e room_1 s m #[Value.ref b] below meth c H locs 152 8829 (lw_Z below #[Value.ref b] s) (F0 m 1210 ls [])) : W p l e room_1 s m #[Value.ref b] below meth c H locs 152 8829 (lw_Z below #[Value.ref b] s) (F0 m 452 ls []) := by
  obtain ⟨C0, hL, hA, hAq, hE, hT, hQ, hNx, hNm, hdx, hdm, hKx, hKm⟩ := C1
  obtain ⟨hx, hb, hr, hml, hown, hts, hXs, hbl, hlocks, hgv⟩ := id C0
  have hown : s.vm.findClass RL = some m.cls := hown
  have hq : ∀ w ∈ wsA, w.before _ s = true := fun w h => hts w (List.mem_filter.mp h).1
  have hbA : ¬ A b := fun h => Nat.not_le.mpr hbl (hAq b h)
  refine lv_aload_n hx hb dL_law_452 rfl (lv_at hl 2 rfl) ?_
  refine lv_aload_n hx hb dL_law_453 rfl (lv_at hl 3 rfl) ?_
  refine lv_iload_n hx hb dL_law_454 rfl (lv_at hl 0 rfl) ?_
  refine lv_iconst (v := 1) hx hb dL_law_455 (by decide) ?_
  refine lv_iadd hx hb dL_law_456 ?_
  refine lv_topi (fun y1_1 ey1_1 => ?_)
  refine va_sld hx hb hXs hbl hbA hS (sc_in ey1_1 hi hL (by decide)) dL_law_457 ?_
  refine lv_topi (fun z1_1 ez1_1 => ?_)
  have hFx : ∀ p : Nat, inL (xL a) H.size p → A p := fun p h => in_A hNx hA hS h
  refine va_calli (va_runV (As := [.int z1_1]) (rest := []) ⟨hx, hb, hml, hown, hq⟩ (X_offer l dC dI _ kA vA a k q hQ hNx.tt x md ix hM z1_1) (cwV 1 hq (gV qw_890 qw_891 qw_892 qw_119 qw_893) rfl rfl rfl (by decide +kernel) ⟨Nat.le_of_ble_eq_true rfl, Nat.le_of_ble_eq_true rfl⟩) ⟨fun ar U g mk h => by obtain ⟨q0, q1, qX, qK, qE, qT⟩ := h; exact ⟨q0, q1, qX, va_K.moved (u := U) (U := U.calling g mk ar) (Vm.Alike.refl U.vm) qK, xE.same rfl qE, xT.same rfl qT⟩, hX.recv hKx, fun U hU hW => ⟨rfl, by rw [hU], by rw [hU]; exact hX, va_K.moved hW.alike hKx, xE.warm hW hE, by rw [hU]; exact xT.call hW hT hS hFx⟩⟩ rfl rfl hl.1 rfl (lv_room (Nat.le_of_ble_eq_true rfl)) dL_law_458 ⟨Nat.le_of_ble_eq_true rfl, Nat.le_of_ble_eq_true rfl⟩) hS (fun p _ h => hFx p h) hFx (fun r_1 u1 t1 H1 locs ht1 hvm1 hw1 hB1 hz1 hk1 hS => ?_)
  have hX1 : xP dC dI a k q x md ix t1.heap := hB1
  rw [ht1] at hX1
  have hY := hY.keep hdm hk1
  refine lv_pop hx hb dL_law_461 rfl ?_
  refine lv_aload_n hx hb dL_law_462 rfl (lv_at hl 1 rfl) ?_
  refine lv_aload_n hx hb dL_law_463 rfl (lv_at hl 3 rfl) ?_
  refine lv_iload_n hx hb dL_law_464 rfl (lv_at hl 0 rfl) ?_
  refine lv_iconst (v := 1) hx hb dL_law_465 (by decide) ?_
  refine lv_iadd hx hb dL_law_466 ?_
  refine lv_topi (fun y2_1 ey2_1 => ?_)
  refine va_sld hx hb hXs hbl hbA hS (sc_in ey2_1 hi hL (by decide)) dL_law_467 ?_
  refine lv_topi (fun z2_1 ez2_1 => ?_)
  have hFm : ∀ p : Nat, inL (mL a2) H1.size p → A p := fun p h => in_A hNm hA hS h
  refine va_calli (va_runV (As := [.int z2_1]) (rest := []) ⟨hx, hb, hml, hown, hq⟩ (M_offer l dC dI _ a2 k2 q2 hNm.tt x md ix hM z2_1) (cwV 1 hq (gV qw_1599 qw_1600 qw_1601 qw_131 qw_1602) rfl rfl rfl (by decide +kernel) ⟨Nat.le_of_ble_eq_true rfl, Nat.le_of_ble_eq_true rfl⟩) ⟨fun ar U g mk h => by obtain ⟨q0, q1, qX, qK, qE⟩ := h; exact ⟨q0, q1, qX, va_K.moved (u := U) (U := U.calling g mk ar) (Vm.Alike.refl U.vm) qK, xE.same rfl qE⟩, hY.recv hKm, fun U hU hW => ⟨rfl, by rw [hU], by rw [hU]; exact hY, va_K.moved hW.alike hKm, xE.warm hW hE⟩⟩ rfl rfl hl.1 rfl (lv_room (Nat.le_of_ble_eq_true rfl)) dL_law_468 ⟨Nat.le_of_ble_eq_true rfl, Nat.le_of_ble_eq_true rfl⟩) hS (fun p _ h => hFm p h) hFm (fun r_2 u2 t2 H2 locs ht2 hvm2 hw2 hB2 hz2 hk2 hS => ?_)
  have hY2 : mP dC dI a2 k2 q2 x md ix t2.heap := hB2
  rw [ht2] at hY2
  have hX2 := hX1.keep hdx hk2
  refine lv_pop hx hb dL_law_471 rfl ?_
  refine lv_goto (tgt := 1210) hx hb dL_law_472 (by decide) ?_
  exact hC _ _ _ _ _ hM hX2 hY2 hS

set_option maxHeartbeats 4000000 in
set_option maxRecDepth 100000 in
theorem law_11 {p : Program} {l : Launch} {e : Env} {s : State} {m : MethodId} {below : List Frame} {meth : Method} {c : Code} {A : Nat → Prop} {kA vA : Nat → Nat} {dC : Nat → ClassId} {dI : Nat → Nat → Nat} {b : Nat} {xs : Nat → Int32} {L : Nat} {a : Nat → Nat} {k : Nat → ClassId} {q : Nat → Nat → Option Nat} {a2 : Nat → Nat} {k2 : Nat → ClassId} {q2 : Nat → Nat → Option Nat} (C1 : lwC p s m meth c A kA vA dC dI b xs L a k q a2 k2) {x : Int32} {md ix : Nat → Int32} (hM : (∀ j : Nat, j < 4 → md j = 0 ∨ md j = 1)) {H : Heap} {locs : List Loc} (hX : xP dC dI a k q x md ix H) (hY : mP dC dI a2 k2 q2 x md ix H) (hS : va_S A s.heap H locs) {ls : Array Slot} {i : Int32} (hi : 0 ≤ i.toInt ∧ i.toInt + 6 ≤ (L : Int)) (hl : lv_has ls 4 [(3, .int i), (2, .ref (a2 0)), (1, .ref (a 0)), (0, .ref b)])
    (hC : ∀ (x : Int32) (md ix : Nat → Int32) (H : Heap) (locs : List Loc), (∀ j : Nat, j < 4 → md j = 0 ∨ md j = 1) → xP dC dI a k q x md ix H → mP dC dI a2 k2 q2 x md ix H → va_S A s.heap H locs → W p l e room_1 s m #[Value.ref b] below meth c H locs 152 8829 (lw_Z below #[Value.ref b] s) (F0 m 1210 ls [])) : W p l e room_1 s m #[Value.ref b] below meth c H locs 152 8829 (lw_Z below #[Value.ref b] s) (F0 m 475 ls []) := by
  obtain ⟨C0, hL, hA, hAq, hE, hT, hQ, hNx, hNm, hdx, hdm, hKx, hKm⟩ := C1
  obtain ⟨hx, hb, hr, hml, hown, hts, hXs, hbl, hlocks, hgv⟩ := id C0
  have hown : s.vm.findClass RL = some m.cls := hown
  have hq : ∀ w ∈ wsA, w.before _ s = true := fun w h => hts w (List.mem_filter.mp h).1
  have hbA : ¬ A b := fun h => Nat.not_le.mpr hbl (hAq b h)
  refine lv_aload_n hx hb dL_law_475 rfl (lv_at hl 2 rfl) ?_
  refine lv_aload_n hx hb dL_law_476 rfl (lv_at hl 3 rfl) ?_
  refine lv_iload_n hx hb dL_law_477 rfl (lv_at hl 0 rfl) ?_
  refine lv_iconst (v := 1) hx hb dL_law_478 (by decide) ?_
  refine lv_iadd hx hb dL_law_479 ?_
  refine lv_topi (fun y1_1 ey1_1 => ?_)
  refine va_sld hx hb hXs hbl hbA hS (sc_in ey1_1 hi hL (by decide)) dL_law_480 ?_
  refine lv_topi (fun z1_1 ez1_1 => ?_)
  have hFx : ∀ p : Nat, inL (xL a) H.size p → A p := fun p h => in_A hNx hA hS h
  refine va_calli (va_runV (As := [.int z1_1]) (rest := []) ⟨hx, hb, hml, hown, hq⟩ (X_serve l dC dI _ kA vA a k q hQ hNx.tt x md ix hM z1_1) (cwV 1 hq (gV qw_894 qw_895 qw_896 qw_119 qw_897) rfl rfl rfl (by decide +kernel) ⟨Nat.le_of_ble_eq_true rfl, Nat.le_of_ble_eq_true rfl⟩) ⟨fun ar U g mk h => by obtain ⟨q0, q1, qX, qK, qE, qT⟩ := h; exact ⟨q0, q1, qX, va_K.moved (u := U) (U := U.calling g mk ar) (Vm.Alike.refl U.vm) qK, xE.same rfl qE, xT.same rfl qT⟩, hX.recv hKx, fun U hU hW => ⟨rfl, by rw [hU], by rw [hU]; exact hX, va_K.moved hW.alike hKx, xE.warm hW hE, by rw [hU]; exact xT.call hW hT hS hFx⟩⟩ rfl rfl hl.1 rfl (lv_room (Nat.le_of_ble_eq_true rfl)) dL_law_481 ⟨Nat.le_of_ble_eq_true rfl, Nat.le_of_ble_eq_true rfl⟩) hS (fun p _ h => hFx p h) hFx (fun r_1 u1 t1 H1 locs ht1 hvm1 hw1 hB1 hz1 hk1 hS => ?_)
  have hX1 : xP dC dI a k q x md ix t1.heap := hB1
  rw [ht1] at hX1
  have hY := hY.keep hdm hk1
  refine lv_pop hx hb dL_law_484 rfl ?_
  refine lv_aload_n hx hb dL_law_485 rfl (lv_at hl 1 rfl) ?_
  refine lv_aload_n hx hb dL_law_486 rfl (lv_at hl 3 rfl) ?_
  refine lv_iload_n hx hb dL_law_487 rfl (lv_at hl 0 rfl) ?_
  refine lv_iconst (v := 1) hx hb dL_law_488 (by decide) ?_
  refine lv_iadd hx hb dL_law_489 ?_
  refine lv_topi (fun y2_1 ey2_1 => ?_)
  refine va_sld hx hb hXs hbl hbA hS (sc_in ey2_1 hi hL (by decide)) dL_law_490 ?_
  refine lv_topi (fun z2_1 ez2_1 => ?_)
  have hFm : ∀ p : Nat, inL (mL a2) H1.size p → A p := fun p h => in_A hNm hA hS h
  refine va_calli (va_runV (As := [.int z2_1]) (rest := []) ⟨hx, hb, hml, hown, hq⟩ (M_serve l dC dI _ a2 k2 q2 hNm.tt x md ix hM z2_1) (cwV 1 hq (gV qw_1603 qw_1604 qw_1605 qw_131 qw_1606) rfl rfl rfl (by decide +kernel) ⟨Nat.le_of_ble_eq_true rfl, Nat.le_of_ble_eq_true rfl⟩) ⟨fun ar U g mk h => by obtain ⟨q0, q1, qX, qK, qE⟩ := h; exact ⟨q0, q1, qX, va_K.moved (u := U) (U := U.calling g mk ar) (Vm.Alike.refl U.vm) qK, xE.same rfl qE⟩, hY.recv hKm, fun U hU hW => ⟨rfl, by rw [hU], by rw [hU]; exact hY, va_K.moved hW.alike hKm, xE.warm hW hE⟩⟩ rfl rfl hl.1 rfl (lv_room (Nat.le_of_ble_eq_true rfl)) dL_law_491 ⟨Nat.le_of_ble_eq_true rfl, Nat.le_of_ble_eq_true rfl⟩) hS (fun p _ h => hFm p h) hFm (fun r_2 u2 t2 H2 locs ht2 hvm2 hw2 hB2 hz2 hk2 hS => ?_)
  have hY2 : mP dC dI a2 k2 q2 x md ix t2.heap := hB2
  rw [ht2] at hY2
  have hX2 := hX1.keep hdx hk2
  refine lv_pop hx hb dL_law_494 rfl ?_
  refine lv_goto (tgt := 1210) hx hb dL_law_495 (by decide) ?_
  exact hC _ _ _ _ _ hM hX2 hY2 hS

set_option maxHeartbeats 4000000 in
set_option maxRecDepth 100000 in
theorem law_12 {p : Program} {l : Launch} {e : Env} {s : State} {m : MethodId} {below : List Frame} {meth : Method} {c : Code} {A : Nat → Prop} {kA vA : Nat → Nat} {dC : Nat → ClassId} {dI : Nat → Nat → Nat} {b : Nat} {xs : Nat → Int32} {L : Nat} {a : Nat → Nat} {k : Nat → ClassId} {q : Nat → Nat → Option Nat} {a2 : Nat → Nat} {k2 : Nat → ClassId} {q2 : Nat → Nat → Option Nat} (C1 : lwC p s m meth c A kA vA dC dI b xs L a k q a2 k2) {x : Int32} {md ix : Nat → Int32} (hM : (∀ j : Nat, j < 4 → md j = 0 ∨ md j = 1)) {H : Heap} {locs : List Loc} (hX : xP dC dI a k q x md ix H) (hY : mP dC dI a2 k2 q2 x md ix H) (hS : va_S A s.heap H locs) {ls : Array Slot} {i : Int32} (hi : 0 ≤ i.toInt ∧ i.toInt + 6 ≤ (L : Int)) (hl : lv_has ls 4 [(3, .int i), (2, .ref (a2 0)), (1, .ref (a 0)), (0, .ref b)])
    (hC : ∀ (x : Int32) (md ix : Nat → Int32) (H : Heap) (locs : List Loc), (∀ j : Nat, j < 4 → md j = 0 ∨ md j = 1) → xP dC dI a k q x md ix H → mP dC dI a2 k2 q2 x md ix H → va_S A s.heap H locs → W p l e room_1 s m #[Value.ref b] below meth c H locs 152 8829 (lw_Z below #[Value.ref b] s) (F0 m 1210 ls [])) : W p l e room_1 s m #[Value.ref b] below meth c H locs 152 8829 (lw_Z below #[Value.ref b] s) (F0 m 498 ls []) := by
  obtain ⟨C0, hL, hA, hAq, hE, hT, hQ, hNx, hNm, hdx, hdm, hKx, hKm⟩ := C1
  obtain ⟨hx, hb, hr, hml, hown, hts, hXs, hbl, hlocks, hgv⟩ := id C0
  have hown : s.vm.findClass RL = some m.cls := hown
  have hq : ∀ w ∈ wsA, w.before _ s = true := fun w h => hts w (List.mem_filter.mp h).1
  have hbA : ¬ A b := fun h => Nat.not_le.mpr hbl (hAq b h)
  refine lv_aload_n hx hb dL_law_498 rfl (lv_at hl 2 rfl) ?_
  refine lv_aload_n hx hb dL_law_499 rfl (lv_at hl 3 rfl) ?_
  refine lv_iload_n hx hb dL_law_500 rfl (lv_at hl 0 rfl) ?_
  refine lv_iconst (v := 1) hx hb dL_law_501 (by decide) ?_
  refine lv_iadd hx hb dL_law_502 ?_
  refine lv_topi (fun y1_1 ey1_1 => ?_)
  refine va_sld hx hb hXs hbl hbA hS (sc_in ey1_1 hi hL (by decide)) dL_law_503 ?_
  refine lv_topi (fun z1_1 ez1_1 => ?_)
  have hFx : ∀ p : Nat, inL (xL a) H.size p → A p := fun p h => in_A hNx hA hS h
  refine va_calli (va_runV (As := [.int z1_1]) (rest := []) ⟨hx, hb, hml, hown, hq⟩ (X_fetch l dC dI _ kA vA a k q hQ hNx.tt x md ix hM z1_1) (cwV 1 hq (gV qw_898 qw_899 qw_900 qw_119 qw_901) rfl rfl rfl (by decide +kernel) ⟨Nat.le_of_ble_eq_true rfl, Nat.le_of_ble_eq_true rfl⟩) ⟨fun ar U g mk h => by obtain ⟨q0, q1, qX, qK, qE, qT⟩ := h; exact ⟨q0, q1, qX, va_K.moved (u := U) (U := U.calling g mk ar) (Vm.Alike.refl U.vm) qK, xE.same rfl qE, xT.same rfl qT⟩, hX.recv hKx, fun U hU hW => ⟨rfl, by rw [hU], by rw [hU]; exact hX, va_K.moved hW.alike hKx, xE.warm hW hE, by rw [hU]; exact xT.call hW hT hS hFx⟩⟩ rfl rfl hl.1 rfl (lv_room (Nat.le_of_ble_eq_true rfl)) dL_law_504 ⟨Nat.le_of_ble_eq_true rfl, Nat.le_of_ble_eq_true rfl⟩) hS (fun p _ h => hFx p h) hFx (fun r_1 u1 t1 H1 locs ht1 hvm1 hw1 hB1 hz1 hk1 hS => ?_)
  have hX1 : xP dC dI a k q x md ix t1.heap := hB1
  rw [ht1] at hX1
  have hY := hY.keep hdm hk1
  refine lv_pop hx hb dL_law_507 rfl ?_
  refine lv_aload_n hx hb dL_law_508 rfl (lv_at hl 1 rfl) ?_
  refine lv_aload_n hx hb dL_law_509 rfl (lv_at hl 3 rfl) ?_
  refine lv_iload_n hx hb dL_law_510 rfl (lv_at hl 0 rfl) ?_
  refine lv_iconst (v := 1) hx hb dL_law_511 (by decide) ?_
  refine lv_iadd hx hb dL_law_512 ?_
  refine lv_topi (fun y2_1 ey2_1 => ?_)
  refine va_sld hx hb hXs hbl hbA hS (sc_in ey2_1 hi hL (by decide)) dL_law_513 ?_
  refine lv_topi (fun z2_1 ez2_1 => ?_)
  have hFm : ∀ p : Nat, inL (mL a2) H1.size p → A p := fun p h => in_A hNm hA hS h
  refine va_calli (va_runV (As := [.int z2_1]) (rest := []) ⟨hx, hb, hml, hown, hq⟩ (M_fetch l dC dI _ a2 k2 q2 hNm.tt x md ix hM z2_1) (cwV 1 hq (gV qw_1607 qw_1608 qw_1609 qw_131 qw_1610) rfl rfl rfl (by decide +kernel) ⟨Nat.le_of_ble_eq_true rfl, Nat.le_of_ble_eq_true rfl⟩) ⟨fun ar U g mk h => by obtain ⟨q0, q1, qX, qK, qE⟩ := h; exact ⟨q0, q1, qX, va_K.moved (u := U) (U := U.calling g mk ar) (Vm.Alike.refl U.vm) qK, xE.same rfl qE⟩, hY.recv hKm, fun U hU hW => ⟨rfl, by rw [hU], by rw [hU]; exact hY, va_K.moved hW.alike hKm, xE.warm hW hE⟩⟩ rfl rfl hl.1 rfl (lv_room (Nat.le_of_ble_eq_true rfl)) dL_law_514 ⟨Nat.le_of_ble_eq_true rfl, Nat.le_of_ble_eq_true rfl⟩) hS (fun p _ h => hFm p h) hFm (fun r_2 u2 t2 H2 locs ht2 hvm2 hw2 hB2 hz2 hk2 hS => ?_)
  have hY2 : mP dC dI a2 k2 q2 x md ix t2.heap := hB2
  rw [ht2] at hY2
  have hX2 := hX1.keep hdx hk2
  refine lv_pop hx hb dL_law_517 rfl ?_
  refine lv_goto (tgt := 1210) hx hb dL_law_518 (by decide) ?_
  exact hC _ _ _ _ _ hM hX2 hY2 hS

set_option maxHeartbeats 4000000 in
set_option maxRecDepth 100000 in
theorem law_13 {p : Program} {l : Launch} {e : Env} {s : State} {m : MethodId} {below : List Frame} {meth : Method} {c : Code} {A : Nat → Prop} {kA vA : Nat → Nat} {dC : Nat → ClassId} {dI : Nat → Nat → Nat} {b : Nat} {xs : Nat → Int32} {L : Nat} {a : Nat → Nat} {k : Nat → ClassId} {q : Nat → Nat → Option Nat} {a2 : Nat → Nat} {k2 : Nat → ClassId} {q2 : Nat → Nat → Option Nat} (C1 : lwC p s m meth c A kA vA dC dI b xs L a k q a2 k2) {x : Int32} {md ix : Nat → Int32} (hM : (∀ j : Nat, j < 4 → md j = 0 ∨ md j = 1)) {H : Heap} {locs : List Loc} (hX : xP dC dI a k q x md ix H) (hY : mP dC dI a2 k2 q2 x md ix H) (hS : va_S A s.heap H locs) {ls : Array Slot} {i : Int32} (hi : 0 ≤ i.toInt ∧ i.toInt + 6 ≤ (L : Int)) (hl : lv_has ls 4 [(3, .int i), (2, .ref (a2 0)), (1, .ref (a 0)), (0, .ref b)])
    (hC : ∀ (x : Int32) (md ix : Nat → Int32) (H : Heap) (locs : List Loc), (∀ j : Nat, j < 4 → md j = 0 ∨ md j = 1) → xP dC dI a k q x md ix H → mP dC dI a2 k2 q2 x md ix H → va_S A s.heap H locs → W p l e room_1 s m #[Value.ref b] below meth c H locs 152 8829 (lw_Z below #[Value.ref b] s) (F0 m 1210 ls [])) : W p l e room_1 s m #[Value.ref b] below meth c H locs 152 8829 (lw_Z below #[Value.ref b] s) (F0 m 521 ls []) := by
  obtain ⟨C0, hL, hA, hAq, hE, hT, hQ, hNx, hNm, hdx, hdm, hKx, hKm⟩ := C1
  obtain ⟨hx, hb, hr, hml, hown, hts, hXs, hbl, hlocks, hgv⟩ := id C0
  have hown : s.vm.findClass RL = some m.cls := hown
  have hq : ∀ w ∈ wsA, w.before _ s = true := fun w h => hts w (List.mem_filter.mp h).1
  have hbA : ¬ A b := fun h => Nat.not_le.mpr hbl (hAq b h)
  refine lv_aload_n hx hb dL_law_521 rfl (lv_at hl 2 rfl) ?_
  refine lv_aload_n hx hb dL_law_522 rfl (lv_at hl 3 rfl) ?_
  refine lv_iload_n hx hb dL_law_523 rfl (lv_at hl 0 rfl) ?_
  refine lv_iconst (v := 1) hx hb dL_law_524 (by decide) ?_
  refine lv_iadd hx hb dL_law_525 ?_
  refine lv_topi (fun y1_1 ey1_1 => ?_)
  refine va_sld hx hb hXs hbl hbA hS (sc_in ey1_1 hi hL (by decide)) dL_law_526 ?_
  refine lv_topi (fun z1_1 ez1_1 => ?_)
  refine lv_aload_n hx hb dL_law_527 rfl (lv_at hl 3 rfl) ?_
  refine lv_iload_n hx hb dL_law_528 rfl (lv_at hl 0 rfl) ?_
  refine lv_iconst (v := 2) hx hb dL_law_529 (by decide) ?_
  refine lv_iadd hx hb dL_law_530 ?_
  refine lv_topi (fun y1_2 ey1_2 => ?_)
  refine va_sld hx hb hXs hbl hbA hS (sc_in ey1_2 hi hL (by decide)) dL_law_531 ?_
  refine lv_topi (fun z1_2 ez1_2 => ?_)
  have hFx : ∀ p : Nat, inL (xL a) H.size p → A p := fun p h => in_A hNx hA hS h
  refine va_calli (va_runV (As := [.int z1_1, .int z1_2]) (rest := []) ⟨hx, hb, hml, hown, hq⟩ (X_tell l dC dI _ kA vA a k q hQ hNx.tt x md ix hM z1_1 z1_2) (cwV 2 hq (gV qw_908 qw_909 qw_910 qw_119 qw_911) rfl rfl rfl (by decide +kernel) ⟨Nat.le_of_ble_eq_true rfl, Nat.le_of_ble_eq_true rfl⟩) ⟨fun ar U g mk h => by obtain ⟨q0, q1, qX, qK, qE, qT⟩ := h; exact ⟨q0, q1, qX, va_K.moved (u := U) (U := U.calling g mk ar) (Vm.Alike.refl U.vm) qK, xE.same rfl qE, xT.same rfl qT⟩, hX.recv hKx, fun U hU hW => ⟨rfl, by rw [hU], by rw [hU]; exact hX, va_K.moved hW.alike hKx, xE.warm hW hE, by rw [hU]; exact xT.call hW hT hS hFx⟩⟩ rfl rfl hl.1 rfl (lv_room (Nat.le_of_ble_eq_true rfl)) dL_law_532 ⟨Nat.le_of_ble_eq_true rfl, Nat.le_of_ble_eq_true rfl⟩) hS (fun p _ h => hFx p h) hFx (fun r_1 u1 t1 H1 locs ht1 hvm1 hw1 hB1 hz1 hk1 hS => ?_)
  have hX1 : xP dC dI a k q x md ix t1.heap := hB1
  rw [ht1] at hX1
  have hY := hY.keep hdm hk1
  refine lv_pop hx hb dL_law_535 rfl ?_
  refine lv_aload_n hx hb dL_law_536 rfl (lv_at hl 1 rfl) ?_
  refine lv_aload_n hx hb dL_law_537 rfl (lv_at hl 3 rfl) ?_
  refine lv_iload_n hx hb dL_law_538 rfl (lv_at hl 0 rfl) ?_
  refine lv_iconst (v := 1) hx hb dL_law_539 (by decide) ?_
  refine lv_iadd hx hb dL_law_540 ?_
  refine lv_topi (fun y2_1 ey2_1 => ?_)
  refine va_sld hx hb hXs hbl hbA hS (sc_in ey2_1 hi hL (by decide)) dL_law_541 ?_
  refine lv_topi (fun z2_1 ez2_1 => ?_)
  refine lv_aload_n hx hb dL_law_542 rfl (lv_at hl 3 rfl) ?_
  refine lv_iload_n hx hb dL_law_543 rfl (lv_at hl 0 rfl) ?_
  refine lv_iconst (v := 2) hx hb dL_law_544 (by decide) ?_
  refine lv_iadd hx hb dL_law_545 ?_
  refine lv_topi (fun y2_2 ey2_2 => ?_)
  refine va_sld hx hb hXs hbl hbA hS (sc_in ey2_2 hi hL (by decide)) dL_law_546 ?_
  refine lv_topi (fun z2_2 ez2_2 => ?_)
  have hFm : ∀ p : Nat, inL (mL a2) H1.size p → A p := fun p h => in_A hNm hA hS h
  refine va_calli (va_runV (As := [.int z2_1, .int z2_2]) (rest := []) ⟨hx, hb, hml, hown, hq⟩ (M_tell l dC dI _ a2 k2 q2 hNm.tt x md ix hM z2_1 z2_2) (cwV 2 hq (gV qw_1611 qw_1612 qw_1613 qw_131 qw_1614) rfl rfl rfl (by decide +kernel) ⟨Nat.le_of_ble_eq_true rfl, Nat.le_of_ble_eq_true rfl⟩) ⟨fun ar U g mk h => by obtain ⟨q0, q1, qX, qK, qE⟩ := h; exact ⟨q0, q1, qX, va_K.moved (u := U) (U := U.calling g mk ar) (Vm.Alike.refl U.vm) qK, xE.same rfl qE⟩, hY.recv hKm, fun U hU hW => ⟨rfl, by rw [hU], by rw [hU]; exact hY, va_K.moved hW.alike hKm, xE.warm hW hE⟩⟩ rfl rfl hl.1 rfl (lv_room (Nat.le_of_ble_eq_true rfl)) dL_law_547 ⟨Nat.le_of_ble_eq_true rfl, Nat.le_of_ble_eq_true rfl⟩) hS (fun p _ h => hFm p h) hFm (fun r_2 u2 t2 H2 locs ht2 hvm2 hw2 hB2 hz2 hk2 hS => ?_)
  have hY2 : mP dC dI a2 k2 q2 x md ix t2.heap := hB2
  rw [ht2] at hY2
  have hX2 := hX1.keep hdx hk2
  refine lv_pop hx hb dL_law_550 rfl ?_
  refine lv_goto (tgt := 1210) hx hb dL_law_551 (by decide) ?_
  exact hC _ _ _ _ _ hM hX2 hY2 hS

set_option maxHeartbeats 4000000 in
set_option maxRecDepth 100000 in
theorem law_14 {p : Program} {l : Launch} {e : Env} {s : State} {m : MethodId} {below : List Frame} {meth : Method} {c : Code} {A : Nat → Prop} {kA vA : Nat → Nat} {dC : Nat → ClassId} {dI : Nat → Nat → Nat} {b : Nat} {xs : Nat → Int32} {L : Nat} {a : Nat → Nat} {k : Nat → ClassId} {q : Nat → Nat → Option Nat} {a2 : Nat → Nat} {k2 : Nat → ClassId} {q2 : Nat → Nat → Option Nat} (C1 : lwC p s m meth c A kA vA dC dI b xs L a k q a2 k2) {x : Int32} {md ix : Nat → Int32} (hM : (∀ j : Nat, j < 4 → md j = 0 ∨ md j = 1)) {H : Heap} {locs : List Loc} (hX : xP dC dI a k q x md ix H) (hY : mP dC dI a2 k2 q2 x md ix H) (hS : va_S A s.heap H locs) {ls : Array Slot} {i : Int32} (hi : 0 ≤ i.toInt ∧ i.toInt + 6 ≤ (L : Int)) (hl : lv_has ls 4 [(3, .int i), (2, .ref (a2 0)), (1, .ref (a 0)), (0, .ref b)])
    (hC : ∀ (x : Int32) (md ix : Nat → Int32) (H : Heap) (locs : List Loc), (∀ j : Nat, j < 4 → md j = 0 ∨ md j = 1) → xP dC dI a k q x md ix H → mP dC dI a2 k2 q2 x md ix H → va_S A s.heap H locs → W p l e room_1 s m #[Value.ref b] below meth c H locs 152 8829 (lw_Z below #[Value.ref b] s) (F0 m 1210 ls [])) : W p l e room_1 s m #[Value.ref b] below meth c H locs 152 8829 (lw_Z below #[Value.ref b] s) (F0 m 554 ls []) := by
  obtain ⟨C0, hL, hA, hAq, hE, hT, hQ, hNx, hNm, hdx, hdm, hKx, hKm⟩ := C1
  obtain ⟨hx, hb, hr, hml, hown, hts, hXs, hbl, hlocks, hgv⟩ := id C0
  have hown : s.vm.findClass RL = some m.cls := hown
  have hq : ∀ w ∈ wsA, w.before _ s = true := fun w h => hts w (List.mem_filter.mp h).1
  have hbA : ¬ A b := fun h => Nat.not_le.mpr hbl (hAq b h)
  refine lv_aload_n hx hb dL_law_554 rfl (lv_at hl 2 rfl) ?_
  have hFx : ∀ p : Nat, inL (xL a) H.size p → A p := fun p h => in_A hNx hA hS h
  refine va_calli (va_runV (As := []) (rest := []) ⟨hx, hb, hml, hown, hq⟩ (X_undo l dC dI _ kA vA a k q hQ hNx.tt x md ix hM ) (cwV 0 hq (gV qw_913 qw_914 qw_915 qw_119 qw_916) rfl rfl rfl (by decide +kernel) ⟨Nat.le_of_ble_eq_true rfl, Nat.le_of_ble_eq_true rfl⟩) ⟨fun ar U g mk h => by obtain ⟨q0, q1, qX, qK, qE, qT⟩ := h; exact ⟨q0, q1, qX, va_K.moved (u := U) (U := U.calling g mk ar) (Vm.Alike.refl U.vm) qK, xE.same rfl qE, xT.same rfl qT⟩, hX.recv hKx, fun U hU hW => ⟨rfl, by rw [hU], by rw [hU]; exact hX, va_K.moved hW.alike hKx, xE.warm hW hE, by rw [hU]; exact xT.call hW hT hS hFx⟩⟩ rfl rfl hl.1 rfl (lv_room (Nat.le_of_ble_eq_true rfl)) dL_law_555 ⟨Nat.le_of_ble_eq_true rfl, Nat.le_of_ble_eq_true rfl⟩) hS (fun p _ h => hFx p h) hFx (fun r_1 u1 t1 H1 locs ht1 hvm1 hw1 hB1 hz1 hk1 hS => ?_)
  have hX1 : xP dC dI a k q x md ix t1.heap := hB1
  rw [ht1] at hX1
  have hY := hY.keep hdm hk1
  refine lv_pop hx hb dL_law_558 rfl ?_
  refine lv_aload_n hx hb dL_law_559 rfl (lv_at hl 1 rfl) ?_
  have hFm : ∀ p : Nat, inL (mL a2) H1.size p → A p := fun p h => in_A hNm hA hS h
  refine va_calli (va_runV (As := []) (rest := []) ⟨hx, hb, hml, hown, hq⟩ (M_undo l dC dI _ a2 k2 q2 hNm.tt x md ix hM ) (cwV 0 hq (gV qw_1510 qw_1511 qw_1512 qw_131 qw_1513) rfl rfl rfl (by decide +kernel) ⟨Nat.le_of_ble_eq_true rfl, Nat.le_of_ble_eq_true rfl⟩) ⟨fun ar U g mk h => by obtain ⟨q0, q1, qX, qK, qE⟩ := h; exact ⟨q0, q1, qX, va_K.moved (u := U) (U := U.calling g mk ar) (Vm.Alike.refl U.vm) qK, xE.same rfl qE⟩, hY.recv hKm, fun U hU hW => ⟨rfl, by rw [hU], by rw [hU]; exact hY, va_K.moved hW.alike hKm, xE.warm hW hE⟩⟩ rfl rfl hl.1 rfl (lv_room (Nat.le_of_ble_eq_true rfl)) dL_law_560 ⟨Nat.le_of_ble_eq_true rfl, Nat.le_of_ble_eq_true rfl⟩) hS (fun p _ h => hFm p h) hFm (fun r_2 u2 t2 H2 locs ht2 hvm2 hw2 hB2 hz2 hk2 hS => ?_)
  have hY2 : mP dC dI a2 k2 q2 x md ix t2.heap := hB2
  rw [ht2] at hY2
  have hX2 := hX1.keep hdx hk2
  refine lv_pop hx hb dL_law_563 rfl ?_
  refine lv_goto (tgt := 1210) hx hb dL_law_564 (by decide) ?_
  exact hC _ _ _ _ _ hM hX2 hY2 hS

set_option maxHeartbeats 4000000 in
set_option maxRecDepth 100000 in
theorem law_15 {p : Program} {l : Launch} {e : Env} {s : State} {m : MethodId} {below : List Frame} {meth : Method} {c : Code} {A : Nat → Prop} {kA vA : Nat → Nat} {dC : Nat → ClassId} {dI : Nat → Nat → Nat} {b : Nat} {xs : Nat → Int32} {L : Nat} {a : Nat → Nat} {k : Nat → ClassId} {q : Nat → Nat → Option Nat} {a2 : Nat → Nat} {k2 : Nat → ClassId} {q2 : Nat → Nat → Option Nat} (C1 : lwC p s m meth c A kA vA dC dI b xs L a k q a2 k2) {x : Int32} {md ix : Nat → Int32} (hM : (∀ j : Nat, j < 4 → md j = 0 ∨ md j = 1)) {H : Heap} {locs : List Loc} (hX : xP dC dI a k q x md ix H) (hY : mP dC dI a2 k2 q2 x md ix H) (hS : va_S A s.heap H locs) {ls : Array Slot} {i : Int32} (hi : 0 ≤ i.toInt ∧ i.toInt + 6 ≤ (L : Int)) (hl : lv_has ls 4 [(3, .int i), (2, .ref (a2 0)), (1, .ref (a 0)), (0, .ref b)])
    (hC : ∀ (x : Int32) (md ix : Nat → Int32) (H : Heap) (locs : List Loc), (∀ j : Nat, j < 4 → md j = 0 ∨ md j = 1) → xP dC dI a k q x md ix H → mP dC dI a2 k2 q2 x md ix H → va_S A s.heap H locs → W p l e room_1 s m #[Value.ref b] below meth c H locs 152 8829 (lw_Z below #[Value.ref b] s) (F0 m 1210 ls [])) : W p l e room_1 s m #[Value.ref b] below meth c H locs 152 8829 (lw_Z below #[Value.ref b] s) (F0 m 567 ls []) := by
  obtain ⟨C0, hL, hA, hAq, hE, hT, hQ, hNx, hNm, hdx, hdm, hKx, hKm⟩ := C1
  obtain ⟨hx, hb, hr, hml, hown, hts, hXs, hbl, hlocks, hgv⟩ := id C0
  have hown : s.vm.findClass RL = some m.cls := hown
  have hq : ∀ w ∈ wsA, w.before _ s = true := fun w h => hts w (List.mem_filter.mp h).1
  have hbA : ¬ A b := fun h => Nat.not_le.mpr hbl (hAq b h)
  refine lv_aload_n hx hb dL_law_567 rfl (lv_at hl 2 rfl) ?_
  refine lv_aload_n hx hb dL_law_568 rfl (lv_at hl 3 rfl) ?_
  refine lv_iload_n hx hb dL_law_569 rfl (lv_at hl 0 rfl) ?_
  refine lv_iconst (v := 1) hx hb dL_law_570 (by decide) ?_
  refine lv_iadd hx hb dL_law_571 ?_
  refine lv_topi (fun y1_1 ey1_1 => ?_)
  refine va_sld hx hb hXs hbl hbA hS (sc_in ey1_1 hi hL (by decide)) dL_law_572 ?_
  refine lv_topi (fun z1_1 ez1_1 => ?_)
  refine lv_aload_n hx hb dL_law_573 rfl (lv_at hl 3 rfl) ?_
  refine lv_iload_n hx hb dL_law_574 rfl (lv_at hl 0 rfl) ?_
  refine lv_iconst (v := 2) hx hb dL_law_575 (by decide) ?_
  refine lv_iadd hx hb dL_law_576 ?_
  refine lv_topi (fun y1_2 ey1_2 => ?_)
  refine va_sld hx hb hXs hbl hbA hS (sc_in ey1_2 hi hL (by decide)) dL_law_577 ?_
  refine lv_topi (fun z1_2 ez1_2 => ?_)
  refine lv_aload_n hx hb dL_law_578 rfl (lv_at hl 3 rfl) ?_
  refine lv_iload_n hx hb dL_law_579 rfl (lv_at hl 0 rfl) ?_
  refine lv_iconst (v := 3) hx hb dL_law_580 (by decide) ?_
  refine lv_iadd hx hb dL_law_581 ?_
  refine lv_topi (fun y1_3 ey1_3 => ?_)
  refine va_sld hx hb hXs hbl hbA hS (sc_in ey1_3 hi hL (by decide)) dL_law_582 ?_
  refine lv_topi (fun z1_3 ez1_3 => ?_)
  have hFx : ∀ p : Nat, inL (xL a) H.size p → A p := fun p h => in_A hNx hA hS h
  refine va_calli (va_runV (As := [.int z1_1, .int z1_2, .int z1_3]) (rest := []) ⟨hx, hb, hml, hown, hq⟩ (X_ahead l dC dI _ kA vA a k q hQ hNx.tt x md ix hM z1_1 z1_2 z1_3) (cwV 3 hq (gV qw_921 qw_922 qw_923 qw_119 qw_924) rfl rfl rfl (by decide +kernel) ⟨Nat.le_of_ble_eq_true rfl, Nat.le_of_ble_eq_true rfl⟩) ⟨fun ar U g mk h => by obtain ⟨q0, q1, qX, qK, qE, qT⟩ := h; exact ⟨q0, q1, qX, va_K.moved (u := U) (U := U.calling g mk ar) (Vm.Alike.refl U.vm) qK, xE.same rfl qE, xT.same rfl qT⟩, hX.recv hKx, fun U hU hW => ⟨rfl, by rw [hU], by rw [hU]; exact hX, va_K.moved hW.alike hKx, xE.warm hW hE, by rw [hU]; exact xT.call hW hT hS hFx⟩⟩ rfl rfl hl.1 rfl (lv_room (Nat.le_of_ble_eq_true rfl)) dL_law_583 ⟨Nat.le_of_ble_eq_true rfl, Nat.le_of_ble_eq_true rfl⟩) hS (fun p _ h => hFx p h) hFx (fun r_1 u1 t1 H1 locs ht1 hvm1 hw1 hB1 hz1 hk1 hS => ?_)
  have hX1 : xP dC dI a k q x md ix t1.heap := hB1
  rw [ht1] at hX1
  have hY := hY.keep hdm hk1
  refine lv_pop hx hb dL_law_586 rfl ?_
  refine lv_aload_n hx hb dL_law_587 rfl (lv_at hl 1 rfl) ?_
  refine lv_aload_n hx hb dL_law_588 rfl (lv_at hl 3 rfl) ?_
  refine lv_iload_n hx hb dL_law_589 rfl (lv_at hl 0 rfl) ?_
  refine lv_iconst (v := 1) hx hb dL_law_590 (by decide) ?_
  refine lv_iadd hx hb dL_law_591 ?_
  refine lv_topi (fun y2_1 ey2_1 => ?_)
  refine va_sld hx hb hXs hbl hbA hS (sc_in ey2_1 hi hL (by decide)) dL_law_592 ?_
  refine lv_topi (fun z2_1 ez2_1 => ?_)
  refine lv_aload_n hx hb dL_law_593 rfl (lv_at hl 3 rfl) ?_
  refine lv_iload_n hx hb dL_law_594 rfl (lv_at hl 0 rfl) ?_
  refine lv_iconst (v := 2) hx hb dL_law_595 (by decide) ?_
  refine lv_iadd hx hb dL_law_596 ?_
  refine lv_topi (fun y2_2 ey2_2 => ?_)
  refine va_sld hx hb hXs hbl hbA hS (sc_in ey2_2 hi hL (by decide)) dL_law_597 ?_
  refine lv_topi (fun z2_2 ez2_2 => ?_)
  refine lv_aload_n hx hb dL_law_598 rfl (lv_at hl 3 rfl) ?_
  refine lv_iload_n hx hb dL_law_599 rfl (lv_at hl 0 rfl) ?_
  refine lv_iconst (v := 3) hx hb dL_law_600 (by decide) ?_
  refine lv_iadd hx hb dL_law_601 ?_
  refine lv_topi (fun y2_3 ey2_3 => ?_)
  refine va_sld hx hb hXs hbl hbA hS (sc_in ey2_3 hi hL (by decide)) dL_law_602 ?_
  refine lv_topi (fun z2_3 ez2_3 => ?_)
  have hFm : ∀ p : Nat, inL (mL a2) H1.size p → A p := fun p h => in_A hNm hA hS h
  refine va_calli (va_runV (As := [.int z2_1, .int z2_2, .int z2_3]) (rest := []) ⟨hx, hb, hml, hown, hq⟩ (M_ahead l dC dI _ a2 k2 q2 hNm.tt x md ix hM z2_1 z2_2 z2_3) (cwV 3 hq (gV qw_1615 qw_1616 qw_1617 qw_131 qw_1618) rfl rfl rfl (by decide +kernel) ⟨Nat.le_of_ble_eq_true rfl, Nat.le_of_ble_eq_true rfl⟩) ⟨fun ar U g mk h => by obtain ⟨q0, q1, qX, qK, qE⟩ := h; exact ⟨q0, q1, qX, va_K.moved (u := U) (U := U.calling g mk ar) (Vm.Alike.refl U.vm) qK, xE.same rfl qE⟩, hY.recv hKm, fun U hU hW => ⟨rfl, by rw [hU], by rw [hU]; exact hY, va_K.moved hW.alike hKm, xE.warm hW hE⟩⟩ rfl rfl hl.1 rfl (lv_room (Nat.le_of_ble_eq_true rfl)) dL_law_603 ⟨Nat.le_of_ble_eq_true rfl, Nat.le_of_ble_eq_true rfl⟩) hS (fun p _ h => hFm p h) hFm (fun r_2 u2 t2 H2 locs ht2 hvm2 hw2 hB2 hz2 hk2 hS => ?_)
  have hY2 : mP dC dI a2 k2 q2 x md ix t2.heap := hB2
  rw [ht2] at hY2
  have hX2 := hX1.keep hdx hk2
  refine lv_pop hx hb dL_law_606 rfl ?_
  refine lv_goto (tgt := 1210) hx hb dL_law_607 (by decide) ?_
  exact hC _ _ _ _ _ hM hX2 hY2 hS

set_option maxHeartbeats 4000000 in
set_option maxRecDepth 100000 in
theorem law_16 {p : Program} {l : Launch} {e : Env} {s : State} {m : MethodId} {below : List Frame} {meth : Method} {c : Code} {A : Nat → Prop} {kA vA : Nat → Nat} {dC : Nat → ClassId} {dI : Nat → Nat → Nat} {b : Nat} {xs : Nat → Int32} {L : Nat} {a : Nat → Nat} {k : Nat → ClassId} {q : Nat → Nat → Option Nat} {a2 : Nat → Nat} {k2 : Nat → ClassId} {q2 : Nat → Nat → Option Nat} (C1 : lwC p s m meth c A kA vA dC dI b xs L a k q a2 k2) {x : Int32} {md ix : Nat → Int32} (hM : (∀ j : Nat, j < 4 → md j = 0 ∨ md j = 1)) {H : Heap} {locs : List Loc} (hX : xP dC dI a k q x md ix H) (hY : mP dC dI a2 k2 q2 x md ix H) (hS : va_S A s.heap H locs) {ls : Array Slot} {i : Int32} (hi : 0 ≤ i.toInt ∧ i.toInt + 6 ≤ (L : Int)) (hl : lv_has ls 4 [(3, .int i), (2, .ref (a2 0)), (1, .ref (a 0)), (0, .ref b)])
    (hC : ∀ (x : Int32) (md ix : Nat → Int32) (H : Heap) (locs : List Loc), (∀ j : Nat, j < 4 → md j = 0 ∨ md j = 1) → xP dC dI a k q x md ix H → mP dC dI a2 k2 q2 x md ix H → va_S A s.heap H locs → W p l e room_1 s m #[Value.ref b] below meth c H locs 152 8829 (lw_Z below #[Value.ref b] s) (F0 m 1210 ls [])) : W p l e room_1 s m #[Value.ref b] below meth c H locs 152 8829 (lw_Z below #[Value.ref b] s) (F0 m 610 ls []) := by
  obtain ⟨C0, hL, hA, hAq, hE, hT, hQ, hNx, hNm, hdx, hdm, hKx, hKm⟩ := C1
  obtain ⟨hx, hb, hr, hml, hown, hts, hXs, hbl, hlocks, hgv⟩ := id C0
  have hown : s.vm.findClass RL = some m.cls := hown
  have hq : ∀ w ∈ wsA, w.before _ s = true := fun w h => hts w (List.mem_filter.mp h).1
  have hbA : ¬ A b := fun h => Nat.not_le.mpr hbl (hAq b h)
  refine lv_aload_n hx hb dL_law_610 rfl (lv_at hl 2 rfl) ?_
  refine lv_aload_n hx hb dL_law_611 rfl (lv_at hl 3 rfl) ?_
  refine lv_iload_n hx hb dL_law_612 rfl (lv_at hl 0 rfl) ?_
  refine lv_iconst (v := 1) hx hb dL_law_613 (by decide) ?_
  refine lv_iadd hx hb dL_law_614 ?_
  refine lv_topi (fun y1_1 ey1_1 => ?_)
  refine va_sld hx hb hXs hbl hbA hS (sc_in ey1_1 hi hL (by decide)) dL_law_615 ?_
  refine lv_topi (fun z1_1 ez1_1 => ?_)
  have hFx : ∀ p : Nat, inL (xL a) H.size p → A p := fun p h => in_A hNx hA hS h
  refine va_calli (va_runV (As := [.int z1_1]) (rest := []) ⟨hx, hb, hml, hown, hq⟩ (X_said l dC dI _ kA vA a k q hQ hNx.tt x md ix hM z1_1) (cwV 1 hq (gV qw_935 qw_936 qw_937 qw_119 qw_938) rfl rfl rfl (by decide +kernel) ⟨Nat.le_of_ble_eq_true rfl, Nat.le_of_ble_eq_true rfl⟩) ⟨fun ar U g mk h => by obtain ⟨q0, q1, qX, qK, qE, qT⟩ := h; exact ⟨q0, q1, qX, va_K.moved (u := U) (U := U.calling g mk ar) (Vm.Alike.refl U.vm) qK, xE.same rfl qE, xT.same rfl qT⟩, hX.recv hKx, fun U hU hW => ⟨rfl, by rw [hU], by rw [hU]; exact hX, va_K.moved hW.alike hKx, xE.warm hW hE, by rw [hU]; exact xT.call hW hT hS hFx⟩⟩ rfl rfl hl.1 rfl (lv_room (Nat.le_of_ble_eq_true rfl)) dL_law_616 ⟨Nat.le_of_ble_eq_true rfl, Nat.le_of_ble_eq_true rfl⟩) hS (fun p _ h => hFx p h) hFx (fun r_1 u1 t1 H1 locs ht1 hvm1 hw1 hB1 hz1 hk1 hS => ?_)
  have hX1 : xP dC dI a k q x md ix t1.heap := hB1
  rw [ht1] at hX1
  have hY := hY.keep hdm hk1
  refine lv_pop hx hb dL_law_619 rfl ?_
  refine lv_aload_n hx hb dL_law_620 rfl (lv_at hl 1 rfl) ?_
  refine lv_aload_n hx hb dL_law_621 rfl (lv_at hl 3 rfl) ?_
  refine lv_iload_n hx hb dL_law_622 rfl (lv_at hl 0 rfl) ?_
  refine lv_iconst (v := 1) hx hb dL_law_623 (by decide) ?_
  refine lv_iadd hx hb dL_law_624 ?_
  refine lv_topi (fun y2_1 ey2_1 => ?_)
  refine va_sld hx hb hXs hbl hbA hS (sc_in ey2_1 hi hL (by decide)) dL_law_625 ?_
  refine lv_topi (fun z2_1 ez2_1 => ?_)
  have hFm : ∀ p : Nat, inL (mL a2) H1.size p → A p := fun p h => in_A hNm hA hS h
  refine va_calli (va_runV (As := [.int z2_1]) (rest := []) ⟨hx, hb, hml, hown, hq⟩ (M_said l dC dI _ a2 k2 q2 hNm.tt x md ix hM z2_1) (cwV 1 hq (gV qw_1632 qw_1633 qw_1634 qw_131 qw_1635) rfl rfl rfl (by decide +kernel) ⟨Nat.le_of_ble_eq_true rfl, Nat.le_of_ble_eq_true rfl⟩) ⟨fun ar U g mk h => by obtain ⟨q0, q1, qX, qK, qE⟩ := h; exact ⟨q0, q1, qX, va_K.moved (u := U) (U := U.calling g mk ar) (Vm.Alike.refl U.vm) qK, xE.same rfl qE⟩, hY.recv hKm, fun U hU hW => ⟨rfl, by rw [hU], by rw [hU]; exact hY, va_K.moved hW.alike hKm, xE.warm hW hE⟩⟩ rfl rfl hl.1 rfl (lv_room (Nat.le_of_ble_eq_true rfl)) dL_law_626 ⟨Nat.le_of_ble_eq_true rfl, Nat.le_of_ble_eq_true rfl⟩) hS (fun p _ h => hFm p h) hFm (fun r_2 u2 t2 H2 locs ht2 hvm2 hw2 hB2 hz2 hk2 hS => ?_)
  have hY2 : mP dC dI a2 k2 q2 x md ix t2.heap := hB2
  rw [ht2] at hY2
  have hX2 := hX1.keep hdx hk2
  refine lv_pop hx hb dL_law_629 rfl ?_
  refine lv_goto (tgt := 1210) hx hb dL_law_630 (by decide) ?_
  exact hC _ _ _ _ _ hM hX2 hY2 hS

set_option maxHeartbeats 4000000 in
set_option maxRecDepth 100000 in
theorem law_17 {p : Program} {l : Launch} {e : Env} {s : State} {m : MethodId} {below : List Frame} {meth : Method} {c : Code} {A : Nat → Prop} {kA vA : Nat → Nat} {dC : Nat → ClassId} {dI : Nat → Nat → Nat} {b : Nat} {xs : Nat → Int32} {L : Nat} {a : Nat → Nat} {k : Nat → ClassId} {q : Nat → Nat → Option Nat} {a2 : Nat → Nat} {k2 : Nat → ClassId} {q2 : Nat → Nat → Option Nat} (C1 : lwC p s m meth c A kA vA dC dI b xs L a k q a2 k2) {x : Int32} {md ix : Nat → Int32} (hM : (∀ j : Nat, j < 4 → md j = 0 ∨ md j = 1)) {H : Heap} {locs : List Loc} (hX : xP dC dI a k q x md ix H) (hY : mP dC dI a2 k2 q2 x md ix H) (hS : va_S A s.heap H locs) {ls : Array Slot} {i : Int32} (hi : 0 ≤ i.toInt ∧ i.toInt + 6 ≤ (L : Int)) (hl : lv_has ls 4 [(3, .int i), (2, .ref (a2 0)), (1, .ref (a 0)), (0, .ref b)])
    (hC : ∀ (x : Int32) (md ix : Nat → Int32) (H : Heap) (locs : List Loc), (∀ j : Nat, j < 4 → md j = 0 ∨ md j = 1) → xP dC dI a k q x md ix H → mP dC dI a2 k2 q2 x md ix H → va_S A s.heap H locs → W p l e room_1 s m #[Value.ref b] below meth c H locs 152 8829 (lw_Z below #[Value.ref b] s) (F0 m 1210 ls [])) : W p l e room_1 s m #[Value.ref b] below meth c H locs 152 8829 (lw_Z below #[Value.ref b] s) (F0 m 633 ls []) := by
  obtain ⟨C0, hL, hA, hAq, hE, hT, hQ, hNx, hNm, hdx, hdm, hKx, hKm⟩ := C1
  obtain ⟨hx, hb, hr, hml, hown, hts, hXs, hbl, hlocks, hgv⟩ := id C0
  have hown : s.vm.findClass RL = some m.cls := hown
  have hq : ∀ w ∈ wsA, w.before _ s = true := fun w h => hts w (List.mem_filter.mp h).1
  have hbA : ¬ A b := fun h => Nat.not_le.mpr hbl (hAq b h)
  refine lv_aload_n hx hb dL_law_633 rfl (lv_at hl 2 rfl) ?_
  have hFx : ∀ p : Nat, inL (xL a) H.size p → A p := fun p h => in_A hNx hA hS h
  refine va_calli (va_runV (As := []) (rest := []) ⟨hx, hb, hml, hown, hq⟩ (X_quiet l dC dI _ kA vA a k q hQ hNx.tt x md ix hM ) (cwV 0 hq (gV qw_939 qw_940 qw_941 qw_119 qw_942) rfl rfl rfl (by decide +kernel) ⟨Nat.le_of_ble_eq_true rfl, Nat.le_of_ble_eq_true rfl⟩) ⟨fun ar U g mk h => by obtain ⟨q0, q1, qX, qK, qE, qT⟩ := h; exact ⟨q0, q1, qX, va_K.moved (u := U) (U := U.calling g mk ar) (Vm.Alike.refl U.vm) qK, xE.same rfl qE, xT.same rfl qT⟩, hX.recv hKx, fun U hU hW => ⟨rfl, by rw [hU], by rw [hU]; exact hX, va_K.moved hW.alike hKx, xE.warm hW hE, by rw [hU]; exact xT.call hW hT hS hFx⟩⟩ rfl rfl hl.1 rfl (lv_room (Nat.le_of_ble_eq_true rfl)) dL_law_634 ⟨Nat.le_of_ble_eq_true rfl, Nat.le_of_ble_eq_true rfl⟩) hS (fun p _ h => hFx p h) hFx (fun r_1 u1 t1 H1 locs ht1 hvm1 hw1 hB1 hz1 hk1 hS => ?_)
  have hX1 : xP dC dI a k q x md ix t1.heap := hB1
  rw [ht1] at hX1
  have hY := hY.keep hdm hk1
  refine lv_pop hx hb dL_law_637 rfl ?_
  refine lv_aload_n hx hb dL_law_638 rfl (lv_at hl 1 rfl) ?_
  have hFm : ∀ p : Nat, inL (mL a2) H1.size p → A p := fun p h => in_A hNm hA hS h
  refine va_calli (va_runV (As := []) (rest := []) ⟨hx, hb, hml, hown, hq⟩ (M_quiet l dC dI _ a2 k2 q2 hNm.tt x md ix hM ) (cwV 0 hq (gV qw_1640 qw_1641 qw_1642 qw_131 qw_1643) rfl rfl rfl (by decide +kernel) ⟨Nat.le_of_ble_eq_true rfl, Nat.le_of_ble_eq_true rfl⟩) ⟨fun ar U g mk h => by obtain ⟨q0, q1, qX, qK, qE⟩ := h; exact ⟨q0, q1, qX, va_K.moved (u := U) (U := U.calling g mk ar) (Vm.Alike.refl U.vm) qK, xE.same rfl qE⟩, hY.recv hKm, fun U hU hW => ⟨rfl, by rw [hU], by rw [hU]; exact hY, va_K.moved hW.alike hKm, xE.warm hW hE⟩⟩ rfl rfl hl.1 rfl (lv_room (Nat.le_of_ble_eq_true rfl)) dL_law_639 ⟨Nat.le_of_ble_eq_true rfl, Nat.le_of_ble_eq_true rfl⟩) hS (fun p _ h => hFm p h) hFm (fun r_2 u2 t2 H2 locs ht2 hvm2 hw2 hB2 hz2 hk2 hS => ?_)
  have hY2 : mP dC dI a2 k2 q2 x md ix t2.heap := hB2
  rw [ht2] at hY2
  have hX2 := hX1.keep hdx hk2
  refine lv_pop hx hb dL_law_642 rfl ?_
  refine lv_goto (tgt := 1210) hx hb dL_law_643 (by decide) ?_
  exact hC _ _ _ _ _ hM hX2 hY2 hS
