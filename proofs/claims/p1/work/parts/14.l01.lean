set_option maxRecDepth 100000 in
theorem lk200 : ∀ pc, ev_kb MM "LeftAnswers$Life" pc (.getfield 37) 3 0 = true := kb_getf (by decide +kernel) gw292
set_option maxRecDepth 100000 in
theorem lk201 : ∀ pc, ev_kb MM "LeftAnswers$Life" pc (.getfield 41) 3 1 = true := kb_getf (by decide +kernel) gw293
set_option maxRecDepth 100000 in
theorem lk202 : ∀ pc, ev_kb MM "LeftAnswers$Life" pc (.getfield 44) 3 2 = true := kb_getf (by decide +kernel) gw294
set_option maxRecDepth 100000 in
theorem lk203 : ∀ pc, ev_kb MM "LeftAnswers$Life" pc (.getfield 47) 3 3 = true := kb_getf (by decide +kernel) gw295
set_option maxRecDepth 100000 in
theorem lk204 : ∀ pc, ev_kb MM "LeftAnswers$Life" pc (.invokestatic 50) 904 5 = true := kb_cpy rfl gw296 gw249 gw250 gw251
set_option maxRecDepth 100000 in
theorem lk205 : ∀ pc, ev_kb MM "LeftAnswers$Life" pc (.invokevirtual 65) 60 1 = true := kb_vi (by decide) me60 (by decide +kernel) gw297 gw300 gw298
set_option maxRecDepth 100000 in
theorem lk206 : ∀ pc, ev_kb MM "LeftAnswers$Life" pc (.getfield 72) 1 0 = true := kb_getf (by decide +kernel) gw301
set_option maxRecDepth 100000 in
theorem lk207 : ∀ pc, ev_kb MM "LeftAnswers$Life" pc (.invokevirtual 140) 63 1 = true := kb_vi (by decide) me63 (by decide +kernel) gw302 gw305 gw303
set_option maxRecDepth 100000 in
theorem lk208 : ∀ pc, ev_kb MM "LeftAnswers$Life" pc (.invokevirtual 61) 62 0 = true := kb_vi (by decide) me62 (by decide +kernel) gw306 gw173 gw171
set_option maxRecDepth 100000 in
theorem lk209 : ∀ pc, ev_kb MM "LeftAnswers$Life" pc (.invokevirtual 69) 61 1 = true := kb_vi (by decide) me61 (by decide +kernel) gw307 gw310 gw308
set_option maxRecDepth 100000 in
theorem lk210 : ∀ pc, ev_kb MM "LeftAnswers$Pairs" pc (.invokespecial 3) 999 0 = true := kb_obj gw311 gw1 gw2
set_option maxRecDepth 100000 in
theorem lk211 : ∀ pc, ev_kb MM "LeftAnswers$Pairs" pc (.newarray .int) 0 0 = true := kb_newa gw207
set_option maxRecDepth 100000 in
theorem lk212 : ∀ pc, ev_kb MM "LeftAnswers$Pairs" pc (.putfield 9) 4 0 = true := kb_putf (by decide +kernel) gw312
set_option maxRecDepth 100000 in
theorem lk213 : ∀ pc, ev_kb MM "LeftAnswers$Pairs" pc (.putfield 15) 4 1 = true := kb_putf (by decide +kernel) gw313
set_option maxRecDepth 100000 in
theorem lk214 : ∀ pc, ev_kb MM "LeftAnswers$Pairs" pc (.putfield 18) 4 2 = true := kb_putf (by decide +kernel) gw314
set_option maxRecDepth 100000 in
theorem lk215 : ∀ pc, ev_kb MM "LeftAnswers$Pairs" pc (.getfield 9) 4 0 = true := kb_getf (by decide +kernel) gw312
set_option maxRecDepth 100000 in
theorem lk216 : ∀ pc, ev_kb MM "LeftAnswers$Pairs" pc (.getfield 27) 4 3 = true := kb_getf (by decide +kernel) gw315
set_option maxRecDepth 100000 in
theorem lk217 : ∀ pc, ev_kb MM "LeftAnswers$Pairs" pc (.getfield 28) 4 4 = true := kb_getf (by decide +kernel) gw316
set_option maxRecDepth 100000 in
theorem lk218 : ∀ pc, ev_kb MM "LeftAnswers$Pairs" pc (.putfield 28) 4 4 = true := kb_putf (by decide +kernel) gw316
set_option maxRecDepth 100000 in
theorem lk219 : ∀ pc, ev_kb MM "LeftAnswers$Pairs" pc (.getfield 15) 4 1 = true := kb_getf (by decide +kernel) gw313
set_option maxRecDepth 100000 in
theorem lk220 : ∀ pc, ev_kb MM "LeftAnswers$Pairs" pc (.invokestatic 51) 904 5 = true := kb_cpy rfl gw317 gw249 gw250 gw251
set_option maxRecDepth 100000 in
theorem lk221 : ∀ pc, ev_kb MM "LeftAnswers$Pairs" pc (.getfield 21) 1 0 = true := kb_getf (by decide +kernel) gw318
set_option maxRecDepth 100000 in
theorem lk222 : ∀ pc, ev_kb MM "LeftAnswers$Pairs" pc (.putfield 27) 4 3 = true := kb_putf (by decide +kernel) gw315
set_option maxRecDepth 100000 in
theorem lk223 : ∀ pc, ev_kb MM "LeftAnswers$Pairs" pc (.invokevirtual 31) 66 0 = true := kb_vi (by decide) me66 (by decide +kernel) gw319 gw178 gw176
set_option maxRecDepth 100000 in
theorem lk224 : ∀ pc, ev_kb MM "LeftAnswers$Pairs" pc (.getfield 37) 3 3 = true := kb_getf (by decide +kernel) gw320
set_option maxRecDepth 100000 in
theorem lk225 : ∀ pc, ev_kb MM "LeftAnswers$Pairs" pc (.invokevirtual 40) 62 0 = true := kb_vi (by decide) me62 (by decide +kernel) gw321 gw173 gw171
set_option maxRecDepth 100000 in
theorem lk226 : ∀ pc, ev_kb MM "LeftAnswers$Pairs" pc (.invokevirtual 47) 68 2 = true := kb_vi (by decide) me68 (by decide +kernel) gw322 gw325 gw323
set_option maxRecDepth 100000 in
theorem lk227 : ∀ pc, ev_kb MM "LeftAnswers$Parted" pc (.invokespecial 3) 999 0 = true := kb_obj gw326 gw1 gw2
set_option maxRecDepth 100000 in
theorem lk228 : ∀ pc, ev_kb MM "LeftAnswers$Parted" pc (.newarray .int) 0 0 = true := kb_newa gw207
set_option maxRecDepth 100000 in
theorem lk229 : ∀ pc, ev_kb MM "LeftAnswers$Parted" pc (.putfield 9) 5 0 = true := kb_putf (by decide +kernel) gw327
set_option maxRecDepth 100000 in
theorem lk230 : ∀ pc, ev_kb MM "LeftAnswers$Parted" pc (.putfield 15) 5 1 = true := kb_putf (by decide +kernel) gw328
set_option maxRecDepth 100000 in
theorem lk231 : ∀ pc, ev_kb MM "LeftAnswers$Parted" pc (.putfield 18) 5 2 = true := kb_putf (by decide +kernel) gw329
set_option maxRecDepth 100000 in
theorem lk232 : ∀ pc, ev_kb MM "LeftAnswers$Parted" pc (.putfield 21) 5 3 = true := kb_putf (by decide +kernel) gw330
set_option maxRecDepth 100000 in
theorem lk233 : ∀ pc, ev_kb MM "LeftAnswers$Parted" pc (.getfield 33) 5 4 = true := kb_getf (by decide +kernel) gw331
set_option maxRecDepth 100000 in
theorem lk234 : ∀ pc, ev_kb MM "LeftAnswers$Past" pc (.invokespecial 3) 999 0 = true := kb_obj gw332 gw1 gw2
set_option maxRecDepth 100000 in
theorem lk235 : ∀ pc, ev_kb MM "LeftAnswers$Past" pc (.anewarray 11) 5 0 = true := kb_anew (by decide) gw333
set_option maxRecDepth 100000 in
theorem lk236 : ∀ pc, ev_kb MM "LeftAnswers$Past" pc (.putfield 13) 6 0 = true := kb_putf (by decide +kernel) gw334
set_option maxRecDepth 100000 in
theorem lk237 : ∀ pc, ev_kb MM "LeftAnswers$Past" pc (.getfield 13) 6 0 = true := kb_getf (by decide +kernel) gw334
set_option maxRecDepth 100000 in
theorem lk238 : ∀ pc, ev_kb MM "LeftAnswers$Past" pc (.new 11) 3 0 = true := kb_new (by decide) gw333 gw19 gw20
set_option maxRecDepth 100000 in
theorem lk239 : ∀ pc, ev_kb MM "LeftAnswers$Past" pc (.invokespecial 17) 55 0 = true := kb_sp (by decide) me55 (by decide +kernel) gw335 gw23
set_option maxRecDepth 100000 in
theorem lk240 : ∀ pc, ev_kb MM "LeftAnswers$Past" pc (.putfield 18) 6 2 = true := kb_putf (by decide +kernel) gw336
set_option maxRecDepth 100000 in
theorem lk241 : ∀ pc, ev_kb MM "LeftAnswers$Past" pc (.getfield 18) 6 2 = true := kb_getf (by decide +kernel) gw336
set_option maxRecDepth 100000 in
theorem lk242 : ∀ pc, ev_kb MM "LeftAnswers$Past" pc (.getfield 22) 6 1 = true := kb_getf (by decide +kernel) gw337
set_option maxRecDepth 100000 in
theorem lk243 : ∀ pc, ev_kb MM "LeftAnswers$Past" pc (.invokevirtual 25) 58 1 = true := kb_vi (by decide) me58 (by decide +kernel) gw338 gw100 gw98
set_option maxRecDepth 100000 in
theorem lk244 : ∀ pc, ev_kb MM "LeftAnswers$Sentence" pc (.invokespecial 5) 999 0 = true := kb_obj gw339 gw1 gw2
set_option maxRecDepth 100000 in
theorem lk245 : ∀ pc, ev_kb MM "LeftAnswers$Sentence" pc (.anewarray 11) 4 0 = true := kb_anew (by decide) gw340
set_option maxRecDepth 100000 in
theorem lk246 : ∀ pc, ev_kb MM "LeftAnswers$Sentence" pc (.putfield 13) 7 2 = true := kb_putf (by decide +kernel) gw341
set_option maxRecDepth 100000 in
theorem lk247 : ∀ pc, ev_kb MM "LeftAnswers$Sentence" pc (.getfield 13) 7 2 = true := kb_getf (by decide +kernel) gw341
set_option maxRecDepth 100000 in
theorem lk248 : ∀ pc, ev_kb MM "LeftAnswers$Sentence" pc (.getstatic 17) 0 0 = true := kb_gets (by decide) gw342
set_option maxRecDepth 100000 in
theorem lk249 : ∀ pc, ev_kb MM "LeftAnswers$Sentence" pc (.newarray .int) 0 0 = true := kb_newa gw207
set_option maxRecDepth 100000 in
theorem lk250 : ∀ pc, ev_kb MM "LeftAnswers$Sentence" pc (.putfield 21) 7 3 = true := kb_putf (by decide +kernel) gw343
set_option maxRecDepth 100000 in
theorem lk251 : ∀ pc, ev_kb MM "LeftAnswers$Sentence" pc (.putfield 25) 7 4 = true := kb_putf (by decide +kernel) gw344
set_option maxRecDepth 100000 in
theorem lk252 : ∀ pc, ev_kb MM "LeftAnswers$Sentence" pc (.putfield 28) 7 5 = true := kb_putf (by decide +kernel) gw345
set_option maxRecDepth 100000 in
theorem lk253 : ∀ pc, ev_kb MM "LeftAnswers$Sentence" pc (.getstatic 91) 100 0 = true := kb_getw rfl gw346
set_option maxRecDepth 100000 in
theorem lk254 : ∀ pc, ev_kb MM "LeftAnswers$Sentence" pc (.invokevirtual 96) 900 0 = true := kb_ord gw347
set_option maxRecDepth 100000 in
theorem lk255 : ∀ pc, ev_kb MM "LeftAnswers$Sentence" pc (.putfield 31) 7 0 = true := kb_putf (by decide +kernel) gw348
set_option maxRecDepth 100000 in
theorem lk256 : ∀ pc, ev_kb MM "LeftAnswers$Sentence" pc (.putfield 35) 7 1 = true := kb_putf (by decide +kernel) gw349
set_option maxRecDepth 100000 in
theorem lk257 : ∀ pc, ev_kb MM "LeftAnswers$Sentence" pc (.getfield 31) 7 0 = true := kb_getf (by decide +kernel) gw348
set_option maxRecDepth 100000 in
theorem lk258 : ∀ pc, ev_kb MM "LeftAnswers$Sentence" pc (.getfield 35) 7 1 = true := kb_getf (by decide +kernel) gw349
set_option maxRecDepth 100000 in
theorem lk259 : ∀ pc, ev_kb MM "LeftAnswers$Sentence" pc (.getfield 21) 7 3 = true := kb_getf (by decide +kernel) gw343
set_option maxRecDepth 100000 in
theorem lk260 : ∀ pc, ev_kb MM "LeftAnswers$Sentence" pc (.getfield 25) 7 4 = true := kb_getf (by decide +kernel) gw344
set_option maxRecDepth 100000 in
theorem lk261 : ∀ pc, ev_kb MM "LeftAnswers$Sentence" pc (.invokevirtual 74) 83 3 = true := kb_vi (by decide) me83 (by decide +kernel) gw350 gw353 gw351
set_option maxRecDepth 100000 in
theorem lk262 : ∀ pc, ev_kb MM "LeftAnswers$Sentence" pc (.invokevirtual 58) 80 3 = true := kb_vi (by decide) me80 (by decide +kernel) gw354 gw357 gw355
set_option maxRecDepth 100000 in
theorem lk263 : ∀ pc, ev_kb MM "LeftAnswers$Sentence" pc (.invokevirtual 38) 78 0 = true := kb_vi (by decide) me78 (by decide +kernel) gw358 gw149 gw147
set_option maxRecDepth 100000 in
theorem lk264 : ∀ pc, ev_kb MM "LeftAnswers$Sentence" pc (.invokevirtual 41) 88 1 = true := kb_vi (by decide) me88 (by decide +kernel) gw359 gw224 gw222
set_option maxRecDepth 100000 in
theorem lk265 : ∀ pc, ev_kb MM "LeftAnswers$Sentence" pc (.invokevirtual 47) 81 3 = true := kb_vi (by decide) me81 (by decide +kernel) gw360 gw363 gw361
set_option maxRecDepth 100000 in
theorem lk266 : ∀ pc, ev_kb MM "LeftAnswers$Sentence" pc (.invokevirtual 80) 87 1 = true := kb_vi (by decide) me87 (by decide +kernel) gw364 gw367 gw365
set_option maxRecDepth 100000 in
theorem lk267 : ∀ pc, ev_kb MM "LeftAnswers$Sentence" pc (.getfield 61) 9 6 = true := kb_getf (by decide +kernel) gw368
set_option maxRecDepth 100000 in
theorem lk268 : ∀ pc, ev_kb MM "LeftAnswers$Sentence" pc (.invokestatic 84) 77 1 = true := kb_st (by decide) me77 gw369 gw371
set_option maxRecDepth 100000 in
theorem lk269 : ∀ pc, ev_kb MM "LeftAnswers$Sentence" pc (.invokevirtual 54) 90 1 = true := kb_vi (by decide) me90 (by decide +kernel) gw372 gw375 gw373
set_option maxRecDepth 100000 in
theorem lk270 : ∀ pc, ev_kb MM "LeftAnswers$Slip" pc (.invokespecial 3) 999 0 = true := kb_obj gw376 gw1 gw2
set_option maxRecDepth 100000 in
theorem lk271 : ∀ pc, ev_kb MM "LeftAnswers$Slip" pc (.newarray .byte) 0 0 = true := kb_newa gw377
set_option maxRecDepth 100000 in
theorem lk272 : ∀ pc, ev_kb MM "LeftAnswers$Slip" pc (.putfield 11) 8 0 = true := kb_putf (by decide +kernel) gw378
set_option maxRecDepth 100000 in
theorem lk273 : ∀ pc, ev_kb MM "LeftAnswers$Tape" pc (.invokespecial 3) 999 0 = true := kb_obj gw379 gw1 gw2
set_option maxRecDepth 100000 in
theorem lk274 : ∀ pc, ev_kb MM "LeftAnswers$Tape" pc (.newarray .byte) 0 0 = true := kb_newa gw377
set_option maxRecDepth 100000 in
theorem lk275 : ∀ pc, ev_kb MM "LeftAnswers$Tape" pc (.putfield 11) 9 0 = true := kb_putf (by decide +kernel) gw380
set_option maxRecDepth 100000 in
theorem lk276 : ∀ pc, ev_kb MM "LeftAnswers$Tape" pc (.getstatic 15) 0 0 = true := kb_gets (by decide) gw381
set_option maxRecDepth 100000 in
theorem lk277 : ∀ pc, ev_kb MM "LeftAnswers$Tape" pc (.putfield 21) 9 6 = true := kb_putf (by decide +kernel) gw382
set_option maxRecDepth 100000 in
theorem lk278 : ∀ pc, ev_kb MM "LeftAnswers$Tape" pc (.putfield 46) 9 7 = true := kb_putf (by decide +kernel) gw383
set_option maxRecDepth 100000 in
theorem lk279 : ∀ pc, ev_kb MM "LeftAnswers$Tape" pc (.putfield 50) 9 8 = true := kb_putf (by decide +kernel) gw384
set_option maxRecDepth 100000 in
theorem lk280 : ∀ pc, ev_kb MM "LeftAnswers$Tape" pc (.getfield 31) 9 3 = true := kb_getf (by decide +kernel) gw385
set_option maxRecDepth 100000 in
theorem lk281 : ∀ pc, ev_kb MM "LeftAnswers$Tape" pc (.getfield 24) 9 1 = true := kb_getf (by decide +kernel) gw386
set_option maxRecDepth 100000 in
theorem lk282 : ∀ pc, ev_kb MM "LeftAnswers$Tape" pc (.putfield 61) 9 5 = true := kb_putf (by decide +kernel) gw387
set_option maxRecDepth 100000 in
theorem lk283 : ∀ pc, ev_kb MM "LeftAnswers$Tape" pc (.getfield 28) 9 2 = true := kb_getf (by decide +kernel) gw388
set_option maxRecDepth 100000 in
theorem lk284 : ∀ pc, ev_kb MM "LeftAnswers$Tape" pc (.putfield 64) 9 4 = true := kb_putf (by decide +kernel) gw389
set_option maxRecDepth 100000 in
theorem lk285 : ∀ pc, ev_kb MM "LeftAnswers$Tape" pc (.getfield 64) 9 4 = true := kb_getf (by decide +kernel) gw389
set_option maxRecDepth 100000 in
theorem lk286 : ∀ pc, ev_kb MM "LeftAnswers$Tape" pc (.putfield 28) 9 2 = true := kb_putf (by decide +kernel) gw388
set_option maxRecDepth 100000 in
theorem lk287 : ∀ pc, ev_kb MM "LeftAnswers$Tape" pc (.putfield 31) 9 3 = true := kb_putf (by decide +kernel) gw385
set_option maxRecDepth 100000 in
theorem lk288 : ∀ pc, ev_kb MM "LeftAnswers$Tape" pc (.putfield 34) 9 10 = true := kb_putf (by decide +kernel) gw390
set_option maxRecDepth 100000 in
theorem lk289 : ∀ pc, ev_kb MM "LeftAnswers$Tape" pc (.putfield 37) 9 11 = true := kb_putf (by decide +kernel) gw391
set_option maxRecDepth 100000 in
theorem lk290 : ∀ pc, ev_kb MM "LeftAnswers$Tape" pc (.putfield 40) 9 9 = true := kb_putf (by decide +kernel) gw392
set_option maxRecDepth 100000 in
theorem lk291 : ∀ pc, ev_kb MM "LeftAnswers$Tape" pc (.invokevirtual 43) 86 0 = true := kb_vi (by decide) me86 (by decide +kernel) gw393 gw396 gw394
set_option maxRecDepth 100000 in
theorem lk292 : ∀ pc, ev_kb MM "LeftAnswers$Tape" pc (.getfield 11) 9 0 = true := kb_getf (by decide +kernel) gw380
set_option maxRecDepth 100000 in
theorem lk293 : ∀ pc, ev_kb MM "LeftAnswers$Tape" pc (.putfield 24) 9 1 = true := kb_putf (by decide +kernel) gw386
set_option maxRecDepth 100000 in
theorem lk294 : ∀ pc, ev_kb MM "LeftAnswers$Tape" pc (.getfield 61) 9 5 = true := kb_getf (by decide +kernel) gw387
set_option maxRecDepth 100000 in
theorem lk295 : ∀ pc, ev_kb MM "LeftAnswersModel" pc (.invokespecial 93) 999 0 = true := kb_obj gw397 gw1 gw2
set_option maxRecDepth 100000 in
theorem lk296 : ∀ pc, ev_kb MM "LeftAnswersModel" pc (.newarray .int) 0 0 = true := kb_newa gw207
set_option maxRecDepth 100000 in
theorem lk297 : ∀ pc, ev_kb MM "LeftAnswersModel" pc (.putfield 7) 11 1 = true := kb_putf (by decide +kernel) gw398
set_option maxRecDepth 100000 in
theorem lk298 : ∀ pc, ev_kb MM "LeftAnswersModel" pc (.putfield 98) 11 14 = true := kb_putf (by decide +kernel) gw399
set_option maxRecDepth 100000 in
theorem lk299 : ∀ pc, ev_kb MM "LeftAnswersModel" pc (.putfield 101) 11 15 = true := kb_putf (by decide +kernel) gw400
set_option maxRecDepth 100000 in
theorem lk300 : ∀ pc, ev_kb MM "LeftAnswersModel" pc (.putfield 104) 11 16 = true := kb_putf (by decide +kernel) gw401
set_option maxRecDepth 100000 in
theorem lk301 : ∀ pc, ev_kb MM "LeftAnswersModel" pc (.putfield 107) 11 17 = true := kb_putf (by decide +kernel) gw402
set_option maxRecDepth 100000 in
theorem lk302 : ∀ pc, ev_kb MM "LeftAnswersModel" pc (.putfield 110) 11 18 = true := kb_putf (by decide +kernel) gw403
set_option maxRecDepth 100000 in
theorem lk303 : ∀ pc, ev_kb MM "LeftAnswersModel" pc (.newarray .long) 0 0 = true := kb_newa gw227
set_option maxRecDepth 100000 in
theorem lk304 : ∀ pc, ev_kb MM "LeftAnswersModel" pc (.putfield 113) 11 19 = true := kb_putf (by decide +kernel) gw404
set_option maxRecDepth 100000 in
theorem lk305 : ∀ pc, ev_kb MM "LeftAnswersModel" pc (.putfield 117) 11 20 = true := kb_putf (by decide +kernel) gw405
set_option maxRecDepth 100000 in
theorem lk306 : ∀ pc, ev_kb MM "LeftAnswersModel" pc (.putfield 120) 11 21 = true := kb_putf (by decide +kernel) gw406
set_option maxRecDepth 100000 in
theorem lk307 : ∀ pc, ev_kb MM "LeftAnswersModel" pc (.newarray .boolean) 0 0 = true := kb_newa gw407
set_option maxRecDepth 100000 in
theorem lk308 : ∀ pc, ev_kb MM "LeftAnswersModel" pc (.putfield 123) 11 22 = true := kb_putf (by decide +kernel) gw408
set_option maxRecDepth 100000 in
theorem lk309 : ∀ pc, ev_kb MM "LeftAnswersModel" pc (.putfield 127) 11 23 = true := kb_putf (by decide +kernel) gw409
set_option maxRecDepth 100000 in
theorem lk310 : ∀ pc, ev_kb MM "LeftAnswersModel" pc (.putfield 130) 11 25 = true := kb_putf (by decide +kernel) gw410
set_option maxRecDepth 100000 in
theorem lk311 : ∀ pc, ev_kb MM "LeftAnswersModel" pc (.putfield 133) 11 26 = true := kb_putf (by decide +kernel) gw411
set_option maxRecDepth 100000 in
theorem lk312 : ∀ pc, ev_kb MM "LeftAnswersModel" pc (.putfield 136) 11 27 = true := kb_putf (by decide +kernel) gw412
set_option maxRecDepth 100000 in
theorem lk313 : ∀ pc, ev_kb MM "LeftAnswersModel" pc (.putfield 139) 11 30 = true := kb_putf (by decide +kernel) gw413
set_option maxRecDepth 100000 in
theorem lk314 : ∀ pc, ev_kb MM "LeftAnswersModel" pc (.putfield 142) 11 31 = true := kb_putf (by decide +kernel) gw414
set_option maxRecDepth 100000 in
theorem lk315 : ∀ pc, ev_kb MM "LeftAnswersModel" pc (.putfield 145) 11 33 = true := kb_putf (by decide +kernel) gw415
set_option maxRecDepth 100000 in
theorem lk316 : ∀ pc, ev_kb MM "LeftAnswersModel" pc (.putfield 148) 11 34 = true := kb_putf (by decide +kernel) gw416
set_option maxRecDepth 100000 in
theorem lk317 : ∀ pc, ev_kb MM "LeftAnswersModel" pc (.putfield 151) 11 35 = true := kb_putf (by decide +kernel) gw417
set_option maxRecDepth 100000 in
theorem lk318 : ∀ pc, ev_kb MM "LeftAnswersModel" pc (.putfield 154) 11 36 = true := kb_putf (by decide +kernel) gw418
set_option maxRecDepth 100000 in
theorem lk319 : ∀ pc, ev_kb MM "LeftAnswersModel" pc (.putfield 157) 11 40 = true := kb_putf (by decide +kernel) gw419
set_option maxRecDepth 100000 in
theorem lk320 : ∀ pc, ev_kb MM "LeftAnswersModel" pc (.putfield 160) 11 43 = true := kb_putf (by decide +kernel) gw420
set_option maxRecDepth 100000 in
theorem lk321 : ∀ pc, ev_kb MM "LeftAnswersModel" pc (.putfield 163) 11 44 = true := kb_putf (by decide +kernel) gw421
set_option maxRecDepth 100000 in
theorem lk322 : ∀ pc, ev_kb MM "LeftAnswersModel" pc (.putfield 166) 11 47 = true := kb_putf (by decide +kernel) gw422
set_option maxRecDepth 100000 in
theorem lk323 : ∀ pc, ev_kb MM "LeftAnswersModel" pc (.getfield 98) 11 14 = true := kb_getf (by decide +kernel) gw399
set_option maxRecDepth 100000 in
theorem lk324 : ∀ pc, ev_kb MM "LeftAnswersModel" pc (.invokevirtual 169) 151 0 = true := kb_vi (by decide) me151 (by decide +kernel) gw423 gw427 gw424
set_option maxRecDepth 100000 in
theorem lk325 : ∀ pc, ev_kb MM "LeftAnswersModel" pc (.putfield 1) 11 0 = true := kb_putf (by decide +kernel) gw428
set_option maxRecDepth 100000 in
theorem lk326 : ∀ pc, ev_kb MM "LeftAnswersModel" pc (.invokevirtual 240) 125 1 = true := kb_vi (by decide) me125 (by decide +kernel) gw429 gw432 gw430
set_option maxRecDepth 100000 in
theorem lk327 : ∀ pc, ev_kb MM "LeftAnswersModel" pc (.getfield 30) 11 7 = true := kb_getf (by decide +kernel) gw433
set_option maxRecDepth 100000 in
theorem lk328 : ∀ pc, ev_kb MM "LeftAnswersModel" pc (.putfield 66) 11 10 = true := kb_putf (by decide +kernel) gw434
set_option maxRecDepth 100000 in
theorem lk329 : ∀ pc, ev_kb MM "LeftAnswersModel" pc (.getfield 24) 11 6 = true := kb_getf (by decide +kernel) gw435
set_option maxRecDepth 100000 in
theorem lk330 : ∀ pc, ev_kb MM "LeftAnswersModel" pc (.putfield 69) 11 11 = true := kb_putf (by decide +kernel) gw436
set_option maxRecDepth 100000 in
theorem lk331 : ∀ pc, ev_kb MM "LeftAnswersModel" pc (.invokevirtual 292) 93 5 = true := kb_vi (by decide) me93 (by decide +kernel) gw437 gw440 gw438
set_option maxRecDepth 100000 in
theorem lk332 : ∀ pc, ev_kb MM "LeftAnswersModel" pc (.invokevirtual 89) 154 0 = true := kb_vi (by decide) me154 (by decide +kernel) gw441 gw444 gw442
set_option maxRecDepth 100000 in
theorem lk333 : ∀ pc, ev_kb MM "LeftAnswersModel" pc (.putfield 18) 11 3 = true := kb_putf (by decide +kernel) gw445
set_option maxRecDepth 100000 in
theorem lk334 : ∀ pc, ev_kb MM "LeftAnswersModel" pc (.putfield 27) 11 4 = true := kb_putf (by decide +kernel) gw446
set_option maxRecDepth 100000 in
theorem lk335 : ∀ pc, ev_kb MM "LeftAnswersModel" pc (.putfield 21) 11 5 = true := kb_putf (by decide +kernel) gw447
set_option maxRecDepth 100000 in
theorem lk336 : ∀ pc, ev_kb MM "LeftAnswersModel" pc (.invokevirtual 82) 116 0 = true := kb_vi (by decide) me116 (by decide +kernel) gw448 gw451 gw449
set_option maxRecDepth 100000 in
theorem lk337 : ∀ pc, ev_kb MM "LeftAnswersModel" pc (.getfield 151) 11 35 = true := kb_getf (by decide +kernel) gw417
set_option maxRecDepth 100000 in
theorem lk338 : ∀ pc, ev_kb MM "LeftAnswersModel" pc (.putfield 331) 11 37 = true := kb_putf (by decide +kernel) gw452
set_option maxRecDepth 100000 in
theorem lk339 : ∀ pc, ev_kb MM "LeftAnswersModel" pc (.invokevirtual 334) 159 2 = true := kb_vi (by decide) me159 (by decide +kernel) gw453 gw456 gw454
set_option maxRecDepth 100000 in
theorem lk340 : ∀ pc, ev_kb MM "LeftAnswersModel" pc (.putfield 344) 11 38 = true := kb_putf (by decide +kernel) gw457
set_option maxRecDepth 100000 in
theorem lk341 : ∀ pc, ev_kb MM "LeftAnswersModel" pc (.putfield 347) 11 39 = true := kb_putf (by decide +kernel) gw458
set_option maxRecDepth 100000 in
theorem lk342 : ∀ pc, ev_kb MM "LeftAnswersModel" pc (.getfield 331) 11 37 = true := kb_getf (by decide +kernel) gw452
set_option maxRecDepth 100000 in
theorem lk343 : ∀ pc, ev_kb MM "LeftAnswersModel" pc (.getfield 347) 11 39 = true := kb_getf (by decide +kernel) gw458
set_option maxRecDepth 100000 in
theorem lk344 : ∀ pc, ev_kb MM "LeftAnswersModel" pc (.invokestatic 75) 123 3 = true := kb_st (by decide) me123 gw459 gw461
set_option maxRecDepth 100000 in
theorem lk345 : ∀ pc, ev_kb MM "LeftAnswersModel" pc (.invokevirtual 225) 96 1 = true := kb_vi (by decide) me96 (by decide +kernel) gw462 gw465 gw463
set_option maxRecDepth 100000 in
theorem lk346 : ∀ pc, ev_kb MM "LeftAnswersModel" pc (.putfield 398) 11 45 = true := kb_putf (by decide +kernel) gw466
set_option maxRecDepth 100000 in
theorem lk347 : ∀ pc, ev_kb MM "LeftAnswersModel" pc (.invokevirtual 383) 130 0 = true := kb_vi (by decide) me130 (by decide +kernel) gw467 gw470 gw468
set_option maxRecDepth 100000 in
theorem lk348 : ∀ pc, ev_kb MM "LeftAnswersModel" pc (.getfield 398) 11 45 = true := kb_getf (by decide +kernel) gw466
set_option maxRecDepth 100000 in
theorem lk349 : ∀ pc, ev_kb MM "LeftAnswersModel" pc (.getfield 163) 11 44 = true := kb_getf (by decide +kernel) gw421
set_option maxRecDepth 100000 in
theorem lk350 : ∀ pc, ev_kb MM "LeftAnswersModel" pc (.invokevirtual 259) 129 0 = true := kb_vi (by decide) me129 (by decide +kernel) gw471 gw474 gw472
set_option maxRecDepth 100000 in
theorem lk351 : ∀ pc, ev_kb MM "LeftAnswersModel" pc (.putfield 410) 11 46 = true := kb_putf (by decide +kernel) gw475
set_option maxRecDepth 100000 in
theorem lk352 : ∀ pc, ev_kb MM "LeftAnswersModel" pc (.invokevirtual 413) 152 1 = true := kb_vi (by decide) me152 (by decide +kernel) gw476 gw479 gw477
set_option maxRecDepth 100000 in
theorem lk353 : ∀ pc, ev_kb MM "LeftAnswersModel" pc (.getfield 354) 11 41 = true := kb_getf (by decide +kernel) gw480
set_option maxRecDepth 100000 in
theorem lk354 : ∀ pc, ev_kb MM "LeftAnswersModel" pc (.getfield 7) 11 1 = true := kb_getf (by decide +kernel) gw398
set_option maxRecDepth 100000 in
theorem lk355 : ∀ pc, ev_kb MM "LeftAnswersModel" pc (.getfield 11) 11 2 = true := kb_getf (by decide +kernel) gw481
set_option maxRecDepth 100000 in
theorem lk356 : ∀ pc, ev_kb MM "LeftAnswersModel" pc (.putfield 11) 11 2 = true := kb_putf (by decide +kernel) gw481
set_option maxRecDepth 100000 in
theorem lk357 : ∀ pc, ev_kb MM "LeftAnswersModel" pc (.invokevirtual 285) 150 0 = true := kb_vi (by decide) me150 (by decide +kernel) gw482 gw485 gw483
set_option maxRecDepth 100000 in
theorem lk358 : ∀ pc, ev_kb MM "LeftAnswersModel" pc (.invokevirtual 299) 138 1 = true := kb_vi (by decide) me138 (by decide +kernel) gw486 gw489 gw487
set_option maxRecDepth 100000 in
theorem lk359 : ∀ pc, ev_kb MM "LeftAnswersModel" pc (.invokevirtual 256) 122 1 = true := kb_vi (by decide) me122 (by decide +kernel) gw490 gw493 gw491
set_option maxRecDepth 100000 in
theorem lk360 : ∀ pc, ev_kb MM "LeftAnswersModel" pc (.getfield 101) 11 15 = true := kb_getf (by decide +kernel) gw400
set_option maxRecDepth 100000 in
theorem lk361 : ∀ pc, ev_kb MM "LeftAnswersModel" pc (.getfield 127) 11 23 = true := kb_getf (by decide +kernel) gw409
set_option maxRecDepth 100000 in
theorem lk362 : ∀ pc, ev_kb MM "LeftAnswersModel" pc (.getfield 113) 11 19 = true := kb_getf (by decide +kernel) gw404
set_option maxRecDepth 100000 in
theorem lk363 : ∀ pc, ev_kb MM "LeftAnswersModel" pc (.getfield 117) 11 20 = true := kb_getf (by decide +kernel) gw405
set_option maxRecDepth 100000 in
theorem lk364 : ∀ pc, ev_kb MM "LeftAnswersModel" pc (.putfield 234) 11 24 = true := kb_putf (by decide +kernel) gw494
set_option maxRecDepth 100000 in
theorem lk365 : ∀ pc, ev_kb MM "LeftAnswersModel" pc (.getfield 66) 11 10 = true := kb_getf (by decide +kernel) gw434
set_option maxRecDepth 100000 in
theorem lk366 : ∀ pc, ev_kb MM "LeftAnswersModel" pc (.invokevirtual 14) 102 1 = true := kb_vi (by decide) me102 (by decide +kernel) gw495 gw498 gw496
set_option maxRecDepth 100000 in
theorem lk367 : ∀ pc, ev_kb MM "LeftAnswersModel" pc (.getfield 322) 11 32 = true := kb_getf (by decide +kernel) gw499
set_option maxRecDepth 100000 in
theorem lk368 : ∀ pc, ev_kb MM "LeftAnswersModel" pc (.getfield 21) 11 5 = true := kb_getf (by decide +kernel) gw447
set_option maxRecDepth 100000 in
theorem lk369 : ∀ pc, ev_kb MM "LeftAnswersModel" pc (.getfield 18) 11 3 = true := kb_getf (by decide +kernel) gw445
set_option maxRecDepth 100000 in
theorem lk370 : ∀ pc, ev_kb MM "LeftAnswersModel" pc (.putfield 24) 11 6 = true := kb_putf (by decide +kernel) gw435
set_option maxRecDepth 100000 in
theorem lk371 : ∀ pc, ev_kb MM "LeftAnswersModel" pc (.getfield 27) 11 4 = true := kb_getf (by decide +kernel) gw446
set_option maxRecDepth 100000 in
theorem lk372 : ∀ pc, ev_kb MM "LeftAnswersModel" pc (.putfield 30) 11 7 = true := kb_putf (by decide +kernel) gw433
set_option maxRecDepth 100000 in
theorem lk373 : ∀ pc, ev_kb MM "LeftAnswersModel" pc (.getfield 148) 11 34 = true := kb_getf (by decide +kernel) gw416
set_option maxRecDepth 100000 in
theorem lk374 : ∀ pc, ev_kb MM "LeftAnswersModel" pc (.invokestatic 207) 119 2 = true := kb_st (by decide) me119 gw500 gw502
set_option maxRecDepth 100000 in
theorem lk375 : ∀ pc, ev_kb MM "LeftAnswersModel" pc (.invokestatic 328) 99 1 = true := kb_st (by decide) me99 gw503 gw505
set_option maxRecDepth 100000 in
theorem lk376 : ∀ pc, ev_kb MM "LeftAnswersModel" pc (.getfield 104) 11 16 = true := kb_getf (by decide +kernel) gw401
set_option maxRecDepth 100000 in
theorem lk377 : ∀ pc, ev_kb MM "LeftAnswersModel" pc (.getfield 120) 11 21 = true := kb_getf (by decide +kernel) gw406
set_option maxRecDepth 100000 in
theorem lk378 : ∀ pc, ev_kb MM "LeftAnswersModel" pc (.getfield 123) 11 22 = true := kb_getf (by decide +kernel) gw408
set_option maxRecDepth 100000 in
theorem lk379 : ∀ pc, ev_kb MM "LeftAnswersModel" pc (.invokevirtual 237) 124 1 = true := kb_vi (by decide) me124 (by decide +kernel) gw506 gw509 gw507
set_option maxRecDepth 100000 in
theorem lk380 : ∀ pc, ev_kb MM "LeftAnswersModel" pc (.getfield 110) 11 18 = true := kb_getf (by decide +kernel) gw403
set_option maxRecDepth 100000 in
theorem lk381 : ∀ pc, ev_kb MM "LeftAnswersModel" pc (.invokevirtual 262) 127 1 = true := kb_vi (by decide) me127 (by decide +kernel) gw510 gw513 gw511
set_option maxRecDepth 100000 in
theorem lk382 : ∀ pc, ev_kb MM "LeftAnswersModel" pc (.invokevirtual 265) 153 2 = true := kb_vi (by decide) me153 (by decide +kernel) gw514 gw517 gw515
set_option maxRecDepth 100000 in
theorem lk383 : ∀ pc, ev_kb MM "LeftAnswersModel" pc (.getfield 311) 11 29 = true := kb_getf (by decide +kernel) gw518
set_option maxRecDepth 100000 in
theorem lk384 : ∀ pc, ev_kb MM "LeftAnswersModel" pc (.invokestatic 275) 131 2 = true := kb_st (by decide) me131 gw519 gw521
set_option maxRecDepth 100000 in
theorem lk385 : ∀ pc, ev_kb MM "LeftAnswersModel" pc (.invokevirtual 296) 134 0 = true := kb_vi (by decide) me134 (by decide +kernel) gw522 gw525 gw523
set_option maxRecDepth 100000 in
theorem lk386 : ∀ pc, ev_kb MM "LeftAnswersModel" pc (.invokevirtual 243) 143 0 = true := kb_vi (by decide) me143 (by decide +kernel) gw526 gw529 gw527
set_option maxRecDepth 100000 in
theorem lk387 : ∀ pc, ev_kb MM "LeftAnswersModel" pc (.invokevirtual 429) 142 0 = true := kb_vi (by decide) me142 (by decide +kernel) gw530 gw533 gw531
set_option maxRecDepth 100000 in
theorem lk388 : ∀ pc, ev_kb MM "LeftAnswersModel" pc (.invokevirtual 420) 140 0 = true := kb_vi (by decide) me140 (by decide +kernel) gw534 gw537 gw535
set_option maxRecDepth 100000 in
theorem lk389 : ∀ pc, ev_kb MM "LeftAnswersModel" pc (.invokevirtual 86) 126 1 = true := kb_vi (by decide) me126 (by decide +kernel) gw538 gw541 gw539
set_option maxRecDepth 100000 in
theorem lk390 : ∀ pc, ev_kb MM "LeftAnswersModel" pc (.invokevirtual 180) 128 1 = true := kb_vi (by decide) me128 (by decide +kernel) gw542 gw545 gw543
set_option maxRecDepth 100000 in
theorem lk391 : ∀ pc, ev_kb MM "LeftAnswersModel" pc (.invokevirtual 72) 94 1 = true := kb_vi (by decide) me94 (by decide +kernel) gw546 gw549 gw547
set_option maxRecDepth 100000 in
theorem lk392 : ∀ pc, ev_kb MM "LeftAnswersModel" pc (.putfield 417) 11 48 = true := kb_putf (by decide +kernel) gw550
set_option maxRecDepth 100000 in
theorem lk393 : ∀ pc, ev_kb MM "LeftAnswersModel" pc (.putfield 432) 11 49 = true := kb_putf (by decide +kernel) gw551
set_option maxRecDepth 100000 in
theorem lk394 : ∀ pc, ev_kb MM "LeftAnswersModel" pc (.putfield 435) 11 50 = true := kb_putf (by decide +kernel) gw552
set_option maxRecDepth 100000 in
theorem lk395 : ∀ pc, ev_kb MM "LeftAnswersModel" pc (.invokevirtual 450) 141 0 = true := kb_vi (by decide) me141 (by decide +kernel) gw553 gw556 gw554
set_option maxRecDepth 100000 in
theorem lk396 : ∀ pc, ev_kb MM "LeftAnswersModel" pc (.getfield 69) 11 11 = true := kb_getf (by decide +kernel) gw436
set_option maxRecDepth 100000 in
theorem lk397 : ∀ pc, ev_kb MM "LeftAnswersModel" pc (.getfield 234) 11 24 = true := kb_getf (by decide +kernel) gw494
set_option maxRecDepth 100000 in
theorem lk398 : ∀ pc, ev_kb MM "LeftAnswersModel" pc (.getfield 107) 11 17 = true := kb_getf (by decide +kernel) gw402
set_option maxRecDepth 100000 in
theorem lk399 : ∀ pc, ev_kb MM "LeftAnswersModel" pc (.getfield 145) 11 33 = true := kb_getf (by decide +kernel) gw415
