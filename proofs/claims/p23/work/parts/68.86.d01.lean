set_option maxRecDepth 100000 in
theorem lk200 : ∀ pc, ev_kb MM "LeftAnswers$Duchy" pc (.getfield 47) 1 1 = true := kb_getf (by decide +kernel) gw406
set_option maxRecDepth 100000 in
theorem lk201 : ∀ pc, ev_kb MM "LeftAnswers$Duchy" pc (.invokevirtual 189) 60 1 = true := kb_vi (by decide) me60 (by decide +kernel) gw407 gw214 gw212
set_option maxRecDepth 100000 in
theorem lk202 : ∀ pc, ev_kb MM "LeftAnswers$Duchy" pc (.invokestatic 192) 299 1 = true := kb_abs (by decide +kernel) gw408 gw409 gw146 gw410
set_option maxRecDepth 100000 in
theorem lk203 : ∀ pc, ev_kb MM "LeftAnswers$Duchy" pc (.invokevirtual 179) 69 3 = true := kb_vi (by decide) me69 (by decide +kernel) gw411 gw414 gw412
set_option maxRecDepth 100000 in
theorem lk204 : ∀ pc, ev_kb MM "LeftAnswers$Duchy" pc (.putfield 43) 1 0 = true := kb_putf (by decide +kernel) gw404
set_option maxRecDepth 100000 in
theorem lk205 : ∀ pc, ev_kb MM "LeftAnswers$Duchy" pc (.putfield 47) 1 1 = true := kb_putf (by decide +kernel) gw406
set_option maxRecDepth 100000 in
theorem lk206 : ∀ pc, ev_kb MM "LeftAnswers$Duchy" pc (.putfield 50) 1 2 = true := kb_putf (by decide +kernel) gw415
set_option maxRecDepth 100000 in
theorem lk207 : ∀ pc, ev_kb MM "LeftAnswers$Duchy" pc (.putfield 53) 1 3 = true := kb_putf (by decide +kernel) gw416
set_option maxRecDepth 100000 in
theorem lk208 : ∀ pc, ev_kb MM "LeftAnswers$Duchy" pc (.putfield 56) 1 4 = true := kb_putf (by decide +kernel) gw417
set_option maxRecDepth 100000 in
theorem lk209 : ∀ pc, ev_kb MM "LeftAnswers$Duchy" pc (.putfield 59) 1 5 = true := kb_putf (by decide +kernel) gw418
set_option maxRecDepth 100000 in
theorem lk210 : ∀ pc, ev_kb MM "LeftAnswers$Duchy" pc (.putfield 62) 1 6 = true := kb_putf (by decide +kernel) gw419
set_option maxRecDepth 100000 in
theorem lk211 : ∀ pc, ev_kb MM "LeftAnswers$Duchy" pc (.getfield 22) 1 14 = true := kb_getf (by decide +kernel) gw394
set_option maxRecDepth 100000 in
theorem lk212 : ∀ pc, ev_kb MM "LeftAnswers$Duchy" pc (.getfield 25) 1 15 = true := kb_getf (by decide +kernel) gw395
set_option maxRecDepth 100000 in
theorem lk213 : ∀ pc, ev_kb MM "LeftAnswers$Duchy" pc (.getfield 50) 1 2 = true := kb_getf (by decide +kernel) gw415
set_option maxRecDepth 100000 in
theorem lk214 : ∀ pc, ev_kb MM "LeftAnswers$Duchy" pc (.getfield 53) 1 3 = true := kb_getf (by decide +kernel) gw416
set_option maxRecDepth 100000 in
theorem lk215 : ∀ pc, ev_kb MM "LeftAnswers$Duchy" pc (.getfield 56) 1 4 = true := kb_getf (by decide +kernel) gw417
set_option maxRecDepth 100000 in
theorem lk216 : ∀ pc, ev_kb MM "LeftAnswers$Duchy" pc (.getfield 59) 1 5 = true := kb_getf (by decide +kernel) gw418
set_option maxRecDepth 100000 in
theorem lk217 : ∀ pc, ev_kb MM "LeftAnswers$Duchy" pc (.getfield 62) 1 6 = true := kb_getf (by decide +kernel) gw419
set_option maxRecDepth 100000 in
theorem lk218 : ∀ pc, ev_kb MM "LeftAnswers$Duchy" pc (.getfield 9) 1 7 = true := kb_getf (by decide +kernel) gw391
set_option maxRecDepth 100000 in
theorem lk219 : ∀ pc, ev_kb MM "LeftAnswers$Duchy" pc (.invokestatic 65) 904 5 = true := kb_cpy rfl gw420 gw421 gw422 gw423
set_option maxRecDepth 100000 in
theorem lk220 : ∀ pc, ev_kb MM "LeftAnswers$Duchy" pc (.getfield 15) 1 8 = true := kb_getf (by decide +kernel) gw392
set_option maxRecDepth 100000 in
theorem lk221 : ∀ pc, ev_kb MM "LeftAnswers$Duchy" pc (.getfield 19) 1 9 = true := kb_getf (by decide +kernel) gw393
set_option maxRecDepth 100000 in
theorem lk222 : ∀ pc, ev_kb MM "LeftAnswers$Duchy" pc (.getfield 28) 1 10 = true := kb_getf (by decide +kernel) gw396
set_option maxRecDepth 100000 in
theorem lk223 : ∀ pc, ev_kb MM "LeftAnswers$Duchy" pc (.getfield 31) 1 11 = true := kb_getf (by decide +kernel) gw397
set_option maxRecDepth 100000 in
theorem lk224 : ∀ pc, ev_kb MM "LeftAnswers$Duchy" pc (.getfield 34) 1 12 = true := kb_getf (by decide +kernel) gw398
set_option maxRecDepth 100000 in
theorem lk225 : ∀ pc, ev_kb MM "LeftAnswers$Duchy" pc (.getfield 37) 1 13 = true := kb_getf (by decide +kernel) gw399
set_option maxRecDepth 100000 in
theorem lk226 : ∀ pc, ev_kb MM "LeftAnswers$Duchy" pc (.invokestatic 165) 71 3 = true := kb_st (by decide) me71 gw424 gw426
set_option maxRecDepth 100000 in
theorem lk227 : ∀ pc, ev_kb MM "LeftAnswers$Duchy" pc (.invokevirtual 200) 58 0 = true := kb_vi (by decide) me58 (by decide +kernel) gw427 gw430 gw428
set_option maxRecDepth 100000 in
theorem lk228 : ∀ pc, ev_kb MM "LeftAnswers$Duchy" pc (.invokevirtual 197) 82 1 = true := kb_vi (by decide) me82 (by decide +kernel) gw431 gw434 gw432
set_option maxRecDepth 100000 in
theorem lk229 : ∀ pc, ev_kb MM "LeftAnswers$Duchy" pc (.invokevirtual 169) 72 1 = true := kb_vi (by decide) me72 (by decide +kernel) gw435 gw158 gw156
set_option maxRecDepth 100000 in
theorem lk230 : ∀ pc, ev_kb MM "LeftAnswers$Duchy" pc (.invokevirtual 172) 68 2 = true := kb_vi (by decide) me68 (by decide +kernel) gw436 gw439 gw437
set_option maxRecDepth 100000 in
theorem lk231 : ∀ pc, ev_kb MM "LeftAnswers$Duchy" pc (.invokevirtual 175) 81 2 = true := kb_vi (by decide) me81 (by decide +kernel) gw440 gw303 gw301
set_option maxRecDepth 100000 in
theorem lk232 : ∀ pc, ev_kb MM "LeftAnswers$Duchy" pc (.getfield 88) 9 6 = true := kb_getf (by decide +kernel) gw441
set_option maxRecDepth 100000 in
theorem lk233 : ∀ pc, ev_kb MM "LeftAnswers$Duchy" pc (.getstatic 158) 1 0 = true := kb_gets (by decide) gw442
set_option maxRecDepth 100000 in
theorem lk234 : ∀ pc, ev_kb MM "LeftAnswers$Duchy" pc (.invokevirtual 114) 165 1 = true := kb_vi (by decide) me165 (by decide +kernel) gw443 gw342 gw340
set_option maxRecDepth 100000 in
theorem lk235 : ∀ pc, ev_kb MM "LeftAnswers$Duchy" pc (.getfield 128) 9 7 = true := kb_getf (by decide +kernel) gw444
set_option maxRecDepth 100000 in
theorem lk236 : ∀ pc, ev_kb MM "LeftAnswers$Duchy" pc (.invokestatic 161) 66 3 = true := kb_st (by decide) me66 gw445 gw447
set_option maxRecDepth 100000 in
theorem lk237 : ∀ pc, ev_kb MM "LeftAnswers$Duchy" pc (.invokevirtual 122) 155 0 = true := kb_vi (by decide) me155 (by decide +kernel) gw448 gw346 gw344
set_option maxRecDepth 100000 in
theorem lk238 : ∀ pc, ev_kb MM "LeftAnswers$Duchy" pc (.invokevirtual 125) 70 1 = true := kb_vi (by decide) me70 (by decide +kernel) gw449 gw452 gw450
set_option maxRecDepth 100000 in
theorem lk239 : ∀ pc, ev_kb MM "LeftAnswers$Duchy" pc (.invokevirtual 132) 168 2 = true := kb_vi (by decide) me168 (by decide +kernel) gw453 gw365 gw363
set_option maxRecDepth 100000 in
theorem lk240 : ∀ pc, ev_kb MM "LeftAnswers$Duchy" pc (.getfield 136) 9 9 = true := kb_getf (by decide +kernel) gw454
set_option maxRecDepth 100000 in
theorem lk241 : ∀ pc, ev_kb MM "LeftAnswers$Duchy" pc (.getstatic 142) 5 0 = true := kb_gets (by decide) gw455
set_option maxRecDepth 100000 in
theorem lk242 : ∀ pc, ev_kb MM "LeftAnswers$Duchy" pc (.invokevirtual 145) 80 1 = true := kb_vi (by decide) me80 (by decide +kernel) gw456 gw459 gw457
set_option maxRecDepth 100000 in
theorem lk243 : ∀ pc, ev_kb MM "LeftAnswers$Duchy" pc (.invokevirtual 71) 61 0 = true := kb_vi (by decide) me61 (by decide +kernel) gw460 gw463 gw461
set_option maxRecDepth 100000 in
theorem lk244 : ∀ pc, ev_kb MM "LeftAnswers$Duchy" pc (.invokevirtual 74) 161 1 = true := kb_vi (by decide) me161 (by decide +kernel) gw464 gw374 gw372
set_option maxRecDepth 100000 in
theorem lk245 : ∀ pc, ev_kb MM "LeftAnswers$Duchy" pc (.getfield 80) 9 4 = true := kb_getf (by decide +kernel) gw465
set_option maxRecDepth 100000 in
theorem lk246 : ∀ pc, ev_kb MM "LeftAnswers$Duchy" pc (.getstatic 83) 100 0 = true := kb_getw rfl gw466
set_option maxRecDepth 100000 in
theorem lk247 : ∀ pc, ev_kb MM "LeftAnswers$Duchy" pc (.invokevirtual 92) 900 0 = true := kb_ord gw467
set_option maxRecDepth 100000 in
theorem lk248 : ∀ pc, ev_kb MM "LeftAnswers$Duchy" pc (.invokevirtual 98) 78 1 = true := kb_vi (by decide) me78 (by decide +kernel) gw468 gw471 gw469
set_option maxRecDepth 100000 in
theorem lk249 : ∀ pc, ev_kb MM "LeftAnswers$Duchy" pc (.invokevirtual 102) 74 1 = true := kb_vi (by decide) me74 (by decide +kernel) gw472 gw475 gw473
set_option maxRecDepth 100000 in
theorem lk250 : ∀ pc, ev_kb MM "LeftAnswers$Duchy" pc (.invokevirtual 105) 79 1 = true := kb_vi (by decide) me79 (by decide +kernel) gw476 gw479 gw477
set_option maxRecDepth 100000 in
theorem lk251 : ∀ pc, ev_kb MM "LeftAnswers$Duchy" pc (.invokevirtual 108) 75 1 = true := kb_vi (by decide) me75 (by decide +kernel) gw480 gw483 gw481
set_option maxRecDepth 100000 in
theorem lk252 : ∀ pc, ev_kb MM "LeftAnswers$Duchy" pc (.invokevirtual 111) 77 1 = true := kb_vi (by decide) me77 (by decide +kernel) gw484 gw487 gw485
set_option maxRecDepth 100000 in
theorem lk253 : ∀ pc, ev_kb MM "LeftAnswers$Duchy" pc (.invokevirtual 118) 167 1 = true := kb_vi (by decide) me167 (by decide +kernel) gw488 gw388 gw386
set_option maxRecDepth 100000 in
theorem lk254 : ∀ pc, ev_kb MM "LeftAnswers$Duchy" pc (.getstatic 152) 8 0 = true := kb_gets (by decide) gw489
set_option maxRecDepth 100000 in
theorem lk255 : ∀ pc, ev_kb MM "LeftAnswers$Duchy" pc (.getstatic 155) 9 0 = true := kb_gets (by decide) gw490
set_option maxRecDepth 100000 in
theorem lk256 : ∀ pc, ev_kb MM "LeftAnswers$Duchy" pc (.getstatic 139) 3 0 = true := kb_gets (by decide) gw491
set_option maxRecDepth 100000 in
theorem lk257 : ∀ pc, ev_kb MM "LeftAnswers$Duchy" pc (.invokevirtual 149) 73 1 = true := kb_vi (by decide) me73 (by decide +kernel) gw492 gw338 gw336
set_option maxRecDepth 100000 in
theorem lk258 : ∀ pc, ev_kb MM "LeftAnswers$Image" pc (.invokespecial 1) 999 0 = true := kb_obj gw493 gw1 gw2
set_option maxRecDepth 100000 in
theorem lk259 : ∀ pc, ev_kb MM "LeftAnswers$Image" pc (.new 7) 1 0 = true := kb_new (by decide) gw494 gw11 gw12
set_option maxRecDepth 100000 in
theorem lk260 : ∀ pc, ev_kb MM "LeftAnswers$Image" pc (.invokespecial 9) 56 0 = true := kb_sp (by decide) me56 (by decide +kernel) gw495 gw15
set_option maxRecDepth 100000 in
theorem lk261 : ∀ pc, ev_kb MM "LeftAnswers$Image" pc (.putfield 10) 2 1 = true := kb_putf (by decide +kernel) gw496
set_option maxRecDepth 100000 in
theorem lk262 : ∀ pc, ev_kb MM "LeftAnswers$Image" pc (.new 16) 3 0 = true := kb_new (by decide) gw497 gw19 gw20
set_option maxRecDepth 100000 in
theorem lk263 : ∀ pc, ev_kb MM "LeftAnswers$Image" pc (.invokespecial 18) 87 0 = true := kb_sp (by decide) me87 (by decide +kernel) gw498 gw23
set_option maxRecDepth 100000 in
theorem lk264 : ∀ pc, ev_kb MM "LeftAnswers$Image" pc (.putfield 19) 2 2 = true := kb_putf (by decide +kernel) gw499
set_option maxRecDepth 100000 in
theorem lk265 : ∀ pc, ev_kb MM "LeftAnswers$Image" pc (.new 23) 7 0 = true := kb_new (by decide) gw500 gw41 gw42
set_option maxRecDepth 100000 in
theorem lk266 : ∀ pc, ev_kb MM "LeftAnswers$Image" pc (.invokespecial 25) 132 0 = true := kb_sp (by decide) me132 (by decide +kernel) gw501 gw45
set_option maxRecDepth 100000 in
theorem lk267 : ∀ pc, ev_kb MM "LeftAnswers$Image" pc (.putfield 26) 2 3 = true := kb_putf (by decide +kernel) gw502
set_option maxRecDepth 100000 in
theorem lk268 : ∀ pc, ev_kb MM "LeftAnswers$Image" pc (.getfield 10) 2 1 = true := kb_getf (by decide +kernel) gw496
set_option maxRecDepth 100000 in
theorem lk269 : ∀ pc, ev_kb MM "LeftAnswers$Image" pc (.invokevirtual 30) 62 1 = true := kb_vi (by decide) me62 (by decide +kernel) gw503 gw506 gw504
set_option maxRecDepth 100000 in
theorem lk270 : ∀ pc, ev_kb MM "LeftAnswers$Image" pc (.getfield 19) 2 2 = true := kb_getf (by decide +kernel) gw499
set_option maxRecDepth 100000 in
theorem lk271 : ∀ pc, ev_kb MM "LeftAnswers$Image" pc (.invokevirtual 34) 94 1 = true := kb_vi (by decide) me94 (by decide +kernel) gw507 gw126 gw124
set_option maxRecDepth 100000 in
theorem lk272 : ∀ pc, ev_kb MM "LeftAnswers$Image" pc (.getfield 26) 2 3 = true := kb_getf (by decide +kernel) gw502
set_option maxRecDepth 100000 in
theorem lk273 : ∀ pc, ev_kb MM "LeftAnswers$Image" pc (.invokevirtual 37) 137 1 = true := kb_vi (by decide) me137 (by decide +kernel) gw508 gw511 gw509
set_option maxRecDepth 100000 in
theorem lk274 : ∀ pc, ev_kb MM "LeftAnswers$Image" pc (.putfield 40) 2 0 = true := kb_putf (by decide +kernel) gw512
set_option maxRecDepth 100000 in
theorem lk275 : ∀ pc, ev_kb MM "LeftAnswers$Life" pc (.invokespecial 3) 999 0 = true := kb_obj gw513 gw1 gw2
set_option maxRecDepth 100000 in
theorem lk276 : ∀ pc, ev_kb MM "LeftAnswers$Life" pc (.newarray .int) 0 0 = true := kb_newa gw319
set_option maxRecDepth 100000 in
theorem lk277 : ∀ pc, ev_kb MM "LeftAnswers$Life" pc (.putfield 9) 3 5 = true := kb_putf (by decide +kernel) gw514
set_option maxRecDepth 100000 in
theorem lk278 : ∀ pc, ev_kb MM "LeftAnswers$Life" pc (.putfield 15) 3 6 = true := kb_putf (by decide +kernel) gw515
set_option maxRecDepth 100000 in
theorem lk279 : ∀ pc, ev_kb MM "LeftAnswers$Life" pc (.putfield 18) 3 7 = true := kb_putf (by decide +kernel) gw516
set_option maxRecDepth 100000 in
theorem lk280 : ∀ pc, ev_kb MM "LeftAnswers$Life" pc (.putfield 21) 3 8 = true := kb_putf (by decide +kernel) gw517
set_option maxRecDepth 100000 in
theorem lk281 : ∀ pc, ev_kb MM "LeftAnswers$Life" pc (.putfield 24) 3 9 = true := kb_putf (by decide +kernel) gw518
set_option maxRecDepth 100000 in
theorem lk282 : ∀ pc, ev_kb MM "LeftAnswers$Life" pc (.putfield 27) 3 10 = true := kb_putf (by decide +kernel) gw519
set_option maxRecDepth 100000 in
theorem lk283 : ∀ pc, ev_kb MM "LeftAnswers$Life" pc (.putfield 30) 3 11 = true := kb_putf (by decide +kernel) gw520
set_option maxRecDepth 100000 in
theorem lk284 : ∀ pc, ev_kb MM "LeftAnswers$Life" pc (.invokevirtual 33) 91 1 = true := kb_vi (by decide) me91 (by decide +kernel) gw521 gw175 gw173
set_option maxRecDepth 100000 in
theorem lk285 : ∀ pc, ev_kb MM "LeftAnswers$Life" pc (.invokevirtual 75) 117 4 = true := kb_vi (by decide) me117 (by decide +kernel) gw522 gw525 gw523
set_option maxRecDepth 100000 in
theorem lk286 : ∀ pc, ev_kb MM "LeftAnswers$Life" pc (.getfield 15) 3 6 = true := kb_getf (by decide +kernel) gw515
set_option maxRecDepth 100000 in
theorem lk287 : ∀ pc, ev_kb MM "LeftAnswers$Life" pc (.getfield 135) 1 2 = true := kb_getf (by decide +kernel) gw526
set_option maxRecDepth 100000 in
theorem lk288 : ∀ pc, ev_kb MM "LeftAnswers$Life" pc (.getfield 18) 3 7 = true := kb_getf (by decide +kernel) gw516
set_option maxRecDepth 100000 in
theorem lk289 : ∀ pc, ev_kb MM "LeftAnswers$Life" pc (.getfield 138) 1 3 = true := kb_getf (by decide +kernel) gw527
set_option maxRecDepth 100000 in
theorem lk290 : ∀ pc, ev_kb MM "LeftAnswers$Life" pc (.getfield 41) 3 1 = true := kb_getf (by decide +kernel) gw528
set_option maxRecDepth 100000 in
theorem lk291 : ∀ pc, ev_kb MM "LeftAnswers$Life" pc (.putfield 41) 3 1 = true := kb_putf (by decide +kernel) gw528
set_option maxRecDepth 100000 in
theorem lk292 : ∀ pc, ev_kb MM "LeftAnswers$Life" pc (.getfield 9) 3 5 = true := kb_getf (by decide +kernel) gw514
set_option maxRecDepth 100000 in
theorem lk293 : ∀ pc, ev_kb MM "LeftAnswers$Life" pc (.putfield 37) 3 0 = true := kb_putf (by decide +kernel) gw529
set_option maxRecDepth 100000 in
theorem lk294 : ∀ pc, ev_kb MM "LeftAnswers$Life" pc (.putfield 44) 3 2 = true := kb_putf (by decide +kernel) gw530
set_option maxRecDepth 100000 in
theorem lk295 : ∀ pc, ev_kb MM "LeftAnswers$Life" pc (.putfield 47) 3 3 = true := kb_putf (by decide +kernel) gw531
set_option maxRecDepth 100000 in
theorem lk296 : ∀ pc, ev_kb MM "LeftAnswers$Life" pc (.getfield 21) 3 8 = true := kb_getf (by decide +kernel) gw517
set_option maxRecDepth 100000 in
theorem lk297 : ∀ pc, ev_kb MM "LeftAnswers$Life" pc (.getfield 24) 3 9 = true := kb_getf (by decide +kernel) gw518
set_option maxRecDepth 100000 in
theorem lk298 : ∀ pc, ev_kb MM "LeftAnswers$Life" pc (.getfield 27) 3 10 = true := kb_getf (by decide +kernel) gw519
set_option maxRecDepth 100000 in
theorem lk299 : ∀ pc, ev_kb MM "LeftAnswers$Life" pc (.getfield 30) 3 11 = true := kb_getf (by decide +kernel) gw520
set_option maxRecDepth 100000 in
theorem lk300 : ∀ pc, ev_kb MM "LeftAnswers$Life" pc (.invokevirtual 159) 113 1 = true := kb_vi (by decide) me113 (by decide +kernel) gw532 gw248 gw246
set_option maxRecDepth 100000 in
theorem lk301 : ∀ pc, ev_kb MM "LeftAnswers$Life" pc (.getfield 72) 1 0 = true := kb_getf (by decide +kernel) gw533
set_option maxRecDepth 100000 in
theorem lk302 : ∀ pc, ev_kb MM "LeftAnswers$Life" pc (.invokestatic 163) 101 4 = true := kb_st (by decide) me101 gw534 gw536
set_option maxRecDepth 100000 in
theorem lk303 : ∀ pc, ev_kb MM "LeftAnswers$Life" pc (.getfield 37) 3 0 = true := kb_getf (by decide +kernel) gw529
set_option maxRecDepth 100000 in
theorem lk304 : ∀ pc, ev_kb MM "LeftAnswers$Life" pc (.getfield 44) 3 2 = true := kb_getf (by decide +kernel) gw530
set_option maxRecDepth 100000 in
theorem lk305 : ∀ pc, ev_kb MM "LeftAnswers$Life" pc (.getfield 47) 3 3 = true := kb_getf (by decide +kernel) gw531
set_option maxRecDepth 100000 in
theorem lk306 : ∀ pc, ev_kb MM "LeftAnswers$Life" pc (.invokestatic 50) 904 5 = true := kb_cpy rfl gw537 gw421 gw422 gw423
set_option maxRecDepth 100000 in
theorem lk307 : ∀ pc, ev_kb MM "LeftAnswers$Life" pc (.getfield 118) 1 12 = true := kb_getf (by decide +kernel) gw538
set_option maxRecDepth 100000 in
theorem lk308 : ∀ pc, ev_kb MM "LeftAnswers$Life" pc (.invokestatic 121) 901 2 = true := kb_min gw539 gw145 gw146 gw147
set_option maxRecDepth 100000 in
theorem lk309 : ∀ pc, ev_kb MM "LeftAnswers$Life" pc (.invokestatic 104) 100 1 = true := kb_st (by decide) me100 gw540 gw542
set_option maxRecDepth 100000 in
theorem lk310 : ∀ pc, ev_kb MM "LeftAnswers$Life" pc (.invokevirtual 126) 104 2 = true := kb_vi (by decide) me104 (by decide +kernel) gw543 gw285 gw283
set_option maxRecDepth 100000 in
theorem lk311 : ∀ pc, ev_kb MM "LeftAnswers$Life" pc (.getfield 130) 1 13 = true := kb_getf (by decide +kernel) gw544
set_option maxRecDepth 100000 in
theorem lk312 : ∀ pc, ev_kb MM "LeftAnswers$Life" pc (.invokevirtual 131) 89 3 = true := kb_vi (by decide) me89 (by decide +kernel) gw545 gw548 gw546
set_option maxRecDepth 100000 in
theorem lk313 : ∀ pc, ev_kb MM "LeftAnswers$Life" pc (.getfield 146) 3 4 = true := kb_getf (by decide +kernel) gw549
set_option maxRecDepth 100000 in
theorem lk314 : ∀ pc, ev_kb MM "LeftAnswers$Life" pc (.ldc 158) 1103515245 0 = true := kb_ldc (by decide) gw550
set_option maxRecDepth 100000 in
theorem lk315 : ∀ pc, ev_kb MM "LeftAnswers$Life" pc (.putfield 146) 3 4 = true := kb_putf (by decide +kernel) gw549
set_option maxRecDepth 100000 in
theorem lk316 : ∀ pc, ev_kb MM "LeftAnswers$Life" pc (.getfield 152) 1 1 = true := kb_getf (by decide +kernel) gw551
set_option maxRecDepth 100000 in
theorem lk317 : ∀ pc, ev_kb MM "LeftAnswers$Life" pc (.invokevirtual 155) 97 1 = true := kb_vi (by decide) me97 (by decide +kernel) gw552 gw555 gw553
set_option maxRecDepth 100000 in
theorem lk318 : ∀ pc, ev_kb MM "LeftAnswers$Life" pc (.invokevirtual 89) 96 4 = true := kb_vi (by decide) me96 (by decide +kernel) gw556 gw559 gw557
set_option maxRecDepth 100000 in
theorem lk319 : ∀ pc, ev_kb MM "LeftAnswers$Life" pc (.invokevirtual 79) 118 2 = true := kb_vi (by decide) me118 (by decide +kernel) gw560 gw563 gw561
set_option maxRecDepth 100000 in
theorem lk320 : ∀ pc, ev_kb MM "LeftAnswers$Life" pc (.invokevirtual 93) 115 2 = true := kb_vi (by decide) me115 (by decide +kernel) gw564 gw567 gw565
set_option maxRecDepth 100000 in
theorem lk321 : ∀ pc, ev_kb MM "LeftAnswers$Life" pc (.invokevirtual 97) 109 1 = true := kb_vi (by decide) me109 (by decide +kernel) gw568 gw571 gw569
set_option maxRecDepth 100000 in
theorem lk322 : ∀ pc, ev_kb MM "LeftAnswers$Life" pc (.invokevirtual 149) 98 2 = true := kb_vi (by decide) me98 (by decide +kernel) gw572 gw575 gw573
set_option maxRecDepth 100000 in
theorem lk323 : ∀ pc, ev_kb MM "LeftAnswers$Life" pc (.invokevirtual 140) 110 1 = true := kb_vi (by decide) me110 (by decide +kernel) gw576 gw579 gw577
set_option maxRecDepth 100000 in
theorem lk324 : ∀ pc, ev_kb MM "LeftAnswers$Life" pc (.getfield 56) 1 14 = true := kb_getf (by decide +kernel) gw580
set_option maxRecDepth 100000 in
theorem lk325 : ∀ pc, ev_kb MM "LeftAnswers$Life" pc (.invokevirtual 61) 106 0 = true := kb_vi (by decide) me106 (by decide +kernel) gw581 gw239 gw237
set_option maxRecDepth 100000 in
theorem lk326 : ∀ pc, ev_kb MM "LeftAnswers$Life" pc (.invokevirtual 65) 103 1 = true := kb_vi (by decide) me103 (by decide +kernel) gw582 gw585 gw583
set_option maxRecDepth 100000 in
theorem lk327 : ∀ pc, ev_kb MM "LeftAnswers$Life" pc (.invokevirtual 167) 108 3 = true := kb_vi (by decide) me108 (by decide +kernel) gw586 gw589 gw587
set_option maxRecDepth 100000 in
theorem lk328 : ∀ pc, ev_kb MM "LeftAnswers$Life" pc (.invokevirtual 83) 102 1 = true := kb_vi (by decide) me102 (by decide +kernel) gw590 gw280 gw278
set_option maxRecDepth 100000 in
theorem lk329 : ∀ pc, ev_kb MM "LeftAnswers$Life" pc (.invokestatic 171) 902 2 = true := kb_max gw591 gw592 gw146 gw593
set_option maxRecDepth 100000 in
theorem lk330 : ∀ pc, ev_kb MM "LeftAnswers$Life" pc (.invokevirtual 174) 69 3 = true := kb_vi (by decide) me69 (by decide +kernel) gw594 gw414 gw412
set_option maxRecDepth 100000 in
theorem lk331 : ∀ pc, ev_kb MM "LeftAnswers$Life" pc (.getfield 144) 1 4 = true := kb_getf (by decide +kernel) gw595
set_option maxRecDepth 100000 in
theorem lk332 : ∀ pc, ev_kb MM "LeftAnswers$Life" pc (.invokevirtual 100) 111 2 = true := kb_vi (by decide) me111 (by decide +kernel) gw596 gw151 gw149
set_option maxRecDepth 100000 in
theorem lk333 : ∀ pc, ev_kb MM "LeftAnswers$Life" pc (.invokevirtual 69) 105 1 = true := kb_vi (by decide) me105 (by decide +kernel) gw597 gw600 gw598
set_option maxRecDepth 100000 in
theorem lk334 : ∀ pc, ev_kb MM "LeftAnswers$Life" pc (.invokevirtual 86) 95 0 = true := kb_vi (by decide) me95 (by decide +kernel) gw601 gw143 gw141
set_option maxRecDepth 100000 in
theorem lk335 : ∀ pc, ev_kb MM "LeftAnswers$Life" pc (.invokevirtual 108) 68 2 = true := kb_vi (by decide) me68 (by decide +kernel) gw602 gw439 gw437
set_option maxRecDepth 100000 in
theorem lk336 : ∀ pc, ev_kb MM "LeftAnswers$Life" pc (.invokevirtual 112) 81 2 = true := kb_vi (by decide) me81 (by decide +kernel) gw603 gw303 gw301
set_option maxRecDepth 100000 in
theorem lk337 : ∀ pc, ev_kb MM "LeftAnswers$Life" pc (.getfield 115) 1 11 = true := kb_getf (by decide +kernel) gw604
set_option maxRecDepth 100000 in
theorem lk338 : ∀ pc, ev_kb MM "LeftAnswers$Pairs" pc (.invokespecial 3) 999 0 = true := kb_obj gw605 gw1 gw2
set_option maxRecDepth 100000 in
theorem lk339 : ∀ pc, ev_kb MM "LeftAnswers$Pairs" pc (.newarray .int) 0 0 = true := kb_newa gw319
set_option maxRecDepth 100000 in
theorem lk340 : ∀ pc, ev_kb MM "LeftAnswers$Pairs" pc (.putfield 9) 4 0 = true := kb_putf (by decide +kernel) gw606
set_option maxRecDepth 100000 in
theorem lk341 : ∀ pc, ev_kb MM "LeftAnswers$Pairs" pc (.putfield 15) 4 1 = true := kb_putf (by decide +kernel) gw607
set_option maxRecDepth 100000 in
theorem lk342 : ∀ pc, ev_kb MM "LeftAnswers$Pairs" pc (.putfield 18) 4 2 = true := kb_putf (by decide +kernel) gw608
set_option maxRecDepth 100000 in
theorem lk343 : ∀ pc, ev_kb MM "LeftAnswers$Pairs" pc (.getfield 9) 4 0 = true := kb_getf (by decide +kernel) gw606
set_option maxRecDepth 100000 in
theorem lk344 : ∀ pc, ev_kb MM "LeftAnswers$Pairs" pc (.getfield 27) 4 3 = true := kb_getf (by decide +kernel) gw609
set_option maxRecDepth 100000 in
theorem lk345 : ∀ pc, ev_kb MM "LeftAnswers$Pairs" pc (.getfield 28) 4 4 = true := kb_getf (by decide +kernel) gw610
set_option maxRecDepth 100000 in
theorem lk346 : ∀ pc, ev_kb MM "LeftAnswers$Pairs" pc (.putfield 28) 4 4 = true := kb_putf (by decide +kernel) gw610
set_option maxRecDepth 100000 in
theorem lk347 : ∀ pc, ev_kb MM "LeftAnswers$Pairs" pc (.getfield 15) 4 1 = true := kb_getf (by decide +kernel) gw607
set_option maxRecDepth 100000 in
theorem lk348 : ∀ pc, ev_kb MM "LeftAnswers$Pairs" pc (.invokestatic 51) 904 5 = true := kb_cpy rfl gw611 gw421 gw422 gw423
set_option maxRecDepth 100000 in
theorem lk349 : ∀ pc, ev_kb MM "LeftAnswers$Pairs" pc (.invokevirtual 47) 120 2 = true := kb_vi (by decide) me120 (by decide +kernel) gw612 gw615 gw613
set_option maxRecDepth 100000 in
theorem lk350 : ∀ pc, ev_kb MM "LeftAnswers$Pairs" pc (.getfield 18) 4 2 = true := kb_getf (by decide +kernel) gw608
set_option maxRecDepth 100000 in
theorem lk351 : ∀ pc, ev_kb MM "LeftAnswers$Pairs" pc (.getfield 21) 1 0 = true := kb_getf (by decide +kernel) gw616
set_option maxRecDepth 100000 in
theorem lk352 : ∀ pc, ev_kb MM "LeftAnswers$Pairs" pc (.putfield 27) 4 3 = true := kb_putf (by decide +kernel) gw609
set_option maxRecDepth 100000 in
theorem lk353 : ∀ pc, ev_kb MM "LeftAnswers$Pairs" pc (.invokevirtual 31) 114 0 = true := kb_vi (by decide) me114 (by decide +kernel) gw617 gw244 gw242
set_option maxRecDepth 100000 in
theorem lk354 : ∀ pc, ev_kb MM "LeftAnswers$Pairs" pc (.getfield 37) 3 3 = true := kb_getf (by decide +kernel) gw618
set_option maxRecDepth 100000 in
theorem lk355 : ∀ pc, ev_kb MM "LeftAnswers$Pairs" pc (.invokevirtual 40) 106 0 = true := kb_vi (by decide) me106 (by decide +kernel) gw619 gw239 gw237
set_option maxRecDepth 100000 in
theorem lk356 : ∀ pc, ev_kb MM "LeftAnswers$Pairs" pc (.invokevirtual 43) 67 2 = true := kb_vi (by decide) me67 (by decide +kernel) gw620 gw623 gw621
set_option maxRecDepth 100000 in
theorem lk357 : ∀ pc, ev_kb MM "LeftAnswers$Parted" pc (.invokespecial 3) 999 0 = true := kb_obj gw624 gw1 gw2
set_option maxRecDepth 100000 in
theorem lk358 : ∀ pc, ev_kb MM "LeftAnswers$Parted" pc (.newarray .int) 0 0 = true := kb_newa gw319
set_option maxRecDepth 100000 in
theorem lk359 : ∀ pc, ev_kb MM "LeftAnswers$Parted" pc (.putfield 9) 5 0 = true := kb_putf (by decide +kernel) gw625
set_option maxRecDepth 100000 in
theorem lk360 : ∀ pc, ev_kb MM "LeftAnswers$Parted" pc (.putfield 15) 5 1 = true := kb_putf (by decide +kernel) gw626
set_option maxRecDepth 100000 in
theorem lk361 : ∀ pc, ev_kb MM "LeftAnswers$Parted" pc (.putfield 18) 5 2 = true := kb_putf (by decide +kernel) gw627
set_option maxRecDepth 100000 in
theorem lk362 : ∀ pc, ev_kb MM "LeftAnswers$Parted" pc (.putfield 21) 5 3 = true := kb_putf (by decide +kernel) gw628
set_option maxRecDepth 100000 in
theorem lk363 : ∀ pc, ev_kb MM "LeftAnswers$Parted" pc (.invokestatic 24) 901 2 = true := kb_min gw629 gw145 gw146 gw147
set_option maxRecDepth 100000 in
theorem lk364 : ∀ pc, ev_kb MM "LeftAnswers$Parted" pc (.invokestatic 30) 902 2 = true := kb_max gw630 gw592 gw146 gw593
set_option maxRecDepth 100000 in
theorem lk365 : ∀ pc, ev_kb MM "LeftAnswers$Parted" pc (.putfield 33) 5 4 = true := kb_putf (by decide +kernel) gw631
set_option maxRecDepth 100000 in
theorem lk366 : ∀ pc, ev_kb MM "LeftAnswers$Parted" pc (.putfield 37) 5 5 = true := kb_putf (by decide +kernel) gw632
set_option maxRecDepth 100000 in
theorem lk367 : ∀ pc, ev_kb MM "LeftAnswers$Parted" pc (.getfield 33) 5 4 = true := kb_getf (by decide +kernel) gw631
set_option maxRecDepth 100000 in
theorem lk368 : ∀ pc, ev_kb MM "LeftAnswers$Parted" pc (.getfield 21) 5 3 = true := kb_getf (by decide +kernel) gw628
set_option maxRecDepth 100000 in
theorem lk369 : ∀ pc, ev_kb MM "LeftAnswers$Parted" pc (.getfield 15) 5 1 = true := kb_getf (by decide +kernel) gw626
set_option maxRecDepth 100000 in
theorem lk370 : ∀ pc, ev_kb MM "LeftAnswers$Parted" pc (.getfield 37) 5 5 = true := kb_getf (by decide +kernel) gw632
set_option maxRecDepth 100000 in
theorem lk371 : ∀ pc, ev_kb MM "LeftAnswers$Parted" pc (.getfield 18) 5 2 = true := kb_getf (by decide +kernel) gw627
set_option maxRecDepth 100000 in
theorem lk372 : ∀ pc, ev_kb MM "LeftAnswers$Parted" pc (.invokestatic 45) 904 5 = true := kb_cpy rfl gw633 gw421 gw422 gw423
set_option maxRecDepth 100000 in
theorem lk373 : ∀ pc, ev_kb MM "LeftAnswers$Parted" pc (.getfield 9) 5 0 = true := kb_getf (by decide +kernel) gw625
set_option maxRecDepth 100000 in
theorem lk374 : ∀ pc, ev_kb MM "LeftAnswers$Parted" pc (.invokestatic 51) 127 1 = true := kb_st (by decide) me127 gw634 gw636
set_option maxRecDepth 100000 in
theorem lk375 : ∀ pc, ev_kb MM "LeftAnswers$Parted" pc (.invokevirtual 41) 125 3 = true := kb_vi (by decide) me125 (by decide +kernel) gw637 gw640 gw638
set_option maxRecDepth 100000 in
theorem lk376 : ∀ pc, ev_kb MM "LeftAnswers$Parted" pc (.ldc 40) 2097151 0 = true := kb_ldc (by decide) gw641
set_option maxRecDepth 100000 in
theorem lk377 : ∀ pc, ev_kb MM "LeftAnswers$Past" pc (.invokespecial 3) 999 0 = true := kb_obj gw642 gw1 gw2
set_option maxRecDepth 100000 in
theorem lk378 : ∀ pc, ev_kb MM "LeftAnswers$Past" pc (.anewarray 11) 5 0 = true := kb_anew (by decide) gw643
set_option maxRecDepth 100000 in
theorem lk379 : ∀ pc, ev_kb MM "LeftAnswers$Past" pc (.putfield 13) 6 0 = true := kb_putf (by decide +kernel) gw644
set_option maxRecDepth 100000 in
theorem lk380 : ∀ pc, ev_kb MM "LeftAnswers$Past" pc (.getfield 13) 6 0 = true := kb_getf (by decide +kernel) gw644
set_option maxRecDepth 100000 in
theorem lk381 : ∀ pc, ev_kb MM "LeftAnswers$Past" pc (.new 11) 3 0 = true := kb_new (by decide) gw643 gw19 gw20
set_option maxRecDepth 100000 in
theorem lk382 : ∀ pc, ev_kb MM "LeftAnswers$Past" pc (.invokespecial 17) 87 0 = true := kb_sp (by decide) me87 (by decide +kernel) gw645 gw23
set_option maxRecDepth 100000 in
theorem lk383 : ∀ pc, ev_kb MM "LeftAnswers$Past" pc (.putfield 18) 6 2 = true := kb_putf (by decide +kernel) gw646
set_option maxRecDepth 100000 in
theorem lk384 : ∀ pc, ev_kb MM "LeftAnswers$Past" pc (.getfield 18) 6 2 = true := kb_getf (by decide +kernel) gw646
set_option maxRecDepth 100000 in
theorem lk385 : ∀ pc, ev_kb MM "LeftAnswers$Past" pc (.getfield 22) 6 1 = true := kb_getf (by decide +kernel) gw647
set_option maxRecDepth 100000 in
theorem lk386 : ∀ pc, ev_kb MM "LeftAnswers$Past" pc (.putfield 22) 6 1 = true := kb_putf (by decide +kernel) gw647
set_option maxRecDepth 100000 in
theorem lk387 : ∀ pc, ev_kb MM "LeftAnswers$Past" pc (.invokevirtual 25) 94 1 = true := kb_vi (by decide) me94 (by decide +kernel) gw648 gw126 gw124
set_option maxRecDepth 100000 in
theorem lk388 : ∀ pc, ev_kb MM "LeftAnswers$Sentence" pc (.invokespecial 5) 999 0 = true := kb_obj gw649 gw1 gw2
set_option maxRecDepth 100000 in
theorem lk389 : ∀ pc, ev_kb MM "LeftAnswers$Sentence" pc (.anewarray 11) 4 0 = true := kb_anew (by decide) gw650
set_option maxRecDepth 100000 in
theorem lk390 : ∀ pc, ev_kb MM "LeftAnswers$Sentence" pc (.putfield 13) 7 2 = true := kb_putf (by decide +kernel) gw651
set_option maxRecDepth 100000 in
theorem lk391 : ∀ pc, ev_kb MM "LeftAnswers$Sentence" pc (.getfield 13) 7 2 = true := kb_getf (by decide +kernel) gw651
set_option maxRecDepth 100000 in
theorem lk392 : ∀ pc, ev_kb MM "LeftAnswers$Sentence" pc (.getstatic 17) 0 0 = true := kb_gets (by decide) gw652
set_option maxRecDepth 100000 in
theorem lk393 : ∀ pc, ev_kb MM "LeftAnswers$Sentence" pc (.newarray .int) 0 0 = true := kb_newa gw319
set_option maxRecDepth 100000 in
theorem lk394 : ∀ pc, ev_kb MM "LeftAnswers$Sentence" pc (.putfield 21) 7 3 = true := kb_putf (by decide +kernel) gw653
set_option maxRecDepth 100000 in
theorem lk395 : ∀ pc, ev_kb MM "LeftAnswers$Sentence" pc (.putfield 25) 7 4 = true := kb_putf (by decide +kernel) gw654
set_option maxRecDepth 100000 in
theorem lk396 : ∀ pc, ev_kb MM "LeftAnswers$Sentence" pc (.putfield 28) 7 5 = true := kb_putf (by decide +kernel) gw655
set_option maxRecDepth 100000 in
theorem lk397 : ∀ pc, ev_kb MM "LeftAnswers$Sentence" pc (.getfield 35) 7 1 = true := kb_getf (by decide +kernel) gw656
set_option maxRecDepth 100000 in
theorem lk398 : ∀ pc, ev_kb MM "LeftAnswers$Sentence" pc (.getfield 21) 7 3 = true := kb_getf (by decide +kernel) gw653
set_option maxRecDepth 100000 in
theorem lk399 : ∀ pc, ev_kb MM "LeftAnswers$Sentence" pc (.getfield 25) 7 4 = true := kb_getf (by decide +kernel) gw654
