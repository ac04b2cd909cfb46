/-! DECODE ROWS of the law (printed) -/
theorem dL_law__0 : decode cL_law_ 0 = .ok (.new 8, 3) := by decide +kernel
theorem dL_law__3 : decode cL_law_ 3 = .ok (.dup, 1) := by decide +kernel
theorem dL_law__4 : decode cL_law_ 4 = .ok (.invokespecial 136, 3) := by decide +kernel
theorem dL_law__7 : decode cL_law_ 7 = .ok (.astore_n 1, 1) := by decide +kernel
theorem dL_law__8 : decode cL_law_ 8 = .ok (.new 137, 3) := by decide +kernel
theorem dL_law__11 : decode cL_law_ 11 = .ok (.dup, 1) := by decide +kernel
theorem dL_law__12 : decode cL_law_ 12 = .ok (.invokespecial 139, 3) := by decide +kernel
theorem dL_law__15 : decode cL_law_ 15 = .ok (.astore_n 2, 1) := by decide +kernel
theorem dL_law__16 : decode cL_law_ 16 = .ok (.iconst 1, 1) := by decide +kernel
theorem dL_law__17 : decode cL_law_ 17 = .ok (.newarray .long, 2) := by decide +kernel
theorem dL_law__19 : decode cL_law_ 19 = .ok (.astore_n 3, 1) := by decide +kernel
theorem dL_law__20 : decode cL_law_ 20 = .ok (.iconst 0, 1) := by decide +kernel
theorem dL_law__21 : decode cL_law_ 21 = .ok (.istore 4, 2) := by decide +kernel
theorem dL_law__23 : decode cL_law_ 23 = .ok (.iload 4, 2) := by decide +kernel
theorem dL_law__25 : decode cL_law_ 25 = .ok (.aload_n 0, 1) := by decide +kernel
theorem dL_law__26 : decode cL_law_ 26 = .ok (.arraylength, 1) := by decide +kernel
theorem dL_law__27 : decode cL_law_ 27 = .ok (.bipush 6, 2) := by decide +kernel
theorem dL_law__29 : decode cL_law_ 29 = .ok (.isub, 1) := by decide +kernel
theorem dL_law__30 : decode cL_law_ 30 = .ok (.if_icmp .gt 3114, 3) := by decide +kernel
theorem dL_law__33 : decode cL_law_ 33 = .ok (.aload_n 0, 1) := by decide +kernel
theorem dL_law__34 : decode cL_law_ 34 = .ok (.iload 4, 2) := by decide +kernel
theorem dL_law__36 : decode cL_law_ 36 = .ok (.iaload, 1) := by decide +kernel
theorem dL_law__37 : decode cL_law_ 37 = .ok (.bipush 63, 2) := by decide +kernel
theorem dL_law__39 : decode cL_law_ 39 = .ok (.iand, 1) := by decide +kernel
theorem dL_law__40 : decode cL_law_ 40 = .ok (.tableswitch 3098 0 45 #[200, 235, 331, 387, 455, 523, 603, 671, 746, 814, 870, 943, 999, 1012, 1068, 1172, 1240, 1308, 1416, 1484, 1552, 1632, 1700, 1768, 1781, 1794, 1862, 1930, 1943, 2035, 2127, 2207, 2275, 2343, 2356, 2369, 2425, 2493, 2561, 2617, 2685, 2753, 2821, 2901, 2993, 3073], 200) := by decide +kernel
theorem dL_law__240 : decode cL_law_ 240 = .ok (.aload_n 1, 1) := by decide +kernel
theorem dL_law__241 : decode cL_law_ 241 = .ok (.aload_n 0, 1) := by decide +kernel
theorem dL_law__242 : decode cL_law_ 242 = .ok (.iload 4, 2) := by decide +kernel
theorem dL_law__244 : decode cL_law_ 244 = .ok (.iconst 1, 1) := by decide +kernel
theorem dL_law__245 : decode cL_law_ 245 = .ok (.iadd, 1) := by decide +kernel
theorem dL_law__246 : decode cL_law_ 246 = .ok (.iaload, 1) := by decide +kernel
theorem dL_law__247 : decode cL_law_ 247 = .ok (.aload_n 0, 1) := by decide +kernel
theorem dL_law__248 : decode cL_law_ 248 = .ok (.iload 4, 2) := by decide +kernel
theorem dL_law__250 : decode cL_law_ 250 = .ok (.iconst 2, 1) := by decide +kernel
theorem dL_law__251 : decode cL_law_ 251 = .ok (.iadd, 1) := by decide +kernel
theorem dL_law__252 : decode cL_law_ 252 = .ok (.iaload, 1) := by decide +kernel
theorem dL_law__253 : decode cL_law_ 253 = .ok (.invokevirtual 140, 3) := by decide +kernel
theorem dL_law__256 : decode cL_law_ 256 = .ok (.aload_n 2, 1) := by decide +kernel
theorem dL_law__257 : decode cL_law_ 257 = .ok (.aload_n 0, 1) := by decide +kernel
theorem dL_law__258 : decode cL_law_ 258 = .ok (.iload 4, 2) := by decide +kernel
theorem dL_law__260 : decode cL_law_ 260 = .ok (.iconst 1, 1) := by decide +kernel
theorem dL_law__261 : decode cL_law_ 261 = .ok (.iadd, 1) := by decide +kernel
theorem dL_law__262 : decode cL_law_ 262 = .ok (.iaload, 1) := by decide +kernel
theorem dL_law__263 : decode cL_law_ 263 = .ok (.aload_n 0, 1) := by decide +kernel
theorem dL_law__264 : decode cL_law_ 264 = .ok (.iload 4, 2) := by decide +kernel
theorem dL_law__266 : decode cL_law_ 266 = .ok (.iconst 2, 1) := by decide +kernel
theorem dL_law__267 : decode cL_law_ 267 = .ok (.iadd, 1) := by decide +kernel
theorem dL_law__268 : decode cL_law_ 268 = .ok (.iaload, 1) := by decide +kernel
theorem dL_law__269 : decode cL_law_ 269 = .ok (.invokevirtual 144, 3) := by decide +kernel
theorem dL_law__272 : decode cL_law_ 272 = .ok (.goto 2866, 3) := by decide +kernel
theorem dL_law__275 : decode cL_law_ 275 = .ok (.aload_n 1, 1) := by decide +kernel
theorem dL_law__276 : decode cL_law_ 276 = .ok (.aload_n 0, 1) := by decide +kernel
theorem dL_law__277 : decode cL_law_ 277 = .ok (.iload 4, 2) := by decide +kernel
theorem dL_law__279 : decode cL_law_ 279 = .ok (.iconst 1, 1) := by decide +kernel
theorem dL_law__280 : decode cL_law_ 280 = .ok (.iadd, 1) := by decide +kernel
theorem dL_law__281 : decode cL_law_ 281 = .ok (.iaload, 1) := by decide +kernel
theorem dL_law__282 : decode cL_law_ 282 = .ok (.aload_n 0, 1) := by decide +kernel
theorem dL_law__283 : decode cL_law_ 283 = .ok (.iload 4, 2) := by decide +kernel
theorem dL_law__285 : decode cL_law_ 285 = .ok (.iconst 2, 1) := by decide +kernel
theorem dL_law__286 : decode cL_law_ 286 = .ok (.iadd, 1) := by decide +kernel
theorem dL_law__287 : decode cL_law_ 287 = .ok (.iaload, 1) := by decide +kernel
theorem dL_law__288 : decode cL_law_ 288 = .ok (.aload_n 0, 1) := by decide +kernel
theorem dL_law__289 : decode cL_law_ 289 = .ok (.iload 4, 2) := by decide +kernel
theorem dL_law__291 : decode cL_law_ 291 = .ok (.iconst 3, 1) := by decide +kernel
theorem dL_law__292 : decode cL_law_ 292 = .ok (.iadd, 1) := by decide +kernel
theorem dL_law__293 : decode cL_law_ 293 = .ok (.iaload, 1) := by decide +kernel
theorem dL_law__294 : decode cL_law_ 294 = .ok (.ifCond .eq 7, 3) := by decide +kernel
theorem dL_law__297 : decode cL_law_ 297 = .ok (.iconst 1, 1) := by decide +kernel
theorem dL_law__298 : decode cL_law_ 298 = .ok (.goto 4, 3) := by decide +kernel
theorem dL_law__301 : decode cL_law_ 301 = .ok (.iconst 0, 1) := by decide +kernel
theorem dL_law__302 : decode cL_law_ 302 = .ok (.aload_n 3, 1) := by decide +kernel
theorem dL_law__303 : decode cL_law_ 303 = .ok (.invokestatic 145, 3) := by decide +kernel
theorem dL_law__306 : decode cL_law_ 306 = .ok (.istore 5, 2) := by decide +kernel
theorem dL_law__308 : decode cL_law_ 308 = .ok (.aload_n 2, 1) := by decide +kernel
theorem dL_law__309 : decode cL_law_ 309 = .ok (.aload_n 0, 1) := by decide +kernel
theorem dL_law__310 : decode cL_law_ 310 = .ok (.iload 4, 2) := by decide +kernel
theorem dL_law__312 : decode cL_law_ 312 = .ok (.iconst 1, 1) := by decide +kernel
theorem dL_law__313 : decode cL_law_ 313 = .ok (.iadd, 1) := by decide +kernel
theorem dL_law__314 : decode cL_law_ 314 = .ok (.iaload, 1) := by decide +kernel
theorem dL_law__315 : decode cL_law_ 315 = .ok (.aload_n 0, 1) := by decide +kernel
theorem dL_law__316 : decode cL_law_ 316 = .ok (.iload 4, 2) := by decide +kernel
theorem dL_law__318 : decode cL_law_ 318 = .ok (.iconst 2, 1) := by decide +kernel
theorem dL_law__319 : decode cL_law_ 319 = .ok (.iadd, 1) := by decide +kernel
theorem dL_law__320 : decode cL_law_ 320 = .ok (.iaload, 1) := by decide +kernel
theorem dL_law__321 : decode cL_law_ 321 = .ok (.aload_n 0, 1) := by decide +kernel
theorem dL_law__322 : decode cL_law_ 322 = .ok (.iload 4, 2) := by decide +kernel
theorem dL_law__324 : decode cL_law_ 324 = .ok (.iconst 3, 1) := by decide +kernel
theorem dL_law__325 : decode cL_law_ 325 = .ok (.iadd, 1) := by decide +kernel
theorem dL_law__326 : decode cL_law_ 326 = .ok (.iaload, 1) := by decide +kernel
theorem dL_law__327 : decode cL_law_ 327 = .ok (.ifCond .eq 7, 3) := by decide +kernel
theorem dL_law__330 : decode cL_law_ 330 = .ok (.iconst 1, 1) := by decide +kernel
theorem dL_law__331 : decode cL_law_ 331 = .ok (.goto 4, 3) := by decide +kernel
theorem dL_law__334 : decode cL_law_ 334 = .ok (.iconst 0, 1) := by decide +kernel
theorem dL_law__335 : decode cL_law_ 335 = .ok (.invokevirtual 150, 3) := by decide +kernel
theorem dL_law__338 : decode cL_law_ 338 = .ok (.istore 6, 2) := by decide +kernel
theorem dL_law__340 : decode cL_law_ 340 = .ok (.aload_n 2, 1) := by decide +kernel
theorem dL_law__341 : decode cL_law_ 341 = .ok (.invokevirtual 151, 3) := by decide +kernel
theorem dL_law__344 : decode cL_law_ 344 = .ok (.iload 5, 2) := by decide +kernel
theorem dL_law__346 : decode cL_law_ 346 = .ok (.if_icmp .eq 5, 3) := by decide +kernel
theorem dL_law__349 : decode cL_law_ 349 = .ok (.iconst 0, 1) := by decide +kernel
theorem dL_law__350 : decode cL_law_ 350 = .ok (.ireturn, 1) := by decide +kernel
theorem dL_law__351 : decode cL_law_ 351 = .ok (.iload 5, 2) := by decide +kernel
theorem dL_law__353 : decode cL_law_ 353 = .ok (.ifCond .ne 15, 3) := by decide +kernel
theorem dL_law__356 : decode cL_law_ 356 = .ok (.aload_n 3, 1) := by decide +kernel
theorem dL_law__357 : decode cL_law_ 357 = .ok (.iconst 0, 1) := by decide +kernel
theorem dL_law__358 : decode cL_law_ 358 = .ok (.laload, 1) := by decide +kernel
theorem dL_law__359 : decode cL_law_ 359 = .ok (.iload 6, 2) := by decide +kernel
theorem dL_law__361 : decode cL_law_ 361 = .ok (.i2l, 1) := by decide +kernel
theorem dL_law__362 : decode cL_law_ 362 = .ok (.lcmp, 1) := by decide +kernel
theorem dL_law__363 : decode cL_law_ 363 = .ok (.ifCond .eq 5, 3) := by decide +kernel
theorem dL_law__366 : decode cL_law_ 366 = .ok (.iconst 0, 1) := by decide +kernel
theorem dL_law__367 : decode cL_law_ 367 = .ok (.ireturn, 1) := by decide +kernel
theorem dL_law__368 : decode cL_law_ 368 = .ok (.goto 2770, 3) := by decide +kernel
theorem dL_law__371 : decode cL_law_ 371 = .ok (.aload_n 1, 1) := by decide +kernel
theorem dL_law__372 : decode cL_law_ 372 = .ok (.aload_n 0, 1) := by decide +kernel
theorem dL_law__373 : decode cL_law_ 373 = .ok (.iload 4, 2) := by decide +kernel
theorem dL_law__375 : decode cL_law_ 375 = .ok (.iconst 1, 1) := by decide +kernel
theorem dL_law__376 : decode cL_law_ 376 = .ok (.iadd, 1) := by decide +kernel
theorem dL_law__377 : decode cL_law_ 377 = .ok (.iaload, 1) := by decide +kernel
theorem dL_law__378 : decode cL_law_ 378 = .ok (.aload_n 3, 1) := by decide +kernel
theorem dL_law__379 : decode cL_law_ 379 = .ok (.invokestatic 155, 3) := by decide +kernel
theorem dL_law__382 : decode cL_law_ 382 = .ok (.istore 5, 2) := by decide +kernel
theorem dL_law__384 : decode cL_law_ 384 = .ok (.aload_n 2, 1) := by decide +kernel
theorem dL_law__385 : decode cL_law_ 385 = .ok (.aload_n 0, 1) := by decide +kernel
theorem dL_law__386 : decode cL_law_ 386 = .ok (.iload 4, 2) := by decide +kernel
theorem dL_law__388 : decode cL_law_ 388 = .ok (.iconst 1, 1) := by decide +kernel
theorem dL_law__389 : decode cL_law_ 389 = .ok (.iadd, 1) := by decide +kernel
theorem dL_law__390 : decode cL_law_ 390 = .ok (.iaload, 1) := by decide +kernel
theorem dL_law__391 : decode cL_law_ 391 = .ok (.invokevirtual 158, 3) := by decide +kernel
theorem dL_law__394 : decode cL_law_ 394 = .ok (.istore 6, 2) := by decide +kernel
theorem dL_law__396 : decode cL_law_ 396 = .ok (.aload_n 2, 1) := by decide +kernel
theorem dL_law__397 : decode cL_law_ 397 = .ok (.invokevirtual 151, 3) := by decide +kernel
theorem dL_law__400 : decode cL_law_ 400 = .ok (.iload 5, 2) := by decide +kernel
theorem dL_law__402 : decode cL_law_ 402 = .ok (.if_icmp .eq 5, 3) := by decide +kernel
theorem dL_law__405 : decode cL_law_ 405 = .ok (.iconst 0, 1) := by decide +kernel
theorem dL_law__406 : decode cL_law_ 406 = .ok (.ireturn, 1) := by decide +kernel
theorem dL_law__407 : decode cL_law_ 407 = .ok (.iload 5, 2) := by decide +kernel
theorem dL_law__409 : decode cL_law_ 409 = .ok (.ifCond .ne 15, 3) := by decide +kernel
theorem dL_law__412 : decode cL_law_ 412 = .ok (.aload_n 3, 1) := by decide +kernel
theorem dL_law__413 : decode cL_law_ 413 = .ok (.iconst 0, 1) := by decide +kernel
theorem dL_law__414 : decode cL_law_ 414 = .ok (.laload, 1) := by decide +kernel
theorem dL_law__415 : decode cL_law_ 415 = .ok (.iload 6, 2) := by decide +kernel
theorem dL_law__417 : decode cL_law_ 417 = .ok (.i2l, 1) := by decide +kernel
theorem dL_law__418 : decode cL_law_ 418 = .ok (.lcmp, 1) := by decide +kernel
theorem dL_law__419 : decode cL_law_ 419 = .ok (.ifCond .eq 5, 3) := by decide +kernel
theorem dL_law__422 : decode cL_law_ 422 = .ok (.iconst 0, 1) := by decide +kernel
theorem dL_law__423 : decode cL_law_ 423 = .ok (.ireturn, 1) := by decide +kernel
theorem dL_law__424 : decode cL_law_ 424 = .ok (.goto 2714, 3) := by decide +kernel
theorem dL_law__427 : decode cL_law_ 427 = .ok (.aload_n 1, 1) := by decide +kernel
theorem dL_law__428 : decode cL_law_ 428 = .ok (.aload_n 0, 1) := by decide +kernel
theorem dL_law__429 : decode cL_law_ 429 = .ok (.iload 4, 2) := by decide +kernel
theorem dL_law__431 : decode cL_law_ 431 = .ok (.iconst 1, 1) := by decide +kernel
theorem dL_law__432 : decode cL_law_ 432 = .ok (.iadd, 1) := by decide +kernel
theorem dL_law__433 : decode cL_law_ 433 = .ok (.iaload, 1) := by decide +kernel
theorem dL_law__434 : decode cL_law_ 434 = .ok (.aload_n 0, 1) := by decide +kernel
theorem dL_law__435 : decode cL_law_ 435 = .ok (.iload 4, 2) := by decide +kernel
theorem dL_law__437 : decode cL_law_ 437 = .ok (.iconst 2, 1) := by decide +kernel
theorem dL_law__438 : decode cL_law_ 438 = .ok (.iadd, 1) := by decide +kernel
theorem dL_law__439 : decode cL_law_ 439 = .ok (.iaload, 1) := by decide +kernel
theorem dL_law__440 : decode cL_law_ 440 = .ok (.aload_n 3, 1) := by decide +kernel
theorem dL_law__441 : decode cL_law_ 441 = .ok (.invokestatic 159, 3) := by decide +kernel
theorem dL_law__444 : decode cL_law_ 444 = .ok (.istore 5, 2) := by decide +kernel
theorem dL_law__446 : decode cL_law_ 446 = .ok (.aload_n 2, 1) := by decide +kernel
theorem dL_law__447 : decode cL_law_ 447 = .ok (.aload_n 0, 1) := by decide +kernel
theorem dL_law__448 : decode cL_law_ 448 = .ok (.iload 4, 2) := by decide +kernel
theorem dL_law__450 : decode cL_law_ 450 = .ok (.iconst 1, 1) := by decide +kernel
theorem dL_law__451 : decode cL_law_ 451 = .ok (.iadd, 1) := by decide +kernel
theorem dL_law__452 : decode cL_law_ 452 = .ok (.iaload, 1) := by decide +kernel
theorem dL_law__453 : decode cL_law_ 453 = .ok (.aload_n 0, 1) := by decide +kernel
theorem dL_law__454 : decode cL_law_ 454 = .ok (.iload 4, 2) := by decide +kernel
theorem dL_law__456 : decode cL_law_ 456 = .ok (.iconst 2, 1) := by decide +kernel
theorem dL_law__457 : decode cL_law_ 457 = .ok (.iadd, 1) := by decide +kernel
theorem dL_law__458 : decode cL_law_ 458 = .ok (.iaload, 1) := by decide +kernel
theorem dL_law__459 : decode cL_law_ 459 = .ok (.invokevirtual 162, 3) := by decide +kernel
theorem dL_law__462 : decode cL_law_ 462 = .ok (.istore 6, 2) := by decide +kernel
theorem dL_law__464 : decode cL_law_ 464 = .ok (.aload_n 2, 1) := by decide +kernel
theorem dL_law__465 : decode cL_law_ 465 = .ok (.invokevirtual 151, 3) := by decide +kernel
theorem dL_law__468 : decode cL_law_ 468 = .ok (.iload 5, 2) := by decide +kernel
theorem dL_law__470 : decode cL_law_ 470 = .ok (.if_icmp .eq 5, 3) := by decide +kernel
theorem dL_law__473 : decode cL_law_ 473 = .ok (.iconst 0, 1) := by decide +kernel
theorem dL_law__474 : decode cL_law_ 474 = .ok (.ireturn, 1) := by decide +kernel
theorem dL_law__475 : decode cL_law_ 475 = .ok (.iload 5, 2) := by decide +kernel
theorem dL_law__477 : decode cL_law_ 477 = .ok (.ifCond .ne 15, 3) := by decide +kernel
theorem dL_law__480 : decode cL_law_ 480 = .ok (.aload_n 3, 1) := by decide +kernel
theorem dL_law__481 : decode cL_law_ 481 = .ok (.iconst 0, 1) := by decide +kernel
theorem dL_law__482 : decode cL_law_ 482 = .ok (.laload, 1) := by decide +kernel
theorem dL_law__483 : decode cL_law_ 483 = .ok (.iload 6, 2) := by decide +kernel
theorem dL_law__485 : decode cL_law_ 485 = .ok (.i2l, 1) := by decide +kernel
theorem dL_law__486 : decode cL_law_ 486 = .ok (.lcmp, 1) := by decide +kernel
theorem dL_law__487 : decode cL_law_ 487 = .ok (.ifCond .eq 5, 3) := by decide +kernel
theorem dL_law__490 : decode cL_law_ 490 = .ok (.iconst 0, 1) := by decide +kernel
theorem dL_law__491 : decode cL_law_ 491 = .ok (.ireturn, 1) := by decide +kernel
theorem dL_law__492 : decode cL_law_ 492 = .ok (.goto 2646, 3) := by decide +kernel
theorem dL_law__495 : decode cL_law_ 495 = .ok (.aload_n 1, 1) := by decide +kernel
theorem dL_law__496 : decode cL_law_ 496 = .ok (.aload_n 0, 1) := by decide +kernel
theorem dL_law__497 : decode cL_law_ 497 = .ok (.iload 4, 2) := by decide +kernel
theorem dL_law__499 : decode cL_law_ 499 = .ok (.iconst 1, 1) := by decide +kernel
theorem dL_law__500 : decode cL_law_ 500 = .ok (.iadd, 1) := by decide +kernel
theorem dL_law__501 : decode cL_law_ 501 = .ok (.iaload, 1) := by decide +kernel
theorem dL_law__502 : decode cL_law_ 502 = .ok (.aload_n 0, 1) := by decide +kernel
theorem dL_law__503 : decode cL_law_ 503 = .ok (.iload 4, 2) := by decide +kernel
theorem dL_law__505 : decode cL_law_ 505 = .ok (.iconst 2, 1) := by decide +kernel
theorem dL_law__506 : decode cL_law_ 506 = .ok (.iadd, 1) := by decide +kernel
theorem dL_law__507 : decode cL_law_ 507 = .ok (.iaload, 1) := by decide +kernel
theorem dL_law__508 : decode cL_law_ 508 = .ok (.aload_n 3, 1) := by decide +kernel
theorem dL_law__509 : decode cL_law_ 509 = .ok (.invokestatic 163, 3) := by decide +kernel
theorem dL_law__512 : decode cL_law_ 512 = .ok (.istore 5, 2) := by decide +kernel
theorem dL_law__514 : decode cL_law_ 514 = .ok (.aload_n 2, 1) := by decide +kernel
theorem dL_law__515 : decode cL_law_ 515 = .ok (.aload_n 0, 1) := by decide +kernel
theorem dL_law__516 : decode cL_law_ 516 = .ok (.iload 4, 2) := by decide +kernel
theorem dL_law__518 : decode cL_law_ 518 = .ok (.iconst 1, 1) := by decide +kernel
theorem dL_law__519 : decode cL_law_ 519 = .ok (.iadd, 1) := by decide +kernel
theorem dL_law__520 : decode cL_law_ 520 = .ok (.iaload, 1) := by decide +kernel
theorem dL_law__521 : decode cL_law_ 521 = .ok (.aload_n 0, 1) := by decide +kernel
theorem dL_law__522 : decode cL_law_ 522 = .ok (.iload 4, 2) := by decide +kernel
theorem dL_law__524 : decode cL_law_ 524 = .ok (.iconst 2, 1) := by decide +kernel
theorem dL_law__525 : decode cL_law_ 525 = .ok (.iadd, 1) := by decide +kernel
theorem dL_law__526 : decode cL_law_ 526 = .ok (.iaload, 1) := by decide +kernel
theorem dL_law__527 : decode cL_law_ 527 = .ok (.invokevirtual 165, 3) := by decide +kernel
theorem dL_law__530 : decode cL_law_ 530 = .ok (.istore 6, 2) := by decide +kernel
theorem dL_law__532 : decode cL_law_ 532 = .ok (.aload_n 2, 1) := by decide +kernel
theorem dL_law__533 : decode cL_law_ 533 = .ok (.invokevirtual 151, 3) := by decide +kernel
theorem dL_law__536 : decode cL_law_ 536 = .ok (.iload 5, 2) := by decide +kernel
theorem dL_law__538 : decode cL_law_ 538 = .ok (.if_icmp .eq 5, 3) := by decide +kernel
theorem dL_law__541 : decode cL_law_ 541 = .ok (.iconst 0, 1) := by decide +kernel
theorem dL_law__542 : decode cL_law_ 542 = .ok (.ireturn, 1) := by decide +kernel
theorem dL_law__543 : decode cL_law_ 543 = .ok (.iload 5, 2) := by decide +kernel
theorem dL_law__545 : decode cL_law_ 545 = .ok (.ifCond .ne 15, 3) := by decide +kernel
theorem dL_law__548 : decode cL_law_ 548 = .ok (.aload_n 3, 1) := by decide +kernel
theorem dL_law__549 : decode cL_law_ 549 = .ok (.iconst 0, 1) := by decide +kernel
theorem dL_law__550 : decode cL_law_ 550 = .ok (.laload, 1) := by decide +kernel
theorem dL_law__551 : decode cL_law_ 551 = .ok (.iload 6, 2) := by decide +kernel
theorem dL_law__553 : decode cL_law_ 553 = .ok (.i2l, 1) := by decide +kernel
theorem dL_law__554 : decode cL_law_ 554 = .ok (.lcmp, 1) := by decide +kernel
theorem dL_law__555 : decode cL_law_ 555 = .ok (.ifCond .eq 5, 3) := by decide +kernel
theorem dL_law__558 : decode cL_law_ 558 = .ok (.iconst 0, 1) := by decide +kernel
theorem dL_law__559 : decode cL_law_ 559 = .ok (.ireturn, 1) := by decide +kernel
theorem dL_law__560 : decode cL_law_ 560 = .ok (.goto 2578, 3) := by decide +kernel
theorem dL_law__563 : decode cL_law_ 563 = .ok (.aload_n 1, 1) := by decide +kernel
theorem dL_law__564 : decode cL_law_ 564 = .ok (.aload_n 0, 1) := by decide +kernel
theorem dL_law__565 : decode cL_law_ 565 = .ok (.iload 4, 2) := by decide +kernel
theorem dL_law__567 : decode cL_law_ 567 = .ok (.iconst 1, 1) := by decide +kernel
theorem dL_law__568 : decode cL_law_ 568 = .ok (.iadd, 1) := by decide +kernel
theorem dL_law__569 : decode cL_law_ 569 = .ok (.iaload, 1) := by decide +kernel
theorem dL_law__570 : decode cL_law_ 570 = .ok (.aload_n 0, 1) := by decide +kernel
theorem dL_law__571 : decode cL_law_ 571 = .ok (.iload 4, 2) := by decide +kernel
theorem dL_law__573 : decode cL_law_ 573 = .ok (.iconst 2, 1) := by decide +kernel
theorem dL_law__574 : decode cL_law_ 574 = .ok (.iadd, 1) := by decide +kernel
theorem dL_law__575 : decode cL_law_ 575 = .ok (.iaload, 1) := by decide +kernel
theorem dL_law__576 : decode cL_law_ 576 = .ok (.aload_n 0, 1) := by decide +kernel
theorem dL_law__577 : decode cL_law_ 577 = .ok (.iload 4, 2) := by decide +kernel
theorem dL_law__579 : decode cL_law_ 579 = .ok (.iconst 3, 1) := by decide +kernel
theorem dL_law__580 : decode cL_law_ 580 = .ok (.iadd, 1) := by decide +kernel
theorem dL_law__581 : decode cL_law_ 581 = .ok (.iaload, 1) := by decide +kernel
theorem dL_law__582 : decode cL_law_ 582 = .ok (.aload_n 3, 1) := by decide +kernel
theorem dL_law__583 : decode cL_law_ 583 = .ok (.invokestatic 166, 3) := by decide +kernel
theorem dL_law__586 : decode cL_law_ 586 = .ok (.istore 5, 2) := by decide +kernel
theorem dL_law__588 : decode cL_law_ 588 = .ok (.aload_n 2, 1) := by decide +kernel
theorem dL_law__589 : decode cL_law_ 589 = .ok (.aload_n 0, 1) := by decide +kernel
theorem dL_law__590 : decode cL_law_ 590 = .ok (.iload 4, 2) := by decide +kernel
theorem dL_law__592 : decode cL_law_ 592 = .ok (.iconst 1, 1) := by decide +kernel
theorem dL_law__593 : decode cL_law_ 593 = .ok (.iadd, 1) := by decide +kernel
theorem dL_law__594 : decode cL_law_ 594 = .ok (.iaload, 1) := by decide +kernel
theorem dL_law__595 : decode cL_law_ 595 = .ok (.aload_n 0, 1) := by decide +kernel
theorem dL_law__596 : decode cL_law_ 596 = .ok (.iload 4, 2) := by decide +kernel
theorem dL_law__598 : decode cL_law_ 598 = .ok (.iconst 2, 1) := by decide +kernel
theorem dL_law__599 : decode cL_law_ 599 = .ok (.iadd, 1) := by decide +kernel
theorem dL_law__600 : decode cL_law_ 600 = .ok (.iaload, 1) := by decide +kernel
theorem dL_law__601 : decode cL_law_ 601 = .ok (.aload_n 0, 1) := by decide +kernel
theorem dL_law__602 : decode cL_law_ 602 = .ok (.iload 4, 2) := by decide +kernel
theorem dL_law__604 : decode cL_law_ 604 = .ok (.iconst 3, 1) := by decide +kernel
theorem dL_law__605 : decode cL_law_ 605 = .ok (.iadd, 1) := by decide +kernel
theorem dL_law__606 : decode cL_law_ 606 = .ok (.iaload, 1) := by decide +kernel
theorem dL_law__607 : decode cL_law_ 607 = .ok (.invokevirtual 169, 3) := by decide +kernel
theorem dL_law__610 : decode cL_law_ 610 = .ok (.istore 6, 2) := by decide +kernel
theorem dL_law__612 : decode cL_law_ 612 = .ok (.aload_n 2, 1) := by decide +kernel
theorem dL_law__613 : decode cL_law_ 613 = .ok (.invokevirtual 151, 3) := by decide +kernel
theorem dL_law__616 : decode cL_law_ 616 = .ok (.iload 5, 2) := by decide +kernel
theorem dL_law__618 : decode cL_law_ 618 = .ok (.if_icmp .eq 5, 3) := by decide +kernel
theorem dL_law__621 : decode cL_law_ 621 = .ok (.iconst 0, 1) := by decide +kernel
theorem dL_law__622 : decode cL_law_ 622 = .ok (.ireturn, 1) := by decide +kernel
theorem dL_law__623 : decode cL_law_ 623 = .ok (.iload 5, 2) := by decide +kernel
theorem dL_law__625 : decode cL_law_ 625 = .ok (.ifCond .ne 15, 3) := by decide +kernel
theorem dL_law__628 : decode cL_law_ 628 = .ok (.aload_n 3, 1) := by decide +kernel
theorem dL_law__629 : decode cL_law_ 629 = .ok (.iconst 0, 1) := by decide +kernel
theorem dL_law__630 : decode cL_law_ 630 = .ok (.laload, 1) := by decide +kernel
theorem dL_law__631 : decode cL_law_ 631 = .ok (.iload 6, 2) := by decide +kernel
theorem dL_law__633 : decode cL_law_ 633 = .ok (.i2l, 1) := by decide +kernel
theorem dL_law__634 : decode cL_law_ 634 = .ok (.lcmp, 1) := by decide +kernel
theorem dL_law__635 : decode cL_law_ 635 = .ok (.ifCond .eq 5, 3) := by decide +kernel
theorem dL_law__638 : decode cL_law_ 638 = .ok (.iconst 0, 1) := by decide +kernel
theorem dL_law__639 : decode cL_law_ 639 = .ok (.ireturn, 1) := by decide +kernel
theorem dL_law__640 : decode cL_law_ 640 = .ok (.goto 2498, 3) := by decide +kernel
theorem dL_law__643 : decode cL_law_ 643 = .ok (.aload_n 1, 1) := by decide +kernel
theorem dL_law__644 : decode cL_law_ 644 = .ok (.aload_n 0, 1) := by decide +kernel
theorem dL_law__645 : decode cL_law_ 645 = .ok (.iload 4, 2) := by decide +kernel
theorem dL_law__647 : decode cL_law_ 647 = .ok (.iconst 1, 1) := by decide +kernel
theorem dL_law__648 : decode cL_law_ 648 = .ok (.iadd, 1) := by decide +kernel
theorem dL_law__649 : decode cL_law_ 649 = .ok (.iaload, 1) := by decide +kernel
theorem dL_law__650 : decode cL_law_ 650 = .ok (.aload_n 0, 1) := by decide +kernel
theorem dL_law__651 : decode cL_law_ 651 = .ok (.iload 4, 2) := by decide +kernel
theorem dL_law__653 : decode cL_law_ 653 = .ok (.iconst 2, 1) := by decide +kernel
theorem dL_law__654 : decode cL_law_ 654 = .ok (.iadd, 1) := by decide +kernel
theorem dL_law__655 : decode cL_law_ 655 = .ok (.iaload, 1) := by decide +kernel
theorem dL_law__656 : decode cL_law_ 656 = .ok (.aload_n 3, 1) := by decide +kernel
theorem dL_law__657 : decode cL_law_ 657 = .ok (.invokestatic 170, 3) := by decide +kernel
theorem dL_law__660 : decode cL_law_ 660 = .ok (.istore 5, 2) := by decide +kernel
theorem dL_law__662 : decode cL_law_ 662 = .ok (.aload_n 2, 1) := by decide +kernel
theorem dL_law__663 : decode cL_law_ 663 = .ok (.aload_n 0, 1) := by decide +kernel
theorem dL_law__664 : decode cL_law_ 664 = .ok (.iload 4, 2) := by decide +kernel
theorem dL_law__666 : decode cL_law_ 666 = .ok (.iconst 1, 1) := by decide +kernel
theorem dL_law__667 : decode cL_law_ 667 = .ok (.iadd, 1) := by decide +kernel
theorem dL_law__668 : decode cL_law_ 668 = .ok (.iaload, 1) := by decide +kernel
theorem dL_law__669 : decode cL_law_ 669 = .ok (.aload_n 0, 1) := by decide +kernel
theorem dL_law__670 : decode cL_law_ 670 = .ok (.iload 4, 2) := by decide +kernel
theorem dL_law__672 : decode cL_law_ 672 = .ok (.iconst 2, 1) := by decide +kernel
theorem dL_law__673 : decode cL_law_ 673 = .ok (.iadd, 1) := by decide +kernel
theorem dL_law__674 : decode cL_law_ 674 = .ok (.iaload, 1) := by decide +kernel
theorem dL_law__675 : decode cL_law_ 675 = .ok (.invokevirtual 172, 3) := by decide +kernel
theorem dL_law__678 : decode cL_law_ 678 = .ok (.istore 6, 2) := by decide +kernel
theorem dL_law__680 : decode cL_law_ 680 = .ok (.aload_n 2, 1) := by decide +kernel
theorem dL_law__681 : decode cL_law_ 681 = .ok (.invokevirtual 151, 3) := by decide +kernel
theorem dL_law__684 : decode cL_law_ 684 = .ok (.iload 5, 2) := by decide +kernel
theorem dL_law__686 : decode cL_law_ 686 = .ok (.if_icmp .eq 5, 3) := by decide +kernel
theorem dL_law__689 : decode cL_law_ 689 = .ok (.iconst 0, 1) := by decide +kernel
theorem dL_law__690 : decode cL_law_ 690 = .ok (.ireturn, 1) := by decide +kernel
theorem dL_law__691 : decode cL_law_ 691 = .ok (.iload 5, 2) := by decide +kernel
theorem dL_law__693 : decode cL_law_ 693 = .ok (.ifCond .ne 15, 3) := by decide +kernel
theorem dL_law__696 : decode cL_law_ 696 = .ok (.aload_n 3, 1) := by decide +kernel
theorem dL_law__697 : decode cL_law_ 697 = .ok (.iconst 0, 1) := by decide +kernel
theorem dL_law__698 : decode cL_law_ 698 = .ok (.laload, 1) := by decide +kernel
theorem dL_law__699 : decode cL_law_ 699 = .ok (.iload 6, 2) := by decide +kernel
theorem dL_law__701 : decode cL_law_ 701 = .ok (.i2l, 1) := by decide +kernel
theorem dL_law__702 : decode cL_law_ 702 = .ok (.lcmp, 1) := by decide +kernel
theorem dL_law__703 : decode cL_law_ 703 = .ok (.ifCond .eq 5, 3) := by decide +kernel
theorem dL_law__706 : decode cL_law_ 706 = .ok (.iconst 0, 1) := by decide +kernel
theorem dL_law__707 : decode cL_law_ 707 = .ok (.ireturn, 1) := by decide +kernel
theorem dL_law__708 : decode cL_law_ 708 = .ok (.goto 2430, 3) := by decide +kernel
theorem dL_law__711 : decode cL_law_ 711 = .ok (.aload_n 1, 1) := by decide +kernel
theorem dL_law__712 : decode cL_law_ 712 = .ok (.aload_n 0, 1) := by decide +kernel
theorem dL_law__713 : decode cL_law_ 713 = .ok (.iload 4, 2) := by decide +kernel
theorem dL_law__715 : decode cL_law_ 715 = .ok (.iconst 1, 1) := by decide +kernel
theorem dL_law__716 : decode cL_law_ 716 = .ok (.iadd, 1) := by decide +kernel
theorem dL_law__717 : decode cL_law_ 717 = .ok (.iaload, 1) := by decide +kernel
theorem dL_law__718 : decode cL_law_ 718 = .ok (.aload_n 0, 1) := by decide +kernel
theorem dL_law__719 : decode cL_law_ 719 = .ok (.iload 4, 2) := by decide +kernel
theorem dL_law__721 : decode cL_law_ 721 = .ok (.iconst 2, 1) := by decide +kernel
theorem dL_law__722 : decode cL_law_ 722 = .ok (.iadd, 1) := by decide +kernel
theorem dL_law__723 : decode cL_law_ 723 = .ok (.iaload, 1) := by decide +kernel
theorem dL_law__724 : decode cL_law_ 724 = .ok (.aload_n 3, 1) := by decide +kernel
theorem dL_law__725 : decode cL_law_ 725 = .ok (.invokestatic 173, 3) := by decide +kernel
theorem dL_law__728 : decode cL_law_ 728 = .ok (.istore 5, 2) := by decide +kernel
theorem dL_law__730 : decode cL_law_ 730 = .ok (.aload_n 2, 1) := by decide +kernel
theorem dL_law__731 : decode cL_law_ 731 = .ok (.aload_n 0, 1) := by decide +kernel
theorem dL_law__732 : decode cL_law_ 732 = .ok (.iload 4, 2) := by decide +kernel
theorem dL_law__734 : decode cL_law_ 734 = .ok (.iconst 1, 1) := by decide +kernel
theorem dL_law__735 : decode cL_law_ 735 = .ok (.iadd, 1) := by decide +kernel
theorem dL_law__736 : decode cL_law_ 736 = .ok (.iaload, 1) := by decide +kernel
theorem dL_law__737 : decode cL_law_ 737 = .ok (.aload_n 0, 1) := by decide +kernel
theorem dL_law__738 : decode cL_law_ 738 = .ok (.iload 4, 2) := by decide +kernel
theorem dL_law__740 : decode cL_law_ 740 = .ok (.iconst 2, 1) := by decide +kernel
theorem dL_law__741 : decode cL_law_ 741 = .ok (.iadd, 1) := by decide +kernel
theorem dL_law__742 : decode cL_law_ 742 = .ok (.iaload, 1) := by decide +kernel
theorem dL_law__743 : decode cL_law_ 743 = .ok (.invokevirtual 175, 3) := by decide +kernel
theorem dL_law__746 : decode cL_law_ 746 = .ok (.istore 6, 2) := by decide +kernel
theorem dL_law__748 : decode cL_law_ 748 = .ok (.aload_n 2, 1) := by decide +kernel
theorem dL_law__749 : decode cL_law_ 749 = .ok (.invokevirtual 151, 3) := by decide +kernel
theorem dL_law__752 : decode cL_law_ 752 = .ok (.iload 5, 2) := by decide +kernel
theorem dL_law__754 : decode cL_law_ 754 = .ok (.if_icmp .eq 5, 3) := by decide +kernel
theorem dL_law__757 : decode cL_law_ 757 = .ok (.iconst 0, 1) := by decide +kernel
theorem dL_law__758 : decode cL_law_ 758 = .ok (.ireturn, 1) := by decide +kernel
theorem dL_law__759 : decode cL_law_ 759 = .ok (.iload 5, 2) := by decide +kernel
theorem dL_law__761 : decode cL_law_ 761 = .ok (.ifCond .ne 22, 3) := by decide +kernel
theorem dL_law__764 : decode cL_law_ 764 = .ok (.aload_n 3, 1) := by decide +kernel
theorem dL_law__765 : decode cL_law_ 765 = .ok (.iconst 0, 1) := by decide +kernel
theorem dL_law__766 : decode cL_law_ 766 = .ok (.laload, 1) := by decide +kernel
theorem dL_law__767 : decode cL_law_ 767 = .ok (.iload 6, 2) := by decide +kernel
theorem dL_law__769 : decode cL_law_ 769 = .ok (.ifCond .eq 7, 3) := by decide +kernel
theorem dL_law__772 : decode cL_law_ 772 = .ok (.lconst 1, 1) := by decide +kernel
theorem dL_law__773 : decode cL_law_ 773 = .ok (.goto 4, 3) := by decide +kernel
theorem dL_law__776 : decode cL_law_ 776 = .ok (.lconst 0, 1) := by decide +kernel
theorem dL_law__777 : decode cL_law_ 777 = .ok (.lcmp, 1) := by decide +kernel
theorem dL_law__778 : decode cL_law_ 778 = .ok (.ifCond .eq 5, 3) := by decide +kernel
theorem dL_law__781 : decode cL_law_ 781 = .ok (.iconst 0, 1) := by decide +kernel
theorem dL_law__782 : decode cL_law_ 782 = .ok (.ireturn, 1) := by decide +kernel
theorem dL_law__783 : decode cL_law_ 783 = .ok (.goto 2355, 3) := by decide +kernel
theorem dL_law__786 : decode cL_law_ 786 = .ok (.aload_n 1, 1) := by decide +kernel
theorem dL_law__787 : decode cL_law_ 787 = .ok (.aload_n 0, 1) := by decide +kernel
theorem dL_law__788 : decode cL_law_ 788 = .ok (.iload 4, 2) := by decide +kernel
theorem dL_law__790 : decode cL_law_ 790 = .ok (.iconst 1, 1) := by decide +kernel
theorem dL_law__791 : decode cL_law_ 791 = .ok (.iadd, 1) := by decide +kernel
theorem dL_law__792 : decode cL_law_ 792 = .ok (.iaload, 1) := by decide +kernel
theorem dL_law__793 : decode cL_law_ 793 = .ok (.aload_n 0, 1) := by decide +kernel
theorem dL_law__794 : decode cL_law_ 794 = .ok (.iload 4, 2) := by decide +kernel
theorem dL_law__796 : decode cL_law_ 796 = .ok (.iconst 2, 1) := by decide +kernel
theorem dL_law__797 : decode cL_law_ 797 = .ok (.iadd, 1) := by decide +kernel
theorem dL_law__798 : decode cL_law_ 798 = .ok (.iaload, 1) := by decide +kernel
theorem dL_law__799 : decode cL_law_ 799 = .ok (.aload_n 3, 1) := by decide +kernel
theorem dL_law__800 : decode cL_law_ 800 = .ok (.invokestatic 176, 3) := by decide +kernel
theorem dL_law__803 : decode cL_law_ 803 = .ok (.istore 5, 2) := by decide +kernel
theorem dL_law__805 : decode cL_law_ 805 = .ok (.aload_n 2, 1) := by decide +kernel
theorem dL_law__806 : decode cL_law_ 806 = .ok (.aload_n 0, 1) := by decide +kernel
theorem dL_law__807 : decode cL_law_ 807 = .ok (.iload 4, 2) := by decide +kernel
theorem dL_law__809 : decode cL_law_ 809 = .ok (.iconst 1, 1) := by decide +kernel
theorem dL_law__810 : decode cL_law_ 810 = .ok (.iadd, 1) := by decide +kernel
theorem dL_law__811 : decode cL_law_ 811 = .ok (.iaload, 1) := by decide +kernel
theorem dL_law__812 : decode cL_law_ 812 = .ok (.aload_n 0, 1) := by decide +kernel
theorem dL_law__813 : decode cL_law_ 813 = .ok (.iload 4, 2) := by decide +kernel
theorem dL_law__815 : decode cL_law_ 815 = .ok (.iconst 2, 1) := by decide +kernel
theorem dL_law__816 : decode cL_law_ 816 = .ok (.iadd, 1) := by decide +kernel
theorem dL_law__817 : decode cL_law_ 817 = .ok (.iaload, 1) := by decide +kernel
theorem dL_law__818 : decode cL_law_ 818 = .ok (.invokevirtual 178, 3) := by decide +kernel
theorem dL_law__821 : decode cL_law_ 821 = .ok (.istore 6, 2) := by decide +kernel
theorem dL_law__823 : decode cL_law_ 823 = .ok (.aload_n 2, 1) := by decide +kernel
theorem dL_law__824 : decode cL_law_ 824 = .ok (.invokevirtual 151, 3) := by decide +kernel
theorem dL_law__827 : decode cL_law_ 827 = .ok (.iload 5, 2) := by decide +kernel
theorem dL_law__829 : decode cL_law_ 829 = .ok (.if_icmp .eq 5, 3) := by decide +kernel
theorem dL_law__832 : decode cL_law_ 832 = .ok (.iconst 0, 1) := by decide +kernel
theorem dL_law__833 : decode cL_law_ 833 = .ok (.ireturn, 1) := by decide +kernel
theorem dL_law__834 : decode cL_law_ 834 = .ok (.iload 5, 2) := by decide +kernel
theorem dL_law__836 : decode cL_law_ 836 = .ok (.ifCond .ne 15, 3) := by decide +kernel
theorem dL_law__839 : decode cL_law_ 839 = .ok (.aload_n 3, 1) := by decide +kernel
theorem dL_law__840 : decode cL_law_ 840 = .ok (.iconst 0, 1) := by decide +kernel
theorem dL_law__841 : decode cL_law_ 841 = .ok (.laload, 1) := by decide +kernel
theorem dL_law__842 : decode cL_law_ 842 = .ok (.iload 6, 2) := by decide +kernel
theorem dL_law__844 : decode cL_law_ 844 = .ok (.i2l, 1) := by decide +kernel
theorem dL_law__845 : decode cL_law_ 845 = .ok (.lcmp, 1) := by decide +kernel
theorem dL_law__846 : decode cL_law_ 846 = .ok (.ifCond .eq 5, 3) := by decide +kernel
theorem dL_law__849 : decode cL_law_ 849 = .ok (.iconst 0, 1) := by decide +kernel
theorem dL_law__850 : decode cL_law_ 850 = .ok (.ireturn, 1) := by decide +kernel
theorem dL_law__851 : decode cL_law_ 851 = .ok (.goto 2287, 3) := by decide +kernel
theorem dL_law__854 : decode cL_law_ 854 = .ok (.aload_n 1, 1) := by decide +kernel
theorem dL_law__855 : decode cL_law_ 855 = .ok (.aload_n 0, 1) := by decide +kernel
theorem dL_law__856 : decode cL_law_ 856 = .ok (.iload 4, 2) := by decide +kernel
theorem dL_law__858 : decode cL_law_ 858 = .ok (.iconst 1, 1) := by decide +kernel
theorem dL_law__859 : decode cL_law_ 859 = .ok (.iadd, 1) := by decide +kernel
theorem dL_law__860 : decode cL_law_ 860 = .ok (.iaload, 1) := by decide +kernel
theorem dL_law__861 : decode cL_law_ 861 = .ok (.aload_n 3, 1) := by decide +kernel
theorem dL_law__862 : decode cL_law_ 862 = .ok (.invokestatic 179, 3) := by decide +kernel
theorem dL_law__865 : decode cL_law_ 865 = .ok (.istore 5, 2) := by decide +kernel
theorem dL_law__867 : decode cL_law_ 867 = .ok (.aload_n 2, 1) := by decide +kernel
theorem dL_law__868 : decode cL_law_ 868 = .ok (.aload_n 0, 1) := by decide +kernel
theorem dL_law__869 : decode cL_law_ 869 = .ok (.iload 4, 2) := by decide +kernel
theorem dL_law__871 : decode cL_law_ 871 = .ok (.iconst 1, 1) := by decide +kernel
theorem dL_law__872 : decode cL_law_ 872 = .ok (.iadd, 1) := by decide +kernel
theorem dL_law__873 : decode cL_law_ 873 = .ok (.iaload, 1) := by decide +kernel
theorem dL_law__874 : decode cL_law_ 874 = .ok (.invokevirtual 181, 3) := by decide +kernel
theorem dL_law__877 : decode cL_law_ 877 = .ok (.istore 6, 2) := by decide +kernel
theorem dL_law__879 : decode cL_law_ 879 = .ok (.aload_n 2, 1) := by decide +kernel
theorem dL_law__880 : decode cL_law_ 880 = .ok (.invokevirtual 151, 3) := by decide +kernel
theorem dL_law__883 : decode cL_law_ 883 = .ok (.iload 5, 2) := by decide +kernel
theorem dL_law__885 : decode cL_law_ 885 = .ok (.if_icmp .eq 5, 3) := by decide +kernel
theorem dL_law__888 : decode cL_law_ 888 = .ok (.iconst 0, 1) := by decide +kernel
theorem dL_law__889 : decode cL_law_ 889 = .ok (.ireturn, 1) := by decide +kernel
theorem dL_law__890 : decode cL_law_ 890 = .ok (.iload 5, 2) := by decide +kernel
theorem dL_law__892 : decode cL_law_ 892 = .ok (.ifCond .ne 15, 3) := by decide +kernel
theorem dL_law__895 : decode cL_law_ 895 = .ok (.aload_n 3, 1) := by decide +kernel
theorem dL_law__896 : decode cL_law_ 896 = .ok (.iconst 0, 1) := by decide +kernel
theorem dL_law__897 : decode cL_law_ 897 = .ok (.laload, 1) := by decide +kernel
theorem dL_law__898 : decode cL_law_ 898 = .ok (.iload 6, 2) := by decide +kernel
theorem dL_law__900 : decode cL_law_ 900 = .ok (.i2l, 1) := by decide +kernel
theorem dL_law__901 : decode cL_law_ 901 = .ok (.lcmp, 1) := by decide +kernel
theorem dL_law__902 : decode cL_law_ 902 = .ok (.ifCond .eq 5, 3) := by decide +kernel
theorem dL_law__905 : decode cL_law_ 905 = .ok (.iconst 0, 1) := by decide +kernel
theorem dL_law__906 : decode cL_law_ 906 = .ok (.ireturn, 1) := by decide +kernel
theorem dL_law__907 : decode cL_law_ 907 = .ok (.goto 2231, 3) := by decide +kernel
theorem dL_law__910 : decode cL_law_ 910 = .ok (.aload_n 1, 1) := by decide +kernel
theorem dL_law__911 : decode cL_law_ 911 = .ok (.aload_n 0, 1) := by decide +kernel
theorem dL_law__912 : decode cL_law_ 912 = .ok (.iload 4, 2) := by decide +kernel
theorem dL_law__914 : decode cL_law_ 914 = .ok (.iconst 1, 1) := by decide +kernel
theorem dL_law__915 : decode cL_law_ 915 = .ok (.iadd, 1) := by decide +kernel
theorem dL_law__916 : decode cL_law_ 916 = .ok (.iaload, 1) := by decide +kernel
theorem dL_law__917 : decode cL_law_ 917 = .ok (.aload_n 0, 1) := by decide +kernel
theorem dL_law__918 : decode cL_law_ 918 = .ok (.iload 4, 2) := by decide +kernel
theorem dL_law__920 : decode cL_law_ 920 = .ok (.iconst 2, 1) := by decide +kernel
theorem dL_law__921 : decode cL_law_ 921 = .ok (.iadd, 1) := by decide +kernel
theorem dL_law__922 : decode cL_law_ 922 = .ok (.iaload, 1) := by decide +kernel
theorem dL_law__923 : decode cL_law_ 923 = .ok (.aload_n 0, 1) := by decide +kernel
theorem dL_law__924 : decode cL_law_ 924 = .ok (.iload 4, 2) := by decide +kernel
theorem dL_law__926 : decode cL_law_ 926 = .ok (.iconst 3, 1) := by decide +kernel
theorem dL_law__927 : decode cL_law_ 927 = .ok (.iadd, 1) := by decide +kernel
theorem dL_law__928 : decode cL_law_ 928 = .ok (.iaload, 1) := by decide +kernel
theorem dL_law__929 : decode cL_law_ 929 = .ok (.aload_n 0, 1) := by decide +kernel
theorem dL_law__930 : decode cL_law_ 930 = .ok (.iload 4, 2) := by decide +kernel
theorem dL_law__932 : decode cL_law_ 932 = .ok (.iconst 4, 1) := by decide +kernel
theorem dL_law__933 : decode cL_law_ 933 = .ok (.iadd, 1) := by decide +kernel
theorem dL_law__934 : decode cL_law_ 934 = .ok (.iaload, 1) := by decide +kernel
theorem dL_law__935 : decode cL_law_ 935 = .ok (.aload_n 0, 1) := by decide +kernel
theorem dL_law__936 : decode cL_law_ 936 = .ok (.iload 4, 2) := by decide +kernel
theorem dL_law__938 : decode cL_law_ 938 = .ok (.iconst 5, 1) := by decide +kernel
theorem dL_law__939 : decode cL_law_ 939 = .ok (.iadd, 1) := by decide +kernel
theorem dL_law__940 : decode cL_law_ 940 = .ok (.iaload, 1) := by decide +kernel
theorem dL_law__941 : decode cL_law_ 941 = .ok (.invokevirtual 182, 3) := by decide +kernel
theorem dL_law__944 : decode cL_law_ 944 = .ok (.aload_n 2, 1) := by decide +kernel
theorem dL_law__945 : decode cL_law_ 945 = .ok (.aload_n 0, 1) := by decide +kernel
theorem dL_law__946 : decode cL_law_ 946 = .ok (.iload 4, 2) := by decide +kernel
theorem dL_law__948 : decode cL_law_ 948 = .ok (.iconst 1, 1) := by decide +kernel
theorem dL_law__949 : decode cL_law_ 949 = .ok (.iadd, 1) := by decide +kernel
theorem dL_law__950 : decode cL_law_ 950 = .ok (.iaload, 1) := by decide +kernel
theorem dL_law__951 : decode cL_law_ 951 = .ok (.aload_n 0, 1) := by decide +kernel
