theorem ggX11_init_X11_plain : GoodIn wsX11_init wsX11_plain := gi_sub (fun w h => List.mem_cons_of_mem _ (List.mem_append_left _ (List.mem_append_right _ (List.mem_append_left _ h)))) gd_wsX11_plain
set_option maxRecDepth 20000 in
theorem gX11_init_X11_plain : GoodIn wsX11_init (wsV RX11 134 RX11 yX11_plain wsX11_plain) := goodIn_app (goodIn_r _ [39, 40, 41, 42] (by decide +kernel) (by decide +kernel)) ggX11_init_X11_plain
theorem ggX11_init_X11_word : GoodIn wsX11_init wsX11_word := gi_sub (fun w h => List.mem_cons_of_mem _ (List.mem_append_left _ (List.mem_append_right _ (List.mem_append_right _ (List.mem_append_left _ h))))) gd_wsX11_word
set_option maxRecDepth 20000 in
theorem gX11_init_X11_word : GoodIn wsX11_init (va_wsS RX11 138 yX11_word wsX11_word) := goodIn_app (goodIn_of _ (by decide +kernel)) ggX11_init_X11_word
theorem ggX11_init_X11_begins : GoodIn wsX11_init wsX11_begins := gi_sub (fun w h => List.mem_cons_of_mem _ (List.mem_append_left _ (List.mem_append_right _ (List.mem_append_right _ (List.mem_append_right _ (List.mem_append_left _ h)))))) gd_wsX11_begins
set_option maxRecDepth 20000 in
theorem gX11_init_X11_begins : GoodIn wsX11_init (wsV RX11 142 RX11 yX11_begins wsX11_begins) := goodIn_app (goodIn_r _ [45, 46, 47, 42] (by decide +kernel) (by decide +kernel)) ggX11_init_X11_begins
theorem ggX11_init_X11_keepsRow : GoodIn wsX11_init wsX11_keepsRow := gi_sub (fun w h => List.mem_cons_of_mem _ (List.mem_append_left _ (List.mem_append_right _ (List.mem_append_right _ (List.mem_append_right _ (List.mem_append_right _ h)))))) gd_wsX11_keepsRow
set_option maxRecDepth 20000 in
theorem gX11_init_X11_keepsRow : GoodIn wsX11_init (wsV RX11 145 RX11 yX11_keepsRow wsX11_keepsRow) := goodIn_app (goodIn_r _ [48, 49, 50, 42] (by decide +kernel) (by decide +kernel)) ggX11_init_X11_keepsRow
theorem dX11_init_324 : decode cX11_init 324 = .ok (.aload_n 0, 1) := dc1_42 (by decide +kernel)
theorem dX11_init_325 : decode cX11_init 325 = .ok (.iconst 0, 1) := dc1_3 (by decide +kernel)
theorem dX11_init_326 : decode cX11_init 326 = .ok (.invokevirtual 134, 3) := dcw_182 (by decide +kernel)
theorem dX11_init_329 : decode cX11_init 329 = .ok (.aload_n 0, 1) := dc1_42 (by decide +kernel)
theorem dX11_init_330 : decode cX11_init 330 = .ok (.iconst 1, 1) := dc1_4 (by decide +kernel)
theorem dX11_init_331 : decode cX11_init 331 = .ok (.invokevirtual 134, 3) := dcw_182 (by decide +kernel)
theorem dX11_init_334 : decode cX11_init 334 = .ok (.aload_n 0, 1) := dc1_42 (by decide +kernel)
theorem dX11_init_335 : decode cX11_init 335 = .ok (.getfield 34, 3) := dcw_180 (by decide +kernel)
theorem dX11_init_338 : decode cX11_init 338 = .ok (.iconst 0, 1) := dc1_3 (by decide +kernel)
theorem dX11_init_339 : decode cX11_init 339 = .ok (.bipush 119, 2) := dcb_16 (n := 119) (by decide +kernel)
theorem dX11_init_341 : decode cX11_init 341 = .ok (.bipush 97, 2) := dcb_16 (n := 97) (by decide +kernel)
theorem dX11_init_343 : decode cX11_init 343 = .ok (.bipush 118, 2) := dcb_16 (n := 118) (by decide +kernel)
theorem dX11_init_345 : decode cX11_init 345 = .ok (.bipush 101, 2) := dcb_16 (n := 101) (by decide +kernel)
theorem dX11_init_347 : decode cX11_init 347 = .ok (.iconst 0, 1) := dc1_3 (by decide +kernel)
theorem dX11_init_348 : decode cX11_init 348 = .ok (.iconst 0, 1) := dc1_3 (by decide +kernel)
theorem dX11_init_349 : decode cX11_init 349 = .ok (.iconst 0, 1) := dc1_3 (by decide +kernel)
theorem dX11_init_350 : decode cX11_init 350 = .ok (.invokestatic 138, 3) := dcw_184 (by decide +kernel)
theorem dX11_init_353 : decode cX11_init 353 = .ok (.lastore, 1) := dc1_80 (by decide +kernel)
theorem dX11_init_354 : decode cX11_init 354 = .ok (.aload_n 0, 1) := dc1_42 (by decide +kernel)
theorem dX11_init_355 : decode cX11_init 355 = .ok (.getfield 34, 3) := dcw_180 (by decide +kernel)
theorem dX11_init_358 : decode cX11_init 358 = .ok (.iconst 1, 1) := dc1_4 (by decide +kernel)
theorem dX11_init_359 : decode cX11_init 359 = .ok (.bipush 112, 2) := dcb_16 (n := 112) (by decide +kernel)
theorem dX11_init_361 : decode cX11_init 361 = .ok (.bipush 97, 2) := dcb_16 (n := 97) (by decide +kernel)
theorem dX11_init_363 : decode cX11_init 363 = .ok (.bipush 114, 2) := dcb_16 (n := 114) (by decide +kernel)
theorem dX11_init_365 : decode cX11_init 365 = .ok (.bipush 116, 2) := dcb_16 (n := 116) (by decide +kernel)
theorem dX11_init_367 : decode cX11_init 367 = .ok (.bipush 121, 2) := dcb_16 (n := 121) (by decide +kernel)
theorem dX11_init_369 : decode cX11_init 369 = .ok (.iconst 0, 1) := dc1_3 (by decide +kernel)
theorem dX11_init_370 : decode cX11_init 370 = .ok (.iconst 0, 1) := dc1_3 (by decide +kernel)
theorem dX11_init_371 : decode cX11_init 371 = .ok (.invokestatic 138, 3) := dcw_184 (by decide +kernel)
theorem dX11_init_374 : decode cX11_init 374 = .ok (.lastore, 1) := dc1_80 (by decide +kernel)
theorem dX11_init_375 : decode cX11_init 375 = .ok (.aload_n 0, 1) := dc1_42 (by decide +kernel)
theorem dX11_init_376 : decode cX11_init 376 = .ok (.getfield 34, 3) := dcw_180 (by decide +kernel)
theorem dX11_init_379 : decode cX11_init 379 = .ok (.iconst 2, 1) := dc1_5 (by decide +kernel)
theorem dX11_init_380 : decode cX11_init 380 = .ok (.bipush 110, 2) := dcb_16 (n := 110) (by decide +kernel)
theorem dX11_init_382 : decode cX11_init 382 = .ok (.bipush 101, 2) := dcb_16 (n := 101) (by decide +kernel)
theorem dX11_init_384 : decode cX11_init 384 = .ok (.bipush 101, 2) := dcb_16 (n := 101) (by decide +kernel)
theorem dX11_init_386 : decode cX11_init 386 = .ok (.bipush 100, 2) := dcb_16 (n := 100) (by decide +kernel)
theorem dX11_init_388 : decode cX11_init 388 = .ok (.bipush 115, 2) := dcb_16 (n := 115) (by decide +kernel)
theorem dX11_init_390 : decode cX11_init 390 = .ok (.iconst 0, 1) := dc1_3 (by decide +kernel)
theorem dX11_init_391 : decode cX11_init 391 = .ok (.iconst 0, 1) := dc1_3 (by decide +kernel)
theorem dX11_init_392 : decode cX11_init 392 = .ok (.invokestatic 138, 3) := dcw_184 (by decide +kernel)
theorem dX11_init_395 : decode cX11_init 395 = .ok (.lastore, 1) := dc1_80 (by decide +kernel)
theorem dX11_init_396 : decode cX11_init 396 = .ok (.aload_n 0, 1) := dc1_42 (by decide +kernel)
theorem dX11_init_397 : decode cX11_init 397 = .ok (.getfield 34, 3) := dcw_180 (by decide +kernel)
theorem dX11_init_400 : decode cX11_init 400 = .ok (.iconst 3, 1) := dc1_6 (by decide +kernel)
theorem dX11_init_401 : decode cX11_init 401 = .ok (.bipush 102, 2) := dcb_16 (n := 102) (by decide +kernel)
theorem dX11_init_403 : decode cX11_init 403 = .ok (.bipush 97, 2) := dcb_16 (n := 97) (by decide +kernel)
theorem dX11_init_405 : decode cX11_init 405 = .ok (.bipush 114, 2) := dcb_16 (n := 114) (by decide +kernel)
theorem dX11_init_407 : decode cX11_init 407 = .ok (.bipush 101, 2) := dcb_16 (n := 101) (by decide +kernel)
theorem dX11_init_409 : decode cX11_init 409 = .ok (.bipush 115, 2) := dcb_16 (n := 115) (by decide +kernel)
theorem dX11_init_411 : decode cX11_init 411 = .ok (.iconst 0, 1) := dc1_3 (by decide +kernel)
theorem dX11_init_412 : decode cX11_init 412 = .ok (.iconst 0, 1) := dc1_3 (by decide +kernel)
theorem dX11_init_413 : decode cX11_init 413 = .ok (.invokestatic 138, 3) := dcw_184 (by decide +kernel)
theorem dX11_init_416 : decode cX11_init 416 = .ok (.lastore, 1) := dc1_80 (by decide +kernel)
theorem dX11_init_417 : decode cX11_init 417 = .ok (.aload_n 0, 1) := dc1_42 (by decide +kernel)
theorem dX11_init_418 : decode cX11_init 418 = .ok (.getfield 34, 3) := dcw_180 (by decide +kernel)
theorem dX11_init_421 : decode cX11_init 421 = .ok (.iconst 4, 1) := dc1_7 (by decide +kernel)
theorem dX11_init_422 : decode cX11_init 422 = .ok (.bipush 100, 2) := dcb_16 (n := 100) (by decide +kernel)
theorem dX11_init_424 : decode cX11_init 424 = .ok (.bipush 97, 2) := dcb_16 (n := 97) (by decide +kernel)
theorem dX11_init_426 : decode cX11_init 426 = .ok (.bipush 114, 2) := dcb_16 (n := 114) (by decide +kernel)
theorem dX11_init_428 : decode cX11_init 428 = .ok (.bipush 101, 2) := dcb_16 (n := 101) (by decide +kernel)
theorem dX11_init_430 : decode cX11_init 430 = .ok (.bipush 115, 2) := dcb_16 (n := 115) (by decide +kernel)
theorem dX11_init_432 : decode cX11_init 432 = .ok (.iconst 0, 1) := dc1_3 (by decide +kernel)
theorem dX11_init_433 : decode cX11_init 433 = .ok (.iconst 0, 1) := dc1_3 (by decide +kernel)
theorem dX11_init_434 : decode cX11_init 434 = .ok (.invokestatic 138, 3) := dcw_184 (by decide +kernel)
theorem dX11_init_437 : decode cX11_init 437 = .ok (.lastore, 1) := dc1_80 (by decide +kernel)
theorem dX11_init_438 : decode cX11_init 438 = .ok (.aload_n 0, 1) := dc1_42 (by decide +kernel)
theorem dX11_init_439 : decode cX11_init 439 = .ok (.getfield 34, 3) := dcw_180 (by decide +kernel)
theorem dX11_init_442 : decode cX11_init 442 = .ok (.iconst 5, 1) := dc1_8 (by decide +kernel)
theorem dX11_init_443 : decode cX11_init 443 = .ok (.bipush 115, 2) := dcb_16 (n := 115) (by decide +kernel)
theorem dX11_init_445 : decode cX11_init 445 = .ok (.bipush 104, 2) := dcb_16 (n := 104) (by decide +kernel)
theorem dX11_init_447 : decode cX11_init 447 = .ok (.bipush 105, 2) := dcb_16 (n := 105) (by decide +kernel)
theorem dX11_init_449 : decode cX11_init 449 = .ok (.bipush 102, 2) := dcb_16 (n := 102) (by decide +kernel)
theorem dX11_init_451 : decode cX11_init 451 = .ok (.bipush 116, 2) := dcb_16 (n := 116) (by decide +kernel)
theorem dX11_init_453 : decode cX11_init 453 = .ok (.bipush 115, 2) := dcb_16 (n := 115) (by decide +kernel)
theorem dX11_init_455 : decode cX11_init 455 = .ok (.iconst 0, 1) := dc1_3 (by decide +kernel)
theorem dX11_init_456 : decode cX11_init 456 = .ok (.invokestatic 138, 3) := dcw_184 (by decide +kernel)
theorem dX11_init_459 : decode cX11_init 459 = .ok (.lastore, 1) := dc1_80 (by decide +kernel)
theorem dX11_init_460 : decode cX11_init 460 = .ok (.aload_n 0, 1) := dc1_42 (by decide +kernel)
theorem dX11_init_461 : decode cX11_init 461 = .ok (.getfield 34, 3) := dcw_180 (by decide +kernel)
theorem dX11_init_464 : decode cX11_init 464 = .ok (.bipush 6, 2) := dcb_16 (n := 6) (by decide +kernel)
theorem dX11_init_466 : decode cX11_init 466 = .ok (.bipush 115, 2) := dcb_16 (n := 115) (by decide +kernel)
theorem dX11_init_468 : decode cX11_init 468 = .ok (.bipush 101, 2) := dcb_16 (n := 101) (by decide +kernel)
theorem dX11_init_470 : decode cX11_init 470 = .ok (.bipush 101, 2) := dcb_16 (n := 101) (by decide +kernel)
theorem dX11_init_472 : decode cX11_init 472 = .ok (.bipush 100, 2) := dcb_16 (n := 100) (by decide +kernel)
theorem dX11_init_474 : decode cX11_init 474 = .ok (.iconst 0, 1) := dc1_3 (by decide +kernel)
theorem dX11_init_475 : decode cX11_init 475 = .ok (.iconst 0, 1) := dc1_3 (by decide +kernel)
theorem dX11_init_476 : decode cX11_init 476 = .ok (.iconst 0, 1) := dc1_3 (by decide +kernel)
theorem dX11_init_477 : decode cX11_init 477 = .ok (.invokestatic 138, 3) := dcw_184 (by decide +kernel)
theorem dX11_init_480 : decode cX11_init 480 = .ok (.lastore, 1) := dc1_80 (by decide +kernel)
theorem dX11_init_481 : decode cX11_init 481 = .ok (.aload_n 0, 1) := dc1_42 (by decide +kernel)
theorem dX11_init_482 : decode cX11_init 482 = .ok (.getfield 34, 3) := dcw_180 (by decide +kernel)
theorem dX11_init_485 : decode cX11_init 485 = .ok (.bipush 7, 2) := dcb_16 (n := 7) (by decide +kernel)
theorem dX11_init_487 : decode cX11_init 487 = .ok (.bipush 105, 2) := dcb_16 (n := 105) (by decide +kernel)
theorem dX11_init_489 : decode cX11_init 489 = .ok (.bipush 102, 2) := dcb_16 (n := 102) (by decide +kernel)
theorem dX11_init_491 : decode cX11_init 491 = .ok (.iconst 0, 1) := dc1_3 (by decide +kernel)
theorem dX11_init_492 : decode cX11_init 492 = .ok (.iconst 0, 1) := dc1_3 (by decide +kernel)
theorem dX11_init_493 : decode cX11_init 493 = .ok (.iconst 0, 1) := dc1_3 (by decide +kernel)
theorem dX11_init_494 : decode cX11_init 494 = .ok (.iconst 0, 1) := dc1_3 (by decide +kernel)
theorem dX11_init_495 : decode cX11_init 495 = .ok (.iconst 0, 1) := dc1_3 (by decide +kernel)
theorem dX11_init_496 : decode cX11_init 496 = .ok (.invokestatic 138, 3) := dcw_184 (by decide +kernel)
theorem dX11_init_499 : decode cX11_init 499 = .ok (.lastore, 1) := dc1_80 (by decide +kernel)
theorem dX11_init_500 : decode cX11_init 500 = .ok (.aload_n 0, 1) := dc1_42 (by decide +kernel)
theorem dX11_init_501 : decode cX11_init 501 = .ok (.getfield 34, 3) := dcw_180 (by decide +kernel)
theorem dX11_init_504 : decode cX11_init 504 = .ok (.bipush 8, 2) := dcb_16 (n := 8) (by decide +kernel)
theorem dX11_init_506 : decode cX11_init 506 = .ok (.bipush 116, 2) := dcb_16 (n := 116) (by decide +kernel)
theorem dX11_init_508 : decode cX11_init 508 = .ok (.bipush 104, 2) := dcb_16 (n := 104) (by decide +kernel)
theorem dX11_init_510 : decode cX11_init 510 = .ok (.bipush 101, 2) := dcb_16 (n := 101) (by decide +kernel)
theorem dX11_init_512 : decode cX11_init 512 = .ok (.bipush 110, 2) := dcb_16 (n := 110) (by decide +kernel)
theorem dX11_init_514 : decode cX11_init 514 = .ok (.iconst 0, 1) := dc1_3 (by decide +kernel)
theorem dX11_init_515 : decode cX11_init 515 = .ok (.iconst 0, 1) := dc1_3 (by decide +kernel)
theorem dX11_init_516 : decode cX11_init 516 = .ok (.iconst 0, 1) := dc1_3 (by decide +kernel)
theorem dX11_init_517 : decode cX11_init 517 = .ok (.invokestatic 138, 3) := dcw_184 (by decide +kernel)
theorem dX11_init_520 : decode cX11_init 520 = .ok (.lastore, 1) := dc1_80 (by decide +kernel)
theorem dX11_init_521 : decode cX11_init 521 = .ok (.aload_n 0, 1) := dc1_42 (by decide +kernel)
theorem dX11_init_522 : decode cX11_init 522 = .ok (.getfield 34, 3) := dcw_180 (by decide +kernel)
theorem dX11_init_525 : decode cX11_init 525 = .ok (.bipush 9, 2) := dcb_16 (n := 9) (by decide +kernel)
theorem dX11_init_527 : decode cX11_init 527 = .ok (.bipush 101, 2) := dcb_16 (n := 101) (by decide +kernel)
theorem dX11_init_529 : decode cX11_init 529 = .ok (.bipush 108, 2) := dcb_16 (n := 108) (by decide +kernel)
theorem dX11_init_531 : decode cX11_init 531 = .ok (.bipush 115, 2) := dcb_16 (n := 115) (by decide +kernel)
theorem dX11_init_533 : decode cX11_init 533 = .ok (.bipush 101, 2) := dcb_16 (n := 101) (by decide +kernel)
theorem dX11_init_535 : decode cX11_init 535 = .ok (.iconst 0, 1) := dc1_3 (by decide +kernel)
theorem dX11_init_536 : decode cX11_init 536 = .ok (.iconst 0, 1) := dc1_3 (by decide +kernel)
theorem dX11_init_537 : decode cX11_init 537 = .ok (.iconst 0, 1) := dc1_3 (by decide +kernel)
theorem dX11_init_538 : decode cX11_init 538 = .ok (.invokestatic 138, 3) := dcw_184 (by decide +kernel)
theorem dX11_init_541 : decode cX11_init 541 = .ok (.lastore, 1) := dc1_80 (by decide +kernel)
theorem dX11_init_542 : decode cX11_init 542 = .ok (.aload_n 0, 1) := dc1_42 (by decide +kernel)
theorem dX11_init_543 : decode cX11_init 543 = .ok (.getfield 34, 3) := dcw_180 (by decide +kernel)
theorem dX11_init_546 : decode cX11_init 546 = .ok (.bipush 10, 2) := dcb_16 (n := 10) (by decide +kernel)
theorem dX11_init_548 : decode cX11_init 548 = .ok (.bipush 97, 2) := dcb_16 (n := 97) (by decide +kernel)
theorem dX11_init_550 : decode cX11_init 550 = .ok (.bipush 116, 2) := dcb_16 (n := 116) (by decide +kernel)
theorem dX11_init_552 : decode cX11_init 552 = .ok (.iconst 0, 1) := dc1_3 (by decide +kernel)
theorem dX11_init_553 : decode cX11_init 553 = .ok (.iconst 0, 1) := dc1_3 (by decide +kernel)
theorem dX11_init_554 : decode cX11_init 554 = .ok (.iconst 0, 1) := dc1_3 (by decide +kernel)
theorem dX11_init_555 : decode cX11_init 555 = .ok (.iconst 0, 1) := dc1_3 (by decide +kernel)
theorem dX11_init_556 : decode cX11_init 556 = .ok (.iconst 0, 1) := dc1_3 (by decide +kernel)
theorem dX11_init_557 : decode cX11_init 557 = .ok (.invokestatic 138, 3) := dcw_184 (by decide +kernel)
theorem dX11_init_560 : decode cX11_init 560 = .ok (.lastore, 1) := dc1_80 (by decide +kernel)
theorem dX11_init_561 : decode cX11_init 561 = .ok (.aload_n 0, 1) := dc1_42 (by decide +kernel)
theorem dX11_init_562 : decode cX11_init 562 = .ok (.getfield 34, 3) := dcw_180 (by decide +kernel)
theorem dX11_init_565 : decode cX11_init 565 = .ok (.bipush 11, 2) := dcb_16 (n := 11) (by decide +kernel)
theorem dX11_init_567 : decode cX11_init 567 = .ok (.bipush 111, 2) := dcb_16 (n := 111) (by decide +kernel)
theorem dX11_init_569 : decode cX11_init 569 = .ok (.bipush 100, 2) := dcb_16 (n := 100) (by decide +kernel)
theorem dX11_init_571 : decode cX11_init 571 = .ok (.bipush 100, 2) := dcb_16 (n := 100) (by decide +kernel)
theorem dX11_init_573 : decode cX11_init 573 = .ok (.bipush 115, 2) := dcb_16 (n := 115) (by decide +kernel)
theorem dX11_init_575 : decode cX11_init 575 = .ok (.iconst 0, 1) := dc1_3 (by decide +kernel)
theorem dX11_init_576 : decode cX11_init 576 = .ok (.iconst 0, 1) := dc1_3 (by decide +kernel)
theorem dX11_init_577 : decode cX11_init 577 = .ok (.iconst 0, 1) := dc1_3 (by decide +kernel)
theorem dX11_init_578 : decode cX11_init 578 = .ok (.invokestatic 138, 3) := dcw_184 (by decide +kernel)
theorem dX11_init_581 : decode cX11_init 581 = .ok (.lastore, 1) := dc1_80 (by decide +kernel)
theorem dX11_init_582 : decode cX11_init 582 = .ok (.aload_n 0, 1) := dc1_42 (by decide +kernel)
theorem dX11_init_583 : decode cX11_init 583 = .ok (.getfield 34, 3) := dcw_180 (by decide +kernel)
theorem dX11_init_586 : decode cX11_init 586 = .ok (.bipush 12, 2) := dcb_16 (n := 12) (by decide +kernel)
theorem dX11_init_588 : decode cX11_init 588 = .ok (.bipush 104, 2) := dcb_16 (n := 104) (by decide +kernel)
theorem dX11_init_590 : decode cX11_init 590 = .ok (.bipush 101, 2) := dcb_16 (n := 101) (by decide +kernel)
theorem dX11_init_592 : decode cX11_init 592 = .ok (.bipush 97, 2) := dcb_16 (n := 97) (by decide +kernel)
theorem dX11_init_594 : decode cX11_init 594 = .ok (.bipush 118, 2) := dcb_16 (n := 118) (by decide +kernel)
theorem dX11_init_596 : decode cX11_init 596 = .ok (.bipush 121, 2) := dcb_16 (n := 121) (by decide +kernel)
theorem dX11_init_598 : decode cX11_init 598 = .ok (.iconst 0, 1) := dc1_3 (by decide +kernel)
theorem dX11_init_599 : decode cX11_init 599 = .ok (.iconst 0, 1) := dc1_3 (by decide +kernel)
theorem dX11_init_600 : decode cX11_init 600 = .ok (.invokestatic 138, 3) := dcw_184 (by decide +kernel)
theorem dX11_init_603 : decode cX11_init 603 = .ok (.lastore, 1) := dc1_80 (by decide +kernel)
theorem dX11_init_604 : decode cX11_init 604 = .ok (.aload_n 0, 1) := dc1_42 (by decide +kernel)
theorem dX11_init_605 : decode cX11_init 605 = .ok (.getfield 34, 3) := dcw_180 (by decide +kernel)
theorem dX11_init_608 : decode cX11_init 608 = .ok (.bipush 13, 2) := dcb_16 (n := 13) (by decide +kernel)
theorem dX11_init_610 : decode cX11_init 610 = .ok (.bipush 110, 2) := dcb_16 (n := 110) (by decide +kernel)
theorem dX11_init_612 : decode cX11_init 612 = .ok (.bipush 101, 2) := dcb_16 (n := 101) (by decide +kernel)
theorem dX11_init_614 : decode cX11_init 614 = .ok (.bipush 114, 2) := dcb_16 (n := 114) (by decide +kernel)
theorem dX11_init_616 : decode cX11_init 616 = .ok (.bipush 118, 2) := dcb_16 (n := 118) (by decide +kernel)
theorem dX11_init_618 : decode cX11_init 618 = .ok (.bipush 101, 2) := dcb_16 (n := 101) (by decide +kernel)
theorem dX11_init_620 : decode cX11_init 620 = .ok (.iconst 0, 1) := dc1_3 (by decide +kernel)
theorem dX11_init_621 : decode cX11_init 621 = .ok (.iconst 0, 1) := dc1_3 (by decide +kernel)
theorem dX11_init_622 : decode cX11_init 622 = .ok (.invokestatic 138, 3) := dcw_184 (by decide +kernel)
theorem dX11_init_625 : decode cX11_init 625 = .ok (.lastore, 1) := dc1_80 (by decide +kernel)
theorem dX11_init_626 : decode cX11_init 626 = .ok (.aload_n 0, 1) := dc1_42 (by decide +kernel)
theorem dX11_init_627 : decode cX11_init 627 = .ok (.getfield 34, 3) := dcw_180 (by decide +kernel)
theorem dX11_init_630 : decode cX11_init 630 = .ok (.bipush 14, 2) := dcb_16 (n := 14) (by decide +kernel)
theorem dX11_init_632 : decode cX11_init 632 = .ok (.bipush 108, 2) := dcb_16 (n := 108) (by decide +kernel)
theorem dX11_init_634 : decode cX11_init 634 = .ok (.bipush 101, 2) := dcb_16 (n := 101) (by decide +kernel)
theorem dX11_init_636 : decode cX11_init 636 = .ok (.bipush 102, 2) := dcb_16 (n := 102) (by decide +kernel)
theorem dX11_init_638 : decode cX11_init 638 = .ok (.bipush 116, 2) := dcb_16 (n := 116) (by decide +kernel)
theorem dX11_init_640 : decode cX11_init 640 = .ok (.iconst 0, 1) := dc1_3 (by decide +kernel)
theorem dX11_init_641 : decode cX11_init 641 = .ok (.iconst 0, 1) := dc1_3 (by decide +kernel)
theorem dX11_init_642 : decode cX11_init 642 = .ok (.iconst 0, 1) := dc1_3 (by decide +kernel)
theorem dX11_init_643 : decode cX11_init 643 = .ok (.invokestatic 138, 3) := dcw_184 (by decide +kernel)
theorem dX11_init_646 : decode cX11_init 646 = .ok (.lastore, 1) := dc1_80 (by decide +kernel)
theorem dX11_init_647 : decode cX11_init 647 = .ok (.aload_n 0, 1) := dc1_42 (by decide +kernel)
theorem dX11_init_648 : decode cX11_init 648 = .ok (.getfield 34, 3) := dcw_180 (by decide +kernel)
theorem dX11_init_651 : decode cX11_init 651 = .ok (.bipush 15, 2) := dcb_16 (n := 15) (by decide +kernel)
theorem dX11_init_653 : decode cX11_init 653 = .ok (.bipush 121, 2) := dcb_16 (n := 121) (by decide +kernel)
theorem dX11_init_655 : decode cX11_init 655 = .ok (.bipush 101, 2) := dcb_16 (n := 101) (by decide +kernel)
theorem dX11_init_657 : decode cX11_init 657 = .ok (.bipush 97, 2) := dcb_16 (n := 97) (by decide +kernel)
theorem dX11_init_659 : decode cX11_init 659 = .ok (.bipush 114, 2) := dcb_16 (n := 114) (by decide +kernel)
theorem dX11_init_661 : decode cX11_init 661 = .ok (.iconst 0, 1) := dc1_3 (by decide +kernel)
theorem dX11_init_662 : decode cX11_init 662 = .ok (.iconst 0, 1) := dc1_3 (by decide +kernel)
theorem dX11_init_663 : decode cX11_init 663 = .ok (.iconst 0, 1) := dc1_3 (by decide +kernel)
theorem dX11_init_664 : decode cX11_init 664 = .ok (.invokestatic 138, 3) := dcw_184 (by decide +kernel)
theorem dX11_init_667 : decode cX11_init 667 = .ok (.lastore, 1) := dc1_80 (by decide +kernel)
theorem dX11_init_668 : decode cX11_init 668 = .ok (.aload_n 0, 1) := dc1_42 (by decide +kernel)
theorem dX11_init_669 : decode cX11_init 669 = .ok (.getfield 34, 3) := dcw_180 (by decide +kernel)
theorem dX11_init_672 : decode cX11_init 672 = .ok (.bipush 16, 2) := dcb_16 (n := 16) (by decide +kernel)
theorem dX11_init_674 : decode cX11_init 674 = .ok (.bipush 119, 2) := dcb_16 (n := 119) (by decide +kernel)
theorem dX11_init_676 : decode cX11_init 676 = .ok (.bipush 104, 2) := dcb_16 (n := 104) (by decide +kernel)
theorem dX11_init_678 : decode cX11_init 678 = .ok (.bipush 105, 2) := dcb_16 (n := 105) (by decide +kernel)
theorem dX11_init_680 : decode cX11_init 680 = .ok (.bipush 99, 2) := dcb_16 (n := 99) (by decide +kernel)
theorem dX11_init_682 : decode cX11_init 682 = .ok (.bipush 104, 2) := dcb_16 (n := 104) (by decide +kernel)
theorem dX11_init_684 : decode cX11_init 684 = .ok (.iconst 0, 1) := dc1_3 (by decide +kernel)
theorem dX11_init_685 : decode cX11_init 685 = .ok (.iconst 0, 1) := dc1_3 (by decide +kernel)
theorem dX11_init_686 : decode cX11_init 686 = .ok (.invokestatic 138, 3) := dcw_184 (by decide +kernel)
theorem dX11_init_689 : decode cX11_init 689 = .ok (.lastore, 1) := dc1_80 (by decide +kernel)
theorem dX11_init_690 : decode cX11_init 690 = .ok (.aload_n 0, 1) := dc1_42 (by decide +kernel)
theorem dX11_init_691 : decode cX11_init 691 = .ok (.getfield 34, 3) := dcw_180 (by decide +kernel)
theorem dX11_init_694 : decode cX11_init 694 = .ok (.bipush 17, 2) := dcb_16 (n := 17) (by decide +kernel)
theorem dX11_init_696 : decode cX11_init 696 = .ok (.bipush 98, 2) := dcb_16 (n := 98) (by decide +kernel)
theorem dX11_init_698 : decode cX11_init 698 = .ok (.bipush 117, 2) := dcb_16 (n := 117) (by decide +kernel)
theorem dX11_init_700 : decode cX11_init 700 = .ok (.bipush 111, 2) := dcb_16 (n := 111) (by decide +kernel)
theorem dX11_init_702 : decode cX11_init 702 = .ok (.bipush 121, 2) := dcb_16 (n := 121) (by decide +kernel)
theorem dX11_init_704 : decode cX11_init 704 = .ok (.bipush 115, 2) := dcb_16 (n := 115) (by decide +kernel)
theorem dX11_init_706 : decode cX11_init 706 = .ok (.iconst 0, 1) := dc1_3 (by decide +kernel)
theorem dX11_init_707 : decode cX11_init 707 = .ok (.iconst 0, 1) := dc1_3 (by decide +kernel)
theorem dX11_init_708 : decode cX11_init 708 = .ok (.invokestatic 138, 3) := dcw_184 (by decide +kernel)
theorem dX11_init_711 : decode cX11_init 711 = .ok (.lastore, 1) := dc1_80 (by decide +kernel)
theorem dX11_init_712 : decode cX11_init 712 = .ok (.aload_n 0, 1) := dc1_42 (by decide +kernel)
theorem dX11_init_713 : decode cX11_init 713 = .ok (.getfield 34, 3) := dcw_180 (by decide +kernel)
theorem dX11_init_716 : decode cX11_init 716 = .ok (.bipush 18, 2) := dcb_16 (n := 18) (by decide +kernel)
theorem dX11_init_718 : decode cX11_init 718 = .ok (.bipush 103, 2) := dcb_16 (n := 103) (by decide +kernel)
theorem dX11_init_720 : decode cX11_init 720 = .ok (.bipush 111, 2) := dcb_16 (n := 111) (by decide +kernel)
theorem dX11_init_722 : decode cX11_init 722 = .ok (.bipush 101, 2) := dcb_16 (n := 101) (by decide +kernel)
theorem dX11_init_724 : decode cX11_init 724 = .ok (.bipush 115, 2) := dcb_16 (n := 115) (by decide +kernel)
theorem dX11_init_726 : decode cX11_init 726 = .ok (.iconst 0, 1) := dc1_3 (by decide +kernel)
theorem dX11_init_727 : decode cX11_init 727 = .ok (.iconst 0, 1) := dc1_3 (by decide +kernel)
theorem dX11_init_728 : decode cX11_init 728 = .ok (.iconst 0, 1) := dc1_3 (by decide +kernel)
theorem dX11_init_729 : decode cX11_init 729 = .ok (.invokestatic 138, 3) := dcw_184 (by decide +kernel)
theorem dX11_init_732 : decode cX11_init 732 = .ok (.lastore, 1) := dc1_80 (by decide +kernel)
theorem dX11_init_733 : decode cX11_init 733 = .ok (.aload_n 0, 1) := dc1_42 (by decide +kernel)
theorem dX11_init_734 : decode cX11_init 734 = .ok (.invokevirtual 142, 3) := dcw_182 (by decide +kernel)
theorem dX11_init_737 : decode cX11_init 737 = .ok (.aload_n 0, 1) := dc1_42 (by decide +kernel)
theorem dX11_init_738 : decode cX11_init 738 = .ok (.invokevirtual 145, 3) := dcw_182 (by decide +kernel)
theorem dX11_init_741 : decode cX11_init 741 = .ok (.return_, 1) := dc1_177 (by decide +kernel)

set_option maxHeartbeats 4000000 in
set_option maxRecDepth 100000 in
theorem mb_3 (l : Launch) (dC : Nat → ClassId) (dI : Nat → Nat → Nat) (cB cI cJ cZ cS : ClassId) (h : Nat) {p : Program} {e : Env} {s0 : State} {m : MethodId} {below : List Frame} {meth : Method} {c : Code} {A : Nat → Prop} (C : CallFix p m c cX11_init 1 s0 [Value.ref h].toArray wsX11_init yX11_init.cls) (hr : meth.sig.returnType = none) (hlocks : meth.locks = false) (hnm : meth.name = yX11_init.name) (hA : ∀ q, s0.heap.size ≤ q → A q) (hK : va_K (dC, dI) vwCl (tysA cB cI cJ cZ cS) s0) (hN : nw_ok s0) (a : Nat → Nat) (s s' : RS) (hB : r_init_3 s = some s') (hI : InvR s') (hG : Big s') (h2 : RIR s') (H : Heap) (locs : List Loc) (ls : Array Slot) (hP : va_P (dC, dI) vwCl (mwS cB cI cJ cZ h a s) H) (hD : va_D A (mwS cB cI cJ cZ h a s)) (hS : va_S A s0.heap H locs) (hl : lv_has ls 1 [(0, .ref h)]) : W p l e ({ frames := 2, cells := 38, slots := 18381, locals := 48 }) s0 m [Value.ref h].toArray below meth c H locs 38 18381 (MQ below (va_Qv (fun w => ∃ (a : Nat → Nat) (s9 : RS), InvR s9 ∧ Big s9 ∧ RIR s9 ∧ w = mwS cB cI cJ cZ h a s9) (at_W (dC, dI) (tysA cB cI cJ cZ cS) A) A) [Value.ref h].toArray s0 38 18381 A) (F0 m 733 ls []) := by
  obtain ⟨hx, hb, hml, hown, hts⟩ := id C
  unfold r_init_3 at hB
  refine lv_aload_n hx hb dX11_init_733 rfl (lv_at hl 0 rfl) ?_
  obtain ⟨s1, hc, hB⟩ := bindP_inv hB
  refine q_govF (va_runV (As := []) (rest := []) C (cr_begins hc _) (cwV 0 hts gX11_init_X11_begins rfl rfl rfl (by decide +kernel) ⟨Nat.le_of_ble_eq_true rfl, Nat.le_of_ble_eq_true rfl⟩) (q_preV hK hP (ci := 11) (q0 := 0) rfl rfl rfl (q_preF hN hK hP hD)) rfl rfl hl.1 rfl (lv_room (Nat.le_of_ble_eq_true rfl)) dX11_init_734 ⟨Nat.le_of_ble_eq_true rfl, Nat.le_of_ble_eq_true rfl⟩) hD hS hA (fun w1 H locs hw hP hD hS => ?_)
  subst hw
  refine lv_aload_n hx hb dX11_init_737 rfl (lv_at hl 0 rfl) ?_
  obtain ⟨s2, hc, hB⟩ := bindP_inv hB
  refine q_govF (va_runV (As := []) (rest := []) C (cr_keepsRow hc _) (cwV 0 hts gX11_init_X11_keepsRow rfl rfl rfl (by decide +kernel) ⟨Nat.le_of_ble_eq_true rfl, Nat.le_of_ble_eq_true rfl⟩) (q_preV hK hP (ci := 11) (q0 := 0) rfl rfl rfl (q_preF hN hK hP hD)) rfl rfl hl.1 rfl (lv_room (Nat.le_of_ble_eq_true rfl)) dX11_init_738 ⟨Nat.le_of_ble_eq_true rfl, Nat.le_of_ble_eq_true rfl⟩) hD hS hA (fun w1 H locs hw hP hD hS => ?_)
  subst hw
  exact q_vret C hr hlocks hK hP hD hS (Nat.le_of_ble_eq_true rfl) (Nat.le_of_ble_eq_true rfl) dX11_init_741 (by cases hB; exact ⟨a, _, hI, hG, h2, rfl⟩)

theorem LX11_init_34 : Cond.fieldLink RX11 34 "GuessFerryModel" "keys" "[J" ∈ wsX11_init := by decide +kernel
theorem inX11_init_X11 : ∀ w ∈ u_ws RX11 TX11 58, w ∈ wsX11_init := by decide +kernel
set_option maxHeartbeats 4000000 in
set_option maxRecDepth 100000 in
theorem mb_2 (l : Launch) (dC : Nat → ClassId) (dI : Nat → Nat → Nat) (cB cI cJ cZ cS : ClassId) (h : Nat) {p : Program} {e : Env} {s0 : State} {m : MethodId} {below : List Frame} {meth : Method} {c : Code} {A : Nat → Prop} (C : CallFix p m c cX11_init 1 s0 [Value.ref h].toArray wsX11_init yX11_init.cls) (hr : meth.sig.returnType = none) (hlocks : meth.locks = false) (hnm : meth.name = yX11_init.name) (hA : ∀ q, s0.heap.size ≤ q → A q) (hK : va_K (dC, dI) vwCl (tysA cB cI cJ cZ cS) s0) (hN : nw_ok s0) (a : Nat → Nat) (s s' : RS) (hB : r_init_2 s = some s') (hI : InvR s') (hG : Big s') (h2 : RIR s') (H : Heap) (locs : List Loc) (ls : Array Slot) (hP : va_P (dC, dI) vwCl (mwS cB cI cJ cZ h a s) H) (hD : va_D A (mwS cB cI cJ cZ h a s)) (hS : va_S A s0.heap H locs) (hl : lv_has ls 1 [(0, .ref h)]) : W p l e ({ frames := 2, cells := 38, slots := 18381, locals := 48 }) s0 m [Value.ref h].toArray below meth c H locs 38 18381 (MQ below (va_Qv (fun w => ∃ (a : Nat → Nat) (s9 : RS), InvR s9 ∧ Big s9 ∧ RIR s9 ∧ w = mwS cB cI cJ cZ h a s9) (at_W (dC, dI) (tysA cB cI cJ cZ cS) A) A) [Value.ref h].toArray s0 38 18381 A) (F0 m 626 ls []) := by
  obtain ⟨hx, hb, hml, hown, hts⟩ := id C
  unfold r_init_2 at hB
  refine lv_aload_n hx hb dX11_init_626 rfl (lv_at hl 0 rfl) ?_
  refine q_get (v := .ref (a 9)) C inX11_init_X11 hK hP 0 rfl rfl 9 (by decide) rfl LX11_init_34 rfl dX11_init_627 ?_
  refine lv_bipush (v := 14) hx hb dX11_init_630 (by decide) ?_
  refine lv_bipush (v := 108) hx hb dX11_init_632 (by decide) ?_
  refine lv_bipush (v := 101) hx hb dX11_init_634 (by decide) ?_
  refine lv_bipush (v := 102) hx hb dX11_init_636 (by decide) ?_
  refine lv_bipush (v := 116) hx hb dX11_init_638 (by decide) ?_
  refine lv_iconst (v := 0) hx hb dX11_init_640 (by decide) ?_
  refine lv_iconst (v := 0) hx hb dX11_init_641 (by decide) ?_
  refine lv_iconst (v := 0) hx hb dX11_init_642 (by decide) ?_
  obtain ⟨q_, hc, hB⟩ := bindP_inv hB
  refine q_gol0 (va_runS (As := [.int 108, .int 101, .int 102, .int 116, .int 0, .int 0, .int 0]) (rest := [.int 14, .ref (a 9)]) C (cr_word hc _) (va_cwS 7 hts gX11_init_X11_word rfl rfl rfl (by decide +kernel) ⟨Nat.le_of_ble_eq_true rfl, Nat.le_of_ble_eq_true rfl⟩) (q_pre0 hN hK) rfl rfl hl.1 rfl (lv_room (Nat.le_of_ble_eq_true rfl)) dX11_init_643 ⟨Nat.le_of_ble_eq_true rfl, Nat.le_of_ble_eq_true rfl⟩) hP hD hS hA (fun r1 w1 H locs hw hP hS => ?_)
  subst hw
  obtain ⟨s2, hs3, hB⟩ := letS_inv hB
  refine q_last (f2 := (vp_updL (s.g 9) 14 r1)) (w2 := (mwS cB cI cJ cZ h a s2)) C hK hP hD hS 7 2 rfl rfl (vp_lit (by decide +kernel)) dX11_init_646 rfl (mwS_f9 hs3) (fun H locs hP hD hS => ?_)
  refine lv_aload_n hx hb dX11_init_647 rfl (lv_at hl 0 rfl) ?_
  refine q_get (v := .ref (a 9)) C inX11_init_X11 hK hP 0 rfl rfl 9 (by decide) rfl LX11_init_34 rfl dX11_init_648 ?_
  refine lv_bipush (v := 15) hx hb dX11_init_651 (by decide) ?_
  refine lv_bipush (v := 121) hx hb dX11_init_653 (by decide) ?_
  refine lv_bipush (v := 101) hx hb dX11_init_655 (by decide) ?_
  refine lv_bipush (v := 97) hx hb dX11_init_657 (by decide) ?_
  refine lv_bipush (v := 114) hx hb dX11_init_659 (by decide) ?_
  refine lv_iconst (v := 0) hx hb dX11_init_661 (by decide) ?_
  refine lv_iconst (v := 0) hx hb dX11_init_662 (by decide) ?_
  refine lv_iconst (v := 0) hx hb dX11_init_663 (by decide) ?_
  obtain ⟨q_, hc, hB⟩ := bindP_inv hB
  refine q_gol0 (va_runS (As := [.int 121, .int 101, .int 97, .int 114, .int 0, .int 0, .int 0]) (rest := [.int 15, .ref (a 9)]) C (cr_word hc _) (va_cwS 7 hts gX11_init_X11_word rfl rfl rfl (by decide +kernel) ⟨Nat.le_of_ble_eq_true rfl, Nat.le_of_ble_eq_true rfl⟩) (q_pre0 hN hK) rfl rfl hl.1 rfl (lv_room (Nat.le_of_ble_eq_true rfl)) dX11_init_664 ⟨Nat.le_of_ble_eq_true rfl, Nat.le_of_ble_eq_true rfl⟩) hP hD hS hA (fun r4 w1 H locs hw hP hS => ?_)
  subst hw
  obtain ⟨s5, hs6, hB⟩ := letS_inv hB
  refine q_last (f2 := (vp_updL (s2.g 9) 15 r4)) (w2 := (mwS cB cI cJ cZ h a s5)) C hK hP hD hS 7 2 rfl rfl (vp_lit (by decide +kernel)) dX11_init_667 rfl (mwS_f9 hs6) (fun H locs hP hD hS => ?_)
  refine lv_aload_n hx hb dX11_init_668 rfl (lv_at hl 0 rfl) ?_
  refine q_get (v := .ref (a 9)) C inX11_init_X11 hK hP 0 rfl rfl 9 (by decide) rfl LX11_init_34 rfl dX11_init_669 ?_
  refine lv_bipush (v := 16) hx hb dX11_init_672 (by decide) ?_
  refine lv_bipush (v := 119) hx hb dX11_init_674 (by decide) ?_
  refine lv_bipush (v := 104) hx hb dX11_init_676 (by decide) ?_
  refine lv_bipush (v := 105) hx hb dX11_init_678 (by decide) ?_
  refine lv_bipush (v := 99) hx hb dX11_init_680 (by decide) ?_
  refine lv_bipush (v := 104) hx hb dX11_init_682 (by decide) ?_
  refine lv_iconst (v := 0) hx hb dX11_init_684 (by decide) ?_
  refine lv_iconst (v := 0) hx hb dX11_init_685 (by decide) ?_
  obtain ⟨q_, hc, hB⟩ := bindP_inv hB
  refine q_gol0 (va_runS (As := [.int 119, .int 104, .int 105, .int 99, .int 104, .int 0, .int 0]) (rest := [.int 16, .ref (a 9)]) C (cr_word hc _) (va_cwS 7 hts gX11_init_X11_word rfl rfl rfl (by decide +kernel) ⟨Nat.le_of_ble_eq_true rfl, Nat.le_of_ble_eq_true rfl⟩) (q_pre0 hN hK) rfl rfl hl.1 rfl (lv_room (Nat.le_of_ble_eq_true rfl)) dX11_init_686 ⟨Nat.le_of_ble_eq_true rfl, Nat.le_of_ble_eq_true rfl⟩) hP hD hS hA (fun r7 w1 H locs hw hP hS => ?_)
  subst hw
  obtain ⟨s8, hs9, hB⟩ := letS_inv hB
  refine q_last (f2 := (vp_updL (s5.g 9) 16 r7)) (w2 := (mwS cB cI cJ cZ h a s8)) C hK hP hD hS 7 2 rfl rfl (vp_lit (by decide +kernel)) dX11_init_689 rfl (mwS_f9 hs9) (fun H locs hP hD hS => ?_)
  refine lv_aload_n hx hb dX11_init_690 rfl (lv_at hl 0 rfl) ?_
  refine q_get (v := .ref (a 9)) C inX11_init_X11 hK hP 0 rfl rfl 9 (by decide) rfl LX11_init_34 rfl dX11_init_691 ?_
  refine lv_bipush (v := 17) hx hb dX11_init_694 (by decide) ?_
  refine lv_bipush (v := 98) hx hb dX11_init_696 (by decide) ?_
  refine lv_bipush (v := 117) hx hb dX11_init_698 (by decide) ?_
  refine lv_bipush (v := 111) hx hb dX11_init_700 (by decide) ?_
  refine lv_bipush (v := 121) hx hb dX11_init_702 (by decide) ?_
  refine lv_bipush (v := 115) hx hb dX11_init_704 (by decide) ?_
  refine lv_iconst (v := 0) hx hb dX11_init_706 (by decide) ?_
  refine lv_iconst (v := 0) hx hb dX11_init_707 (by decide) ?_
  obtain ⟨q_, hc, hB⟩ := bindP_inv hB
  refine q_gol0 (va_runS (As := [.int 98, .int 117, .int 111, .int 121, .int 115, .int 0, .int 0]) (rest := [.int 17, .ref (a 9)]) C (cr_word hc _) (va_cwS 7 hts gX11_init_X11_word rfl rfl rfl (by decide +kernel) ⟨Nat.le_of_ble_eq_true rfl, Nat.le_of_ble_eq_true rfl⟩) (q_pre0 hN hK) rfl rfl hl.1 rfl (lv_room (Nat.le_of_ble_eq_true rfl)) dX11_init_708 ⟨Nat.le_of_ble_eq_true rfl, Nat.le_of_ble_eq_true rfl⟩) hP hD hS hA (fun r10 w1 H locs hw hP hS => ?_)
  subst hw
  obtain ⟨s11, hs12, hB⟩ := letS_inv hB
  refine q_last (f2 := (vp_updL (s8.g 9) 17 r10)) (w2 := (mwS cB cI cJ cZ h a s11)) C hK hP hD hS 7 2 rfl rfl (vp_lit (by decide +kernel)) dX11_init_711 rfl (mwS_f9 hs12) (fun H locs hP hD hS => ?_)
  refine lv_aload_n hx hb dX11_init_712 rfl (lv_at hl 0 rfl) ?_
  refine q_get (v := .ref (a 9)) C inX11_init_X11 hK hP 0 rfl rfl 9 (by decide) rfl LX11_init_34 rfl dX11_init_713 ?_
  refine lv_bipush (v := 18) hx hb dX11_init_716 (by decide) ?_
  refine lv_bipush (v := 103) hx hb dX11_init_718 (by decide) ?_
  refine lv_bipush (v := 111) hx hb dX11_init_720 (by decide) ?_
  refine lv_bipush (v := 101) hx hb dX11_init_722 (by decide) ?_
  refine lv_bipush (v := 115) hx hb dX11_init_724 (by decide) ?_
  refine lv_iconst (v := 0) hx hb dX11_init_726 (by decide) ?_
  refine lv_iconst (v := 0) hx hb dX11_init_727 (by decide) ?_
  refine lv_iconst (v := 0) hx hb dX11_init_728 (by decide) ?_
  obtain ⟨q_, hc, hB⟩ := bindP_inv hB
  refine q_gol0 (va_runS (As := [.int 103, .int 111, .int 101, .int 115, .int 0, .int 0, .int 0]) (rest := [.int 18, .ref (a 9)]) C (cr_word hc _) (va_cwS 7 hts gX11_init_X11_word rfl rfl rfl (by decide +kernel) ⟨Nat.le_of_ble_eq_true rfl, Nat.le_of_ble_eq_true rfl⟩) (q_pre0 hN hK) rfl rfl hl.1 rfl (lv_room (Nat.le_of_ble_eq_true rfl)) dX11_init_729 ⟨Nat.le_of_ble_eq_true rfl, Nat.le_of_ble_eq_true rfl⟩) hP hD hS hA (fun r13 w1 H locs hw hP hS => ?_)
  subst hw
  obtain ⟨s14, hs15, hB⟩ := letS_inv hB
  refine q_last (f2 := (vp_updL (s11.g 9) 18 r13)) (w2 := (mwS cB cI cJ cZ h a s14)) C hK hP hD hS 7 2 rfl rfl (vp_lit (by decide +kernel)) dX11_init_732 rfl (mwS_f9 hs15) (fun H locs hP hD hS => ?_)
  exact mb_3 l dC dI cB cI cJ cZ cS h C hr hlocks hnm hA hK hN a _ _ hB hI hG h2 H locs ls hP hD hS hl


set_option maxHeartbeats 4000000 in
set_option maxRecDepth 100000 in
theorem mb_1 (l : Launch) (dC : Nat → ClassId) (dI : Nat → Nat → Nat) (cB cI cJ cZ cS : ClassId) (h : Nat) {p : Program} {e : Env} {s0 : State} {m : MethodId} {below : List Frame} {meth : Method} {c : Code} {A : Nat → Prop} (C : CallFix p m c cX11_init 1 s0 [Value.ref h].toArray wsX11_init yX11_init.cls) (hr : meth.sig.returnType = none) (hlocks : meth.locks = false) (hnm : meth.name = yX11_init.name) (hA : ∀ q, s0.heap.size ≤ q → A q) (hK : va_K (dC, dI) vwCl (tysA cB cI cJ cZ cS) s0) (hN : nw_ok s0) (a : Nat → Nat) (s s' : RS) (hB : r_init_1 s = some s') (hI : InvR s') (hG : Big s') (h2 : RIR s') (H : Heap) (locs : List Loc) (ls : Array Slot) (hP : va_P (dC, dI) vwCl (mwS cB cI cJ cZ h a s) H) (hD : va_D A (mwS cB cI cJ cZ h a s)) (hS : va_S A s0.heap H locs) (hl : lv_has ls 1 [(0, .ref h)]) : W p l e ({ frames := 2, cells := 38, slots := 18381, locals := 48 }) s0 m [Value.ref h].toArray below meth c H locs 38 18381 (MQ below (va_Qv (fun w => ∃ (a : Nat → Nat) (s9 : RS), InvR s9 ∧ Big s9 ∧ RIR s9 ∧ w = mwS cB cI cJ cZ h a s9) (at_W (dC, dI) (tysA cB cI cJ cZ cS) A) A) [Value.ref h].toArray s0 38 18381 A) (F0 m 481 ls []) := by
  obtain ⟨hx, hb, hml, hown, hts⟩ := id C
  unfold r_init_1 at hB
  refine lv_aload_n hx hb dX11_init_481 rfl (lv_at hl 0 rfl) ?_
  refine q_get (v := .ref (a 9)) C inX11_init_X11 hK hP 0 rfl rfl 9 (by decide) rfl LX11_init_34 rfl dX11_init_482 ?_
  refine lv_bipush (v := 7) hx hb dX11_init_485 (by decide) ?_
  refine lv_bipush (v := 105) hx hb dX11_init_487 (by decide) ?_
  refine lv_bipush (v := 102) hx hb dX11_init_489 (by decide) ?_
  refine lv_iconst (v := 0) hx hb dX11_init_491 (by decide) ?_
  refine lv_iconst (v := 0) hx hb dX11_init_492 (by decide) ?_
  refine lv_iconst (v := 0) hx hb dX11_init_493 (by decide) ?_
  refine lv_iconst (v := 0) hx hb dX11_init_494 (by decide) ?_
  refine lv_iconst (v := 0) hx hb dX11_init_495 (by decide) ?_
  obtain ⟨q_, hc, hB⟩ := bindP_inv hB
  refine q_gol0 (va_runS (As := [.int 105, .int 102, .int 0, .int 0, .int 0, .int 0, .int 0]) (rest := [.int 7, .ref (a 9)]) C (cr_word hc _) (va_cwS 7 hts gX11_init_X11_word rfl rfl rfl (by decide +kernel) ⟨Nat.le_of_ble_eq_true rfl, Nat.le_of_ble_eq_true rfl⟩) (q_pre0 hN hK) rfl rfl hl.1 rfl (lv_room (Nat.le_of_ble_eq_true rfl)) dX11_init_496 ⟨Nat.le_of_ble_eq_true rfl, Nat.le_of_ble_eq_true rfl⟩) hP hD hS hA (fun r1 w1 H locs hw hP hS => ?_)
  subst hw
  obtain ⟨s2, hs3, hB⟩ := letS_inv hB
  refine q_last (f2 := (vp_updL (s.g 9) 7 r1)) (w2 := (mwS cB cI cJ cZ h a s2)) C hK hP hD hS 7 2 rfl rfl (vp_lit (by decide +kernel)) dX11_init_499 rfl (mwS_f9 hs3) (fun H locs hP hD hS => ?_)
  refine lv_aload_n hx hb dX11_init_500 rfl (lv_at hl 0 rfl) ?_
  refine q_get (v := .ref (a 9)) C inX11_init_X11 hK hP 0 rfl rfl 9 (by decide) rfl LX11_init_34 rfl dX11_init_501 ?_
  refine lv_bipush (v := 8) hx hb dX11_init_504 (by decide) ?_
  refine lv_bipush (v := 116) hx hb dX11_init_506 (by decide) ?_
  refine lv_bipush (v := 104) hx hb dX11_init_508 (by decide) ?_
  refine lv_bipush (v := 101) hx hb dX11_init_510 (by decide) ?_
  refine lv_bipush (v := 110) hx hb dX11_init_512 (by decide) ?_
  refine lv_iconst (v := 0) hx hb dX11_init_514 (by decide) ?_
  refine lv_iconst (v := 0) hx hb dX11_init_515 (by decide) ?_
  refine lv_iconst (v := 0) hx hb dX11_init_516 (by decide) ?_
  obtain ⟨q_, hc, hB⟩ := bindP_inv hB
  refine q_gol0 (va_runS (As := [.int 116, .int 104, .int 101, .int 110, .int 0, .int 0, .int 0]) (rest := [.int 8, .ref (a 9)]) C (cr_word hc _) (va_cwS 7 hts gX11_init_X11_word rfl rfl rfl (by decide +kernel) ⟨Nat.le_of_ble_eq_true rfl, Nat.le_of_ble_eq_true rfl⟩) (q_pre0 hN hK) rfl rfl hl.1 rfl (lv_room (Nat.le_of_ble_eq_true rfl)) dX11_init_517 ⟨Nat.le_of_ble_eq_true rfl, Nat.le_of_ble_eq_true rfl⟩) hP hD hS hA (fun r4 w1 H locs hw hP hS => ?_)
  subst hw
  obtain ⟨s5, hs6, hB⟩ := letS_inv hB
  refine q_last (f2 := (vp_updL (s2.g 9) 8 r4)) (w2 := (mwS cB cI cJ cZ h a s5)) C hK hP hD hS 7 2 rfl rfl (vp_lit (by decide +kernel)) dX11_init_520 rfl (mwS_f9 hs6) (fun H locs hP hD hS => ?_)
  refine lv_aload_n hx hb dX11_init_521 rfl (lv_at hl 0 rfl) ?_
  refine q_get (v := .ref (a 9)) C inX11_init_X11 hK hP 0 rfl rfl 9 (by decide) rfl LX11_init_34 rfl dX11_init_522 ?_
  refine lv_bipush (v := 9) hx hb dX11_init_525 (by decide) ?_
  refine lv_bipush (v := 101) hx hb dX11_init_527 (by decide) ?_
  refine lv_bipush (v := 108) hx hb dX11_init_529 (by decide) ?_
  refine lv_bipush (v := 115) hx hb dX11_init_531 (by decide) ?_
  refine lv_bipush (v := 101) hx hb dX11_init_533 (by decide) ?_
  refine lv_iconst (v := 0) hx hb dX11_init_535 (by decide) ?_
  refine lv_iconst (v := 0) hx hb dX11_init_536 (by decide) ?_
  refine lv_iconst (v := 0) hx hb dX11_init_537 (by decide) ?_
  obtain ⟨q_, hc, hB⟩ := bindP_inv hB
  refine q_gol0 (va_runS (As := [.int 101, .int 108, .int 115, .int 101, .int 0, .int 0, .int 0]) (rest := [.int 9, .ref (a 9)]) C (cr_word hc _) (va_cwS 7 hts gX11_init_X11_word rfl rfl rfl (by decide +kernel) ⟨Nat.le_of_ble_eq_true rfl, Nat.le_of_ble_eq_true rfl⟩) (q_pre0 hN hK) rfl rfl hl.1 rfl (lv_room (Nat.le_of_ble_eq_true rfl)) dX11_init_538 ⟨Nat.le_of_ble_eq_true rfl, Nat.le_of_ble_eq_true rfl⟩) hP hD hS hA (fun r7 w1 H locs hw hP hS => ?_)
  subst hw
  obtain ⟨s8, hs9, hB⟩ := letS_inv hB
  refine q_last (f2 := (vp_updL (s5.g 9) 9 r7)) (w2 := (mwS cB cI cJ cZ h a s8)) C hK hP hD hS 7 2 rfl rfl (vp_lit (by decide +kernel)) dX11_init_541 rfl (mwS_f9 hs9) (fun H locs hP hD hS => ?_)
  refine lv_aload_n hx hb dX11_init_542 rfl (lv_at hl 0 rfl) ?_
  refine q_get (v := .ref (a 9)) C inX11_init_X11 hK hP 0 rfl rfl 9 (by decide) rfl LX11_init_34 rfl dX11_init_543 ?_
  refine lv_bipush (v := 10) hx hb dX11_init_546 (by decide) ?_
  refine lv_bipush (v := 97) hx hb dX11_init_548 (by decide) ?_
  refine lv_bipush (v := 116) hx hb dX11_init_550 (by decide) ?_
  refine lv_iconst (v := 0) hx hb dX11_init_552 (by decide) ?_
  refine lv_iconst (v := 0) hx hb dX11_init_553 (by decide) ?_
  refine lv_iconst (v := 0) hx hb dX11_init_554 (by decide) ?_
  refine lv_iconst (v := 0) hx hb dX11_init_555 (by decide) ?_
  refine lv_iconst (v := 0) hx hb dX11_init_556 (by decide) ?_
  obtain ⟨q_, hc, hB⟩ := bindP_inv hB
  refine q_gol0 (va_runS (As := [.int 97, .int 116, .int 0, .int 0, .int 0, .int 0, .int 0]) (rest := [.int 10, .ref (a 9)]) C (cr_word hc _) (va_cwS 7 hts gX11_init_X11_word rfl rfl rfl (by decide +kernel) ⟨Nat.le_of_ble_eq_true rfl, Nat.le_of_ble_eq_true rfl⟩) (q_pre0 hN hK) rfl rfl hl.1 rfl (lv_room (Nat.le_of_ble_eq_true rfl)) dX11_init_557 ⟨Nat.le_of_ble_eq_true rfl, Nat.le_of_ble_eq_true rfl⟩) hP hD hS hA (fun r10 w1 H locs hw hP hS => ?_)
  subst hw
  obtain ⟨s11, hs12, hB⟩ := letS_inv hB
  refine q_last (f2 := (vp_updL (s8.g 9) 10 r10)) (w2 := (mwS cB cI cJ cZ h a s11)) C hK hP hD hS 7 2 rfl rfl (vp_lit (by decide +kernel)) dX11_init_560 rfl (mwS_f9 hs12) (fun H locs hP hD hS => ?_)
  refine lv_aload_n hx hb dX11_init_561 rfl (lv_at hl 0 rfl) ?_
  refine q_get (v := .ref (a 9)) C inX11_init_X11 hK hP 0 rfl rfl 9 (by decide) rfl LX11_init_34 rfl dX11_init_562 ?_
  refine lv_bipush (v := 11) hx hb dX11_init_565 (by decide) ?_
  refine lv_bipush (v := 111) hx hb dX11_init_567 (by decide) ?_
  refine lv_bipush (v := 100) hx hb dX11_init_569 (by decide) ?_
  refine lv_bipush (v := 100) hx hb dX11_init_571 (by decide) ?_
  refine lv_bipush (v := 115) hx hb dX11_init_573 (by decide) ?_
  refine lv_iconst (v := 0) hx hb dX11_init_575 (by decide) ?_
  refine lv_iconst (v := 0) hx hb dX11_init_576 (by decide) ?_
  refine lv_iconst (v := 0) hx hb dX11_init_577 (by decide) ?_
  obtain ⟨q_, hc, hB⟩ := bindP_inv hB
  refine q_gol0 (va_runS (As := [.int 111, .int 100, .int 100, .int 115, .int 0, .int 0, .int 0]) (rest := [.int 11, .ref (a 9)]) C (cr_word hc _) (va_cwS 7 hts gX11_init_X11_word rfl rfl rfl (by decide +kernel) ⟨Nat.le_of_ble_eq_true rfl, Nat.le_of_ble_eq_true rfl⟩) (q_pre0 hN hK) rfl rfl hl.1 rfl (lv_room (Nat.le_of_ble_eq_true rfl)) dX11_init_578 ⟨Nat.le_of_ble_eq_true rfl, Nat.le_of_ble_eq_true rfl⟩) hP hD hS hA (fun r13 w1 H locs hw hP hS => ?_)
  subst hw
  obtain ⟨s14, hs15, hB⟩ := letS_inv hB
  refine q_last (f2 := (vp_updL (s11.g 9) 11 r13)) (w2 := (mwS cB cI cJ cZ h a s14)) C hK hP hD hS 7 2 rfl rfl (vp_lit (by decide +kernel)) dX11_init_581 rfl (mwS_f9 hs15) (fun H locs hP hD hS => ?_)
  refine lv_aload_n hx hb dX11_init_582 rfl (lv_at hl 0 rfl) ?_
  refine q_get (v := .ref (a 9)) C inX11_init_X11 hK hP 0 rfl rfl 9 (by decide) rfl LX11_init_34 rfl dX11_init_583 ?_
  refine lv_bipush (v := 12) hx hb dX11_init_586 (by decide) ?_
  refine lv_bipush (v := 104) hx hb dX11_init_588 (by decide) ?_
  refine lv_bipush (v := 101) hx hb dX11_init_590 (by decide) ?_
  refine lv_bipush (v := 97) hx hb dX11_init_592 (by decide) ?_
  refine lv_bipush (v := 118) hx hb dX11_init_594 (by decide) ?_
  refine lv_bipush (v := 121) hx hb dX11_init_596 (by decide) ?_
  refine lv_iconst (v := 0) hx hb dX11_init_598 (by decide) ?_
  refine lv_iconst (v := 0) hx hb dX11_init_599 (by decide) ?_
  obtain ⟨q_, hc, hB⟩ := bindP_inv hB
  refine q_gol0 (va_runS (As := [.int 104, .int 101, .int 97, .int 118, .int 121, .int 0, .int 0]) (rest := [.int 12, .ref (a 9)]) C (cr_word hc _) (va_cwS 7 hts gX11_init_X11_word rfl rfl rfl (by decide +kernel) ⟨Nat.le_of_ble_eq_true rfl, Nat.le_of_ble_eq_true rfl⟩) (q_pre0 hN hK) rfl rfl hl.1 rfl (lv_room (Nat.le_of_ble_eq_true rfl)) dX11_init_600 ⟨Nat.le_of_ble_eq_true rfl, Nat.le_of_ble_eq_true rfl⟩) hP hD hS hA (fun r16 w1 H locs hw hP hS => ?_)
  subst hw
  obtain ⟨s17, hs18, hB⟩ := letS_inv hB
  refine q_last (f2 := (vp_updL (s14.g 9) 12 r16)) (w2 := (mwS cB cI cJ cZ h a s17)) C hK hP hD hS 7 2 rfl rfl (vp_lit (by decide +kernel)) dX11_init_603 rfl (mwS_f9 hs18) (fun H locs hP hD hS => ?_)
  refine lv_aload_n hx hb dX11_init_604 rfl (lv_at hl 0 rfl) ?_
  refine q_get (v := .ref (a 9)) C inX11_init_X11 hK hP 0 rfl rfl 9 (by decide) rfl LX11_init_34 rfl dX11_init_605 ?_
  refine lv_bipush (v := 13) hx hb dX11_init_608 (by decide) ?_
  refine lv_bipush (v := 110) hx hb dX11_init_610 (by decide) ?_
  refine lv_bipush (v := 101) hx hb dX11_init_612 (by decide) ?_
  refine lv_bipush (v := 114) hx hb dX11_init_614 (by decide) ?_
  refine lv_bipush (v := 118) hx hb dX11_init_616 (by decide) ?_
  refine lv_bipush (v := 101) hx hb dX11_init_618 (by decide) ?_
  refine lv_iconst (v := 0) hx hb dX11_init_620 (by decide) ?_
  refine lv_iconst (v := 0) hx hb dX11_init_621 (by decide) ?_
  obtain ⟨q_, hc, hB⟩ := bindP_inv hB
  refine q_gol0 (va_runS (As := [.int 110, .int 101, .int 114, .int 118, .int 101, .int 0, .int 0]) (rest := [.int 13, .ref (a 9)]) C (cr_word hc _) (va_cwS 7 hts gX11_init_X11_word rfl rfl rfl (by decide +kernel) ⟨Nat.le_of_ble_eq_true rfl, Nat.le_of_ble_eq_true rfl⟩) (q_pre0 hN hK) rfl rfl hl.1 rfl (lv_room (Nat.le_of_ble_eq_true rfl)) dX11_init_622 ⟨Nat.le_of_ble_eq_true rfl, Nat.le_of_ble_eq_true rfl⟩) hP hD hS hA (fun r19 w1 H locs hw hP hS => ?_)
  subst hw
  obtain ⟨s20, hs21, hB⟩ := letS_inv hB
  refine q_last (f2 := (vp_updL (s17.g 9) 13 r19)) (w2 := (mwS cB cI cJ cZ h a s20)) C hK hP hD hS 7 2 rfl rfl (vp_lit (by decide +kernel)) dX11_init_625 rfl (mwS_f9 hs21) (fun H locs hP hD hS => ?_)
  exact mb_2 l dC dI cB cI cJ cZ cS h C hr hlocks hnm hA hK hN a _ _ hB hI hG h2 H locs ls hP hD hS hl


set_option maxHeartbeats 4000000 in
set_option maxRecDepth 100000 in
theorem mb_0 (l : Launch) (dC : Nat → ClassId) (dI : Nat → Nat → Nat) (cB cI cJ cZ cS : ClassId) (h : Nat) {p : Program} {e : Env} {s0 : State} {m : MethodId} {below : List Frame} {meth : Method} {c : Code} {A : Nat → Prop} (C : CallFix p m c cX11_init 1 s0 [Value.ref h].toArray wsX11_init yX11_init.cls) (hr : meth.sig.returnType = none) (hlocks : meth.locks = false) (hnm : meth.name = yX11_init.name) (hA : ∀ q, s0.heap.size ≤ q → A q) (hK : va_K (dC, dI) vwCl (tysA cB cI cJ cZ cS) s0) (hN : nw_ok s0) (a : Nat → Nat) (s s' : RS) (hB : r_init_0 s = some s') (hI : InvR s') (hG : Big s') (h2 : RIR s') (H : Heap) (locs : List Loc) (ls : Array Slot) (hP : va_P (dC, dI) vwCl (mwS cB cI cJ cZ h a s) H) (hD : va_D A (mwS cB cI cJ cZ h a s)) (hS : va_S A s0.heap H locs) (hl : lv_has ls 1 [(0, .ref h)]) : W p l e ({ frames := 2, cells := 38, slots := 18381, locals := 48 }) s0 m [Value.ref h].toArray below meth c H locs 38 18381 (MQ below (va_Qv (fun w => ∃ (a : Nat → Nat) (s9 : RS), InvR s9 ∧ Big s9 ∧ RIR s9 ∧ w = mwS cB cI cJ cZ h a s9) (at_W (dC, dI) (tysA cB cI cJ cZ cS) A) A) [Value.ref h].toArray s0 38 18381 A) (F0 m 324 ls []) := by
  obtain ⟨hx, hb, hml, hown, hts⟩ := id C
  unfold r_init_0 at hB
  refine lv_aload_n hx hb dX11_init_324 rfl (lv_at hl 0 rfl) ?_
  refine lv_iconst (v := 0) hx hb dX11_init_325 (by decide) ?_
  obtain ⟨s1, hc, hB⟩ := bindP_inv hB
  refine q_govF (va_runV (As := [.int 0]) (rest := []) C (cr_plain hc _) (cwV 1 hts gX11_init_X11_plain rfl rfl rfl (by decide +kernel) ⟨Nat.le_of_ble_eq_true rfl, Nat.le_of_ble_eq_true rfl⟩) (q_preV hK hP (ci := 11) (q0 := 0) rfl rfl rfl (q_preF hN hK hP hD)) rfl rfl hl.1 rfl (lv_room (Nat.le_of_ble_eq_true rfl)) dX11_init_326 ⟨Nat.le_of_ble_eq_true rfl, Nat.le_of_ble_eq_true rfl⟩) hD hS hA (fun w1 H locs hw hP hD hS => ?_)
  subst hw
  refine lv_aload_n hx hb dX11_init_329 rfl (lv_at hl 0 rfl) ?_
  refine lv_iconst (v := 1) hx hb dX11_init_330 (by decide) ?_
  obtain ⟨s2, hc, hB⟩ := bindP_inv hB
  refine q_govF (va_runV (As := [.int 1]) (rest := []) C (cr_plain hc _) (cwV 1 hts gX11_init_X11_plain rfl rfl rfl (by decide +kernel) ⟨Nat.le_of_ble_eq_true rfl, Nat.le_of_ble_eq_true rfl⟩) (q_preV hK hP (ci := 11) (q0 := 0) rfl rfl rfl (q_preF hN hK hP hD)) rfl rfl hl.1 rfl (lv_room (Nat.le_of_ble_eq_true rfl)) dX11_init_331 ⟨Nat.le_of_ble_eq_true rfl, Nat.le_of_ble_eq_true rfl⟩) hD hS hA (fun w1 H locs hw hP hD hS => ?_)
  subst hw
  refine lv_aload_n hx hb dX11_init_334 rfl (lv_at hl 0 rfl) ?_
  refine q_get (v := .ref (a 9)) C inX11_init_X11 hK hP 0 rfl rfl 9 (by decide) rfl LX11_init_34 rfl dX11_init_335 ?_
  refine lv_iconst (v := 0) hx hb dX11_init_338 (by decide) ?_
  refine lv_bipush (v := 119) hx hb dX11_init_339 (by decide) ?_
  refine lv_bipush (v := 97) hx hb dX11_init_341 (by decide) ?_
  refine lv_bipush (v := 118) hx hb dX11_init_343 (by decide) ?_
  refine lv_bipush (v := 101) hx hb dX11_init_345 (by decide) ?_
  refine lv_iconst (v := 0) hx hb dX11_init_347 (by decide) ?_
  refine lv_iconst (v := 0) hx hb dX11_init_348 (by decide) ?_
  refine lv_iconst (v := 0) hx hb dX11_init_349 (by decide) ?_
  obtain ⟨q_, hc, hB⟩ := bindP_inv hB
  refine q_gol0 (va_runS (As := [.int 119, .int 97, .int 118, .int 101, .int 0, .int 0, .int 0]) (rest := [.int 0, .ref (a 9)]) C (cr_word hc _) (va_cwS 7 hts gX11_init_X11_word rfl rfl rfl (by decide +kernel) ⟨Nat.le_of_ble_eq_true rfl, Nat.le_of_ble_eq_true rfl⟩) (q_pre0 hN hK) rfl rfl hl.1 rfl (lv_room (Nat.le_of_ble_eq_true rfl)) dX11_init_350 ⟨Nat.le_of_ble_eq_true rfl, Nat.le_of_ble_eq_true rfl⟩) hP hD hS hA (fun r3 w1 H locs hw hP hS => ?_)
  subst hw
  obtain ⟨s4, hs5, hB⟩ := letS_inv hB
  refine q_last (f2 := (vp_updL (s2.g 9) 0 r3)) (w2 := (mwS cB cI cJ cZ h a s4)) C hK hP hD hS 7 2 rfl rfl (vp_lit (by decide +kernel)) dX11_init_353 rfl (mwS_f9 hs5) (fun H locs hP hD hS => ?_)
  refine lv_aload_n hx hb dX11_init_354 rfl (lv_at hl 0 rfl) ?_
  refine q_get (v := .ref (a 9)) C inX11_init_X11 hK hP 0 rfl rfl 9 (by decide) rfl LX11_init_34 rfl dX11_init_355 ?_
  refine lv_iconst (v := 1) hx hb dX11_init_358 (by decide) ?_
  refine lv_bipush (v := 112) hx hb dX11_init_359 (by decide) ?_
  refine lv_bipush (v := 97) hx hb dX11_init_361 (by decide) ?_
  refine lv_bipush (v := 114) hx hb dX11_init_363 (by decide) ?_
  refine lv_bipush (v := 116) hx hb dX11_init_365 (by decide) ?_
  refine lv_bipush (v := 121) hx hb dX11_init_367 (by decide) ?_
  refine lv_iconst (v := 0) hx hb dX11_init_369 (by decide) ?_
  refine lv_iconst (v := 0) hx hb dX11_init_370 (by decide) ?_
  obtain ⟨q_, hc, hB⟩ := bindP_inv hB
  refine q_gol0 (va_runS (As := [.int 112, .int 97, .int 114, .int 116, .int 121, .int 0, .int 0]) (rest := [.int 1, .ref (a 9)]) C (cr_word hc _) (va_cwS 7 hts gX11_init_X11_word rfl rfl rfl (by decide +kernel) ⟨Nat.le_of_ble_eq_true rfl, Nat.le_of_ble_eq_true rfl⟩) (q_pre0 hN hK) rfl rfl hl.1 rfl (lv_room (Nat.le_of_ble_eq_true rfl)) dX11_init_371 ⟨Nat.le_of_ble_eq_true rfl, Nat.le_of_ble_eq_true rfl⟩) hP hD hS hA (fun r6 w1 H locs hw hP hS => ?_)
  subst hw
  obtain ⟨s7, hs8, hB⟩ := letS_inv hB
  refine q_last (f2 := (vp_updL (s4.g 9) 1 r6)) (w2 := (mwS cB cI cJ cZ h a s7)) C hK hP hD hS 7 2 rfl rfl (vp_lit (by decide +kernel)) dX11_init_374 rfl (mwS_f9 hs8) (fun H locs hP hD hS => ?_)
  refine lv_aload_n hx hb dX11_init_375 rfl (lv_at hl 0 rfl) ?_
  refine q_get (v := .ref (a 9)) C inX11_init_X11 hK hP 0 rfl rfl 9 (by decide) rfl LX11_init_34 rfl dX11_init_376 ?_
  refine lv_iconst (v := 2) hx hb dX11_init_379 (by decide) ?_
  refine lv_bipush (v := 110) hx hb dX11_init_380 (by decide) ?_
  refine lv_bipush (v := 101) hx hb dX11_init_382 (by decide) ?_
  refine lv_bipush (v := 101) hx hb dX11_init_384 (by decide) ?_
  refine lv_bipush (v := 100) hx hb dX11_init_386 (by decide) ?_
  refine lv_bipush (v := 115) hx hb dX11_init_388 (by decide) ?_
  refine lv_iconst (v := 0) hx hb dX11_init_390 (by decide) ?_
  refine lv_iconst (v := 0) hx hb dX11_init_391 (by decide) ?_
  obtain ⟨q_, hc, hB⟩ := bindP_inv hB
  refine q_gol0 (va_runS (As := [.int 110, .int 101, .int 101, .int 100, .int 115, .int 0, .int 0]) (rest := [.int 2, .ref (a 9)]) C (cr_word hc _) (va_cwS 7 hts gX11_init_X11_word rfl rfl rfl (by decide +kernel) ⟨Nat.le_of_ble_eq_true rfl, Nat.le_of_ble_eq_true rfl⟩) (q_pre0 hN hK) rfl rfl hl.1 rfl (lv_room (Nat.le_of_ble_eq_true rfl)) dX11_init_392 ⟨Nat.le_of_ble_eq_true rfl, Nat.le_of_ble_eq_true rfl⟩) hP hD hS hA (fun r9 w1 H locs hw hP hS => ?_)
  subst hw
  obtain ⟨s10, hs11, hB⟩ := letS_inv hB
  refine q_last (f2 := (vp_updL (s7.g 9) 2 r9)) (w2 := (mwS cB cI cJ cZ h a s10)) C hK hP hD hS 7 2 rfl rfl (vp_lit (by decide +kernel)) dX11_init_395 rfl (mwS_f9 hs11) (fun H locs hP hD hS => ?_)
  refine lv_aload_n hx hb dX11_init_396 rfl (lv_at hl 0 rfl) ?_
  refine q_get (v := .ref (a 9)) C inX11_init_X11 hK hP 0 rfl rfl 9 (by decide) rfl LX11_init_34 rfl dX11_init_397 ?_
  refine lv_iconst (v := 3) hx hb dX11_init_400 (by decide) ?_
  refine lv_bipush (v := 102) hx hb dX11_init_401 (by decide) ?_
  refine lv_bipush (v := 97) hx hb dX11_init_403 (by decide) ?_
  refine lv_bipush (v := 114) hx hb dX11_init_405 (by decide) ?_
  refine lv_bipush (v := 101) hx hb dX11_init_407 (by decide) ?_
  refine lv_bipush (v := 115) hx hb dX11_init_409 (by decide) ?_
  refine lv_iconst (v := 0) hx hb dX11_init_411 (by decide) ?_
  refine lv_iconst (v := 0) hx hb dX11_init_412 (by decide) ?_
  obtain ⟨q_, hc, hB⟩ := bindP_inv hB
  refine q_gol0 (va_runS (As := [.int 102, .int 97, .int 114, .int 101, .int 115, .int 0, .int 0]) (rest := [.int 3, .ref (a 9)]) C (cr_word hc _) (va_cwS 7 hts gX11_init_X11_word rfl rfl rfl (by decide +kernel) ⟨Nat.le_of_ble_eq_true rfl, Nat.le_of_ble_eq_true rfl⟩) (q_pre0 hN hK) rfl rfl hl.1 rfl (lv_room (Nat.le_of_ble_eq_true rfl)) dX11_init_413 ⟨Nat.le_of_ble_eq_true rfl, Nat.le_of_ble_eq_true rfl⟩) hP hD hS hA (fun r12 w1 H locs hw hP hS => ?_)
  subst hw
  obtain ⟨s13, hs14, hB⟩ := letS_inv hB
  refine q_last (f2 := (vp_updL (s10.g 9) 3 r12)) (w2 := (mwS cB cI cJ cZ h a s13)) C hK hP hD hS 7 2 rfl rfl (vp_lit (by decide +kernel)) dX11_init_416 rfl (mwS_f9 hs14) (fun H locs hP hD hS => ?_)
  refine lv_aload_n hx hb dX11_init_417 rfl (lv_at hl 0 rfl) ?_
  refine q_get (v := .ref (a 9)) C inX11_init_X11 hK hP 0 rfl rfl 9 (by decide) rfl LX11_init_34 rfl dX11_init_418 ?_
  refine lv_iconst (v := 4) hx hb dX11_init_421 (by decide) ?_
  refine lv_bipush (v := 100) hx hb dX11_init_422 (by decide) ?_
  refine lv_bipush (v := 97) hx hb dX11_init_424 (by decide) ?_
  refine lv_bipush (v := 114) hx hb dX11_init_426 (by decide) ?_
  refine lv_bipush (v := 101) hx hb dX11_init_428 (by decide) ?_
  refine lv_bipush (v := 115) hx hb dX11_init_430 (by decide) ?_
  refine lv_iconst (v := 0) hx hb dX11_init_432 (by decide) ?_
  refine lv_iconst (v := 0) hx hb dX11_init_433 (by decide) ?_
  obtain ⟨q_, hc, hB⟩ := bindP_inv hB
  refine q_gol0 (va_runS (As := [.int 100, .int 97, .int 114, .int 101, .int 115, .int 0, .int 0]) (rest := [.int 4, .ref (a 9)]) C (cr_word hc _) (va_cwS 7 hts gX11_init_X11_word rfl rfl rfl (by decide +kernel) ⟨Nat.le_of_ble_eq_true rfl, Nat.le_of_ble_eq_true rfl⟩) (q_pre0 hN hK) rfl rfl hl.1 rfl (lv_room (Nat.le_of_ble_eq_true rfl)) dX11_init_434 ⟨Nat.le_of_ble_eq_true rfl, Nat.le_of_ble_eq_true rfl⟩) hP hD hS hA (fun r15 w1 H locs hw hP hS => ?_)
  subst hw
  obtain ⟨s16, hs17, hB⟩ := letS_inv hB
  refine q_last (f2 := (vp_updL (s13.g 9) 4 r15)) (w2 := (mwS cB cI cJ cZ h a s16)) C hK hP hD hS 7 2 rfl rfl (vp_lit (by decide +kernel)) dX11_init_437 rfl (mwS_f9 hs17) (fun H locs hP hD hS => ?_)
  refine lv_aload_n hx hb dX11_init_438 rfl (lv_at hl 0 rfl) ?_
  refine q_get (v := .ref (a 9)) C inX11_init_X11 hK hP 0 rfl rfl 9 (by decide) rfl LX11_init_34 rfl dX11_init_439 ?_
  refine lv_iconst (v := 5) hx hb dX11_init_442 (by decide) ?_
  refine lv_bipush (v := 115) hx hb dX11_init_443 (by decide) ?_
  refine lv_bipush (v := 104) hx hb dX11_init_445 (by decide) ?_
  refine lv_bipush (v := 105) hx hb dX11_init_447 (by decide) ?_
  refine lv_bipush (v := 102) hx hb dX11_init_449 (by decide) ?_
  refine lv_bipush (v := 116) hx hb dX11_init_451 (by decide) ?_
  refine lv_bipush (v := 115) hx hb dX11_init_453 (by decide) ?_
  refine lv_iconst (v := 0) hx hb dX11_init_455 (by decide) ?_
  obtain ⟨q_, hc, hB⟩ := bindP_inv hB
  refine q_gol0 (va_runS (As := [.int 115, .int 104, .int 105, .int 102, .int 116, .int 115, .int 0]) (rest := [.int 5, .ref (a 9)]) C (cr_word hc _) (va_cwS 7 hts gX11_init_X11_word rfl rfl rfl (by decide +kernel) ⟨Nat.le_of_ble_eq_true rfl, Nat.le_of_ble_eq_true rfl⟩) (q_pre0 hN hK) rfl rfl hl.1 rfl (lv_room (Nat.le_of_ble_eq_true rfl)) dX11_init_456 ⟨Nat.le_of_ble_eq_true rfl, Nat.le_of_ble_eq_true rfl⟩) hP hD hS hA (fun r18 w1 H locs hw hP hS => ?_)
  subst hw
  obtain ⟨s19, hs20, hB⟩ := letS_inv hB
  refine q_last (f2 := (vp_updL (s16.g 9) 5 r18)) (w2 := (mwS cB cI cJ cZ h a s19)) C hK hP hD hS 7 2 rfl rfl (vp_lit (by decide +kernel)) dX11_init_459 rfl (mwS_f9 hs20) (fun H locs hP hD hS => ?_)
  refine lv_aload_n hx hb dX11_init_460 rfl (lv_at hl 0 rfl) ?_
  refine q_get (v := .ref (a 9)) C inX11_init_X11 hK hP 0 rfl rfl 9 (by decide) rfl LX11_init_34 rfl dX11_init_461 ?_
  refine lv_bipush (v := 6) hx hb dX11_init_464 (by decide) ?_
  refine lv_bipush (v := 115) hx hb dX11_init_466 (by decide) ?_
  refine lv_bipush (v := 101) hx hb dX11_init_468 (by decide) ?_
  refine lv_bipush (v := 101) hx hb dX11_init_470 (by decide) ?_
  refine lv_bipush (v := 100) hx hb dX11_init_472 (by decide) ?_
  refine lv_iconst (v := 0) hx hb dX11_init_474 (by decide) ?_
  refine lv_iconst (v := 0) hx hb dX11_init_475 (by decide) ?_
  refine lv_iconst (v := 0) hx hb dX11_init_476 (by decide) ?_
  obtain ⟨q_, hc, hB⟩ := bindP_inv hB
  refine q_gol0 (va_runS (As := [.int 115, .int 101, .int 101, .int 100, .int 0, .int 0, .int 0]) (rest := [.int 6, .ref (a 9)]) C (cr_word hc _) (va_cwS 7 hts gX11_init_X11_word rfl rfl rfl (by decide +kernel) ⟨Nat.le_of_ble_eq_true rfl, Nat.le_of_ble_eq_true rfl⟩) (q_pre0 hN hK) rfl rfl hl.1 rfl (lv_room (Nat.le_of_ble_eq_true rfl)) dX11_init_477 ⟨Nat.le_of_ble_eq_true rfl, Nat.le_of_ble_eq_true rfl⟩) hP hD hS hA (fun r21 w1 H locs hw hP hS => ?_)
  subst hw
  obtain ⟨s22, hs23, hB⟩ := letS_inv hB
  refine q_last (f2 := (vp_updL (s19.g 9) 6 r21)) (w2 := (mwS cB cI cJ cZ h a s22)) C hK hP hD hS 7 2 rfl rfl (vp_lit (by decide +kernel)) dX11_init_480 rfl (mwS_f9 hs23) (fun H locs hP hD hS => ?_)
  exact mb_1 l dC dI cB cI cJ cZ cS h C hr hlocks hnm hA hK hN a _ _ hB hI hG h2 H locs ls hP hD hS hl
