theorem dX6_init_308 : decode cX6_init 308 = .ok (.iastore, 1) := by decide +kernel
theorem dX6_init_309 : decode cX6_init 309 = .ok (.dup, 1) := by decide +kernel
theorem dX6_init_310 : decode cX6_init 310 = .ok (.bipush 10, 2) := by decide +kernel
theorem dX6_init_312 : decode cX6_init 312 = .ok (.bipush 115, 2) := by decide +kernel
theorem dX6_init_314 : decode cX6_init 314 = .ok (.iastore, 1) := by decide +kernel
theorem dX6_init_315 : decode cX6_init 315 = .ok (.dup, 1) := by decide +kernel
theorem dX6_init_316 : decode cX6_init 316 = .ok (.bipush 11, 2) := by decide +kernel
theorem dX6_init_318 : decode cX6_init 318 = .ok (.bipush 32, 2) := by decide +kernel
theorem dX6_init_320 : decode cX6_init 320 = .ok (.iastore, 1) := by decide +kernel
theorem dX6_init_321 : decode cX6_init 321 = .ok (.dup, 1) := by decide +kernel
theorem dX6_init_322 : decode cX6_init 322 = .ok (.bipush 12, 2) := by decide +kernel
theorem dX6_init_324 : decode cX6_init 324 = .ok (.bipush 115, 2) := by decide +kernel
theorem dX6_init_326 : decode cX6_init 326 = .ok (.iastore, 1) := by decide +kernel
theorem dX6_init_327 : decode cX6_init 327 = .ok (.dup, 1) := by decide +kernel
theorem dX6_init_328 : decode cX6_init 328 = .ok (.bipush 13, 2) := by decide +kernel
theorem dX6_init_330 : decode cX6_init 330 = .ok (.bipush 104, 2) := by decide +kernel
theorem dX6_init_332 : decode cX6_init 332 = .ok (.iastore, 1) := by decide +kernel
theorem dX6_init_333 : decode cX6_init 333 = .ok (.dup, 1) := by decide +kernel
theorem dX6_init_334 : decode cX6_init 334 = .ok (.bipush 14, 2) := by decide +kernel
theorem dX6_init_336 : decode cX6_init 336 = .ok (.bipush 111, 2) := by decide +kernel
theorem dX6_init_338 : decode cX6_init 338 = .ok (.iastore, 1) := by decide +kernel
theorem dX6_init_339 : decode cX6_init 339 = .ok (.dup, 1) := by decide +kernel
theorem dX6_init_340 : decode cX6_init 340 = .ok (.bipush 15, 2) := by decide +kernel
theorem dX6_init_342 : decode cX6_init 342 = .ok (.bipush 111, 2) := by decide +kernel
theorem dX6_init_344 : decode cX6_init 344 = .ok (.iastore, 1) := by decide +kernel
theorem dX6_init_345 : decode cX6_init 345 = .ok (.dup, 1) := by decide +kernel
theorem dX6_init_346 : decode cX6_init 346 = .ok (.bipush 16, 2) := by decide +kernel
theorem dX6_init_348 : decode cX6_init 348 = .ok (.bipush 116, 2) := by decide +kernel
theorem dX6_init_350 : decode cX6_init 350 = .ok (.iastore, 1) := by decide +kernel
theorem dX6_init_351 : decode cX6_init 351 = .ok (.dup, 1) := by decide +kernel
theorem dX6_init_352 : decode cX6_init 352 = .ok (.bipush 17, 2) := by decide +kernel
theorem dX6_init_354 : decode cX6_init 354 = .ok (.bipush 32, 2) := by decide +kernel
theorem dX6_init_356 : decode cX6_init 356 = .ok (.iastore, 1) := by decide +kernel
theorem dX6_init_357 : decode cX6_init 357 = .ok (.dup, 1) := by decide +kernel
theorem dX6_init_358 : decode cX6_init 358 = .ok (.bipush 18, 2) := by decide +kernel
theorem dX6_init_360 : decode cX6_init 360 = .ok (.bipush 115, 2) := by decide +kernel
theorem dX6_init_362 : decode cX6_init 362 = .ok (.iastore, 1) := by decide +kernel
theorem dX6_init_363 : decode cX6_init 363 = .ok (.dup, 1) := by decide +kernel
theorem dX6_init_364 : decode cX6_init 364 = .ok (.bipush 19, 2) := by decide +kernel
theorem dX6_init_366 : decode cX6_init 366 = .ok (.bipush 112, 2) := by decide +kernel
theorem dX6_init_368 : decode cX6_init 368 = .ok (.iastore, 1) := by decide +kernel
theorem dX6_init_369 : decode cX6_init 369 = .ok (.dup, 1) := by decide +kernel
theorem dX6_init_370 : decode cX6_init 370 = .ok (.bipush 20, 2) := by decide +kernel
theorem dX6_init_372 : decode cX6_init 372 = .ok (.bipush 97, 2) := by decide +kernel
theorem dX6_init_374 : decode cX6_init 374 = .ok (.iastore, 1) := by decide +kernel
theorem dX6_init_375 : decode cX6_init 375 = .ok (.dup, 1) := by decide +kernel
theorem dX6_init_376 : decode cX6_init 376 = .ok (.bipush 21, 2) := by decide +kernel
theorem dX6_init_378 : decode cX6_init 378 = .ok (.bipush 114, 2) := by decide +kernel
theorem dX6_init_380 : decode cX6_init 380 = .ok (.iastore, 1) := by decide +kernel
theorem dX6_init_381 : decode cX6_init 381 = .ok (.dup, 1) := by decide +kernel
theorem dX6_init_382 : decode cX6_init 382 = .ok (.bipush 22, 2) := by decide +kernel
theorem dX6_init_384 : decode cX6_init 384 = .ok (.bipush 101, 2) := by decide +kernel
theorem dX6_init_386 : decode cX6_init 386 = .ok (.iastore, 1) := by decide +kernel
theorem dX6_init_387 : decode cX6_init 387 = .ok (.dup, 1) := by decide +kernel
theorem dX6_init_388 : decode cX6_init 388 = .ok (.bipush 23, 2) := by decide +kernel
theorem dX6_init_390 : decode cX6_init 390 = .ok (.bipush 115, 2) := by decide +kernel
theorem dX6_init_392 : decode cX6_init 392 = .ok (.iastore, 1) := by decide +kernel
theorem dX6_init_393 : decode cX6_init 393 = .ok (.dup, 1) := by decide +kernel
theorem dX6_init_394 : decode cX6_init 394 = .ok (.bipush 24, 2) := by decide +kernel
theorem dX6_init_396 : decode cX6_init 396 = .ok (.bipush 32, 2) := by decide +kernel
theorem dX6_init_398 : decode cX6_init 398 = .ok (.iastore, 1) := by decide +kernel
theorem dX6_init_399 : decode cX6_init 399 = .ok (.dup, 1) := by decide +kernel
theorem dX6_init_400 : decode cX6_init 400 = .ok (.bipush 25, 2) := by decide +kernel
theorem dX6_init_402 : decode cX6_init 402 = .ok (.bipush 109, 2) := by decide +kernel
theorem dX6_init_404 : decode cX6_init 404 = .ok (.iastore, 1) := by decide +kernel
theorem dX6_init_405 : decode cX6_init 405 = .ok (.dup, 1) := by decide +kernel
theorem dX6_init_406 : decode cX6_init 406 = .ok (.bipush 26, 2) := by decide +kernel
theorem dX6_init_408 : decode cX6_init 408 = .ok (.bipush 105, 2) := by decide +kernel
theorem dX6_init_410 : decode cX6_init 410 = .ok (.iastore, 1) := by decide +kernel
theorem dX6_init_411 : decode cX6_init 411 = .ok (.dup, 1) := by decide +kernel
theorem dX6_init_412 : decode cX6_init 412 = .ok (.bipush 27, 2) := by decide +kernel
theorem dX6_init_414 : decode cX6_init 414 = .ok (.bipush 115, 2) := by decide +kernel
theorem dX6_init_416 : decode cX6_init 416 = .ok (.iastore, 1) := by decide +kernel
theorem dX6_init_417 : decode cX6_init 417 = .ok (.dup, 1) := by decide +kernel
theorem dX6_init_418 : decode cX6_init 418 = .ok (.bipush 28, 2) := by decide +kernel
theorem dX6_init_420 : decode cX6_init 420 = .ok (.bipush 115, 2) := by decide +kernel
theorem dX6_init_422 : decode cX6_init 422 = .ok (.iastore, 1) := by decide +kernel
theorem dX6_init_423 : decode cX6_init 423 = .ok (.dup, 1) := by decide +kernel
theorem dX6_init_424 : decode cX6_init 424 = .ok (.bipush 29, 2) := by decide +kernel
theorem dX6_init_426 : decode cX6_init 426 = .ok (.bipush 32, 2) := by decide +kernel
theorem dX6_init_428 : decode cX6_init 428 = .ok (.iastore, 1) := by decide +kernel
theorem dX6_init_429 : decode cX6_init 429 = .ok (.dup, 1) := by decide +kernel
theorem dX6_init_430 : decode cX6_init 430 = .ok (.bipush 30, 2) := by decide +kernel
theorem dX6_init_432 : decode cX6_init 432 = .ok (.bipush 108, 2) := by decide +kernel
theorem dX6_init_434 : decode cX6_init 434 = .ok (.iastore, 1) := by decide +kernel
theorem dX6_init_435 : decode cX6_init 435 = .ok (.dup, 1) := by decide +kernel
theorem dX6_init_436 : decode cX6_init 436 = .ok (.bipush 31, 2) := by decide +kernel
theorem dX6_init_438 : decode cX6_init 438 = .ok (.bipush 111, 2) := by decide +kernel
theorem dX6_init_440 : decode cX6_init 440 = .ok (.iastore, 1) := by decide +kernel
theorem dX6_init_441 : decode cX6_init 441 = .ok (.dup, 1) := by decide +kernel
theorem dX6_init_442 : decode cX6_init 442 = .ok (.bipush 32, 2) := by decide +kernel
theorem dX6_init_444 : decode cX6_init 444 = .ok (.bipush 111, 2) := by decide +kernel
theorem dX6_init_446 : decode cX6_init 446 = .ok (.iastore, 1) := by decide +kernel
theorem dX6_init_447 : decode cX6_init 447 = .ok (.dup, 1) := by decide +kernel
theorem dX6_init_448 : decode cX6_init 448 = .ok (.bipush 33, 2) := by decide +kernel
theorem dX6_init_450 : decode cX6_init 450 = .ok (.bipush 112, 2) := by decide +kernel
theorem dX6_init_452 : decode cX6_init 452 = .ok (.iastore, 1) := by decide +kernel
theorem dX6_init_453 : decode cX6_init 453 = .ok (.dup, 1) := by decide +kernel
theorem dX6_init_454 : decode cX6_init 454 = .ok (.bipush 34, 2) := by decide +kernel
theorem dX6_init_456 : decode cX6_init 456 = .ok (.bipush 32, 2) := by decide +kernel
theorem dX6_init_458 : decode cX6_init 458 = .ok (.iastore, 1) := by decide +kernel
theorem dX6_init_459 : decode cX6_init 459 = .ok (.dup, 1) := by decide +kernel
theorem dX6_init_460 : decode cX6_init 460 = .ok (.bipush 35, 2) := by decide +kernel
theorem dX6_init_462 : decode cX6_init 462 = .ok (.bipush 97, 2) := by decide +kernel
theorem dX6_init_464 : decode cX6_init 464 = .ok (.iastore, 1) := by decide +kernel
theorem dX6_init_465 : decode cX6_init 465 = .ok (.dup, 1) := by decide +kernel
theorem dX6_init_466 : decode cX6_init 466 = .ok (.bipush 36, 2) := by decide +kernel
theorem dX6_init_468 : decode cX6_init 468 = .ok (.bipush 100, 2) := by decide +kernel
theorem dX6_init_470 : decode cX6_init 470 = .ok (.iastore, 1) := by decide +kernel
theorem dX6_init_471 : decode cX6_init 471 = .ok (.dup, 1) := by decide +kernel
theorem dX6_init_472 : decode cX6_init 472 = .ok (.bipush 37, 2) := by decide +kernel
theorem dX6_init_474 : decode cX6_init 474 = .ok (.bipush 100, 2) := by decide +kernel
theorem dX6_init_476 : decode cX6_init 476 = .ok (.iastore, 1) := by decide +kernel
theorem dX6_init_477 : decode cX6_init 477 = .ok (.dup, 1) := by decide +kernel
theorem dX6_init_478 : decode cX6_init 478 = .ok (.bipush 38, 2) := by decide +kernel
theorem dX6_init_480 : decode cX6_init 480 = .ok (.bipush 32, 2) := by decide +kernel
theorem dX6_init_482 : decode cX6_init 482 = .ok (.iastore, 1) := by decide +kernel
theorem dX6_init_483 : decode cX6_init 483 = .ok (.dup, 1) := by decide +kernel
theorem dX6_init_484 : decode cX6_init 484 = .ok (.bipush 39, 2) := by decide +kernel
theorem dX6_init_486 : decode cX6_init 486 = .ok (.bipush 115, 2) := by decide +kernel
theorem dX6_init_488 : decode cX6_init 488 = .ok (.iastore, 1) := by decide +kernel
theorem dX6_init_489 : decode cX6_init 489 = .ok (.dup, 1) := by decide +kernel
theorem dX6_init_490 : decode cX6_init 490 = .ok (.bipush 40, 2) := by decide +kernel
theorem dX6_init_492 : decode cX6_init 492 = .ok (.bipush 116, 2) := by decide +kernel
theorem dX6_init_494 : decode cX6_init 494 = .ok (.iastore, 1) := by decide +kernel
theorem dX6_init_495 : decode cX6_init 495 = .ok (.dup, 1) := by decide +kernel
theorem dX6_init_496 : decode cX6_init 496 = .ok (.bipush 41, 2) := by decide +kernel
theorem dX6_init_498 : decode cX6_init 498 = .ok (.bipush 97, 2) := by decide +kernel
theorem dX6_init_500 : decode cX6_init 500 = .ok (.iastore, 1) := by decide +kernel
theorem dX6_init_501 : decode cX6_init 501 = .ok (.dup, 1) := by decide +kernel
theorem dX6_init_502 : decode cX6_init 502 = .ok (.bipush 42, 2) := by decide +kernel
theorem dX6_init_504 : decode cX6_init 504 = .ok (.bipush 114, 2) := by decide +kernel
theorem dX6_init_506 : decode cX6_init 506 = .ok (.iastore, 1) := by decide +kernel
theorem dX6_init_507 : decode cX6_init 507 = .ok (.dup, 1) := by decide +kernel
theorem dX6_init_508 : decode cX6_init 508 = .ok (.bipush 43, 2) := by decide +kernel
theorem dX6_init_510 : decode cX6_init 510 = .ok (.bipush 116, 2) := by decide +kernel
theorem dX6_init_512 : decode cX6_init 512 = .ok (.iastore, 1) := by decide +kernel
theorem dX6_init_513 : decode cX6_init 513 = .ok (.dup, 1) := by decide +kernel
theorem dX6_init_514 : decode cX6_init 514 = .ok (.bipush 44, 2) := by decide +kernel
theorem dX6_init_516 : decode cX6_init 516 = .ok (.bipush 32, 2) := by decide +kernel
theorem dX6_init_518 : decode cX6_init 518 = .ok (.iastore, 1) := by decide +kernel
theorem dX6_init_519 : decode cX6_init 519 = .ok (.dup, 1) := by decide +kernel
theorem dX6_init_520 : decode cX6_init 520 = .ok (.bipush 45, 2) := by decide +kernel
theorem dX6_init_522 : decode cX6_init 522 = .ok (.bipush 109, 2) := by decide +kernel
theorem dX6_init_524 : decode cX6_init 524 = .ok (.iastore, 1) := by decide +kernel
theorem dX6_init_525 : decode cX6_init 525 = .ok (.dup, 1) := by decide +kernel
theorem dX6_init_526 : decode cX6_init 526 = .ok (.bipush 46, 2) := by decide +kernel
theorem dX6_init_528 : decode cX6_init 528 = .ok (.bipush 97, 2) := by decide +kernel
theorem dX6_init_530 : decode cX6_init 530 = .ok (.iastore, 1) := by decide +kernel
theorem dX6_init_531 : decode cX6_init 531 = .ok (.dup, 1) := by decide +kernel
theorem dX6_init_532 : decode cX6_init 532 = .ok (.bipush 47, 2) := by decide +kernel
theorem dX6_init_534 : decode cX6_init 534 = .ok (.bipush 115, 2) := by decide +kernel
theorem dX6_init_536 : decode cX6_init 536 = .ok (.iastore, 1) := by decide +kernel
theorem dX6_init_537 : decode cX6_init 537 = .ok (.dup, 1) := by decide +kernel
theorem dX6_init_538 : decode cX6_init 538 = .ok (.bipush 48, 2) := by decide +kernel
theorem dX6_init_540 : decode cX6_init 540 = .ok (.bipush 115, 2) := by decide +kernel
theorem dX6_init_542 : decode cX6_init 542 = .ok (.iastore, 1) := by decide +kernel
theorem dX6_init_543 : decode cX6_init 543 = .ok (.dup, 1) := by decide +kernel
theorem dX6_init_544 : decode cX6_init 544 = .ok (.bipush 49, 2) := by decide +kernel
theorem dX6_init_546 : decode cX6_init 546 = .ok (.bipush 32, 2) := by decide +kernel
theorem dX6_init_548 : decode cX6_init 548 = .ok (.iastore, 1) := by decide +kernel
theorem dX6_init_549 : decode cX6_init 549 = .ok (.dup, 1) := by decide +kernel
theorem dX6_init_550 : decode cX6_init 550 = .ok (.bipush 50, 2) := by decide +kernel
theorem dX6_init_552 : decode cX6_init 552 = .ok (.bipush 101, 2) := by decide +kernel
theorem dX6_init_554 : decode cX6_init 554 = .ok (.iastore, 1) := by decide +kernel
theorem dX6_init_555 : decode cX6_init 555 = .ok (.dup, 1) := by decide +kernel
theorem dX6_init_556 : decode cX6_init 556 = .ok (.bipush 51, 2) := by decide +kernel
theorem dX6_init_558 : decode cX6_init 558 = .ok (.bipush 118, 2) := by decide +kernel
theorem dX6_init_560 : decode cX6_init 560 = .ok (.iastore, 1) := by decide +kernel
theorem dX6_init_561 : decode cX6_init 561 = .ok (.dup, 1) := by decide +kernel
theorem dX6_init_562 : decode cX6_init 562 = .ok (.bipush 52, 2) := by decide +kernel
theorem dX6_init_564 : decode cX6_init 564 = .ok (.bipush 101, 2) := by decide +kernel
theorem dX6_init_566 : decode cX6_init 566 = .ok (.iastore, 1) := by decide +kernel
theorem dX6_init_567 : decode cX6_init 567 = .ok (.dup, 1) := by decide +kernel
theorem dX6_init_568 : decode cX6_init 568 = .ok (.bipush 53, 2) := by decide +kernel
theorem dX6_init_570 : decode cX6_init 570 = .ok (.bipush 114, 2) := by decide +kernel
theorem dX6_init_572 : decode cX6_init 572 = .ok (.iastore, 1) := by decide +kernel
theorem dX6_init_573 : decode cX6_init 573 = .ok (.dup, 1) := by decide +kernel
theorem dX6_init_574 : decode cX6_init 574 = .ok (.bipush 54, 2) := by decide +kernel
theorem dX6_init_576 : decode cX6_init 576 = .ok (.bipush 121, 2) := by decide +kernel
theorem dX6_init_578 : decode cX6_init 578 = .ok (.iastore, 1) := by decide +kernel
theorem dX6_init_579 : decode cX6_init 579 = .ok (.dup, 1) := by decide +kernel
theorem dX6_init_580 : decode cX6_init 580 = .ok (.bipush 55, 2) := by decide +kernel
theorem dX6_init_582 : decode cX6_init 582 = .ok (.bipush 32, 2) := by decide +kernel
theorem dX6_init_584 : decode cX6_init 584 = .ok (.iastore, 1) := by decide +kernel
theorem dX6_init_585 : decode cX6_init 585 = .ok (.dup, 1) := by decide +kernel
theorem dX6_init_586 : decode cX6_init 586 = .ok (.bipush 56, 2) := by decide +kernel
theorem dX6_init_588 : decode cX6_init 588 = .ok (.bipush 99, 2) := by decide +kernel
theorem dX6_init_590 : decode cX6_init 590 = .ok (.iastore, 1) := by decide +kernel
theorem dX6_init_591 : decode cX6_init 591 = .ok (.dup, 1) := by decide +kernel
theorem dX6_init_592 : decode cX6_init 592 = .ok (.bipush 57, 2) := by decide +kernel
theorem dX6_init_594 : decode cX6_init 594 = .ok (.bipush 104, 2) := by decide +kernel
theorem dX6_init_596 : decode cX6_init 596 = .ok (.iastore, 1) := by decide +kernel
theorem dX6_init_597 : decode cX6_init 597 = .ok (.dup, 1) := by decide +kernel
theorem dX6_init_598 : decode cX6_init 598 = .ok (.bipush 58, 2) := by decide +kernel
theorem dX6_init_600 : decode cX6_init 600 = .ok (.bipush 97, 2) := by decide +kernel
theorem dX6_init_602 : decode cX6_init 602 = .ok (.iastore, 1) := by decide +kernel
theorem dX6_init_603 : decode cX6_init 603 = .ok (.dup, 1) := by decide +kernel
theorem dX6_init_604 : decode cX6_init 604 = .ok (.bipush 59, 2) := by decide +kernel
theorem dX6_init_606 : decode cX6_init 606 = .ok (.bipush 115, 2) := by decide +kernel
theorem dX6_init_608 : decode cX6_init 608 = .ok (.iastore, 1) := by decide +kernel
theorem dX6_init_609 : decode cX6_init 609 = .ok (.dup, 1) := by decide +kernel
theorem dX6_init_610 : decode cX6_init 610 = .ok (.bipush 60, 2) := by decide +kernel
theorem dX6_init_612 : decode cX6_init 612 = .ok (.bipush 101, 2) := by decide +kernel
theorem dX6_init_614 : decode cX6_init 614 = .ok (.iastore, 1) := by decide +kernel
theorem dX6_init_615 : decode cX6_init 615 = .ok (.dup, 1) := by decide +kernel
theorem dX6_init_616 : decode cX6_init 616 = .ok (.bipush 61, 2) := by decide +kernel
theorem dX6_init_618 : decode cX6_init 618 = .ok (.bipush 32, 2) := by decide +kernel
theorem dX6_init_620 : decode cX6_init 620 = .ok (.iastore, 1) := by decide +kernel
theorem dX6_init_621 : decode cX6_init 621 = .ok (.putfield 102, 3) := by decide +kernel
theorem dX6_init_624 : decode cX6_init 624 = .ok (.aload_n 0, 1) := by decide +kernel
theorem dX6_init_625 : decode cX6_init 625 = .ok (.sipush 128, 3) := by decide +kernel
theorem dX6_init_628 : decode cX6_init 628 = .ok (.newarray .int, 2) := by decide +kernel
theorem dX6_init_630 : decode cX6_init 630 = .ok (.putfield 105, 3) := by decide +kernel
theorem dX6_init_633 : decode cX6_init 633 = .ok (.aload_n 0, 1) := by decide +kernel
theorem dX6_init_634 : decode cX6_init 634 = .ok (.sipush 128, 3) := by decide +kernel
theorem dX6_init_637 : decode cX6_init 637 = .ok (.newarray .int, 2) := by decide +kernel
theorem dX6_init_639 : decode cX6_init 639 = .ok (.putfield 108, 3) := by decide +kernel
theorem dX6_init_642 : decode cX6_init 642 = .ok (.aload_n 0, 1) := by decide +kernel
theorem dX6_init_643 : decode cX6_init 643 = .ok (.sipush 128, 3) := by decide +kernel
theorem dX6_init_646 : decode cX6_init 646 = .ok (.newarray .int, 2) := by decide +kernel
theorem dX6_init_648 : decode cX6_init 648 = .ok (.putfield 111, 3) := by decide +kernel
theorem dX6_init_651 : decode cX6_init 651 = .ok (.aload_n 0, 1) := by decide +kernel
theorem dX6_init_652 : decode cX6_init 652 = .ok (.sipush 128, 3) := by decide +kernel
theorem dX6_init_655 : decode cX6_init 655 = .ok (.newarray .int, 2) := by decide +kernel
theorem dX6_init_657 : decode cX6_init 657 = .ok (.putfield 114, 3) := by decide +kernel
theorem dX6_init_660 : decode cX6_init 660 = .ok (.aload_n 0, 1) := by decide +kernel
theorem dX6_init_661 : decode cX6_init 661 = .ok (.sipush 128, 3) := by decide +kernel
theorem dX6_init_664 : decode cX6_init 664 = .ok (.newarray .int, 2) := by decide +kernel
theorem dX6_init_666 : decode cX6_init 666 = .ok (.putfield 117, 3) := by decide +kernel
theorem dX6_init_669 : decode cX6_init 669 = .ok (.aload_n 0, 1) := by decide +kernel
theorem dX6_init_670 : decode cX6_init 670 = .ok (.bipush 16, 2) := by decide +kernel
theorem dX6_init_672 : decode cX6_init 672 = .ok (.newarray .int, 2) := by decide +kernel
theorem dX6_init_674 : decode cX6_init 674 = .ok (.putfield 120, 3) := by decide +kernel
theorem dX6_init_677 : decode cX6_init 677 = .ok (.aload_n 0, 1) := by decide +kernel
theorem dX6_init_678 : decode cX6_init 678 = .ok (.bipush 16, 2) := by decide +kernel
theorem dX6_init_680 : decode cX6_init 680 = .ok (.newarray .int, 2) := by decide +kernel
theorem dX6_init_682 : decode cX6_init 682 = .ok (.putfield 123, 3) := by decide +kernel
theorem dX6_init_685 : decode cX6_init 685 = .ok (.iconst 0, 1) := by decide +kernel
theorem dX6_init_686 : decode cX6_init 686 = .ok (.istore_n 1, 1) := by decide +kernel
theorem dX6_init_687 : decode cX6_init 687 = .ok (.iload_n 1, 1) := by decide +kernel
theorem dX6_init_688 : decode cX6_init 688 = .ok (.sipush 128, 3) := by decide +kernel
theorem dX6_init_691 : decode cX6_init 691 = .ok (.if_icmp .ge 16, 3) := by decide +kernel
theorem dX6_init_694 : decode cX6_init 694 = .ok (.aload_n 0, 1) := by decide +kernel
theorem dX6_init_695 : decode cX6_init 695 = .ok (.getfield 81, 3) := by decide +kernel
theorem dX6_init_698 : decode cX6_init 698 = .ok (.iload_n 1, 1) := by decide +kernel
theorem dX6_init_699 : decode cX6_init 699 = .ok (.iconst (-1), 1) := by decide +kernel
theorem dX6_init_700 : decode cX6_init 700 = .ok (.iastore, 1) := by decide +kernel
theorem dX6_init_701 : decode cX6_init 701 = .ok (.iinc 1 1, 3) := by decide +kernel
theorem dX6_init_704 : decode cX6_init 704 = .ok (.goto (-17), 3) := by decide +kernel
theorem dX6_init_707 : decode cX6_init 707 = .ok (.return_, 1) := by decide +kernel
theorem dX6_feed_0 : decode cX6_feed 0 = .ok (.aload_n 0, 1) := by decide +kernel
theorem dX6_feed_1 : decode cX6_feed 1 = .ok (.iconst 0, 1) := by decide +kernel
theorem dX6_feed_2 : decode cX6_feed 2 = .ok (.putfield 126, 3) := by decide +kernel
theorem dX6_feed_5 : decode cX6_feed 5 = .ok (.aload_n 0, 1) := by decide +kernel
theorem dX6_feed_6 : decode cX6_feed 6 = .ok (.getfield 129, 3) := by decide +kernel
theorem dX6_feed_9 : decode cX6_feed 9 = .ok (.bipush 20, 2) := by decide +kernel
theorem dX6_feed_11 : decode cX6_feed 11 = .ok (.iadd, 1) := by decide +kernel
theorem dX6_feed_12 : decode cX6_feed 12 = .ok (.sipush 1000, 3) := by decide +kernel
theorem dX6_feed_15 : decode cX6_feed 15 = .ok (.if_icmp .le 5, 3) := by decide +kernel
theorem dX6_feed_18 : decode cX6_feed 18 = .ok (.iconst (-1), 1) := by decide +kernel
theorem dX6_feed_19 : decode cX6_feed 19 = .ok (.ireturn, 1) := by decide +kernel
theorem dX6_feed_20 : decode cX6_feed 20 = .ok (.iconst 0, 1) := by decide +kernel
theorem dX6_feed_21 : decode cX6_feed 21 = .ok (.istore 6, 2) := by decide +kernel
theorem dX6_feed_23 : decode cX6_feed 23 = .ok (.iload 6, 2) := by decide +kernel
theorem dX6_feed_25 : decode cX6_feed 25 = .ok (.bipush 20, 2) := by decide +kernel
theorem dX6_feed_27 : decode cX6_feed 27 = .ok (.if_icmp .ge 86, 3) := by decide +kernel
theorem dX6_feed_30 : decode cX6_feed 30 = .ok (.iload 6, 2) := by decide +kernel
theorem dX6_feed_32 : decode cX6_feed 32 = .ok (.iconst 4, 1) := by decide +kernel
theorem dX6_feed_33 : decode cX6_feed 33 = .ok (.if_icmp .ge 7, 3) := by decide +kernel
theorem dX6_feed_36 : decode cX6_feed 36 = .ok (.iload_n 1, 1) := by decide +kernel
theorem dX6_feed_37 : decode cX6_feed 37 = .ok (.goto 39, 3) := by decide +kernel
theorem dX6_feed_40 : decode cX6_feed 40 = .ok (.iload 6, 2) := by decide +kernel
theorem dX6_feed_42 : decode cX6_feed 42 = .ok (.bipush 8, 2) := by decide +kernel
theorem dX6_feed_44 : decode cX6_feed 44 = .ok (.if_icmp .ge 7, 3) := by decide +kernel
theorem dX6_feed_47 : decode cX6_feed 47 = .ok (.iload_n 2, 1) := by decide +kernel
theorem dX6_feed_48 : decode cX6_feed 48 = .ok (.goto 28, 3) := by decide +kernel
theorem dX6_feed_51 : decode cX6_feed 51 = .ok (.iload 6, 2) := by decide +kernel
theorem dX6_feed_53 : decode cX6_feed 53 = .ok (.bipush 12, 2) := by decide +kernel
theorem dX6_feed_55 : decode cX6_feed 55 = .ok (.if_icmp .ge 7, 3) := by decide +kernel
theorem dX6_feed_58 : decode cX6_feed 58 = .ok (.iload_n 3, 1) := by decide +kernel
theorem dX6_feed_59 : decode cX6_feed 59 = .ok (.goto 17, 3) := by decide +kernel
theorem dX6_feed_62 : decode cX6_feed 62 = .ok (.iload 6, 2) := by decide +kernel
theorem dX6_feed_64 : decode cX6_feed 64 = .ok (.bipush 16, 2) := by decide +kernel
theorem dX6_feed_66 : decode cX6_feed 66 = .ok (.if_icmp .ge 8, 3) := by decide +kernel
theorem dX6_feed_69 : decode cX6_feed 69 = .ok (.iload 4, 2) := by decide +kernel
theorem dX6_feed_71 : decode cX6_feed 71 = .ok (.goto 5, 3) := by decide +kernel
theorem dX6_feed_74 : decode cX6_feed 74 = .ok (.iload 5, 2) := by decide +kernel
theorem dX6_feed_76 : decode cX6_feed 76 = .ok (.istore 7, 2) := by decide +kernel
theorem dX6_feed_78 : decode cX6_feed 78 = .ok (.aload_n 0, 1) := by decide +kernel
theorem dX6_feed_79 : decode cX6_feed 79 = .ok (.getfield 7, 3) := by decide +kernel
theorem dX6_feed_82 : decode cX6_feed 82 = .ok (.aload_n 0, 1) := by decide +kernel
theorem dX6_feed_83 : decode cX6_feed 83 = .ok (.getfield 129, 3) := by decide +kernel
theorem dX6_feed_86 : decode cX6_feed 86 = .ok (.iload 6, 2) := by decide +kernel
theorem dX6_feed_88 : decode cX6_feed 88 = .ok (.iadd, 1) := by decide +kernel
theorem dX6_feed_89 : decode cX6_feed 89 = .ok (.iload 7, 2) := by decide +kernel
theorem dX6_feed_91 : decode cX6_feed 91 = .ok (.bipush 24, 2) := by decide +kernel
theorem dX6_feed_93 : decode cX6_feed 93 = .ok (.bipush 8, 2) := by decide +kernel
theorem dX6_feed_95 : decode cX6_feed 95 = .ok (.iload 6, 2) := by decide +kernel
theorem dX6_feed_97 : decode cX6_feed 97 = .ok (.iconst 4, 1) := by decide +kernel
theorem dX6_feed_98 : decode cX6_feed 98 = .ok (.irem, 1) := by decide +kernel
theorem dX6_feed_99 : decode cX6_feed 99 = .ok (.imul, 1) := by decide +kernel
theorem dX6_feed_100 : decode cX6_feed 100 = .ok (.isub, 1) := by decide +kernel
theorem dX6_feed_101 : decode cX6_feed 101 = .ok (.ishr, 1) := by decide +kernel
theorem dX6_feed_102 : decode cX6_feed 102 = .ok (.sipush 255, 3) := by decide +kernel
theorem dX6_feed_105 : decode cX6_feed 105 = .ok (.iand, 1) := by decide +kernel
theorem dX6_feed_106 : decode cX6_feed 106 = .ok (.iastore, 1) := by decide +kernel
theorem dX6_feed_107 : decode cX6_feed 107 = .ok (.iinc 6 1, 3) := by decide +kernel
theorem dX6_feed_110 : decode cX6_feed 110 = .ok (.goto (-87), 3) := by decide +kernel
theorem dX6_feed_113 : decode cX6_feed 113 = .ok (.aload_n 0, 1) := by decide +kernel
theorem dX6_feed_114 : decode cX6_feed 114 = .ok (.dup, 1) := by decide +kernel
theorem dX6_feed_115 : decode cX6_feed 115 = .ok (.getfield 129, 3) := by decide +kernel
theorem dX6_feed_118 : decode cX6_feed 118 = .ok (.bipush 20, 2) := by decide +kernel
theorem dX6_feed_120 : decode cX6_feed 120 = .ok (.iadd, 1) := by decide +kernel
theorem dX6_feed_121 : decode cX6_feed 121 = .ok (.putfield 129, 3) := by decide +kernel
theorem dX6_feed_124 : decode cX6_feed 124 = .ok (.aload_n 0, 1) := by decide +kernel
theorem dX6_feed_125 : decode cX6_feed 125 = .ok (.getfield 129, 3) := by decide +kernel
theorem dX6_feed_128 : decode cX6_feed 128 = .ok (.ireturn, 1) := by decide +kernel
theorem dX6_wrong_0 : decode cX6_wrong 0 = .ok (.aload_n 0, 1) := by decide +kernel
theorem dX6_wrong_1 : decode cX6_wrong 1 = .ok (.iload_n 1, 1) := by decide +kernel
theorem dX6_wrong_2 : decode cX6_wrong 2 = .ok (.putfield 132, 3) := by decide +kernel
theorem dX6_wrong_5 : decode cX6_wrong 5 = .ok (.aload_n 0, 1) := by decide +kernel
theorem dX6_wrong_6 : decode cX6_wrong 6 = .ok (.iload_n 2, 1) := by decide +kernel
theorem dX6_wrong_7 : decode cX6_wrong 7 = .ok (.putfield 38, 3) := by decide +kernel
theorem dX6_wrong_10 : decode cX6_wrong 10 = .ok (.iconst 0, 1) := by decide +kernel
theorem dX6_wrong_11 : decode cX6_wrong 11 = .ok (.ireturn, 1) := by decide +kernel
theorem dX6_wordAt_0 : decode cX6_wordAt 0 = .ok (.iconst 1, 1) := by decide +kernel
theorem dX6_wordAt_1 : decode cX6_wordAt 1 = .ok (.istore_n 3, 1) := by decide +kernel
theorem dX6_wordAt_2 : decode cX6_wordAt 2 = .ok (.iconst 0, 1) := by decide +kernel
theorem dX6_wordAt_3 : decode cX6_wordAt 3 = .ok (.istore 4, 2) := by decide +kernel
theorem dX6_wordAt_5 : decode cX6_wordAt 5 = .ok (.iload 4, 2) := by decide +kernel
theorem dX6_wordAt_7 : decode cX6_wordAt 7 = .ok (.aload_n 0, 1) := by decide +kernel
theorem dX6_wordAt_8 : decode cX6_wordAt 8 = .ok (.getfield 102, 3) := by decide +kernel
theorem dX6_wordAt_11 : decode cX6_wordAt 11 = .ok (.arraylength, 1) := by decide +kernel
theorem dX6_wordAt_12 : decode cX6_wordAt 12 = .ok (.if_icmp .ge 114, 3) := by decide +kernel
theorem dX6_wordAt_15 : decode cX6_wordAt 15 = .ok (.iconst 0, 1) := by decide +kernel
theorem dX6_wordAt_16 : decode cX6_wordAt 16 = .ok (.istore 5, 2) := by decide +kernel
theorem dX6_wordAt_18 : decode cX6_wordAt 18 = .ok (.aload_n 0, 1) := by decide +kernel
theorem dX6_wordAt_19 : decode cX6_wordAt 19 = .ok (.getfield 102, 3) := by decide +kernel
theorem dX6_wordAt_22 : decode cX6_wordAt 22 = .ok (.iload 4, 2) := by decide +kernel
theorem dX6_wordAt_24 : decode cX6_wordAt 24 = .ok (.iload 5, 2) := by decide +kernel
theorem dX6_wordAt_26 : decode cX6_wordAt 26 = .ok (.iadd, 1) := by decide +kernel
theorem dX6_wordAt_27 : decode cX6_wordAt 27 = .ok (.iaload, 1) := by decide +kernel
theorem dX6_wordAt_28 : decode cX6_wordAt 28 = .ok (.bipush 32, 2) := by decide +kernel
theorem dX6_wordAt_30 : decode cX6_wordAt 30 = .ok (.if_icmp .eq 9, 3) := by decide +kernel
theorem dX6_wordAt_33 : decode cX6_wordAt 33 = .ok (.iinc 5 1, 3) := by decide +kernel
theorem dX6_wordAt_36 : decode cX6_wordAt 36 = .ok (.goto (-18), 3) := by decide +kernel
theorem dX6_wordAt_39 : decode cX6_wordAt 39 = .ok (.iload 5, 2) := by decide +kernel
theorem dX6_wordAt_41 : decode cX6_wordAt 41 = .ok (.iload_n 2, 1) := by decide +kernel
theorem dX6_wordAt_42 : decode cX6_wordAt 42 = .ok (.iload_n 1, 1) := by decide +kernel
theorem dX6_wordAt_43 : decode cX6_wordAt 43 = .ok (.isub, 1) := by decide +kernel
theorem dX6_wordAt_44 : decode cX6_wordAt 44 = .ok (.if_icmp .ne 7, 3) := by decide +kernel
theorem dX6_wordAt_47 : decode cX6_wordAt 47 = .ok (.iconst 1, 1) := by decide +kernel
theorem dX6_wordAt_48 : decode cX6_wordAt 48 = .ok (.goto 4, 3) := by decide +kernel
theorem dX6_wordAt_51 : decode cX6_wordAt 51 = .ok (.iconst 0, 1) := by decide +kernel
theorem dX6_wordAt_52 : decode cX6_wordAt 52 = .ok (.istore 6, 2) := by decide +kernel
theorem dX6_wordAt_54 : decode cX6_wordAt 54 = .ok (.iconst 0, 1) := by decide +kernel
theorem dX6_wordAt_55 : decode cX6_wordAt 55 = .ok (.istore 7, 2) := by decide +kernel
theorem dX6_wordAt_57 : decode cX6_wordAt 57 = .ok (.iload 7, 2) := by decide +kernel
theorem dX6_wordAt_59 : decode cX6_wordAt 59 = .ok (.iload 5, 2) := by decide +kernel
theorem dX6_wordAt_61 : decode cX6_wordAt 61 = .ok (.if_icmp .ge 43, 3) := by decide +kernel
theorem dX6_wordAt_64 : decode cX6_wordAt 64 = .ok (.iload 6, 2) := by decide +kernel
theorem dX6_wordAt_66 : decode cX6_wordAt 66 = .ok (.ifCond .eq 38, 3) := by decide +kernel
theorem dX6_wordAt_69 : decode cX6_wordAt 69 = .ok (.aload_n 0, 1) := by decide +kernel
theorem dX6_wordAt_70 : decode cX6_wordAt 70 = .ok (.getfield 102, 3) := by decide +kernel
theorem dX6_wordAt_73 : decode cX6_wordAt 73 = .ok (.iload 4, 2) := by decide +kernel
theorem dX6_wordAt_75 : decode cX6_wordAt 75 = .ok (.iload 7, 2) := by decide +kernel
theorem dX6_wordAt_77 : decode cX6_wordAt 77 = .ok (.iadd, 1) := by decide +kernel
theorem dX6_wordAt_78 : decode cX6_wordAt 78 = .ok (.iaload, 1) := by decide +kernel
theorem dX6_wordAt_79 : decode cX6_wordAt 79 = .ok (.aload_n 0, 1) := by decide +kernel
theorem dX6_wordAt_80 : decode cX6_wordAt 80 = .ok (.getfield 7, 3) := by decide +kernel
theorem dX6_wordAt_83 : decode cX6_wordAt 83 = .ok (.iload_n 1, 1) := by decide +kernel
theorem dX6_wordAt_84 : decode cX6_wordAt 84 = .ok (.iload 7, 2) := by decide +kernel
theorem dX6_wordAt_86 : decode cX6_wordAt 86 = .ok (.iadd, 1) := by decide +kernel
theorem dX6_wordAt_87 : decode cX6_wordAt 87 = .ok (.iaload, 1) := by decide +kernel
theorem dX6_wordAt_88 : decode cX6_wordAt 88 = .ok (.if_icmp .ne 7, 3) := by decide +kernel
theorem dX6_wordAt_91 : decode cX6_wordAt 91 = .ok (.iconst 1, 1) := by decide +kernel
theorem dX6_wordAt_92 : decode cX6_wordAt 92 = .ok (.goto 4, 3) := by decide +kernel
theorem dX6_wordAt_95 : decode cX6_wordAt 95 = .ok (.iconst 0, 1) := by decide +kernel
theorem dX6_wordAt_96 : decode cX6_wordAt 96 = .ok (.istore 6, 2) := by decide +kernel
theorem dX6_wordAt_98 : decode cX6_wordAt 98 = .ok (.iinc 7 1, 3) := by decide +kernel
theorem dX6_wordAt_101 : decode cX6_wordAt 101 = .ok (.goto (-44), 3) := by decide +kernel
theorem dX6_wordAt_104 : decode cX6_wordAt 104 = .ok (.iload 6, 2) := by decide +kernel
theorem dX6_wordAt_106 : decode cX6_wordAt 106 = .ok (.ifCond .eq 5, 3) := by decide +kernel
theorem dX6_wordAt_109 : decode cX6_wordAt 109 = .ok (.iload_n 3, 1) := by decide +kernel
theorem dX6_wordAt_110 : decode cX6_wordAt 110 = .ok (.ireturn, 1) := by decide +kernel
theorem dX6_wordAt_111 : decode cX6_wordAt 111 = .ok (.iload 4, 2) := by decide +kernel
theorem dX6_wordAt_113 : decode cX6_wordAt 113 = .ok (.iload 5, 2) := by decide +kernel
theorem dX6_wordAt_115 : decode cX6_wordAt 115 = .ok (.iconst 1, 1) := by decide +kernel
theorem dX6_wordAt_116 : decode cX6_wordAt 116 = .ok (.iadd, 1) := by decide +kernel
theorem dX6_wordAt_117 : decode cX6_wordAt 117 = .ok (.iadd, 1) := by decide +kernel
theorem dX6_wordAt_118 : decode cX6_wordAt 118 = .ok (.istore 4, 2) := by decide +kernel
theorem dX6_wordAt_120 : decode cX6_wordAt 120 = .ok (.iinc 3 1, 3) := by decide +kernel
theorem dX6_wordAt_123 : decode cX6_wordAt 123 = .ok (.goto (-118), 3) := by decide +kernel
theorem dX6_wordAt_126 : decode cX6_wordAt 126 = .ok (.iconst (-1), 1) := by decide +kernel
theorem dX6_wordAt_127 : decode cX6_wordAt 127 = .ok (.ireturn, 1) := by decide +kernel
theorem dX6_isSmall_0 : decode cX6_isSmall 0 = .ok (.iload_n 1, 1) := by decide +kernel
theorem dX6_isSmall_1 : decode cX6_isSmall 1 = .ok (.aload_n 0, 1) := by decide +kernel
theorem dX6_isSmall_2 : decode cX6_isSmall 2 = .ok (.getfield 135, 3) := by decide +kernel
theorem dX6_isSmall_5 : decode cX6_isSmall 5 = .ok (.if_icmp .ge 29, 3) := by decide +kernel
theorem dX6_isSmall_8 : decode cX6_isSmall 8 = .ok (.aload_n 0, 1) := by decide +kernel
theorem dX6_isSmall_9 : decode cX6_isSmall 9 = .ok (.getfield 7, 3) := by decide +kernel
theorem dX6_isSmall_12 : decode cX6_isSmall 12 = .ok (.iload_n 1, 1) := by decide +kernel
theorem dX6_isSmall_13 : decode cX6_isSmall 13 = .ok (.iaload, 1) := by decide +kernel
theorem dX6_isSmall_14 : decode cX6_isSmall 14 = .ok (.bipush 97, 2) := by decide +kernel
theorem dX6_isSmall_16 : decode cX6_isSmall 16 = .ok (.if_icmp .lt 18, 3) := by decide +kernel
theorem dX6_isSmall_19 : decode cX6_isSmall 19 = .ok (.aload_n 0, 1) := by decide +kernel
theorem dX6_isSmall_20 : decode cX6_isSmall 20 = .ok (.getfield 7, 3) := by decide +kernel
theorem dX6_isSmall_23 : decode cX6_isSmall 23 = .ok (.iload_n 1, 1) := by decide +kernel
theorem dX6_isSmall_24 : decode cX6_isSmall 24 = .ok (.iaload, 1) := by decide +kernel
theorem dX6_isSmall_25 : decode cX6_isSmall 25 = .ok (.bipush 122, 2) := by decide +kernel
theorem dX6_isSmall_27 : decode cX6_isSmall 27 = .ok (.if_icmp .gt 7, 3) := by decide +kernel
theorem dX6_isSmall_30 : decode cX6_isSmall 30 = .ok (.iconst 1, 1) := by decide +kernel
theorem dX6_isSmall_31 : decode cX6_isSmall 31 = .ok (.goto 4, 3) := by decide +kernel
theorem dX6_isSmall_34 : decode cX6_isSmall 34 = .ok (.iconst 0, 1) := by decide +kernel
theorem dX6_isSmall_35 : decode cX6_isSmall 35 = .ok (.ireturn, 1) := by decide +kernel
theorem dX6_isDigit_0 : decode cX6_isDigit 0 = .ok (.iload_n 1, 1) := by decide +kernel
theorem dX6_isDigit_1 : decode cX6_isDigit 1 = .ok (.aload_n 0, 1) := by decide +kernel
theorem dX6_isDigit_2 : decode cX6_isDigit 2 = .ok (.getfield 135, 3) := by decide +kernel
theorem dX6_isDigit_5 : decode cX6_isDigit 5 = .ok (.if_icmp .ge 29, 3) := by decide +kernel
theorem dX6_isDigit_8 : decode cX6_isDigit 8 = .ok (.aload_n 0, 1) := by decide +kernel
theorem dX6_isDigit_9 : decode cX6_isDigit 9 = .ok (.getfield 7, 3) := by decide +kernel
theorem dX6_isDigit_12 : decode cX6_isDigit 12 = .ok (.iload_n 1, 1) := by decide +kernel
theorem dX6_isDigit_13 : decode cX6_isDigit 13 = .ok (.iaload, 1) := by decide +kernel
theorem dX6_isDigit_14 : decode cX6_isDigit 14 = .ok (.bipush 48, 2) := by decide +kernel
theorem dX6_isDigit_16 : decode cX6_isDigit 16 = .ok (.if_icmp .lt 18, 3) := by decide +kernel
theorem dX6_isDigit_19 : decode cX6_isDigit 19 = .ok (.aload_n 0, 1) := by decide +kernel
theorem dX6_isDigit_20 : decode cX6_isDigit 20 = .ok (.getfield 7, 3) := by decide +kernel
theorem dX6_isDigit_23 : decode cX6_isDigit 23 = .ok (.iload_n 1, 1) := by decide +kernel
theorem dX6_isDigit_24 : decode cX6_isDigit 24 = .ok (.iaload, 1) := by decide +kernel
theorem dX6_isDigit_25 : decode cX6_isDigit 25 = .ok (.bipush 57, 2) := by decide +kernel
theorem dX6_isDigit_27 : decode cX6_isDigit 27 = .ok (.if_icmp .gt 7, 3) := by decide +kernel
theorem dX6_isDigit_30 : decode cX6_isDigit 30 = .ok (.iconst 1, 1) := by decide +kernel
theorem dX6_isDigit_31 : decode cX6_isDigit 31 = .ok (.goto 4, 3) := by decide +kernel
theorem dX6_isDigit_34 : decode cX6_isDigit 34 = .ok (.iconst 0, 1) := by decide +kernel
theorem dX6_isDigit_35 : decode cX6_isDigit 35 = .ok (.ireturn, 1) := by decide +kernel
theorem dX6_take_0 : decode cX6_take 0 = .ok (.aload_n 0, 1) := by decide +kernel
theorem dX6_take_1 : decode cX6_take 1 = .ok (.getfield 138, 3) := by decide +kernel
theorem dX6_take_4 : decode cX6_take 4 = .ok (.aload_n 0, 1) := by decide +kernel
theorem dX6_take_5 : decode cX6_take 5 = .ok (.getfield 135, 3) := by decide +kernel
theorem dX6_take_8 : decode cX6_take 8 = .ok (.if_icmp .ge 44, 3) := by decide +kernel
theorem dX6_take_11 : decode cX6_take 11 = .ok (.aload_n 0, 1) := by decide +kernel
theorem dX6_take_12 : decode cX6_take 12 = .ok (.getfield 7, 3) := by decide +kernel
theorem dX6_take_15 : decode cX6_take 15 = .ok (.aload_n 0, 1) := by decide +kernel
theorem dX6_take_16 : decode cX6_take 16 = .ok (.getfield 138, 3) := by decide +kernel
theorem dX6_take_19 : decode cX6_take 19 = .ok (.iaload, 1) := by decide +kernel
theorem dX6_take_20 : decode cX6_take 20 = .ok (.bipush 10, 2) := by decide +kernel
theorem dX6_take_22 : decode cX6_take 22 = .ok (.if_icmp .eq 17, 3) := by decide +kernel
theorem dX6_take_25 : decode cX6_take 25 = .ok (.aload_n 0, 1) := by decide +kernel
theorem dX6_take_26 : decode cX6_take 26 = .ok (.getfield 7, 3) := by decide +kernel
theorem dX6_take_29 : decode cX6_take 29 = .ok (.aload_n 0, 1) := by decide +kernel
theorem dX6_take_30 : decode cX6_take 30 = .ok (.getfield 138, 3) := by decide +kernel
theorem dX6_take_33 : decode cX6_take 33 = .ok (.iaload, 1) := by decide +kernel
theorem dX6_take_34 : decode cX6_take 34 = .ok (.bipush 32, 2) := by decide +kernel
theorem dX6_take_36 : decode cX6_take 36 = .ok (.if_icmp .ne 16, 3) := by decide +kernel
theorem dX6_take_39 : decode cX6_take 39 = .ok (.aload_n 0, 1) := by decide +kernel
theorem dX6_take_40 : decode cX6_take 40 = .ok (.dup, 1) := by decide +kernel
theorem dX6_take_41 : decode cX6_take 41 = .ok (.getfield 138, 3) := by decide +kernel
theorem dX6_take_44 : decode cX6_take 44 = .ok (.iconst 1, 1) := by decide +kernel
theorem dX6_take_45 : decode cX6_take 45 = .ok (.iadd, 1) := by decide +kernel
theorem dX6_take_46 : decode cX6_take 46 = .ok (.putfield 138, 3) := by decide +kernel
theorem dX6_take_49 : decode cX6_take 49 = .ok (.goto (-49), 3) := by decide +kernel
theorem dX6_take_52 : decode cX6_take 52 = .ok (.aload_n 0, 1) := by decide +kernel
theorem dX6_take_53 : decode cX6_take 53 = .ok (.aload_n 0, 1) := by decide +kernel
theorem dX6_take_54 : decode cX6_take 54 = .ok (.getfield 138, 3) := by decide +kernel
theorem dX6_take_57 : decode cX6_take 57 = .ok (.putfield 141, 3) := by decide +kernel
theorem dX6_take_60 : decode cX6_take 60 = .ok (.aload_n 0, 1) := by decide +kernel
theorem dX6_take_61 : decode cX6_take 61 = .ok (.getfield 138, 3) := by decide +kernel
theorem dX6_take_64 : decode cX6_take 64 = .ok (.aload_n 0, 1) := by decide +kernel
theorem dX6_take_65 : decode cX6_take 65 = .ok (.getfield 135, 3) := by decide +kernel
theorem dX6_take_68 : decode cX6_take 68 = .ok (.if_icmp .ne 11, 3) := by decide +kernel
theorem dX6_take_71 : decode cX6_take 71 = .ok (.aload_n 0, 1) := by decide +kernel
theorem dX6_take_72 : decode cX6_take 72 = .ok (.iconst 0, 1) := by decide +kernel
theorem dX6_take_73 : decode cX6_take 73 = .ok (.putfield 144, 3) := by decide +kernel
theorem dX6_take_76 : decode cX6_take 76 = .ok (.goto 239, 3) := by decide +kernel
theorem dX6_take_79 : decode cX6_take 79 = .ok (.aload_n 0, 1) := by decide +kernel
theorem dX6_take_80 : decode cX6_take 80 = .ok (.aload_n 0, 1) := by decide +kernel
theorem dX6_take_81 : decode cX6_take 81 = .ok (.getfield 138, 3) := by decide +kernel
theorem dX6_take_84 : decode cX6_take 84 = .ok (.invokevirtual 147, 3) := by decide +kernel
theorem dX6_take_87 : decode cX6_take 87 = .ok (.ifCond .eq 62, 3) := by decide +kernel
theorem dX6_take_90 : decode cX6_take 90 = .ok (.aload_n 0, 1) := by decide +kernel
theorem dX6_take_91 : decode cX6_take 91 = .ok (.aload_n 0, 1) := by decide +kernel
theorem dX6_take_92 : decode cX6_take 92 = .ok (.getfield 138, 3) := by decide +kernel
theorem dX6_take_95 : decode cX6_take 95 = .ok (.invokevirtual 147, 3) := by decide +kernel
theorem dX6_take_98 : decode cX6_take 98 = .ok (.ifCond .eq 16, 3) := by decide +kernel
theorem dX6_take_101 : decode cX6_take 101 = .ok (.aload_n 0, 1) := by decide +kernel
theorem dX6_take_102 : decode cX6_take 102 = .ok (.dup, 1) := by decide +kernel
theorem dX6_take_103 : decode cX6_take 103 = .ok (.getfield 138, 3) := by decide +kernel
theorem dX6_take_106 : decode cX6_take 106 = .ok (.iconst 1, 1) := by decide +kernel
theorem dX6_take_107 : decode cX6_take 107 = .ok (.iadd, 1) := by decide +kernel
theorem dX6_take_108 : decode cX6_take 108 = .ok (.putfield 138, 3) := by decide +kernel
theorem dX6_take_111 : decode cX6_take 111 = .ok (.goto (-21), 3) := by decide +kernel
theorem dX6_take_114 : decode cX6_take 114 = .ok (.aload_n 0, 1) := by decide +kernel
theorem dX6_take_115 : decode cX6_take 115 = .ok (.aload_n 0, 1) := by decide +kernel
theorem dX6_take_116 : decode cX6_take 116 = .ok (.aload_n 0, 1) := by decide +kernel
theorem dX6_take_117 : decode cX6_take 117 = .ok (.getfield 141, 3) := by decide +kernel
theorem dX6_take_120 : decode cX6_take 120 = .ok (.aload_n 0, 1) := by decide +kernel
theorem dX6_take_121 : decode cX6_take 121 = .ok (.getfield 138, 3) := by decide +kernel
theorem dX6_take_124 : decode cX6_take 124 = .ok (.invokevirtual 151, 3) := by decide +kernel
theorem dX6_take_127 : decode cX6_take 127 = .ok (.putfield 155, 3) := by decide +kernel
theorem dX6_take_130 : decode cX6_take 130 = .ok (.aload_n 0, 1) := by decide +kernel
theorem dX6_take_131 : decode cX6_take 131 = .ok (.aload_n 0, 1) := by decide +kernel
theorem dX6_take_132 : decode cX6_take 132 = .ok (.getfield 155, 3) := by decide +kernel
theorem dX6_take_135 : decode cX6_take 135 = .ok (.ifCond .ge 7, 3) := by decide +kernel
theorem dX6_take_138 : decode cX6_take 138 = .ok (.iconst 5, 1) := by decide +kernel
theorem dX6_take_139 : decode cX6_take 139 = .ok (.goto 4, 3) := by decide +kernel
theorem dX6_take_142 : decode cX6_take 142 = .ok (.iconst 1, 1) := by decide +kernel
theorem dX6_take_143 : decode cX6_take 143 = .ok (.putfield 144, 3) := by decide +kernel
theorem dX6_take_146 : decode cX6_take 146 = .ok (.goto 169, 3) := by decide +kernel
theorem dX6_take_149 : decode cX6_take 149 = .ok (.aload_n 0, 1) := by decide +kernel
theorem dX6_take_150 : decode cX6_take 150 = .ok (.aload_n 0, 1) := by decide +kernel
theorem dX6_take_151 : decode cX6_take 151 = .ok (.getfield 138, 3) := by decide +kernel
theorem dX6_take_154 : decode cX6_take 154 = .ok (.invokevirtual 158, 3) := by decide +kernel
theorem dX6_take_157 : decode cX6_take 157 = .ok (.ifCond .eq 77, 3) := by decide +kernel
theorem dX6_take_160 : decode cX6_take 160 = .ok (.aload_n 0, 1) := by decide +kernel
theorem dX6_take_161 : decode cX6_take 161 = .ok (.iconst 3, 1) := by decide +kernel
theorem dX6_take_162 : decode cX6_take 162 = .ok (.putfield 144, 3) := by decide +kernel
theorem dX6_take_165 : decode cX6_take 165 = .ok (.aload_n 0, 1) := by decide +kernel
theorem dX6_take_166 : decode cX6_take 166 = .ok (.iconst 0, 1) := by decide +kernel
theorem dX6_take_167 : decode cX6_take 167 = .ok (.putfield 155, 3) := by decide +kernel
theorem dX6_take_170 : decode cX6_take 170 = .ok (.aload_n 0, 1) := by decide +kernel
theorem dX6_take_171 : decode cX6_take 171 = .ok (.aload_n 0, 1) := by decide +kernel
theorem dX6_take_172 : decode cX6_take 172 = .ok (.getfield 138, 3) := by decide +kernel
theorem dX6_take_175 : decode cX6_take 175 = .ok (.invokevirtual 158, 3) := by decide +kernel
theorem dX6_take_178 : decode cX6_take 178 = .ok (.ifCond .eq 137, 3) := by decide +kernel
theorem dX6_take_181 : decode cX6_take 181 = .ok (.aload_n 0, 1) := by decide +kernel
theorem dX6_take_182 : decode cX6_take 182 = .ok (.aload_n 0, 1) := by decide +kernel
theorem dX6_take_183 : decode cX6_take 183 = .ok (.getfield 155, 3) := by decide +kernel
theorem dX6_take_186 : decode cX6_take 186 = .ok (.ldc 161, 2) := by decide +kernel
theorem dX6_take_188 : decode cX6_take 188 = .ok (.if_icmp .le 10, 3) := by decide +kernel
theorem dX6_take_191 : decode cX6_take 191 = .ok (.aload_n 0, 1) := by decide +kernel
theorem dX6_take_192 : decode cX6_take 192 = .ok (.getfield 155, 3) := by decide +kernel
theorem dX6_take_195 : decode cX6_take 195 = .ok (.goto 23, 3) := by decide +kernel
theorem dX6_take_198 : decode cX6_take 198 = .ok (.bipush 10, 2) := by decide +kernel
theorem dX6_take_200 : decode cX6_take 200 = .ok (.aload_n 0, 1) := by decide +kernel
theorem dX6_take_201 : decode cX6_take 201 = .ok (.getfield 155, 3) := by decide +kernel
theorem dX6_take_204 : decode cX6_take 204 = .ok (.imul, 1) := by decide +kernel
theorem dX6_take_205 : decode cX6_take 205 = .ok (.aload_n 0, 1) := by decide +kernel
theorem dX6_take_206 : decode cX6_take 206 = .ok (.getfield 7, 3) := by decide +kernel
theorem dX6_take_209 : decode cX6_take 209 = .ok (.aload_n 0, 1) := by decide +kernel
theorem dX6_take_210 : decode cX6_take 210 = .ok (.getfield 138, 3) := by decide +kernel
theorem dX6_take_213 : decode cX6_take 213 = .ok (.iaload, 1) := by decide +kernel
theorem dX6_take_214 : decode cX6_take 214 = .ok (.iadd, 1) := by decide +kernel
theorem dX6_take_215 : decode cX6_take 215 = .ok (.bipush 48, 2) := by decide +kernel
theorem dX6_take_217 : decode cX6_take 217 = .ok (.isub, 1) := by decide +kernel
theorem dX6_take_218 : decode cX6_take 218 = .ok (.putfield 155, 3) := by decide +kernel
theorem dX6_take_221 : decode cX6_take 221 = .ok (.aload_n 0, 1) := by decide +kernel
theorem dX6_take_222 : decode cX6_take 222 = .ok (.dup, 1) := by decide +kernel
theorem dX6_take_223 : decode cX6_take 223 = .ok (.getfield 138, 3) := by decide +kernel
theorem dX6_take_226 : decode cX6_take 226 = .ok (.iconst 1, 1) := by decide +kernel
theorem dX6_take_227 : decode cX6_take 227 = .ok (.iadd, 1) := by decide +kernel
theorem dX6_take_228 : decode cX6_take 228 = .ok (.putfield 138, 3) := by decide +kernel
theorem dX6_take_231 : decode cX6_take 231 = .ok (.goto (-61), 3) := by decide +kernel
theorem dX6_take_234 : decode cX6_take 234 = .ok (.aload_n 0, 1) := by decide +kernel
theorem dX6_take_235 : decode cX6_take 235 = .ok (.aload_n 0, 1) := by decide +kernel
theorem dX6_take_236 : decode cX6_take 236 = .ok (.getfield 7, 3) := by decide +kernel
theorem dX6_take_239 : decode cX6_take 239 = .ok (.aload_n 0, 1) := by decide +kernel
theorem dX6_take_240 : decode cX6_take 240 = .ok (.getfield 138, 3) := by decide +kernel
theorem dX6_take_243 : decode cX6_take 243 = .ok (.iaload, 1) := by decide +kernel
theorem dX6_take_244 : decode cX6_take 244 = .ok (.putfield 155, 3) := by decide +kernel
theorem dX6_take_247 : decode cX6_take 247 = .ok (.aload_n 0, 1) := by decide +kernel
theorem dX6_take_248 : decode cX6_take 248 = .ok (.dup, 1) := by decide +kernel
theorem dX6_take_249 : decode cX6_take 249 = .ok (.getfield 138, 3) := by decide +kernel
theorem dX6_take_252 : decode cX6_take 252 = .ok (.iconst 1, 1) := by decide +kernel
theorem dX6_take_253 : decode cX6_take 253 = .ok (.iadd, 1) := by decide +kernel
theorem dX6_take_254 : decode cX6_take 254 = .ok (.putfield 138, 3) := by decide +kernel
theorem dX6_take_257 : decode cX6_take 257 = .ok (.aload_n 0, 1) := by decide +kernel
theorem dX6_take_258 : decode cX6_take 258 = .ok (.aload_n 0, 1) := by decide +kernel
theorem dX6_take_259 : decode cX6_take 259 = .ok (.getfield 155, 3) := by decide +kernel
theorem dX6_take_262 : decode cX6_take 262 = .ok (.bipush 65, 2) := by decide +kernel
theorem dX6_take_264 : decode cX6_take 264 = .ok (.if_icmp .lt 16, 3) := by decide +kernel
theorem dX6_take_267 : decode cX6_take 267 = .ok (.aload_n 0, 1) := by decide +kernel
theorem dX6_take_268 : decode cX6_take 268 = .ok (.getfield 155, 3) := by decide +kernel
theorem dX6_take_271 : decode cX6_take 271 = .ok (.bipush 72, 2) := by decide +kernel
theorem dX6_take_273 : decode cX6_take 273 = .ok (.if_icmp .gt 7, 3) := by decide +kernel
theorem dX6_take_276 : decode cX6_take 276 = .ok (.iconst 2, 1) := by decide +kernel
theorem dX6_take_277 : decode cX6_take 277 = .ok (.goto 35, 3) := by decide +kernel
theorem dX6_take_280 : decode cX6_take 280 = .ok (.aload_n 0, 1) := by decide +kernel
theorem dX6_take_281 : decode cX6_take 281 = .ok (.getfield 155, 3) := by decide +kernel
theorem dX6_take_284 : decode cX6_take 284 = .ok (.bipush 123, 2) := by decide +kernel
theorem dX6_take_286 : decode cX6_take 286 = .ok (.if_icmp .eq 21, 3) := by decide +kernel
theorem dX6_take_289 : decode cX6_take 289 = .ok (.aload_n 0, 1) := by decide +kernel
theorem dX6_take_290 : decode cX6_take 290 = .ok (.getfield 155, 3) := by decide +kernel
theorem dX6_take_293 : decode cX6_take 293 = .ok (.bipush 125, 2) := by decide +kernel
theorem dX6_take_295 : decode cX6_take 295 = .ok (.if_icmp .eq 12, 3) := by decide +kernel
theorem dX6_take_298 : decode cX6_take 298 = .ok (.aload_n 0, 1) := by decide +kernel
theorem dX6_take_299 : decode cX6_take 299 = .ok (.getfield 155, 3) := by decide +kernel
theorem dX6_take_302 : decode cX6_take 302 = .ok (.bipush 59, 2) := by decide +kernel
theorem dX6_take_304 : decode cX6_take 304 = .ok (.if_icmp .ne 7, 3) := by decide +kernel
theorem dX6_take_307 : decode cX6_take 307 = .ok (.iconst 4, 1) := by decide +kernel
theorem dX6_take_308 : decode cX6_take 308 = .ok (.goto 4, 3) := by decide +kernel
theorem dX6_take_311 : decode cX6_take 311 = .ok (.iconst 5, 1) := by decide +kernel
theorem dX6_take_312 : decode cX6_take 312 = .ok (.putfield 144, 3) := by decide +kernel
theorem dX6_take_315 : decode cX6_take 315 = .ok (.return_, 1) := by decide +kernel
theorem dX6_word_0 : decode cX6_word 0 = .ok (.aload_n 0, 1) := by decide +kernel
theorem dX6_word_1 : decode cX6_word 1 = .ok (.getfield 144, 3) := by decide +kernel
theorem dX6_word_4 : decode cX6_word 4 = .ok (.iconst 1, 1) := by decide +kernel
theorem dX6_word_5 : decode cX6_word 5 = .ok (.if_icmp .ne 11, 3) := by decide +kernel
theorem dX6_word_8 : decode cX6_word 8 = .ok (.aload_n 0, 1) := by decide +kernel
theorem dX6_word_9 : decode cX6_word 9 = .ok (.getfield 155, 3) := by decide +kernel
theorem dX6_word_12 : decode cX6_word 12 = .ok (.iload_n 1, 1) := by decide +kernel
theorem dX6_word_13 : decode cX6_word 13 = .ok (.if_icmp .eq 13, 3) := by decide +kernel
theorem dX6_word_16 : decode cX6_word 16 = .ok (.aload_n 0, 1) := by decide +kernel
theorem dX6_word_17 : decode cX6_word 17 = .ok (.iconst 1, 1) := by decide +kernel
theorem dX6_word_18 : decode cX6_word 18 = .ok (.aload_n 0, 1) := by decide +kernel
theorem dX6_word_19 : decode cX6_word 19 = .ok (.getfield 141, 3) := by decide +kernel
theorem dX6_word_22 : decode cX6_word 22 = .ok (.invokevirtual 162, 3) := by decide +kernel
theorem dX6_word_25 : decode cX6_word 25 = .ok (.ireturn, 1) := by decide +kernel
theorem dX6_word_26 : decode cX6_word 26 = .ok (.aload_n 0, 1) := by decide +kernel
theorem dX6_word_27 : decode cX6_word 27 = .ok (.invokevirtual 166, 3) := by decide +kernel
theorem dX6_word_30 : decode cX6_word 30 = .ok (.iconst 1, 1) := by decide +kernel
theorem dX6_word_31 : decode cX6_word 31 = .ok (.ireturn, 1) := by decide +kernel
theorem dX6_sign_0 : decode cX6_sign 0 = .ok (.aload_n 0, 1) := by decide +kernel
theorem dX6_sign_1 : decode cX6_sign 1 = .ok (.getfield 144, 3) := by decide +kernel
theorem dX6_sign_4 : decode cX6_sign 4 = .ok (.iconst 4, 1) := by decide +kernel
theorem dX6_sign_5 : decode cX6_sign 5 = .ok (.if_icmp .ne 11, 3) := by decide +kernel
theorem dX6_sign_8 : decode cX6_sign 8 = .ok (.aload_n 0, 1) := by decide +kernel
theorem dX6_sign_9 : decode cX6_sign 9 = .ok (.getfield 155, 3) := by decide +kernel
theorem dX6_sign_12 : decode cX6_sign 12 = .ok (.iload_n 1, 1) := by decide +kernel
theorem dX6_sign_13 : decode cX6_sign 13 = .ok (.if_icmp .eq 13, 3) := by decide +kernel
theorem dX6_sign_16 : decode cX6_sign 16 = .ok (.aload_n 0, 1) := by decide +kernel
theorem dX6_sign_17 : decode cX6_sign 17 = .ok (.iconst 1, 1) := by decide +kernel
theorem dX6_sign_18 : decode cX6_sign 18 = .ok (.aload_n 0, 1) := by decide +kernel
theorem dX6_sign_19 : decode cX6_sign 19 = .ok (.getfield 141, 3) := by decide +kernel
theorem dX6_sign_22 : decode cX6_sign 22 = .ok (.invokevirtual 162, 3) := by decide +kernel
theorem dX6_sign_25 : decode cX6_sign 25 = .ok (.ireturn, 1) := by decide +kernel
theorem dX6_sign_26 : decode cX6_sign 26 = .ok (.aload_n 0, 1) := by decide +kernel
theorem dX6_sign_27 : decode cX6_sign 27 = .ok (.invokevirtual 166, 3) := by decide +kernel
theorem dX6_sign_30 : decode cX6_sign 30 = .ok (.iconst 1, 1) := by decide +kernel
theorem dX6_sign_31 : decode cX6_sign 31 = .ok (.ireturn, 1) := by decide +kernel
theorem dX6_number_0 : decode cX6_number 0 = .ok (.aload_n 0, 1) := by decide +kernel
theorem dX6_number_1 : decode cX6_number 1 = .ok (.getfield 144, 3) := by decide +kernel
theorem dX6_number_4 : decode cX6_number 4 = .ok (.iconst 3, 1) := by decide +kernel
theorem dX6_number_5 : decode cX6_number 5 = .ok (.if_icmp .eq 13, 3) := by decide +kernel
theorem dX6_number_8 : decode cX6_number 8 = .ok (.aload_n 0, 1) := by decide +kernel
theorem dX6_number_9 : decode cX6_number 9 = .ok (.iconst 1, 1) := by decide +kernel
theorem dX6_number_10 : decode cX6_number 10 = .ok (.aload_n 0, 1) := by decide +kernel
theorem dX6_number_11 : decode cX6_number 11 = .ok (.getfield 141, 3) := by decide +kernel
theorem dX6_number_14 : decode cX6_number 14 = .ok (.invokevirtual 162, 3) := by decide +kernel
theorem dX6_number_17 : decode cX6_number 17 = .ok (.ireturn, 1) := by decide +kernel
theorem dX6_number_18 : decode cX6_number 18 = .ok (.aload_n 0, 1) := by decide +kernel
theorem dX6_number_19 : decode cX6_number 19 = .ok (.getfield 155, 3) := by decide +kernel
theorem dX6_number_22 : decode cX6_number 22 = .ok (.iload_n 1, 1) := by decide +kernel
theorem dX6_number_23 : decode cX6_number 23 = .ok (.if_icmp .lt 11, 3) := by decide +kernel
theorem dX6_number_26 : decode cX6_number 26 = .ok (.aload_n 0, 1) := by decide +kernel
theorem dX6_number_27 : decode cX6_number 27 = .ok (.getfield 155, 3) := by decide +kernel
theorem dX6_number_30 : decode cX6_number 30 = .ok (.iload_n 2, 1) := by decide +kernel
theorem dX6_number_31 : decode cX6_number 31 = .ok (.if_icmp .le 13, 3) := by decide +kernel
theorem dX6_number_34 : decode cX6_number 34 = .ok (.aload_n 0, 1) := by decide +kernel
theorem dX6_number_35 : decode cX6_number 35 = .ok (.iconst 2, 1) := by decide +kernel
theorem dX6_number_36 : decode cX6_number 36 = .ok (.aload_n 0, 1) := by decide +kernel
theorem dX6_number_37 : decode cX6_number 37 = .ok (.getfield 141, 3) := by decide +kernel
theorem dX6_number_40 : decode cX6_number 40 = .ok (.invokevirtual 162, 3) := by decide +kernel
theorem dX6_number_43 : decode cX6_number 43 = .ok (.ireturn, 1) := by decide +kernel
theorem dX6_number_44 : decode cX6_number 44 = .ok (.aload_n 0, 1) := by decide +kernel
theorem dX6_number_45 : decode cX6_number 45 = .ok (.aload_n 0, 1) := by decide +kernel
theorem dX6_number_46 : decode cX6_number 46 = .ok (.getfield 155, 3) := by decide +kernel
theorem dX6_number_49 : decode cX6_number 49 = .ok (.putfield 169, 3) := by decide +kernel
theorem dX6_number_52 : decode cX6_number 52 = .ok (.aload_n 0, 1) := by decide +kernel
theorem dX6_number_53 : decode cX6_number 53 = .ok (.invokevirtual 166, 3) := by decide +kernel
theorem dX6_number_56 : decode cX6_number 56 = .ok (.iconst 1, 1) := by decide +kernel
theorem dX6_number_57 : decode cX6_number 57 = .ok (.ireturn, 1) := by decide +kernel
theorem dX6_shots_0 : decode cX6_shots 0 = .ok (.aload_n 0, 1) := by decide +kernel
theorem dX6_shots_1 : decode cX6_shots 1 = .ok (.getfield 16, 3) := by decide +kernel
theorem dX6_shots_4 : decode cX6_shots 4 = .ok (.iload_n 1, 1) := by decide +kernel
theorem dX6_shots_5 : decode cX6_shots 5 = .ok (.iconst 0, 1) := by decide +kernel
theorem dX6_shots_6 : decode cX6_shots 6 = .ok (.iastore, 1) := by decide +kernel
theorem dX6_shots_7 : decode cX6_shots 7 = .ok (.iconst 0, 1) := by decide +kernel
theorem dX6_shots_8 : decode cX6_shots 8 = .ok (.istore_n 2, 1) := by decide +kernel
theorem dX6_shots_9 : decode cX6_shots 9 = .ok (.iconst 1, 1) := by decide +kernel
theorem dX6_shots_10 : decode cX6_shots 10 = .ok (.istore_n 3, 1) := by decide +kernel
theorem dX6_shots_11 : decode cX6_shots 11 = .ok (.iload_n 3, 1) := by decide +kernel
theorem dX6_shots_12 : decode cX6_shots 12 = .ok (.ifCond .eq 117, 3) := by decide +kernel
theorem dX6_shots_15 : decode cX6_shots 15 = .ok (.aload_n 0, 1) := by decide +kernel
theorem dX6_shots_16 : decode cX6_shots 16 = .ok (.getfield 144, 3) := by decide +kernel
theorem dX6_shots_19 : decode cX6_shots 19 = .ok (.iconst 3, 1) := by decide +kernel
theorem dX6_shots_20 : decode cX6_shots 20 = .ok (.if_icmp .eq 13, 3) := by decide +kernel
theorem dX6_shots_23 : decode cX6_shots 23 = .ok (.aload_n 0, 1) := by decide +kernel
theorem dX6_shots_24 : decode cX6_shots 24 = .ok (.iconst 1, 1) := by decide +kernel
theorem dX6_shots_25 : decode cX6_shots 25 = .ok (.aload_n 0, 1) := by decide +kernel
theorem dX6_shots_26 : decode cX6_shots 26 = .ok (.getfield 141, 3) := by decide +kernel
theorem dX6_shots_29 : decode cX6_shots 29 = .ok (.invokevirtual 162, 3) := by decide +kernel
theorem dX6_shots_32 : decode cX6_shots 32 = .ok (.ireturn, 1) := by decide +kernel
theorem dX6_shots_33 : decode cX6_shots 33 = .ok (.aload_n 0, 1) := by decide +kernel
theorem dX6_shots_34 : decode cX6_shots 34 = .ok (.getfield 16, 3) := by decide +kernel
theorem dX6_shots_37 : decode cX6_shots 37 = .ok (.iload_n 1, 1) := by decide +kernel
theorem dX6_shots_38 : decode cX6_shots 38 = .ok (.iaload, 1) := by decide +kernel
theorem dX6_shots_39 : decode cX6_shots 39 = .ok (.iconst 4, 1) := by decide +kernel
theorem dX6_shots_40 : decode cX6_shots 40 = .ok (.if_icmp .eq 24, 3) := by decide +kernel
theorem dX6_shots_43 : decode cX6_shots 43 = .ok (.aload_n 0, 1) := by decide +kernel
theorem dX6_shots_44 : decode cX6_shots 44 = .ok (.getfield 155, 3) := by decide +kernel
theorem dX6_shots_47 : decode cX6_shots 47 = .ok (.iload_n 2, 1) := by decide +kernel
theorem dX6_shots_48 : decode cX6_shots 48 = .ok (.if_icmp .le 16, 3) := by decide +kernel
theorem dX6_shots_51 : decode cX6_shots 51 = .ok (.aload_n 0, 1) := by decide +kernel
theorem dX6_shots_52 : decode cX6_shots 52 = .ok (.getfield 155, 3) := by decide +kernel
theorem dX6_shots_55 : decode cX6_shots 55 = .ok (.aload_n 0, 1) := by decide +kernel
theorem dX6_shots_56 : decode cX6_shots 56 = .ok (.getfield 13, 3) := by decide +kernel
theorem dX6_shots_59 : decode cX6_shots 59 = .ok (.iload_n 1, 1) := by decide +kernel
theorem dX6_shots_60 : decode cX6_shots 60 = .ok (.iaload, 1) := by decide +kernel
theorem dX6_shots_61 : decode cX6_shots 61 = .ok (.if_icmp .lt 13, 3) := by decide +kernel
