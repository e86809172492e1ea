theorem dL_stands_272 : decode cL_stands 272 = .ok (.ifCond .ge 13, 3) := by decide +kernel
theorem dL_stands_275 : decode cL_stands 275 = .ok (.aload_n 0, 1) := by decide +kernel
theorem dL_stands_276 : decode cL_stands 276 = .ok (.iload 8, 2) := by decide +kernel
theorem dL_stands_278 : decode cL_stands 278 = .ok (.iconst 5, 1) := by decide +kernel
theorem dL_stands_279 : decode cL_stands 279 = .ok (.invokevirtual 135, 3) := by decide +kernel
theorem dL_stands_282 : decode cL_stands 282 = .ok (.ifCond .ne 121, 3) := by decide +kernel
theorem dL_stands_285 : decode cL_stands 285 = .ok (.iload 10, 2) := by decide +kernel
theorem dL_stands_287 : decode cL_stands 287 = .ok (.iload 8, 2) := by decide +kernel
theorem dL_stands_289 : decode cL_stands 289 = .ok (.if_icmp .eq 114, 3) := by decide +kernel
theorem dL_stands_292 : decode cL_stands 292 = .ok (.iload 9, 2) := by decide +kernel
theorem dL_stands_294 : decode cL_stands 294 = .ok (.iconst 3, 1) := by decide +kernel
theorem dL_stands_295 : decode cL_stands 295 = .ok (.if_icmp .ne 13, 3) := by decide +kernel
theorem dL_stands_298 : decode cL_stands 298 = .ok (.aload_n 0, 1) := by decide +kernel
theorem dL_stands_299 : decode cL_stands 299 = .ok (.iload 8, 2) := by decide +kernel
theorem dL_stands_301 : decode cL_stands 301 = .ok (.iconst 5, 1) := by decide +kernel
theorem dL_stands_302 : decode cL_stands 302 = .ok (.invokevirtual 135, 3) := by decide +kernel
theorem dL_stands_305 : decode cL_stands 305 = .ok (.ifCond .le 98, 3) := by decide +kernel
theorem dL_stands_308 : decode cL_stands 308 = .ok (.aload_n 0, 1) := by decide +kernel
theorem dL_stands_309 : decode cL_stands 309 = .ok (.iload 8, 2) := by decide +kernel
theorem dL_stands_311 : decode cL_stands 311 = .ok (.invokevirtual 157, 3) := by decide +kernel
theorem dL_stands_314 : decode cL_stands 314 = .ok (.invokestatic 163, 3) := by decide +kernel
theorem dL_stands_317 : decode cL_stands 317 = .ok (.aload_n 0, 1) := by decide +kernel
theorem dL_stands_318 : decode cL_stands 318 = .ok (.iload 8, 2) := by decide +kernel
theorem dL_stands_320 : decode cL_stands 320 = .ok (.iconst 4, 1) := by decide +kernel
theorem dL_stands_321 : decode cL_stands 321 = .ok (.invokevirtual 154, 3) := by decide +kernel
theorem dL_stands_324 : decode cL_stands 324 = .ok (.if_icmp .ne 79, 3) := by decide +kernel
theorem dL_stands_327 : decode cL_stands 327 = .ok (.aload_n 0, 1) := by decide +kernel
theorem dL_stands_328 : decode cL_stands 328 = .ok (.iload 8, 2) := by decide +kernel
theorem dL_stands_330 : decode cL_stands 330 = .ok (.iconst 1, 1) := by decide +kernel
theorem dL_stands_331 : decode cL_stands 331 = .ok (.invokevirtual 154, 3) := by decide +kernel
theorem dL_stands_334 : decode cL_stands 334 = .ok (.ifCond .ne 21, 3) := by decide +kernel
theorem dL_stands_337 : decode cL_stands 337 = .ok (.aload_n 0, 1) := by decide +kernel
theorem dL_stands_338 : decode cL_stands 338 = .ok (.iload 8, 2) := by decide +kernel
theorem dL_stands_340 : decode cL_stands 340 = .ok (.iconst 2, 1) := by decide +kernel
theorem dL_stands_341 : decode cL_stands 341 = .ok (.invokevirtual 154, 3) := by decide +kernel
theorem dL_stands_344 : decode cL_stands 344 = .ok (.aload_n 0, 1) := by decide +kernel
theorem dL_stands_345 : decode cL_stands 345 = .ok (.iconst 0, 1) := by decide +kernel
theorem dL_stands_346 : decode cL_stands 346 = .ok (.invokevirtual 40, 3) := by decide +kernel
theorem dL_stands_349 : decode cL_stands 349 = .ok (.if_icmp .ne 54, 3) := by decide +kernel
theorem dL_stands_352 : decode cL_stands 352 = .ok (.goto 36, 3) := by decide +kernel
theorem dL_stands_355 : decode cL_stands 355 = .ok (.iload 11, 2) := by decide +kernel
theorem dL_stands_357 : decode cL_stands 357 = .ok (.ifCond .lt 46, 3) := by decide +kernel
theorem dL_stands_360 : decode cL_stands 360 = .ok (.aload_n 0, 1) := by decide +kernel
theorem dL_stands_361 : decode cL_stands 361 = .ok (.iload 11, 2) := by decide +kernel
theorem dL_stands_363 : decode cL_stands 363 = .ok (.iconst 0, 1) := by decide +kernel
theorem dL_stands_364 : decode cL_stands 364 = .ok (.invokevirtual 168, 3) := by decide +kernel
theorem dL_stands_367 : decode cL_stands 367 = .ok (.iconst 1, 1) := by decide +kernel
theorem dL_stands_368 : decode cL_stands 368 = .ok (.if_icmp .ne 35, 3) := by decide +kernel
theorem dL_stands_371 : decode cL_stands 371 = .ok (.aload_n 0, 1) := by decide +kernel
theorem dL_stands_372 : decode cL_stands 372 = .ok (.iload 8, 2) := by decide +kernel
theorem dL_stands_374 : decode cL_stands 374 = .ok (.iconst 2, 1) := by decide +kernel
theorem dL_stands_375 : decode cL_stands 375 = .ok (.invokevirtual 154, 3) := by decide +kernel
theorem dL_stands_378 : decode cL_stands 378 = .ok (.aload_n 0, 1) := by decide +kernel
theorem dL_stands_379 : decode cL_stands 379 = .ok (.iload 11, 2) := by decide +kernel
theorem dL_stands_381 : decode cL_stands 381 = .ok (.iconst 1, 1) := by decide +kernel
theorem dL_stands_382 : decode cL_stands 382 = .ok (.invokevirtual 168, 3) := by decide +kernel
theorem dL_stands_385 : decode cL_stands 385 = .ok (.if_icmp .ne 18, 3) := by decide +kernel
theorem dL_stands_388 : decode cL_stands 388 = .ok (.aload_n 0, 1) := by decide +kernel
theorem dL_stands_389 : decode cL_stands 389 = .ok (.iload 8, 2) := by decide +kernel
theorem dL_stands_391 : decode cL_stands 391 = .ok (.iconst 3, 1) := by decide +kernel
theorem dL_stands_392 : decode cL_stands 392 = .ok (.invokevirtual 154, 3) := by decide +kernel
theorem dL_stands_395 : decode cL_stands 395 = .ok (.iconst 3, 1) := by decide +kernel
theorem dL_stands_396 : decode cL_stands 396 = .ok (.if_icmp .gt 7, 3) := by decide +kernel
theorem dL_stands_399 : decode cL_stands 399 = .ok (.iconst 1, 1) := by decide +kernel
theorem dL_stands_400 : decode cL_stands 400 = .ok (.goto 4, 3) := by decide +kernel
theorem dL_stands_403 : decode cL_stands 403 = .ok (.iconst 0, 1) := by decide +kernel
theorem dL_stands_404 : decode cL_stands 404 = .ok (.istore 7, 2) := by decide +kernel
theorem dL_stands_406 : decode cL_stands 406 = .ok (.iinc 8 1, 3) := by decide +kernel
theorem dL_stands_409 : decode cL_stands 409 = .ok (.goto (-381), 3) := by decide +kernel
theorem dL_stands_412 : decode cL_stands 412 = .ok (.iconst 0, 1) := by decide +kernel
theorem dL_stands_413 : decode cL_stands 413 = .ok (.istore 8, 2) := by decide +kernel
theorem dL_stands_415 : decode cL_stands 415 = .ok (.iconst 0, 1) := by decide +kernel
theorem dL_stands_416 : decode cL_stands 416 = .ok (.istore 9, 2) := by decide +kernel
theorem dL_stands_418 : decode cL_stands 418 = .ok (.iconst 0, 1) := by decide +kernel
theorem dL_stands_419 : decode cL_stands 419 = .ok (.istore 10, 2) := by decide +kernel
theorem dL_stands_421 : decode cL_stands 421 = .ok (.iload 10, 2) := by decide +kernel
theorem dL_stands_423 : decode cL_stands 423 = .ok (.aload_n 0, 1) := by decide +kernel
theorem dL_stands_424 : decode cL_stands 424 = .ok (.iconst 3, 1) := by decide +kernel
theorem dL_stands_425 : decode cL_stands 425 = .ok (.invokevirtual 40, 3) := by decide +kernel
theorem dL_stands_428 : decode cL_stands 428 = .ok (.if_icmp .ge 161, 3) := by decide +kernel
theorem dL_stands_431 : decode cL_stands 431 = .ok (.iload 7, 2) := by decide +kernel
theorem dL_stands_433 : decode cL_stands 433 = .ok (.ifCond .eq 156, 3) := by decide +kernel
theorem dL_stands_436 : decode cL_stands 436 = .ok (.iload 8, 2) := by decide +kernel
theorem dL_stands_438 : decode cL_stands 438 = .ok (.aload_n 0, 1) := by decide +kernel
theorem dL_stands_439 : decode cL_stands 439 = .ok (.iload 10, 2) := by decide +kernel
theorem dL_stands_441 : decode cL_stands 441 = .ok (.iconst 0, 1) := by decide +kernel
theorem dL_stands_442 : decode cL_stands 442 = .ok (.invokevirtual 168, 3) := by decide +kernel
theorem dL_stands_445 : decode cL_stands 445 = .ok (.iadd, 1) := by decide +kernel
theorem dL_stands_446 : decode cL_stands 446 = .ok (.istore 8, 2) := by decide +kernel
theorem dL_stands_448 : decode cL_stands 448 = .ok (.iload 9, 2) := by decide +kernel
theorem dL_stands_450 : decode cL_stands 450 = .ok (.aload_n 0, 1) := by decide +kernel
theorem dL_stands_451 : decode cL_stands 451 = .ok (.iload 10, 2) := by decide +kernel
theorem dL_stands_453 : decode cL_stands 453 = .ok (.iconst 2, 1) := by decide +kernel
theorem dL_stands_454 : decode cL_stands 454 = .ok (.invokevirtual 168, 3) := by decide +kernel
theorem dL_stands_457 : decode cL_stands 457 = .ok (.iadd, 1) := by decide +kernel
theorem dL_stands_458 : decode cL_stands 458 = .ok (.istore 9, 2) := by decide +kernel
theorem dL_stands_460 : decode cL_stands 460 = .ok (.aload_n 0, 1) := by decide +kernel
theorem dL_stands_461 : decode cL_stands 461 = .ok (.iload 10, 2) := by decide +kernel
theorem dL_stands_463 : decode cL_stands 463 = .ok (.iconst 0, 1) := by decide +kernel
theorem dL_stands_464 : decode cL_stands 464 = .ok (.invokevirtual 168, 3) := by decide +kernel
theorem dL_stands_467 : decode cL_stands 467 = .ok (.iconst 1, 1) := by decide +kernel
theorem dL_stands_468 : decode cL_stands 468 = .ok (.if_icmp .ne 7, 3) := by decide +kernel
theorem dL_stands_471 : decode cL_stands 471 = .ok (.iconst 1, 1) := by decide +kernel
theorem dL_stands_472 : decode cL_stands 472 = .ok (.goto 4, 3) := by decide +kernel
theorem dL_stands_475 : decode cL_stands 475 = .ok (.iconst 0, 1) := by decide +kernel
theorem dL_stands_476 : decode cL_stands 476 = .ok (.aload_n 0, 1) := by decide +kernel
theorem dL_stands_477 : decode cL_stands 477 = .ok (.iload 10, 2) := by decide +kernel
theorem dL_stands_479 : decode cL_stands 479 = .ok (.iconst 1, 1) := by decide +kernel
theorem dL_stands_480 : decode cL_stands 480 = .ok (.invokevirtual 168, 3) := by decide +kernel
theorem dL_stands_483 : decode cL_stands 483 = .ok (.aload_n 0, 1) := by decide +kernel
theorem dL_stands_484 : decode cL_stands 484 = .ok (.iconst 0, 1) := by decide +kernel
theorem dL_stands_485 : decode cL_stands 485 = .ok (.invokevirtual 40, 3) := by decide +kernel
theorem dL_stands_488 : decode cL_stands 488 = .ok (.if_icmp .le 7, 3) := by decide +kernel
theorem dL_stands_491 : decode cL_stands 491 = .ok (.iconst 1, 1) := by decide +kernel
theorem dL_stands_492 : decode cL_stands 492 = .ok (.goto 4, 3) := by decide +kernel
theorem dL_stands_495 : decode cL_stands 495 = .ok (.iconst 0, 1) := by decide +kernel
theorem dL_stands_496 : decode cL_stands 496 = .ok (.if_icmp .ne 84, 3) := by decide +kernel
theorem dL_stands_499 : decode cL_stands 499 = .ok (.aload_n 0, 1) := by decide +kernel
theorem dL_stands_500 : decode cL_stands 500 = .ok (.iload 10, 2) := by decide +kernel
theorem dL_stands_502 : decode cL_stands 502 = .ok (.iconst 0, 1) := by decide +kernel
theorem dL_stands_503 : decode cL_stands 503 = .ok (.invokevirtual 168, 3) := by decide +kernel
theorem dL_stands_506 : decode cL_stands 506 = .ok (.iconst 1, 1) := by decide +kernel
theorem dL_stands_507 : decode cL_stands 507 = .ok (.if_icmp .eq 13, 3) := by decide +kernel
theorem dL_stands_510 : decode cL_stands 510 = .ok (.aload_n 0, 1) := by decide +kernel
theorem dL_stands_511 : decode cL_stands 511 = .ok (.iload 10, 2) := by decide +kernel
theorem dL_stands_513 : decode cL_stands 513 = .ok (.iconst 2, 1) := by decide +kernel
theorem dL_stands_514 : decode cL_stands 514 = .ok (.invokevirtual 168, 3) := by decide +kernel
theorem dL_stands_517 : decode cL_stands 517 = .ok (.ifCond .ne 63, 3) := by decide +kernel
theorem dL_stands_520 : decode cL_stands 520 = .ok (.aload_n 0, 1) := by decide +kernel
theorem dL_stands_521 : decode cL_stands 521 = .ok (.iload 10, 2) := by decide +kernel
theorem dL_stands_523 : decode cL_stands 523 = .ok (.iconst 3, 1) := by decide +kernel
theorem dL_stands_524 : decode cL_stands 524 = .ok (.invokevirtual 168, 3) := by decide +kernel
theorem dL_stands_527 : decode cL_stands 527 = .ok (.aload_n 0, 1) := by decide +kernel
theorem dL_stands_528 : decode cL_stands 528 = .ok (.iload 10, 2) := by decide +kernel
theorem dL_stands_530 : decode cL_stands 530 = .ok (.iconst 2, 1) := by decide +kernel
theorem dL_stands_531 : decode cL_stands 531 = .ok (.invokevirtual 168, 3) := by decide +kernel
theorem dL_stands_534 : decode cL_stands 534 = .ok (.if_icmp .lt 46, 3) := by decide +kernel
theorem dL_stands_537 : decode cL_stands 537 = .ok (.aload_n 0, 1) := by decide +kernel
theorem dL_stands_538 : decode cL_stands 538 = .ok (.iload 10, 2) := by decide +kernel
theorem dL_stands_540 : decode cL_stands 540 = .ok (.iconst 0, 1) := by decide +kernel
theorem dL_stands_541 : decode cL_stands 541 = .ok (.invokevirtual 168, 3) := by decide +kernel
theorem dL_stands_544 : decode cL_stands 544 = .ok (.iconst 1, 1) := by decide +kernel
theorem dL_stands_545 : decode cL_stands 545 = .ok (.if_icmp .ne 20, 3) := by decide +kernel
theorem dL_stands_548 : decode cL_stands 548 = .ok (.aload_n 0, 1) := by decide +kernel
theorem dL_stands_549 : decode cL_stands 549 = .ok (.iload 10, 2) := by decide +kernel
theorem dL_stands_551 : decode cL_stands 551 = .ok (.invokevirtual 171, 3) := by decide +kernel
theorem dL_stands_554 : decode cL_stands 554 = .ok (.aload_n 0, 1) := by decide +kernel
theorem dL_stands_555 : decode cL_stands 555 = .ok (.iconst 0, 1) := by decide +kernel
theorem dL_stands_556 : decode cL_stands 556 = .ok (.invokevirtual 174, 3) := by decide +kernel
theorem dL_stands_559 : decode cL_stands 559 = .ok (.if_icmp .lt 21, 3) := by decide +kernel
theorem dL_stands_562 : decode cL_stands 562 = .ok (.goto 14, 3) := by decide +kernel
theorem dL_stands_565 : decode cL_stands 565 = .ok (.aload_n 0, 1) := by decide +kernel
theorem dL_stands_566 : decode cL_stands 566 = .ok (.iload 10, 2) := by decide +kernel
theorem dL_stands_568 : decode cL_stands 568 = .ok (.invokevirtual 171, 3) := by decide +kernel
theorem dL_stands_571 : decode cL_stands 571 = .ok (.bipush (-4), 2) := by decide +kernel
theorem dL_stands_573 : decode cL_stands 573 = .ok (.if_icmp .ne 7, 3) := by decide +kernel
theorem dL_stands_576 : decode cL_stands 576 = .ok (.iconst 1, 1) := by decide +kernel
theorem dL_stands_577 : decode cL_stands 577 = .ok (.goto 4, 3) := by decide +kernel
theorem dL_stands_580 : decode cL_stands 580 = .ok (.iconst 0, 1) := by decide +kernel
theorem dL_stands_581 : decode cL_stands 581 = .ok (.istore 7, 2) := by decide +kernel
theorem dL_stands_583 : decode cL_stands 583 = .ok (.iinc 10 1, 3) := by decide +kernel
theorem dL_stands_586 : decode cL_stands 586 = .ok (.goto (-165), 3) := by decide +kernel
theorem dL_stands_589 : decode cL_stands 589 = .ok (.iconst 0, 1) := by decide +kernel
theorem dL_stands_590 : decode cL_stands 590 = .ok (.istore 10, 2) := by decide +kernel
theorem dL_stands_592 : decode cL_stands 592 = .ok (.iconst 0, 1) := by decide +kernel
theorem dL_stands_593 : decode cL_stands 593 = .ok (.istore 11, 2) := by decide +kernel
theorem dL_stands_595 : decode cL_stands 595 = .ok (.iload 11, 2) := by decide +kernel
theorem dL_stands_597 : decode cL_stands 597 = .ok (.iconst 4, 1) := by decide +kernel
theorem dL_stands_598 : decode cL_stands 598 = .ok (.if_icmp .ge 108, 3) := by decide +kernel
theorem dL_stands_601 : decode cL_stands 601 = .ok (.iload 7, 2) := by decide +kernel
theorem dL_stands_603 : decode cL_stands 603 = .ok (.ifCond .eq 103, 3) := by decide +kernel
theorem dL_stands_606 : decode cL_stands 606 = .ok (.iload 10, 2) := by decide +kernel
theorem dL_stands_608 : decode cL_stands 608 = .ok (.aload_n 0, 1) := by decide +kernel
theorem dL_stands_609 : decode cL_stands 609 = .ok (.iload 11, 2) := by decide +kernel
theorem dL_stands_611 : decode cL_stands 611 = .ok (.invokevirtual 177, 3) := by decide +kernel
theorem dL_stands_614 : decode cL_stands 614 = .ok (.iadd, 1) := by decide +kernel
theorem dL_stands_615 : decode cL_stands 615 = .ok (.istore 10, 2) := by decide +kernel
theorem dL_stands_617 : decode cL_stands 617 = .ok (.aload_n 0, 1) := by decide +kernel
theorem dL_stands_618 : decode cL_stands 618 = .ok (.iload 11, 2) := by decide +kernel
theorem dL_stands_620 : decode cL_stands 620 = .ok (.invokevirtual 177, 3) := by decide +kernel
theorem dL_stands_623 : decode cL_stands 623 = .ok (.aload_n 0, 1) := by decide +kernel
theorem dL_stands_624 : decode cL_stands 624 = .ok (.iload 11, 2) := by decide +kernel
theorem dL_stands_626 : decode cL_stands 626 = .ok (.invokevirtual 160, 3) := by decide +kernel
theorem dL_stands_629 : decode cL_stands 629 = .ok (.invokestatic 163, 3) := by decide +kernel
theorem dL_stands_632 : decode cL_stands 632 = .ok (.if_icmp .ne 65, 3) := by decide +kernel
theorem dL_stands_635 : decode cL_stands 635 = .ok (.aload_n 0, 1) := by decide +kernel
theorem dL_stands_636 : decode cL_stands 636 = .ok (.iload 11, 2) := by decide +kernel
theorem dL_stands_638 : decode cL_stands 638 = .ok (.invokevirtual 180, 3) := by decide +kernel
theorem dL_stands_641 : decode cL_stands 641 = .ok (.aload_n 0, 1) := by decide +kernel
theorem dL_stands_642 : decode cL_stands 642 = .ok (.bipush 7, 2) := by decide +kernel
theorem dL_stands_644 : decode cL_stands 644 = .ok (.invokevirtual 40, 3) := by decide +kernel
theorem dL_stands_647 : decode cL_stands 647 = .ok (.ifCond .ne 7, 3) := by decide +kernel
theorem dL_stands_650 : decode cL_stands 650 = .ok (.fconst 0, 1) := by decide +kernel
theorem dL_stands_651 : decode cL_stands 651 = .ok (.goto 18, 3) := by decide +kernel
theorem dL_stands_654 : decode cL_stands 654 = .ok (.aload_n 0, 1) := by decide +kernel
theorem dL_stands_655 : decode cL_stands 655 = .ok (.iload 11, 2) := by decide +kernel
theorem dL_stands_657 : decode cL_stands 657 = .ok (.invokevirtual 177, 3) := by decide +kernel
theorem dL_stands_660 : decode cL_stands 660 = .ok (.i2f, 1) := by decide +kernel
theorem dL_stands_661 : decode cL_stands 661 = .ok (.aload_n 0, 1) := by decide +kernel
theorem dL_stands_662 : decode cL_stands 662 = .ok (.bipush 7, 2) := by decide +kernel
theorem dL_stands_664 : decode cL_stands 664 = .ok (.invokevirtual 40, 3) := by decide +kernel
theorem dL_stands_667 : decode cL_stands 667 = .ok (.i2f, 1) := by decide +kernel
theorem dL_stands_668 : decode cL_stands 668 = .ok (.fdiv, 1) := by decide +kernel
theorem dL_stands_669 : decode cL_stands 669 = .ok (.fcmp .l, 1) := by decide +kernel
theorem dL_stands_670 : decode cL_stands 670 = .ok (.ifCond .ne 27, 3) := by decide +kernel
theorem dL_stands_673 : decode cL_stands 673 = .ok (.iload 11, 2) := by decide +kernel
theorem dL_stands_675 : decode cL_stands 675 = .ok (.aload_n 0, 1) := by decide +kernel
theorem dL_stands_676 : decode cL_stands 676 = .ok (.bipush 9, 2) := by decide +kernel
theorem dL_stands_678 : decode cL_stands 678 = .ok (.invokevirtual 40, 3) := by decide +kernel
theorem dL_stands_681 : decode cL_stands 681 = .ok (.if_icmp .lt 12, 3) := by decide +kernel
theorem dL_stands_684 : decode cL_stands 684 = .ok (.aload_n 0, 1) := by decide +kernel
theorem dL_stands_685 : decode cL_stands 685 = .ok (.iload 11, 2) := by decide +kernel
theorem dL_stands_687 : decode cL_stands 687 = .ok (.invokevirtual 177, 3) := by decide +kernel
theorem dL_stands_690 : decode cL_stands 690 = .ok (.ifCond .ne 7, 3) := by decide +kernel
theorem dL_stands_693 : decode cL_stands 693 = .ok (.iconst 1, 1) := by decide +kernel
theorem dL_stands_694 : decode cL_stands 694 = .ok (.goto 4, 3) := by decide +kernel
theorem dL_stands_697 : decode cL_stands 697 = .ok (.iconst 0, 1) := by decide +kernel
theorem dL_stands_698 : decode cL_stands 698 = .ok (.istore 7, 2) := by decide +kernel
theorem dL_stands_700 : decode cL_stands 700 = .ok (.iinc 11 1, 3) := by decide +kernel
theorem dL_stands_703 : decode cL_stands 703 = .ok (.goto (-108), 3) := by decide +kernel
theorem dL_stands_706 : decode cL_stands 706 = .ok (.aload_n 0, 1) := by decide +kernel
theorem dL_stands_707 : decode cL_stands 707 = .ok (.bipush 6, 2) := by decide +kernel
theorem dL_stands_709 : decode cL_stands 709 = .ok (.invokevirtual 184, 3) := by decide +kernel
theorem dL_stands_712 : decode cL_stands 712 = .ok (.aload_n 0, 1) := by decide +kernel
theorem dL_stands_713 : decode cL_stands 713 = .ok (.iconst 1, 1) := by decide +kernel
theorem dL_stands_714 : decode cL_stands 714 = .ok (.aload_n 0, 1) := by decide +kernel
theorem dL_stands_715 : decode cL_stands 715 = .ok (.iconst 1, 1) := by decide +kernel
theorem dL_stands_716 : decode cL_stands 716 = .ok (.invokevirtual 40, 3) := by decide +kernel
theorem dL_stands_719 : decode cL_stands 719 = .ok (.iadd, 1) := by decide +kernel
theorem dL_stands_720 : decode cL_stands 720 = .ok (.invokevirtual 184, 3) := by decide +kernel
theorem dL_stands_723 : decode cL_stands 723 = .ok (.iload_n 1, 1) := by decide +kernel
theorem dL_stands_724 : decode cL_stands 724 = .ok (.imul, 1) := by decide +kernel
theorem dL_stands_725 : decode cL_stands 725 = .ok (.bipush 99, 2) := by decide +kernel
theorem dL_stands_727 : decode cL_stands 727 = .ok (.iadd, 1) := by decide +kernel
theorem dL_stands_728 : decode cL_stands 728 = .ok (.bipush 100, 2) := by decide +kernel
theorem dL_stands_730 : decode cL_stands 730 = .ok (.idiv, 1) := by decide +kernel
theorem dL_stands_731 : decode cL_stands 731 = .ok (.aload_n 0, 1) := by decide +kernel
theorem dL_stands_732 : decode cL_stands 732 = .ok (.iconst 5, 1) := by decide +kernel
theorem dL_stands_733 : decode cL_stands 733 = .ok (.invokevirtual 184, 3) := by decide +kernel
theorem dL_stands_736 : decode cL_stands 736 = .ok (.iload 8, 2) := by decide +kernel
theorem dL_stands_738 : decode cL_stands 738 = .ok (.imul, 1) := by decide +kernel
theorem dL_stands_739 : decode cL_stands 739 = .ok (.isub, 1) := by decide +kernel
theorem dL_stands_740 : decode cL_stands 740 = .ok (.invokestatic 187, 3) := by decide +kernel
theorem dL_stands_743 : decode cL_stands 743 = .ok (.istore 11, 2) := by decide +kernel
theorem dL_stands_745 : decode cL_stands 745 = .ok (.iload 7, 2) := by decide +kernel
theorem dL_stands_747 : decode cL_stands 747 = .ok (.ifCond .eq 228, 3) := by decide +kernel
theorem dL_stands_750 : decode cL_stands 750 = .ok (.iload_n 2, 1) := by decide +kernel
theorem dL_stands_751 : decode cL_stands 751 = .ok (.aload_n 0, 1) := by decide +kernel
theorem dL_stands_752 : decode cL_stands 752 = .ok (.iconst 5, 1) := by decide +kernel
theorem dL_stands_753 : decode cL_stands 753 = .ok (.invokevirtual 40, 3) := by decide +kernel
theorem dL_stands_756 : decode cL_stands 756 = .ok (.if_icmp .ne 219, 3) := by decide +kernel
theorem dL_stands_759 : decode cL_stands 759 = .ok (.iload_n 2, 1) := by decide +kernel
theorem dL_stands_760 : decode cL_stands 760 = .ok (.iload 9, 2) := by decide +kernel
theorem dL_stands_762 : decode cL_stands 762 = .ok (.if_icmp .ne 213, 3) := by decide +kernel
theorem dL_stands_765 : decode cL_stands 765 = .ok (.iload 8, 2) := by decide +kernel
theorem dL_stands_767 : decode cL_stands 767 = .ok (.aload_n 0, 1) := by decide +kernel
theorem dL_stands_768 : decode cL_stands 768 = .ok (.iconst 4, 1) := by decide +kernel
theorem dL_stands_769 : decode cL_stands 769 = .ok (.invokevirtual 40, 3) := by decide +kernel
theorem dL_stands_772 : decode cL_stands 772 = .ok (.if_icmp .ne 203, 3) := by decide +kernel
theorem dL_stands_775 : decode cL_stands 775 = .ok (.iload 4, 2) := by decide +kernel
theorem dL_stands_777 : decode cL_stands 777 = .ok (.aload_n 0, 1) := by decide +kernel
theorem dL_stands_778 : decode cL_stands 778 = .ok (.bipush 7, 2) := by decide +kernel
theorem dL_stands_780 : decode cL_stands 780 = .ok (.invokevirtual 40, 3) := by decide +kernel
theorem dL_stands_783 : decode cL_stands 783 = .ok (.if_icmp .ne 192, 3) := by decide +kernel
theorem dL_stands_786 : decode cL_stands 786 = .ok (.iload 10, 2) := by decide +kernel
theorem dL_stands_788 : decode cL_stands 788 = .ok (.iload 4, 2) := by decide +kernel
theorem dL_stands_790 : decode cL_stands 790 = .ok (.if_icmp .ne 185, 3) := by decide +kernel
theorem dL_stands_793 : decode cL_stands 793 = .ok (.iload_n 3, 1) := by decide +kernel
theorem dL_stands_794 : decode cL_stands 794 = .ok (.aload_n 0, 1) := by decide +kernel
theorem dL_stands_795 : decode cL_stands 795 = .ok (.bipush 11, 2) := by decide +kernel
theorem dL_stands_797 : decode cL_stands 797 = .ok (.invokevirtual 40, 3) := by decide +kernel
theorem dL_stands_800 : decode cL_stands 800 = .ok (.if_icmp .ne 175, 3) := by decide +kernel
theorem dL_stands_803 : decode cL_stands 803 = .ok (.iload 5, 2) := by decide +kernel
theorem dL_stands_805 : decode cL_stands 805 = .ok (.aload_n 0, 1) := by decide +kernel
theorem dL_stands_806 : decode cL_stands 806 = .ok (.invokevirtual 192, 3) := by decide +kernel
theorem dL_stands_809 : decode cL_stands 809 = .ok (.if_icmp .ne 166, 3) := by decide +kernel
theorem dL_stands_812 : decode cL_stands 812 = .ok (.iload 5, 2) := by decide +kernel
theorem dL_stands_814 : decode cL_stands 814 = .ok (.invokestatic 163, 3) := by decide +kernel
theorem dL_stands_817 : decode cL_stands 817 = .ok (.aload_n 0, 1) := by decide +kernel
theorem dL_stands_818 : decode cL_stands 818 = .ok (.bipush 16, 2) := by decide +kernel
theorem dL_stands_820 : decode cL_stands 820 = .ok (.invokevirtual 40, 3) := by decide +kernel
theorem dL_stands_823 : decode cL_stands 823 = .ok (.if_icmp .ne 152, 3) := by decide +kernel
theorem dL_stands_826 : decode cL_stands 826 = .ok (.aload_n 0, 1) := by decide +kernel
theorem dL_stands_827 : decode cL_stands 827 = .ok (.bipush 15, 2) := by decide +kernel
theorem dL_stands_829 : decode cL_stands 829 = .ok (.invokevirtual 40, 3) := by decide +kernel
theorem dL_stands_832 : decode cL_stands 832 = .ok (.iload_n 1, 1) := by decide +kernel
theorem dL_stands_833 : decode cL_stands 833 = .ok (.iload_n 2, 1) := by decide +kernel
theorem dL_stands_834 : decode cL_stands 834 = .ok (.isub, 1) := by decide +kernel
theorem dL_stands_835 : decode cL_stands 835 = .ok (.if_icmp .ne 140, 3) := by decide +kernel
theorem dL_stands_838 : decode cL_stands 838 = .ok (.aload_n 0, 1) := by decide +kernel
theorem dL_stands_839 : decode cL_stands 839 = .ok (.iconst 0, 1) := by decide +kernel
theorem dL_stands_840 : decode cL_stands 840 = .ok (.invokevirtual 174, 3) := by decide +kernel
theorem dL_stands_843 : decode cL_stands 843 = .ok (.iload 11, 2) := by decide +kernel
theorem dL_stands_845 : decode cL_stands 845 = .ok (.if_icmp .ne 130, 3) := by decide +kernel
theorem dL_stands_848 : decode cL_stands 848 = .ok (.aload_n 0, 1) := by decide +kernel
theorem dL_stands_849 : decode cL_stands 849 = .ok (.bipush 8, 2) := by decide +kernel
theorem dL_stands_851 : decode cL_stands 851 = .ok (.invokevirtual 40, 3) := by decide +kernel
theorem dL_stands_854 : decode cL_stands 854 = .ok (.iconst 1, 1) := by decide +kernel
theorem dL_stands_855 : decode cL_stands 855 = .ok (.if_icmp .gt 14, 3) := by decide +kernel
theorem dL_stands_858 : decode cL_stands 858 = .ok (.aload_n 0, 1) := by decide +kernel
theorem dL_stands_859 : decode cL_stands 859 = .ok (.bipush 6, 2) := by decide +kernel
theorem dL_stands_861 : decode cL_stands 861 = .ok (.invokevirtual 40, 3) := by decide +kernel
theorem dL_stands_864 : decode cL_stands 864 = .ok (.iload 11, 2) := by decide +kernel
theorem dL_stands_866 : decode cL_stands 866 = .ok (.if_icmp .ne 109, 3) := by decide +kernel
theorem dL_stands_869 : decode cL_stands 869 = .ok (.aload_n 0, 1) := by decide +kernel
theorem dL_stands_870 : decode cL_stands 870 = .ok (.invokevirtual 195, 3) := by decide +kernel
theorem dL_stands_873 : decode cL_stands 873 = .ok (.aload_n 0, 1) := by decide +kernel
theorem dL_stands_874 : decode cL_stands 874 = .ok (.iconst 0, 1) := by decide +kernel
theorem dL_stands_875 : decode cL_stands 875 = .ok (.invokevirtual 40, 3) := by decide +kernel
theorem dL_stands_878 : decode cL_stands 878 = .ok (.ifCond .ne 7, 3) := by decide +kernel
theorem dL_stands_881 : decode cL_stands 881 = .ok (.dconst 0, 1) := by decide +kernel
theorem dL_stands_882 : decode cL_stands 882 = .ok (.goto 15, 3) := by decide +kernel
theorem dL_stands_885 : decode cL_stands 885 = .ok (.iload 6, 2) := by decide +kernel
theorem dL_stands_887 : decode cL_stands 887 = .ok (.i2d, 1) := by decide +kernel
theorem dL_stands_888 : decode cL_stands 888 = .ok (.aload_n 0, 1) := by decide +kernel
theorem dL_stands_889 : decode cL_stands 889 = .ok (.iconst 0, 1) := by decide +kernel
theorem dL_stands_890 : decode cL_stands 890 = .ok (.invokevirtual 40, 3) := by decide +kernel
theorem dL_stands_893 : decode cL_stands 893 = .ok (.iload_n 1, 1) := by decide +kernel
theorem dL_stands_894 : decode cL_stands 894 = .ok (.imul, 1) := by decide +kernel
theorem dL_stands_895 : decode cL_stands 895 = .ok (.i2d, 1) := by decide +kernel
theorem dL_stands_896 : decode cL_stands 896 = .ok (.ddiv, 1) := by decide +kernel
theorem dL_stands_897 : decode cL_stands 897 = .ok (.dcmp .l, 1) := by decide +kernel
theorem dL_stands_898 : decode cL_stands 898 = .ok (.ifCond .ne 77, 3) := by decide +kernel
theorem dL_stands_901 : decode cL_stands 901 = .ok (.aload_n 0, 1) := by decide +kernel
theorem dL_stands_902 : decode cL_stands 902 = .ok (.aload_n 0, 1) := by decide +kernel
theorem dL_stands_903 : decode cL_stands 903 = .ok (.bipush 8, 2) := by decide +kernel
theorem dL_stands_905 : decode cL_stands 905 = .ok (.invokevirtual 40, 3) := by decide +kernel
theorem dL_stands_908 : decode cL_stands 908 = .ok (.iconst 1, 1) := by decide +kernel
theorem dL_stands_909 : decode cL_stands 909 = .ok (.if_icmp .ne 10, 3) := by decide +kernel
theorem dL_stands_912 : decode cL_stands 912 = .ok (.aload_n 0, 1) := by decide +kernel
theorem dL_stands_913 : decode cL_stands 913 = .ok (.invokevirtual 199, 3) := by decide +kernel
theorem dL_stands_916 : decode cL_stands 916 = .ok (.goto 9, 3) := by decide +kernel
theorem dL_stands_919 : decode cL_stands 919 = .ok (.aload_n 0, 1) := by decide +kernel
theorem dL_stands_920 : decode cL_stands 920 = .ok (.bipush 10, 2) := by decide +kernel
theorem dL_stands_922 : decode cL_stands 922 = .ok (.invokevirtual 40, 3) := by decide +kernel
theorem dL_stands_925 : decode cL_stands 925 = .ok (.aload_n 0, 1) := by decide +kernel
theorem dL_stands_926 : decode cL_stands 926 = .ok (.bipush 6, 2) := by decide +kernel
theorem dL_stands_928 : decode cL_stands 928 = .ok (.invokevirtual 40, 3) := by decide +kernel
theorem dL_stands_931 : decode cL_stands 931 = .ok (.iconst 0, 1) := by decide +kernel
theorem dL_stands_932 : decode cL_stands 932 = .ok (.invokestatic 202, 3) := by decide +kernel
theorem dL_stands_935 : decode cL_stands 935 = .ok (.ifCond .eq 40, 3) := by decide +kernel
theorem dL_stands_938 : decode cL_stands 938 = .ok (.aload_n 0, 1) := by decide +kernel
theorem dL_stands_939 : decode cL_stands 939 = .ok (.aload_n 0, 1) := by decide +kernel
theorem dL_stands_940 : decode cL_stands 940 = .ok (.bipush 8, 2) := by decide +kernel
theorem dL_stands_942 : decode cL_stands 942 = .ok (.invokevirtual 40, 3) := by decide +kernel
theorem dL_stands_945 : decode cL_stands 945 = .ok (.ifCond .ne 8, 3) := by decide +kernel
theorem dL_stands_948 : decode cL_stands 948 = .ok (.bipush (-2), 2) := by decide +kernel
theorem dL_stands_950 : decode cL_stands 950 = .ok (.goto 7, 3) := by decide +kernel
theorem dL_stands_953 : decode cL_stands 953 = .ok (.aload_n 0, 1) := by decide +kernel
theorem dL_stands_954 : decode cL_stands 954 = .ok (.invokevirtual 206, 3) := by decide +kernel
theorem dL_stands_957 : decode cL_stands 957 = .ok (.aload_n 0, 1) := by decide +kernel
theorem dL_stands_958 : decode cL_stands 958 = .ok (.bipush 6, 2) := by decide +kernel
theorem dL_stands_960 : decode cL_stands 960 = .ok (.invokevirtual 40, 3) := by decide +kernel
theorem dL_stands_963 : decode cL_stands 963 = .ok (.iload 5, 2) := by decide +kernel
theorem dL_stands_965 : decode cL_stands 965 = .ok (.invokestatic 202, 3) := by decide +kernel
theorem dL_stands_968 : decode cL_stands 968 = .ok (.ifCond .eq 7, 3) := by decide +kernel
theorem dL_stands_971 : decode cL_stands 971 = .ok (.iconst 1, 1) := by decide +kernel
theorem dL_stands_972 : decode cL_stands 972 = .ok (.goto 4, 3) := by decide +kernel
theorem dL_stands_975 : decode cL_stands 975 = .ok (.iconst 0, 1) := by decide +kernel
theorem dL_stands_976 : decode cL_stands 976 = .ok (.ireturn, 1) := by decide +kernel
theorem dL_isDue_0 : decode cL_isDue 0 = .ok (.iconst 0, 1) := by decide +kernel
theorem dL_isDue_1 : decode cL_isDue 1 = .ok (.istore 4, 2) := by decide +kernel
theorem dL_isDue_3 : decode cL_isDue 3 = .ok (.iconst 0, 1) := by decide +kernel
theorem dL_isDue_4 : decode cL_isDue 4 = .ok (.istore 5, 2) := by decide +kernel
theorem dL_isDue_6 : decode cL_isDue 6 = .ok (.iconst 0, 1) := by decide +kernel
theorem dL_isDue_7 : decode cL_isDue 7 = .ok (.istore 6, 2) := by decide +kernel
theorem dL_isDue_9 : decode cL_isDue 9 = .ok (.iload 6, 2) := by decide +kernel
theorem dL_isDue_11 : decode cL_isDue 11 = .ok (.iconst 4, 1) := by decide +kernel
theorem dL_isDue_12 : decode cL_isDue 12 = .ok (.if_icmp .ge 40, 3) := by decide +kernel
theorem dL_isDue_15 : decode cL_isDue 15 = .ok (.aload_n 0, 1) := by decide +kernel
theorem dL_isDue_16 : decode cL_isDue 16 = .ok (.iload 6, 2) := by decide +kernel
theorem dL_isDue_18 : decode cL_isDue 18 = .ok (.invokevirtual 160, 3) := by decide +kernel
theorem dL_isDue_21 : decode cL_isDue 21 = .ok (.iload_n 3, 1) := by decide +kernel
theorem dL_isDue_22 : decode cL_isDue 22 = .ok (.iconst (-1), 1) := by decide +kernel
theorem dL_isDue_23 : decode cL_isDue 23 = .ok (.ixor, 1) := by decide +kernel
theorem dL_isDue_24 : decode cL_isDue 24 = .ok (.iand, 1) := by decide +kernel
theorem dL_isDue_25 : decode cL_isDue 25 = .ok (.invokestatic 163, 3) := by decide +kernel
theorem dL_isDue_28 : decode cL_isDue 28 = .ok (.istore 7, 2) := by decide +kernel
theorem dL_isDue_30 : decode cL_isDue 30 = .ok (.iload 4, 2) := by decide +kernel
theorem dL_isDue_32 : decode cL_isDue 32 = .ok (.iload 7, 2) := by decide +kernel
theorem dL_isDue_34 : decode cL_isDue 34 = .ok (.iadd, 1) := by decide +kernel
theorem dL_isDue_35 : decode cL_isDue 35 = .ok (.istore 4, 2) := by decide +kernel
theorem dL_isDue_37 : decode cL_isDue 37 = .ok (.iload 5, 2) := by decide +kernel
theorem dL_isDue_39 : decode cL_isDue 39 = .ok (.iload 7, 2) := by decide +kernel
theorem dL_isDue_41 : decode cL_isDue 41 = .ok (.invokestatic 187, 3) := by decide +kernel
theorem dL_isDue_44 : decode cL_isDue 44 = .ok (.istore 5, 2) := by decide +kernel
theorem dL_isDue_46 : decode cL_isDue 46 = .ok (.iinc 6 1, 3) := by decide +kernel
theorem dL_isDue_49 : decode cL_isDue 49 = .ok (.goto (-40), 3) := by decide +kernel
theorem dL_isDue_52 : decode cL_isDue 52 = .ok (.iload_n 1, 1) := by decide +kernel
theorem dL_isDue_53 : decode cL_isDue 53 = .ok (.ifCond .ge 26, 3) := by decide +kernel
theorem dL_isDue_56 : decode cL_isDue 56 = .ok (.iload_n 1, 1) := by decide +kernel
theorem dL_isDue_57 : decode cL_isDue 57 = .ok (.bipush (-2), 2) := by decide +kernel
theorem dL_isDue_59 : decode cL_isDue 59 = .ok (.if_icmp .ne 18, 3) := by decide +kernel
theorem dL_isDue_62 : decode cL_isDue 62 = .ok (.iload 4, 2) := by decide +kernel
theorem dL_isDue_64 : decode cL_isDue 64 = .ok (.iload_n 2, 1) := by decide +kernel
theorem dL_isDue_65 : decode cL_isDue 65 = .ok (.if_icmp .lt 8, 3) := by decide +kernel
theorem dL_isDue_68 : decode cL_isDue 68 = .ok (.iload 4, 2) := by decide +kernel
theorem dL_isDue_70 : decode cL_isDue 70 = .ok (.ifCond .ne 7, 3) := by decide +kernel
theorem dL_isDue_73 : decode cL_isDue 73 = .ok (.iconst 1, 1) := by decide +kernel
theorem dL_isDue_74 : decode cL_isDue 74 = .ok (.goto 4, 3) := by decide +kernel
theorem dL_isDue_77 : decode cL_isDue 77 = .ok (.iconst 0, 1) := by decide +kernel
theorem dL_isDue_78 : decode cL_isDue 78 = .ok (.ireturn, 1) := by decide +kernel
theorem dL_isDue_79 : decode cL_isDue 79 = .ok (.iload 4, 2) := by decide +kernel
theorem dL_isDue_81 : decode cL_isDue 81 = .ok (.iload_n 2, 1) := by decide +kernel
theorem dL_isDue_82 : decode cL_isDue 82 = .ok (.if_icmp .lt 24, 3) := by decide +kernel
theorem dL_isDue_85 : decode cL_isDue 85 = .ok (.aload_n 0, 1) := by decide +kernel
theorem dL_isDue_86 : decode cL_isDue 86 = .ok (.iload_n 1, 1) := by decide +kernel
theorem dL_isDue_87 : decode cL_isDue 87 = .ok (.invokevirtual 160, 3) := by decide +kernel
theorem dL_isDue_90 : decode cL_isDue 90 = .ok (.iload_n 3, 1) := by decide +kernel
theorem dL_isDue_91 : decode cL_isDue 91 = .ok (.iconst (-1), 1) := by decide +kernel
theorem dL_isDue_92 : decode cL_isDue 92 = .ok (.ixor, 1) := by decide +kernel
theorem dL_isDue_93 : decode cL_isDue 93 = .ok (.iand, 1) := by decide +kernel
theorem dL_isDue_94 : decode cL_isDue 94 = .ok (.invokestatic 163, 3) := by decide +kernel
theorem dL_isDue_97 : decode cL_isDue 97 = .ok (.iload 5, 2) := by decide +kernel
theorem dL_isDue_99 : decode cL_isDue 99 = .ok (.if_icmp .ne 7, 3) := by decide +kernel
theorem dL_isDue_102 : decode cL_isDue 102 = .ok (.iconst 1, 1) := by decide +kernel
theorem dL_isDue_103 : decode cL_isDue 103 = .ok (.goto 4, 3) := by decide +kernel
theorem dL_isDue_106 : decode cL_isDue 106 = .ok (.iconst 0, 1) := by decide +kernel
theorem dL_isDue_107 : decode cL_isDue 107 = .ok (.istore 6, 2) := by decide +kernel
theorem dL_isDue_109 : decode cL_isDue 109 = .ok (.aload_n 0, 1) := by decide +kernel
theorem dL_isDue_110 : decode cL_isDue 110 = .ok (.iload_n 1, 1) := by decide +kernel
theorem dL_isDue_111 : decode cL_isDue 111 = .ok (.invokevirtual 160, 3) := by decide +kernel
theorem dL_isDue_114 : decode cL_isDue 114 = .ok (.iload_n 3, 1) := by decide +kernel
theorem dL_isDue_115 : decode cL_isDue 115 = .ok (.iconst (-1), 1) := by decide +kernel
theorem dL_isDue_116 : decode cL_isDue 116 = .ok (.ixor, 1) := by decide +kernel
theorem dL_isDue_117 : decode cL_isDue 117 = .ok (.iand, 1) := by decide +kernel
theorem dL_isDue_118 : decode cL_isDue 118 = .ok (.istore 7, 2) := by decide +kernel
theorem dL_isDue_120 : decode cL_isDue 120 = .ok (.iconst 0, 1) := by decide +kernel
theorem dL_isDue_121 : decode cL_isDue 121 = .ok (.istore 8, 2) := by decide +kernel
theorem dL_isDue_123 : decode cL_isDue 123 = .ok (.iload 8, 2) := by decide +kernel
theorem dL_isDue_125 : decode cL_isDue 125 = .ok (.iconst 4, 1) := by decide +kernel
theorem dL_isDue_126 : decode cL_isDue 126 = .ok (.if_icmp .ge 62, 3) := by decide +kernel
theorem dL_isDue_129 : decode cL_isDue 129 = .ok (.iload 6, 2) := by decide +kernel
theorem dL_isDue_131 : decode cL_isDue 131 = .ok (.ifCond .eq 57, 3) := by decide +kernel
theorem dL_isDue_134 : decode cL_isDue 134 = .ok (.aload_n 0, 1) := by decide +kernel
theorem dL_isDue_135 : decode cL_isDue 135 = .ok (.iload 8, 2) := by decide +kernel
theorem dL_isDue_137 : decode cL_isDue 137 = .ok (.invokevirtual 160, 3) := by decide +kernel
theorem dL_isDue_140 : decode cL_isDue 140 = .ok (.iload_n 3, 1) := by decide +kernel
theorem dL_isDue_141 : decode cL_isDue 141 = .ok (.iconst (-1), 1) := by decide +kernel
theorem dL_isDue_142 : decode cL_isDue 142 = .ok (.ixor, 1) := by decide +kernel
theorem dL_isDue_143 : decode cL_isDue 143 = .ok (.iand, 1) := by decide +kernel
theorem dL_isDue_144 : decode cL_isDue 144 = .ok (.istore 9, 2) := by decide +kernel
theorem dL_isDue_146 : decode cL_isDue 146 = .ok (.iload 8, 2) := by decide +kernel
theorem dL_isDue_148 : decode cL_isDue 148 = .ok (.iload_n 1, 1) := by decide +kernel
theorem dL_isDue_149 : decode cL_isDue 149 = .ok (.if_icmp .eq 26, 3) := by decide +kernel
theorem dL_isDue_152 : decode cL_isDue 152 = .ok (.iload 9, 2) := by decide +kernel
theorem dL_isDue_154 : decode cL_isDue 154 = .ok (.invokestatic 163, 3) := by decide +kernel
theorem dL_isDue_157 : decode cL_isDue 157 = .ok (.iload 5, 2) := by decide +kernel
theorem dL_isDue_159 : decode cL_isDue 159 = .ok (.if_icmp .lt 16, 3) := by decide +kernel
theorem dL_isDue_162 : decode cL_isDue 162 = .ok (.iload 7, 2) := by decide +kernel
theorem dL_isDue_164 : decode cL_isDue 164 = .ok (.invokestatic 209, 3) := by decide +kernel
theorem dL_isDue_167 : decode cL_isDue 167 = .ok (.iload 9, 2) := by decide +kernel
theorem dL_isDue_169 : decode cL_isDue 169 = .ok (.invokestatic 209, 3) := by decide +kernel
theorem dL_isDue_172 : decode cL_isDue 172 = .ok (.if_icmp .ge 7, 3) := by decide +kernel
theorem dL_isDue_175 : decode cL_isDue 175 = .ok (.iconst 1, 1) := by decide +kernel
theorem dL_isDue_176 : decode cL_isDue 176 = .ok (.goto 4, 3) := by decide +kernel
theorem dL_isDue_179 : decode cL_isDue 179 = .ok (.iconst 0, 1) := by decide +kernel
theorem dL_isDue_180 : decode cL_isDue 180 = .ok (.istore 6, 2) := by decide +kernel
theorem dL_isDue_182 : decode cL_isDue 182 = .ok (.iinc 8 1, 3) := by decide +kernel
theorem dL_isDue_185 : decode cL_isDue 185 = .ok (.goto (-62), 3) := by decide +kernel
theorem dL_isDue_188 : decode cL_isDue 188 = .ok (.iload 6, 2) := by decide +kernel
theorem dL_isDue_190 : decode cL_isDue 190 = .ok (.ireturn, 1) := by decide +kernel
theorem dL_told_0 : decode cL_told 0 = .ok (.new 46, 3) := by decide +kernel
theorem dL_told_3 : decode cL_told 3 = .ok (.dup, 1) := by decide +kernel
theorem dL_told_4 : decode cL_told 4 = .ok (.aload_n 0, 1) := by decide +kernel
theorem dL_told_5 : decode cL_told 5 = .ok (.iconst 0, 1) := by decide +kernel
theorem dL_told_6 : decode cL_told 6 = .ok (.invokestatic 212, 3) := by decide +kernel
theorem dL_told_9 : decode cL_told 9 = .ok (.invokespecial 50, 3) := by decide +kernel
theorem dL_told_12 : decode cL_told 12 = .ok (.aload_n 0, 1) := by decide +kernel
theorem dL_told_13 : decode cL_told 13 = .ok (.iconst 1, 1) := by decide +kernel
theorem dL_told_14 : decode cL_told 14 = .ok (.invokestatic 212, 3) := by decide +kernel
theorem dL_told_17 : decode cL_told 17 = .ok (.invokevirtual 62, 3) := by decide +kernel
theorem dL_told_20 : decode cL_told 20 = .ok (.aload_n 0, 1) := by decide +kernel
theorem dL_told_21 : decode cL_told 21 = .ok (.iconst 2, 1) := by decide +kernel
theorem dL_told_22 : decode cL_told 22 = .ok (.invokestatic 212, 3) := by decide +kernel
theorem dL_told_25 : decode cL_told 25 = .ok (.invokevirtual 62, 3) := by decide +kernel
theorem dL_told_28 : decode cL_told 28 = .ok (.astore_n 1, 1) := by decide +kernel
theorem dL_told_29 : decode cL_told 29 = .ok (.iconst 0, 1) := by decide +kernel
theorem dL_told_30 : decode cL_told 30 = .ok (.istore_n 2, 1) := by decide +kernel
theorem dL_told_31 : decode cL_told 31 = .ok (.iload_n 2, 1) := by decide +kernel
theorem dL_told_32 : decode cL_told 32 = .ok (.aload_n 0, 1) := by decide +kernel
theorem dL_told_33 : decode cL_told 33 = .ok (.iconst 2, 1) := by decide +kernel
theorem dL_told_34 : decode cL_told 34 = .ok (.invokevirtual 40, 3) := by decide +kernel
theorem dL_told_37 : decode cL_told 37 = .ok (.if_icmp .ge 57, 3) := by decide +kernel
theorem dL_told_40 : decode cL_told 40 = .ok (.iconst 0, 1) := by decide +kernel
theorem dL_told_41 : decode cL_told 41 = .ok (.istore_n 3, 1) := by decide +kernel
theorem dL_told_42 : decode cL_told 42 = .ok (.iload_n 3, 1) := by decide +kernel
theorem dL_told_43 : decode cL_told 43 = .ok (.bipush 7, 2) := by decide +kernel
theorem dL_told_45 : decode cL_told 45 = .ok (.if_icmp .ge 43, 3) := by decide +kernel
theorem dL_told_48 : decode cL_told 48 = .ok (.aload_n 1, 1) := by decide +kernel
theorem dL_told_49 : decode cL_told 49 = .ok (.ldc 216, 2) := by decide +kernel
theorem dL_told_51 : decode cL_told 51 = .ok (.invokevirtual 62, 3) := by decide +kernel
theorem dL_told_54 : decode cL_told 54 = .ok (.aload_n 0, 1) := by decide +kernel
theorem dL_told_55 : decode cL_told 55 = .ok (.iload_n 2, 1) := by decide +kernel
theorem dL_told_56 : decode cL_told 56 = .ok (.iload_n 3, 1) := by decide +kernel
theorem dL_told_57 : decode cL_told 57 = .ok (.invokevirtual 154, 3) := by decide +kernel
theorem dL_told_60 : decode cL_told 60 = .ok (.invokevirtual 57, 3) := by decide +kernel
theorem dL_told_63 : decode cL_told 63 = .ok (.ldc 216, 2) := by decide +kernel
theorem dL_told_65 : decode cL_told 65 = .ok (.invokevirtual 62, 3) := by decide +kernel
theorem dL_told_68 : decode cL_told 68 = .ok (.aload_n 0, 1) := by decide +kernel
theorem dL_told_69 : decode cL_told 69 = .ok (.iload_n 2, 1) := by decide +kernel
theorem dL_told_70 : decode cL_told 70 = .ok (.iload_n 3, 1) := by decide +kernel
theorem dL_told_71 : decode cL_told 71 = .ok (.iconst 5, 1) := by decide +kernel
theorem dL_told_72 : decode cL_told 72 = .ok (.invokestatic 218, 3) := by decide +kernel
theorem dL_told_75 : decode cL_told 75 = .ok (.invokevirtual 135, 3) := by decide +kernel
theorem dL_told_78 : decode cL_told 78 = .ok (.invokevirtual 57, 3) := by decide +kernel
theorem dL_told_81 : decode cL_told 81 = .ok (.pop, 1) := by decide +kernel
theorem dL_told_82 : decode cL_told 82 = .ok (.iinc 3 1, 3) := by decide +kernel
theorem dL_told_85 : decode cL_told 85 = .ok (.goto (-43), 3) := by decide +kernel
theorem dL_told_88 : decode cL_told 88 = .ok (.iinc 2 1, 3) := by decide +kernel
theorem dL_told_91 : decode cL_told 91 = .ok (.goto (-60), 3) := by decide +kernel
theorem dL_told_94 : decode cL_told 94 = .ok (.iconst 0, 1) := by decide +kernel
theorem dL_told_95 : decode cL_told 95 = .ok (.istore_n 2, 1) := by decide +kernel
theorem dL_told_96 : decode cL_told 96 = .ok (.iload_n 2, 1) := by decide +kernel
theorem dL_told_97 : decode cL_told 97 = .ok (.aload_n 0, 1) := by decide +kernel
theorem dL_told_98 : decode cL_told 98 = .ok (.iconst 3, 1) := by decide +kernel
theorem dL_told_99 : decode cL_told 99 = .ok (.invokevirtual 40, 3) := by decide +kernel
theorem dL_told_102 : decode cL_told 102 = .ok (.if_icmp .ge 38, 3) := by decide +kernel
theorem dL_told_105 : decode cL_told 105 = .ok (.iconst 0, 1) := by decide +kernel
theorem dL_told_106 : decode cL_told 106 = .ok (.istore_n 3, 1) := by decide +kernel
theorem dL_told_107 : decode cL_told 107 = .ok (.iload_n 3, 1) := by decide +kernel
theorem dL_told_108 : decode cL_told 108 = .ok (.iconst 5, 1) := by decide +kernel
theorem dL_told_109 : decode cL_told 109 = .ok (.if_icmp .ge 25, 3) := by decide +kernel
theorem dL_told_112 : decode cL_told 112 = .ok (.aload_n 1, 1) := by decide +kernel
theorem dL_told_113 : decode cL_told 113 = .ok (.ldc 216, 2) := by decide +kernel
theorem dL_told_115 : decode cL_told 115 = .ok (.invokevirtual 62, 3) := by decide +kernel
theorem dL_told_118 : decode cL_told 118 = .ok (.aload_n 0, 1) := by decide +kernel
theorem dL_told_119 : decode cL_told 119 = .ok (.iload_n 2, 1) := by decide +kernel
theorem dL_told_120 : decode cL_told 120 = .ok (.iload_n 3, 1) := by decide +kernel
theorem dL_told_121 : decode cL_told 121 = .ok (.invokevirtual 168, 3) := by decide +kernel
theorem dL_told_124 : decode cL_told 124 = .ok (.invokevirtual 57, 3) := by decide +kernel
theorem dL_told_127 : decode cL_told 127 = .ok (.pop, 1) := by decide +kernel
theorem dL_told_128 : decode cL_told 128 = .ok (.iinc 3 1, 3) := by decide +kernel
theorem dL_told_131 : decode cL_told 131 = .ok (.goto (-24), 3) := by decide +kernel
theorem dL_told_134 : decode cL_told 134 = .ok (.iinc 2 1, 3) := by decide +kernel
theorem dL_told_137 : decode cL_told 137 = .ok (.goto (-41), 3) := by decide +kernel
theorem dL_told_140 : decode cL_told 140 = .ok (.iconst 0, 1) := by decide +kernel
theorem dL_told_141 : decode cL_told 141 = .ok (.istore_n 2, 1) := by decide +kernel
theorem dL_told_142 : decode cL_told 142 = .ok (.iload_n 2, 1) := by decide +kernel
theorem dL_told_143 : decode cL_told 143 = .ok (.bipush 17, 2) := by decide +kernel
theorem dL_told_145 : decode cL_told 145 = .ok (.if_icmp .ge 52, 3) := by decide +kernel
theorem dL_told_148 : decode cL_told 148 = .ok (.aload_n 1, 1) := by decide +kernel
theorem dL_told_149 : decode cL_told 149 = .ok (.ldc 216, 2) := by decide +kernel
theorem dL_told_151 : decode cL_told 151 = .ok (.invokevirtual 62, 3) := by decide +kernel
theorem dL_told_154 : decode cL_told 154 = .ok (.aload_n 0, 1) := by decide +kernel
theorem dL_told_155 : decode cL_told 155 = .ok (.iload_n 2, 1) := by decide +kernel
theorem dL_told_156 : decode cL_told 156 = .ok (.invokevirtual 40, 3) := by decide +kernel
theorem dL_told_159 : decode cL_told 159 = .ok (.invokevirtual 57, 3) := by decide +kernel
theorem dL_told_162 : decode cL_told 162 = .ok (.ldc 216, 2) := by decide +kernel
theorem dL_told_164 : decode cL_told 164 = .ok (.invokevirtual 62, 3) := by decide +kernel
theorem dL_told_167 : decode cL_told 167 = .ok (.aload_n 0, 1) := by decide +kernel
theorem dL_told_168 : decode cL_told 168 = .ok (.iload_n 2, 1) := by decide +kernel
theorem dL_told_169 : decode cL_told 169 = .ok (.iconst 1, 1) := by decide +kernel
theorem dL_told_170 : decode cL_told 170 = .ok (.invokevirtual 221, 3) := by decide +kernel
theorem dL_told_173 : decode cL_told 173 = .ok (.invokevirtual 57, 3) := by decide +kernel
theorem dL_told_176 : decode cL_told 176 = .ok (.ldc 216, 2) := by decide +kernel
theorem dL_told_178 : decode cL_told 178 = .ok (.invokevirtual 62, 3) := by decide +kernel
theorem dL_told_181 : decode cL_told 181 = .ok (.aload_n 0, 1) := by decide +kernel
theorem dL_told_182 : decode cL_told 182 = .ok (.iload_n 2, 1) := by decide +kernel
theorem dL_told_183 : decode cL_told 183 = .ok (.iconst 3, 1) := by decide +kernel
theorem dL_told_184 : decode cL_told 184 = .ok (.invokevirtual 221, 3) := by decide +kernel
theorem dL_told_187 : decode cL_told 187 = .ok (.invokevirtual 57, 3) := by decide +kernel
theorem dL_told_190 : decode cL_told 190 = .ok (.pop, 1) := by decide +kernel
theorem dL_told_191 : decode cL_told 191 = .ok (.iinc 2 1, 3) := by decide +kernel
theorem dL_told_194 : decode cL_told 194 = .ok (.goto (-52), 3) := by decide +kernel
theorem dL_told_197 : decode cL_told 197 = .ok (.aload_n 1, 1) := by decide +kernel
theorem dL_told_198 : decode cL_told 198 = .ok (.invokevirtual 87, 3) := by decide +kernel
theorem dL_told_201 : decode cL_told 201 = .ok (.areturn, 1) := by decide +kernel
theorem dL_foretold_0 : decode cL_foretold 0 = .ok (.aload_n 0, 1) := by decide +kernel
theorem dL_foretold_1 : decode cL_foretold 1 = .ok (.invokestatic 224, 3) := by decide +kernel
theorem dL_foretold_4 : decode cL_foretold 4 = .ok (.astore_n 2, 1) := by decide +kernel
theorem dL_foretold_5 : decode cL_foretold 5 = .ok (.aload_n 1, 1) := by decide +kernel
theorem dL_foretold_6 : decode cL_foretold 6 = .ok (.invokestatic 53, 3) := by decide +kernel
theorem dL_foretold_9 : decode cL_foretold 9 = .ok (.aload_n 0, 1) := by decide +kernel
theorem dL_foretold_10 : decode cL_foretold 10 = .ok (.iconst 2, 1) := by decide +kernel
theorem dL_foretold_11 : decode cL_foretold 11 = .ok (.invokevirtual 40, 3) := by decide +kernel
theorem dL_foretold_14 : decode cL_foretold 14 = .ok (.irem, 1) := by decide +kernel
theorem dL_foretold_15 : decode cL_foretold 15 = .ok (.istore_n 3, 1) := by decide +kernel
theorem dL_foretold_16 : decode cL_foretold 16 = .ok (.aload_n 1, 1) := by decide +kernel
theorem dL_foretold_17 : decode cL_foretold 17 = .ok (.invokestatic 53, 3) := by decide +kernel
theorem dL_foretold_20 : decode cL_foretold 20 = .ok (.aload_n 0, 1) := by decide +kernel
theorem dL_foretold_21 : decode cL_foretold 21 = .ok (.iconst 2, 1) := by decide +kernel
theorem dL_foretold_22 : decode cL_foretold 22 = .ok (.invokevirtual 40, 3) := by decide +kernel
theorem dL_foretold_25 : decode cL_foretold 25 = .ok (.irem, 1) := by decide +kernel
theorem dL_foretold_26 : decode cL_foretold 26 = .ok (.istore 4, 2) := by decide +kernel
theorem dL_foretold_28 : decode cL_foretold 28 = .ok (.aload_n 1, 1) := by decide +kernel
theorem dL_foretold_29 : decode cL_foretold 29 = .ok (.invokestatic 53, 3) := by decide +kernel
theorem dL_foretold_32 : decode cL_foretold 32 = .ok (.iconst 4, 1) := by decide +kernel
theorem dL_foretold_33 : decode cL_foretold 33 = .ok (.irem, 1) := by decide +kernel
theorem dL_foretold_34 : decode cL_foretold 34 = .ok (.istore 5, 2) := by decide +kernel
theorem dL_foretold_36 : decode cL_foretold 36 = .ok (.aload_n 0, 1) := by decide +kernel
theorem dL_foretold_37 : decode cL_foretold 37 = .ok (.iload_n 3, 1) := by decide +kernel
theorem dL_foretold_38 : decode cL_foretold 38 = .ok (.iload 4, 2) := by decide +kernel
theorem dL_foretold_40 : decode cL_foretold 40 = .ok (.iload 5, 2) := by decide +kernel
theorem dL_foretold_42 : decode cL_foretold 42 = .ok (.invokevirtual 228, 3) := by decide +kernel
theorem dL_foretold_45 : decode cL_foretold 45 = .ok (.istore 6, 2) := by decide +kernel
theorem dL_foretold_47 : decode cL_foretold 47 = .ok (.aload_n 0, 1) := by decide +kernel
theorem dL_foretold_48 : decode cL_foretold 48 = .ok (.iload 5, 2) := by decide +kernel
theorem dL_foretold_50 : decode cL_foretold 50 = .ok (.invokevirtual 177, 3) := by decide +kernel
theorem dL_foretold_53 : decode cL_foretold 53 = .ok (.istore 7, 2) := by decide +kernel
theorem dL_foretold_55 : decode cL_foretold 55 = .ok (.aload_n 0, 1) := by decide +kernel
theorem dL_foretold_56 : decode cL_foretold 56 = .ok (.iload_n 3, 1) := by decide +kernel
theorem dL_foretold_57 : decode cL_foretold 57 = .ok (.iload 4, 2) := by decide +kernel
theorem dL_foretold_59 : decode cL_foretold 59 = .ok (.iload 5, 2) := by decide +kernel
theorem dL_foretold_61 : decode cL_foretold 61 = .ok (.invokevirtual 132, 3) := by decide +kernel
theorem dL_foretold_64 : decode cL_foretold 64 = .ok (.istore 8, 2) := by decide +kernel
theorem dL_foretold_66 : decode cL_foretold 66 = .ok (.iload 6, 2) := by decide +kernel
theorem dL_foretold_68 : decode cL_foretold 68 = .ok (.ifCond .ge 18, 3) := by decide +kernel
theorem dL_foretold_71 : decode cL_foretold 71 = .ok (.iload 8, 2) := by decide +kernel
theorem dL_foretold_73 : decode cL_foretold 73 = .ok (.iload 6, 2) := by decide +kernel
theorem dL_foretold_75 : decode cL_foretold 75 = .ok (.if_icmp .ne 7, 3) := by decide +kernel
theorem dL_foretold_78 : decode cL_foretold 78 = .ok (.iconst 1, 1) := by decide +kernel
theorem dL_foretold_79 : decode cL_foretold 79 = .ok (.goto 40, 3) := by decide +kernel
theorem dL_foretold_82 : decode cL_foretold 82 = .ok (.iconst 0, 1) := by decide +kernel
theorem dL_foretold_83 : decode cL_foretold 83 = .ok (.goto 36, 3) := by decide +kernel
theorem dL_foretold_86 : decode cL_foretold 86 = .ok (.iload 8, 2) := by decide +kernel
theorem dL_foretold_88 : decode cL_foretold 88 = .ok (.iload 7, 2) := by decide +kernel
theorem dL_foretold_90 : decode cL_foretold 90 = .ok (.iconst 1, 1) := by decide +kernel
theorem dL_foretold_91 : decode cL_foretold 91 = .ok (.iadd, 1) := by decide +kernel
theorem dL_foretold_92 : decode cL_foretold 92 = .ok (.if_icmp .ne 26, 3) := by decide +kernel
