theorem d_La_law_347 : decode code 347 = .ok (.aload_n 3, 1) := by decide +kernel
theorem d_La_law_348 : decode code 348 = .ok (.invokestatic 87, 3) := by decide +kernel
theorem d_La_law_351 : decode code 351 = .ok (.istore 5, 2) := by decide +kernel
theorem d_La_law_353 : decode code 353 = .ok (.aload_n 2, 1) := by decide +kernel
theorem d_La_law_354 : decode code 354 = .ok (.aload_n 0, 1) := by decide +kernel
theorem d_La_law_355 : decode code 355 = .ok (.iload 4, 2) := by decide +kernel
theorem d_La_law_357 : decode code 357 = .ok (.iconst 1, 1) := by decide +kernel
theorem d_La_law_358 : decode code 358 = .ok (.iadd, 1) := by decide +kernel
theorem d_La_law_359 : decode code 359 = .ok (.iaload, 1) := by decide +kernel
theorem d_La_law_360 : decode code 360 = .ok (.aload_n 0, 1) := by decide +kernel
theorem d_La_law_361 : decode code 361 = .ok (.iload 4, 2) := by decide +kernel
theorem d_La_law_363 : decode code 363 = .ok (.iconst 2, 1) := by decide +kernel
theorem d_La_law_364 : decode code 364 = .ok (.iadd, 1) := by decide +kernel
theorem d_La_law_365 : decode code 365 = .ok (.iaload, 1) := by decide +kernel
theorem d_La_law_366 : decode code 366 = .ok (.aload_n 0, 1) := by decide +kernel
theorem d_La_law_367 : decode code 367 = .ok (.iload 4, 2) := by decide +kernel
theorem d_La_law_369 : decode code 369 = .ok (.iconst 3, 1) := by decide +kernel
theorem d_La_law_370 : decode code 370 = .ok (.iadd, 1) := by decide +kernel
theorem d_La_law_371 : decode code 371 = .ok (.iaload, 1) := by decide +kernel
theorem d_La_law_372 : decode code 372 = .ok (.invokevirtual 89, 3) := by decide +kernel
theorem d_La_law_375 : decode code 375 = .ok (.istore 6, 2) := by decide +kernel
theorem d_La_law_377 : decode code 377 = .ok (.aload_n 2, 1) := by decide +kernel
theorem d_La_law_378 : decode code 378 = .ok (.invokevirtual 75, 3) := by decide +kernel
theorem d_La_law_381 : decode code 381 = .ok (.iload 5, 2) := by decide +kernel
theorem d_La_law_383 : decode code 383 = .ok (.if_icmp .eq 5, 3) := by decide +kernel
theorem d_La_law_386 : decode code 386 = .ok (.iconst 0, 1) := by decide +kernel
theorem d_La_law_387 : decode code 387 = .ok (.ireturn, 1) := by decide +kernel
theorem d_La_law_388 : decode code 388 = .ok (.iload 5, 2) := by decide +kernel
theorem d_La_law_390 : decode code 390 = .ok (.ifCond .ne 15, 3) := by decide +kernel
theorem d_La_law_393 : decode code 393 = .ok (.aload_n 3, 1) := by decide +kernel
theorem d_La_law_394 : decode code 394 = .ok (.iconst 0, 1) := by decide +kernel
theorem d_La_law_395 : decode code 395 = .ok (.laload, 1) := by decide +kernel
theorem d_La_law_396 : decode code 396 = .ok (.iload 6, 2) := by decide +kernel
theorem d_La_law_398 : decode code 398 = .ok (.i2l, 1) := by decide +kernel
theorem d_La_law_399 : decode code 399 = .ok (.lcmp, 1) := by decide +kernel
theorem d_La_law_400 : decode code 400 = .ok (.ifCond .eq 5, 3) := by decide +kernel
theorem d_La_law_403 : decode code 403 = .ok (.iconst 0, 1) := by decide +kernel
theorem d_La_law_404 : decode code 404 = .ok (.ireturn, 1) := by decide +kernel
theorem d_La_law_405 : decode code 405 = .ok (.goto 704, 3) := by decide +kernel
theorem d_La_law_408 : decode code 408 = .ok (.aload_n 1, 1) := by decide +kernel
theorem d_La_law_409 : decode code 409 = .ok (.aload_n 0, 1) := by decide +kernel
theorem d_La_law_410 : decode code 410 = .ok (.iload 4, 2) := by decide +kernel
theorem d_La_law_412 : decode code 412 = .ok (.iconst 1, 1) := by decide +kernel
theorem d_La_law_413 : decode code 413 = .ok (.iadd, 1) := by decide +kernel
theorem d_La_law_414 : decode code 414 = .ok (.iaload, 1) := by decide +kernel
theorem d_La_law_415 : decode code 415 = .ok (.aload_n 3, 1) := by decide +kernel
theorem d_La_law_416 : decode code 416 = .ok (.invokestatic 90, 3) := by decide +kernel
theorem d_La_law_419 : decode code 419 = .ok (.istore 5, 2) := by decide +kernel
theorem d_La_law_421 : decode code 421 = .ok (.aload_n 2, 1) := by decide +kernel
theorem d_La_law_422 : decode code 422 = .ok (.aload_n 0, 1) := by decide +kernel
theorem d_La_law_423 : decode code 423 = .ok (.iload 4, 2) := by decide +kernel
theorem d_La_law_425 : decode code 425 = .ok (.iconst 1, 1) := by decide +kernel
theorem d_La_law_426 : decode code 426 = .ok (.iadd, 1) := by decide +kernel
theorem d_La_law_427 : decode code 427 = .ok (.iaload, 1) := by decide +kernel
theorem d_La_law_428 : decode code 428 = .ok (.invokevirtual 92, 3) := by decide +kernel
theorem d_La_law_431 : decode code 431 = .ok (.istore 6, 2) := by decide +kernel
theorem d_La_law_433 : decode code 433 = .ok (.aload_n 2, 1) := by decide +kernel
theorem d_La_law_434 : decode code 434 = .ok (.invokevirtual 75, 3) := by decide +kernel
theorem d_La_law_437 : decode code 437 = .ok (.iload 5, 2) := by decide +kernel
theorem d_La_law_439 : decode code 439 = .ok (.if_icmp .eq 5, 3) := by decide +kernel
theorem d_La_law_442 : decode code 442 = .ok (.iconst 0, 1) := by decide +kernel
theorem d_La_law_443 : decode code 443 = .ok (.ireturn, 1) := by decide +kernel
theorem d_La_law_444 : decode code 444 = .ok (.iload 5, 2) := by decide +kernel
theorem d_La_law_446 : decode code 446 = .ok (.ifCond .ne 15, 3) := by decide +kernel
theorem d_La_law_449 : decode code 449 = .ok (.aload_n 3, 1) := by decide +kernel
theorem d_La_law_450 : decode code 450 = .ok (.iconst 0, 1) := by decide +kernel
theorem d_La_law_451 : decode code 451 = .ok (.laload, 1) := by decide +kernel
theorem d_La_law_452 : decode code 452 = .ok (.iload 6, 2) := by decide +kernel
theorem d_La_law_454 : decode code 454 = .ok (.i2l, 1) := by decide +kernel
theorem d_La_law_455 : decode code 455 = .ok (.lcmp, 1) := by decide +kernel
theorem d_La_law_456 : decode code 456 = .ok (.ifCond .eq 5, 3) := by decide +kernel
theorem d_La_law_459 : decode code 459 = .ok (.iconst 0, 1) := by decide +kernel
theorem d_La_law_460 : decode code 460 = .ok (.ireturn, 1) := by decide +kernel
theorem d_La_law_461 : decode code 461 = .ok (.goto 648, 3) := by decide +kernel
theorem d_La_law_464 : decode code 464 = .ok (.aload_n 1, 1) := by decide +kernel
theorem d_La_law_465 : decode code 465 = .ok (.aload_n 0, 1) := by decide +kernel
theorem d_La_law_466 : decode code 466 = .ok (.iload 4, 2) := by decide +kernel
theorem d_La_law_468 : decode code 468 = .ok (.iconst 1, 1) := by decide +kernel
theorem d_La_law_469 : decode code 469 = .ok (.iadd, 1) := by decide +kernel
theorem d_La_law_470 : decode code 470 = .ok (.iaload, 1) := by decide +kernel
theorem d_La_law_471 : decode code 471 = .ok (.aload_n 0, 1) := by decide +kernel
theorem d_La_law_472 : decode code 472 = .ok (.iload 4, 2) := by decide +kernel
theorem d_La_law_474 : decode code 474 = .ok (.iconst 2, 1) := by decide +kernel
theorem d_La_law_475 : decode code 475 = .ok (.iadd, 1) := by decide +kernel
theorem d_La_law_476 : decode code 476 = .ok (.iaload, 1) := by decide +kernel
theorem d_La_law_477 : decode code 477 = .ok (.aload_n 3, 1) := by decide +kernel
theorem d_La_law_478 : decode code 478 = .ok (.invokestatic 93, 3) := by decide +kernel
theorem d_La_law_481 : decode code 481 = .ok (.istore 5, 2) := by decide +kernel
theorem d_La_law_483 : decode code 483 = .ok (.aload_n 2, 1) := by decide +kernel
theorem d_La_law_484 : decode code 484 = .ok (.aload_n 0, 1) := by decide +kernel
theorem d_La_law_485 : decode code 485 = .ok (.iload 4, 2) := by decide +kernel
theorem d_La_law_487 : decode code 487 = .ok (.iconst 1, 1) := by decide +kernel
theorem d_La_law_488 : decode code 488 = .ok (.iadd, 1) := by decide +kernel
theorem d_La_law_489 : decode code 489 = .ok (.iaload, 1) := by decide +kernel
theorem d_La_law_490 : decode code 490 = .ok (.aload_n 0, 1) := by decide +kernel
theorem d_La_law_491 : decode code 491 = .ok (.iload 4, 2) := by decide +kernel
theorem d_La_law_493 : decode code 493 = .ok (.iconst 2, 1) := by decide +kernel
theorem d_La_law_494 : decode code 494 = .ok (.iadd, 1) := by decide +kernel
theorem d_La_law_495 : decode code 495 = .ok (.iaload, 1) := by decide +kernel
theorem d_La_law_496 : decode code 496 = .ok (.invokevirtual 95, 3) := by decide +kernel
theorem d_La_law_499 : decode code 499 = .ok (.istore 6, 2) := by decide +kernel
theorem d_La_law_501 : decode code 501 = .ok (.aload_n 2, 1) := by decide +kernel
theorem d_La_law_502 : decode code 502 = .ok (.invokevirtual 75, 3) := by decide +kernel
theorem d_La_law_505 : decode code 505 = .ok (.iload 5, 2) := by decide +kernel
theorem d_La_law_507 : decode code 507 = .ok (.if_icmp .eq 5, 3) := by decide +kernel
theorem d_La_law_510 : decode code 510 = .ok (.iconst 0, 1) := by decide +kernel
theorem d_La_law_511 : decode code 511 = .ok (.ireturn, 1) := by decide +kernel
theorem d_La_law_512 : decode code 512 = .ok (.iload 5, 2) := by decide +kernel
theorem d_La_law_514 : decode code 514 = .ok (.ifCond .ne 15, 3) := by decide +kernel
theorem d_La_law_517 : decode code 517 = .ok (.aload_n 3, 1) := by decide +kernel
theorem d_La_law_518 : decode code 518 = .ok (.iconst 0, 1) := by decide +kernel
theorem d_La_law_519 : decode code 519 = .ok (.laload, 1) := by decide +kernel
theorem d_La_law_520 : decode code 520 = .ok (.iload 6, 2) := by decide +kernel
theorem d_La_law_522 : decode code 522 = .ok (.i2l, 1) := by decide +kernel
theorem d_La_law_523 : decode code 523 = .ok (.lcmp, 1) := by decide +kernel
theorem d_La_law_524 : decode code 524 = .ok (.ifCond .eq 5, 3) := by decide +kernel
theorem d_La_law_527 : decode code 527 = .ok (.iconst 0, 1) := by decide +kernel
theorem d_La_law_528 : decode code 528 = .ok (.ireturn, 1) := by decide +kernel
theorem d_La_law_529 : decode code 529 = .ok (.goto 580, 3) := by decide +kernel
theorem d_La_law_532 : decode code 532 = .ok (.aload_n 1, 1) := by decide +kernel
theorem d_La_law_533 : decode code 533 = .ok (.aload_n 0, 1) := by decide +kernel
theorem d_La_law_534 : decode code 534 = .ok (.iload 4, 2) := by decide +kernel
theorem d_La_law_536 : decode code 536 = .ok (.iconst 1, 1) := by decide +kernel
theorem d_La_law_537 : decode code 537 = .ok (.iadd, 1) := by decide +kernel
theorem d_La_law_538 : decode code 538 = .ok (.iaload, 1) := by decide +kernel
theorem d_La_law_539 : decode code 539 = .ok (.aload_n 3, 1) := by decide +kernel
theorem d_La_law_540 : decode code 540 = .ok (.invokestatic 96, 3) := by decide +kernel
theorem d_La_law_543 : decode code 543 = .ok (.istore 5, 2) := by decide +kernel
theorem d_La_law_545 : decode code 545 = .ok (.aload_n 2, 1) := by decide +kernel
theorem d_La_law_546 : decode code 546 = .ok (.aload_n 0, 1) := by decide +kernel
theorem d_La_law_547 : decode code 547 = .ok (.iload 4, 2) := by decide +kernel
theorem d_La_law_549 : decode code 549 = .ok (.iconst 1, 1) := by decide +kernel
theorem d_La_law_550 : decode code 550 = .ok (.iadd, 1) := by decide +kernel
theorem d_La_law_551 : decode code 551 = .ok (.iaload, 1) := by decide +kernel
theorem d_La_law_552 : decode code 552 = .ok (.invokevirtual 98, 3) := by decide +kernel
theorem d_La_law_555 : decode code 555 = .ok (.istore 6, 2) := by decide +kernel
theorem d_La_law_557 : decode code 557 = .ok (.aload_n 2, 1) := by decide +kernel
theorem d_La_law_558 : decode code 558 = .ok (.invokevirtual 75, 3) := by decide +kernel
theorem d_La_law_561 : decode code 561 = .ok (.iload 5, 2) := by decide +kernel
theorem d_La_law_563 : decode code 563 = .ok (.if_icmp .eq 5, 3) := by decide +kernel
theorem d_La_law_566 : decode code 566 = .ok (.iconst 0, 1) := by decide +kernel
theorem d_La_law_567 : decode code 567 = .ok (.ireturn, 1) := by decide +kernel
theorem d_La_law_568 : decode code 568 = .ok (.iload 5, 2) := by decide +kernel
theorem d_La_law_570 : decode code 570 = .ok (.ifCond .ne 15, 3) := by decide +kernel
theorem d_La_law_573 : decode code 573 = .ok (.aload_n 3, 1) := by decide +kernel
theorem d_La_law_574 : decode code 574 = .ok (.iconst 0, 1) := by decide +kernel
theorem d_La_law_575 : decode code 575 = .ok (.laload, 1) := by decide +kernel
theorem d_La_law_576 : decode code 576 = .ok (.iload 6, 2) := by decide +kernel
theorem d_La_law_578 : decode code 578 = .ok (.i2l, 1) := by decide +kernel
theorem d_La_law_579 : decode code 579 = .ok (.lcmp, 1) := by decide +kernel
theorem d_La_law_580 : decode code 580 = .ok (.ifCond .eq 5, 3) := by decide +kernel
theorem d_La_law_583 : decode code 583 = .ok (.iconst 0, 1) := by decide +kernel
theorem d_La_law_584 : decode code 584 = .ok (.ireturn, 1) := by decide +kernel
theorem d_La_law_585 : decode code 585 = .ok (.goto 524, 3) := by decide +kernel
theorem d_La_law_588 : decode code 588 = .ok (.aload_n 1, 1) := by decide +kernel
theorem d_La_law_589 : decode code 589 = .ok (.aload_n 0, 1) := by decide +kernel
theorem d_La_law_590 : decode code 590 = .ok (.iload 4, 2) := by decide +kernel
theorem d_La_law_592 : decode code 592 = .ok (.iconst 1, 1) := by decide +kernel
theorem d_La_law_593 : decode code 593 = .ok (.iadd, 1) := by decide +kernel
theorem d_La_law_594 : decode code 594 = .ok (.iaload, 1) := by decide +kernel
theorem d_La_law_595 : decode code 595 = .ok (.aload_n 0, 1) := by decide +kernel
theorem d_La_law_596 : decode code 596 = .ok (.iload 4, 2) := by decide +kernel
theorem d_La_law_598 : decode code 598 = .ok (.iconst 2, 1) := by decide +kernel
theorem d_La_law_599 : decode code 599 = .ok (.iadd, 1) := by decide +kernel
theorem d_La_law_600 : decode code 600 = .ok (.iaload, 1) := by decide +kernel
theorem d_La_law_601 : decode code 601 = .ok (.aload_n 3, 1) := by decide +kernel
theorem d_La_law_602 : decode code 602 = .ok (.invokestatic 99, 3) := by decide +kernel
theorem d_La_law_605 : decode code 605 = .ok (.istore 5, 2) := by decide +kernel
theorem d_La_law_607 : decode code 607 = .ok (.aload_n 2, 1) := by decide +kernel
theorem d_La_law_608 : decode code 608 = .ok (.aload_n 0, 1) := by decide +kernel
theorem d_La_law_609 : decode code 609 = .ok (.iload 4, 2) := by decide +kernel
theorem d_La_law_611 : decode code 611 = .ok (.iconst 1, 1) := by decide +kernel
theorem d_La_law_612 : decode code 612 = .ok (.iadd, 1) := by decide +kernel
theorem d_La_law_613 : decode code 613 = .ok (.iaload, 1) := by decide +kernel
theorem d_La_law_614 : decode code 614 = .ok (.aload_n 0, 1) := by decide +kernel
theorem d_La_law_615 : decode code 615 = .ok (.iload 4, 2) := by decide +kernel
theorem d_La_law_617 : decode code 617 = .ok (.iconst 2, 1) := by decide +kernel
theorem d_La_law_618 : decode code 618 = .ok (.iadd, 1) := by decide +kernel
theorem d_La_law_619 : decode code 619 = .ok (.iaload, 1) := by decide +kernel
theorem d_La_law_620 : decode code 620 = .ok (.invokevirtual 101, 3) := by decide +kernel
theorem d_La_law_623 : decode code 623 = .ok (.istore 6, 2) := by decide +kernel
theorem d_La_law_625 : decode code 625 = .ok (.aload_n 2, 1) := by decide +kernel
theorem d_La_law_626 : decode code 626 = .ok (.invokevirtual 75, 3) := by decide +kernel
theorem d_La_law_629 : decode code 629 = .ok (.iload 5, 2) := by decide +kernel
theorem d_La_law_631 : decode code 631 = .ok (.if_icmp .eq 5, 3) := by decide +kernel
theorem d_La_law_634 : decode code 634 = .ok (.iconst 0, 1) := by decide +kernel
theorem d_La_law_635 : decode code 635 = .ok (.ireturn, 1) := by decide +kernel
theorem d_La_law_636 : decode code 636 = .ok (.iload 5, 2) := by decide +kernel
theorem d_La_law_638 : decode code 638 = .ok (.ifCond .ne 15, 3) := by decide +kernel
theorem d_La_law_641 : decode code 641 = .ok (.aload_n 3, 1) := by decide +kernel
theorem d_La_law_642 : decode code 642 = .ok (.iconst 0, 1) := by decide +kernel
theorem d_La_law_643 : decode code 643 = .ok (.laload, 1) := by decide +kernel
theorem d_La_law_644 : decode code 644 = .ok (.iload 6, 2) := by decide +kernel
theorem d_La_law_646 : decode code 646 = .ok (.i2l, 1) := by decide +kernel
theorem d_La_law_647 : decode code 647 = .ok (.lcmp, 1) := by decide +kernel
theorem d_La_law_648 : decode code 648 = .ok (.ifCond .eq 5, 3) := by decide +kernel
theorem d_La_law_651 : decode code 651 = .ok (.iconst 0, 1) := by decide +kernel
theorem d_La_law_652 : decode code 652 = .ok (.ireturn, 1) := by decide +kernel
theorem d_La_law_653 : decode code 653 = .ok (.goto 456, 3) := by decide +kernel
theorem d_La_law_656 : decode code 656 = .ok (.aload_n 1, 1) := by decide +kernel
