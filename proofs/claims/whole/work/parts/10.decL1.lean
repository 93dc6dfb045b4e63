theorem dLw_law_384 : decode mLw_law.2.1 384 = .ok (.iconst 2, 1) := by decide +kernel
theorem dLw_law_385 : decode mLw_law.2.1 385 = .ok (.iadd, 1) := by decide +kernel
theorem dLw_law_386 : decode mLw_law.2.1 386 = .ok (.iaload, 1) := by decide +kernel
theorem dLw_law_387 : decode mLw_law.2.1 387 = .ok (.i2l, 1) := by decide +kernel
theorem dLw_law_388 : decode mLw_law.2.1 388 = .ok (.bipush 32, 2) := by decide +kernel
theorem dLw_law_390 : decode mLw_law.2.1 390 = .ok (.lshl, 1) := by decide +kernel
theorem dLw_law_391 : decode mLw_law.2.1 391 = .ok (.aload_n 0, 1) := by decide +kernel
theorem dLw_law_392 : decode mLw_law.2.1 392 = .ok (.iload_n 3, 1) := by decide +kernel
theorem dLw_law_393 : decode mLw_law.2.1 393 = .ok (.iconst 3, 1) := by decide +kernel
theorem dLw_law_394 : decode mLw_law.2.1 394 = .ok (.iadd, 1) := by decide +kernel
theorem dLw_law_395 : decode mLw_law.2.1 395 = .ok (.iaload, 1) := by decide +kernel
theorem dLw_law_396 : decode mLw_law.2.1 396 = .ok (.i2l, 1) := by decide +kernel
theorem dLw_law_397 : decode mLw_law.2.1 397 = .ok (.ldc2_w 13, 3) := by decide +kernel
theorem dLw_law_400 : decode mLw_law.2.1 400 = .ok (.land, 1) := by decide +kernel
theorem dLw_law_401 : decode mLw_law.2.1 401 = .ok (.lor, 1) := by decide +kernel
theorem dLw_law_402 : decode mLw_law.2.1 402 = .ok (.invokevirtual 35, 3) := by decide +kernel
theorem dLw_law_405 : decode mLw_law.2.1 405 = .ok (.aload_n 2, 1) := by decide +kernel
theorem dLw_law_406 : decode mLw_law.2.1 406 = .ok (.aload_n 0, 1) := by decide +kernel
theorem dLw_law_407 : decode mLw_law.2.1 407 = .ok (.iload_n 3, 1) := by decide +kernel
theorem dLw_law_408 : decode mLw_law.2.1 408 = .ok (.iconst 1, 1) := by decide +kernel
theorem dLw_law_409 : decode mLw_law.2.1 409 = .ok (.iadd, 1) := by decide +kernel
theorem dLw_law_410 : decode mLw_law.2.1 410 = .ok (.iaload, 1) := by decide +kernel
theorem dLw_law_411 : decode mLw_law.2.1 411 = .ok (.aload_n 0, 1) := by decide +kernel
theorem dLw_law_412 : decode mLw_law.2.1 412 = .ok (.iload_n 3, 1) := by decide +kernel
theorem dLw_law_413 : decode mLw_law.2.1 413 = .ok (.iconst 2, 1) := by decide +kernel
theorem dLw_law_414 : decode mLw_law.2.1 414 = .ok (.iadd, 1) := by decide +kernel
theorem dLw_law_415 : decode mLw_law.2.1 415 = .ok (.iaload, 1) := by decide +kernel
theorem dLw_law_416 : decode mLw_law.2.1 416 = .ok (.i2l, 1) := by decide +kernel
theorem dLw_law_417 : decode mLw_law.2.1 417 = .ok (.bipush 32, 2) := by decide +kernel
theorem dLw_law_419 : decode mLw_law.2.1 419 = .ok (.lshl, 1) := by decide +kernel
theorem dLw_law_420 : decode mLw_law.2.1 420 = .ok (.aload_n 0, 1) := by decide +kernel
theorem dLw_law_421 : decode mLw_law.2.1 421 = .ok (.iload_n 3, 1) := by decide +kernel
theorem dLw_law_422 : decode mLw_law.2.1 422 = .ok (.iconst 3, 1) := by decide +kernel
theorem dLw_law_423 : decode mLw_law.2.1 423 = .ok (.iadd, 1) := by decide +kernel
theorem dLw_law_424 : decode mLw_law.2.1 424 = .ok (.iaload, 1) := by decide +kernel
theorem dLw_law_425 : decode mLw_law.2.1 425 = .ok (.i2l, 1) := by decide +kernel
theorem dLw_law_426 : decode mLw_law.2.1 426 = .ok (.ldc2_w 13, 3) := by decide +kernel
theorem dLw_law_429 : decode mLw_law.2.1 429 = .ok (.land, 1) := by decide +kernel
theorem dLw_law_430 : decode mLw_law.2.1 430 = .ok (.lor, 1) := by decide +kernel
theorem dLw_law_431 : decode mLw_law.2.1 431 = .ok (.invokevirtual 39, 3) := by decide +kernel
theorem dLw_law_434 : decode mLw_law.2.1 434 = .ok (.lcmp, 1) := by decide +kernel
theorem dLw_law_435 : decode mLw_law.2.1 435 = .ok (.ifCond .eq 733, 3) := by decide +kernel
theorem dLw_law_438 : decode mLw_law.2.1 438 = .ok (.iconst 0, 1) := by decide +kernel
theorem dLw_law_439 : decode mLw_law.2.1 439 = .ok (.ireturn, 1) := by decide +kernel
theorem dLw_law_440 : decode mLw_law.2.1 440 = .ok (.aload_n 1, 1) := by decide +kernel
theorem dLw_law_441 : decode mLw_law.2.1 441 = .ok (.aload_n 0, 1) := by decide +kernel
theorem dLw_law_442 : decode mLw_law.2.1 442 = .ok (.iload_n 3, 1) := by decide +kernel
theorem dLw_law_443 : decode mLw_law.2.1 443 = .ok (.iconst 1, 1) := by decide +kernel
theorem dLw_law_444 : decode mLw_law.2.1 444 = .ok (.iadd, 1) := by decide +kernel
theorem dLw_law_445 : decode mLw_law.2.1 445 = .ok (.iaload, 1) := by decide +kernel
theorem dLw_law_446 : decode mLw_law.2.1 446 = .ok (.aload_n 0, 1) := by decide +kernel
theorem dLw_law_447 : decode mLw_law.2.1 447 = .ok (.iload_n 3, 1) := by decide +kernel
theorem dLw_law_448 : decode mLw_law.2.1 448 = .ok (.iconst 2, 1) := by decide +kernel
theorem dLw_law_449 : decode mLw_law.2.1 449 = .ok (.iadd, 1) := by decide +kernel
theorem dLw_law_450 : decode mLw_law.2.1 450 = .ok (.iaload, 1) := by decide +kernel
theorem dLw_law_451 : decode mLw_law.2.1 451 = .ok (.ifCond .eq 7, 3) := by decide +kernel
theorem dLw_law_454 : decode mLw_law.2.1 454 = .ok (.iconst 1, 1) := by decide +kernel
theorem dLw_law_455 : decode mLw_law.2.1 455 = .ok (.goto 4, 3) := by decide +kernel
theorem dLw_law_458 : decode mLw_law.2.1 458 = .ok (.iconst 0, 1) := by decide +kernel
theorem dLw_law_459 : decode mLw_law.2.1 459 = .ok (.invokevirtual 40, 3) := by decide +kernel
theorem dLw_law_462 : decode mLw_law.2.1 462 = .ok (.aload_n 2, 1) := by decide +kernel
theorem dLw_law_463 : decode mLw_law.2.1 463 = .ok (.aload_n 0, 1) := by decide +kernel
theorem dLw_law_464 : decode mLw_law.2.1 464 = .ok (.iload_n 3, 1) := by decide +kernel
theorem dLw_law_465 : decode mLw_law.2.1 465 = .ok (.iconst 1, 1) := by decide +kernel
theorem dLw_law_466 : decode mLw_law.2.1 466 = .ok (.iadd, 1) := by decide +kernel
theorem dLw_law_467 : decode mLw_law.2.1 467 = .ok (.iaload, 1) := by decide +kernel
theorem dLw_law_468 : decode mLw_law.2.1 468 = .ok (.aload_n 0, 1) := by decide +kernel
theorem dLw_law_469 : decode mLw_law.2.1 469 = .ok (.iload_n 3, 1) := by decide +kernel
theorem dLw_law_470 : decode mLw_law.2.1 470 = .ok (.iconst 2, 1) := by decide +kernel
theorem dLw_law_471 : decode mLw_law.2.1 471 = .ok (.iadd, 1) := by decide +kernel
theorem dLw_law_472 : decode mLw_law.2.1 472 = .ok (.iaload, 1) := by decide +kernel
theorem dLw_law_473 : decode mLw_law.2.1 473 = .ok (.ifCond .eq 7, 3) := by decide +kernel
theorem dLw_law_476 : decode mLw_law.2.1 476 = .ok (.iconst 1, 1) := by decide +kernel
theorem dLw_law_477 : decode mLw_law.2.1 477 = .ok (.goto 4, 3) := by decide +kernel
theorem dLw_law_480 : decode mLw_law.2.1 480 = .ok (.iconst 0, 1) := by decide +kernel
theorem dLw_law_481 : decode mLw_law.2.1 481 = .ok (.invokevirtual 44, 3) := by decide +kernel
theorem dLw_law_484 : decode mLw_law.2.1 484 = .ok (.if_icmp .eq 684, 3) := by decide +kernel
theorem dLw_law_487 : decode mLw_law.2.1 487 = .ok (.iconst 0, 1) := by decide +kernel
theorem dLw_law_488 : decode mLw_law.2.1 488 = .ok (.ireturn, 1) := by decide +kernel
theorem dLw_law_489 : decode mLw_law.2.1 489 = .ok (.aload_n 1, 1) := by decide +kernel
theorem dLw_law_490 : decode mLw_law.2.1 490 = .ok (.aload_n 0, 1) := by decide +kernel
theorem dLw_law_491 : decode mLw_law.2.1 491 = .ok (.iload_n 3, 1) := by decide +kernel
theorem dLw_law_492 : decode mLw_law.2.1 492 = .ok (.iconst 1, 1) := by decide +kernel
theorem dLw_law_493 : decode mLw_law.2.1 493 = .ok (.iadd, 1) := by decide +kernel
theorem dLw_law_494 : decode mLw_law.2.1 494 = .ok (.iaload, 1) := by decide +kernel
theorem dLw_law_495 : decode mLw_law.2.1 495 = .ok (.aload_n 0, 1) := by decide +kernel
theorem dLw_law_496 : decode mLw_law.2.1 496 = .ok (.iload_n 3, 1) := by decide +kernel
theorem dLw_law_497 : decode mLw_law.2.1 497 = .ok (.iconst 2, 1) := by decide +kernel
theorem dLw_law_498 : decode mLw_law.2.1 498 = .ok (.iadd, 1) := by decide +kernel
theorem dLw_law_499 : decode mLw_law.2.1 499 = .ok (.iaload, 1) := by decide +kernel
theorem dLw_law_500 : decode mLw_law.2.1 500 = .ok (.i2l, 1) := by decide +kernel
theorem dLw_law_501 : decode mLw_law.2.1 501 = .ok (.bipush 32, 2) := by decide +kernel
theorem dLw_law_503 : decode mLw_law.2.1 503 = .ok (.lshl, 1) := by decide +kernel
theorem dLw_law_504 : decode mLw_law.2.1 504 = .ok (.aload_n 0, 1) := by decide +kernel
theorem dLw_law_505 : decode mLw_law.2.1 505 = .ok (.iload_n 3, 1) := by decide +kernel
theorem dLw_law_506 : decode mLw_law.2.1 506 = .ok (.iconst 3, 1) := by decide +kernel
theorem dLw_law_507 : decode mLw_law.2.1 507 = .ok (.iadd, 1) := by decide +kernel
theorem dLw_law_508 : decode mLw_law.2.1 508 = .ok (.iaload, 1) := by decide +kernel
theorem dLw_law_509 : decode mLw_law.2.1 509 = .ok (.i2l, 1) := by decide +kernel
theorem dLw_law_510 : decode mLw_law.2.1 510 = .ok (.ldc2_w 13, 3) := by decide +kernel
theorem dLw_law_513 : decode mLw_law.2.1 513 = .ok (.land, 1) := by decide +kernel
theorem dLw_law_514 : decode mLw_law.2.1 514 = .ok (.lor, 1) := by decide +kernel
theorem dLw_law_515 : decode mLw_law.2.1 515 = .ok (.invokevirtual 45, 3) := by decide +kernel
theorem dLw_law_518 : decode mLw_law.2.1 518 = .ok (.aload_n 2, 1) := by decide +kernel
theorem dLw_law_519 : decode mLw_law.2.1 519 = .ok (.aload_n 0, 1) := by decide +kernel
theorem dLw_law_520 : decode mLw_law.2.1 520 = .ok (.iload_n 3, 1) := by decide +kernel
theorem dLw_law_521 : decode mLw_law.2.1 521 = .ok (.iconst 1, 1) := by decide +kernel
theorem dLw_law_522 : decode mLw_law.2.1 522 = .ok (.iadd, 1) := by decide +kernel
theorem dLw_law_523 : decode mLw_law.2.1 523 = .ok (.iaload, 1) := by decide +kernel
theorem dLw_law_524 : decode mLw_law.2.1 524 = .ok (.aload_n 0, 1) := by decide +kernel
theorem dLw_law_525 : decode mLw_law.2.1 525 = .ok (.iload_n 3, 1) := by decide +kernel
theorem dLw_law_526 : decode mLw_law.2.1 526 = .ok (.iconst 2, 1) := by decide +kernel
theorem dLw_law_527 : decode mLw_law.2.1 527 = .ok (.iadd, 1) := by decide +kernel
theorem dLw_law_528 : decode mLw_law.2.1 528 = .ok (.iaload, 1) := by decide +kernel
theorem dLw_law_529 : decode mLw_law.2.1 529 = .ok (.i2l, 1) := by decide +kernel
theorem dLw_law_530 : decode mLw_law.2.1 530 = .ok (.bipush 32, 2) := by decide +kernel
theorem dLw_law_532 : decode mLw_law.2.1 532 = .ok (.lshl, 1) := by decide +kernel
theorem dLw_law_533 : decode mLw_law.2.1 533 = .ok (.aload_n 0, 1) := by decide +kernel
theorem dLw_law_534 : decode mLw_law.2.1 534 = .ok (.iload_n 3, 1) := by decide +kernel
theorem dLw_law_535 : decode mLw_law.2.1 535 = .ok (.iconst 3, 1) := by decide +kernel
theorem dLw_law_536 : decode mLw_law.2.1 536 = .ok (.iadd, 1) := by decide +kernel
theorem dLw_law_537 : decode mLw_law.2.1 537 = .ok (.iaload, 1) := by decide +kernel
theorem dLw_law_538 : decode mLw_law.2.1 538 = .ok (.i2l, 1) := by decide +kernel
theorem dLw_law_539 : decode mLw_law.2.1 539 = .ok (.ldc2_w 13, 3) := by decide +kernel
theorem dLw_law_542 : decode mLw_law.2.1 542 = .ok (.land, 1) := by decide +kernel
theorem dLw_law_543 : decode mLw_law.2.1 543 = .ok (.lor, 1) := by decide +kernel
theorem dLw_law_544 : decode mLw_law.2.1 544 = .ok (.invokevirtual 49, 3) := by decide +kernel
theorem dLw_law_547 : decode mLw_law.2.1 547 = .ok (.if_icmp .eq 621, 3) := by decide +kernel
theorem dLw_law_550 : decode mLw_law.2.1 550 = .ok (.iconst 0, 1) := by decide +kernel
theorem dLw_law_551 : decode mLw_law.2.1 551 = .ok (.ireturn, 1) := by decide +kernel
theorem dLw_law_552 : decode mLw_law.2.1 552 = .ok (.aload_n 1, 1) := by decide +kernel
theorem dLw_law_553 : decode mLw_law.2.1 553 = .ok (.aload_n 0, 1) := by decide +kernel
theorem dLw_law_554 : decode mLw_law.2.1 554 = .ok (.iload_n 3, 1) := by decide +kernel
theorem dLw_law_555 : decode mLw_law.2.1 555 = .ok (.iconst 1, 1) := by decide +kernel
theorem dLw_law_556 : decode mLw_law.2.1 556 = .ok (.iadd, 1) := by decide +kernel
theorem dLw_law_557 : decode mLw_law.2.1 557 = .ok (.iaload, 1) := by decide +kernel
theorem dLw_law_558 : decode mLw_law.2.1 558 = .ok (.aload_n 0, 1) := by decide +kernel
theorem dLw_law_559 : decode mLw_law.2.1 559 = .ok (.iload_n 3, 1) := by decide +kernel
theorem dLw_law_560 : decode mLw_law.2.1 560 = .ok (.iconst 2, 1) := by decide +kernel
theorem dLw_law_561 : decode mLw_law.2.1 561 = .ok (.iadd, 1) := by decide +kernel
theorem dLw_law_562 : decode mLw_law.2.1 562 = .ok (.iaload, 1) := by decide +kernel
theorem dLw_law_563 : decode mLw_law.2.1 563 = .ok (.invokevirtual 50, 3) := by decide +kernel
theorem dLw_law_566 : decode mLw_law.2.1 566 = .ok (.aload_n 2, 1) := by decide +kernel
theorem dLw_law_567 : decode mLw_law.2.1 567 = .ok (.aload_n 0, 1) := by decide +kernel
theorem dLw_law_568 : decode mLw_law.2.1 568 = .ok (.iload_n 3, 1) := by decide +kernel
theorem dLw_law_569 : decode mLw_law.2.1 569 = .ok (.iconst 1, 1) := by decide +kernel
theorem dLw_law_570 : decode mLw_law.2.1 570 = .ok (.iadd, 1) := by decide +kernel
theorem dLw_law_571 : decode mLw_law.2.1 571 = .ok (.iaload, 1) := by decide +kernel
theorem dLw_law_572 : decode mLw_law.2.1 572 = .ok (.aload_n 0, 1) := by decide +kernel
theorem dLw_law_573 : decode mLw_law.2.1 573 = .ok (.iload_n 3, 1) := by decide +kernel
theorem dLw_law_574 : decode mLw_law.2.1 574 = .ok (.iconst 2, 1) := by decide +kernel
theorem dLw_law_575 : decode mLw_law.2.1 575 = .ok (.iadd, 1) := by decide +kernel
theorem dLw_law_576 : decode mLw_law.2.1 576 = .ok (.iaload, 1) := by decide +kernel
theorem dLw_law_577 : decode mLw_law.2.1 577 = .ok (.invokevirtual 54, 3) := by decide +kernel
theorem dLw_law_580 : decode mLw_law.2.1 580 = .ok (.lcmp, 1) := by decide +kernel
theorem dLw_law_581 : decode mLw_law.2.1 581 = .ok (.ifCond .eq 587, 3) := by decide +kernel
theorem dLw_law_584 : decode mLw_law.2.1 584 = .ok (.iconst 0, 1) := by decide +kernel
theorem dLw_law_585 : decode mLw_law.2.1 585 = .ok (.ireturn, 1) := by decide +kernel
theorem dLw_law_586 : decode mLw_law.2.1 586 = .ok (.aload_n 1, 1) := by decide +kernel
theorem dLw_law_587 : decode mLw_law.2.1 587 = .ok (.aload_n 0, 1) := by decide +kernel
theorem dLw_law_588 : decode mLw_law.2.1 588 = .ok (.iload_n 3, 1) := by decide +kernel
theorem dLw_law_589 : decode mLw_law.2.1 589 = .ok (.iconst 1, 1) := by decide +kernel
theorem dLw_law_590 : decode mLw_law.2.1 590 = .ok (.iadd, 1) := by decide +kernel
theorem dLw_law_591 : decode mLw_law.2.1 591 = .ok (.iaload, 1) := by decide +kernel
theorem dLw_law_592 : decode mLw_law.2.1 592 = .ok (.aload_n 0, 1) := by decide +kernel
theorem dLw_law_593 : decode mLw_law.2.1 593 = .ok (.iload_n 3, 1) := by decide +kernel
theorem dLw_law_594 : decode mLw_law.2.1 594 = .ok (.iconst 2, 1) := by decide +kernel
theorem dLw_law_595 : decode mLw_law.2.1 595 = .ok (.iadd, 1) := by decide +kernel
theorem dLw_law_596 : decode mLw_law.2.1 596 = .ok (.iaload, 1) := by decide +kernel
theorem dLw_law_597 : decode mLw_law.2.1 597 = .ok (.aload_n 0, 1) := by decide +kernel
theorem dLw_law_598 : decode mLw_law.2.1 598 = .ok (.iload_n 3, 1) := by decide +kernel
theorem dLw_law_599 : decode mLw_law.2.1 599 = .ok (.iconst 3, 1) := by decide +kernel
theorem dLw_law_600 : decode mLw_law.2.1 600 = .ok (.iadd, 1) := by decide +kernel
theorem dLw_law_601 : decode mLw_law.2.1 601 = .ok (.iaload, 1) := by decide +kernel
theorem dLw_law_602 : decode mLw_law.2.1 602 = .ok (.invokevirtual 55, 3) := by decide +kernel
theorem dLw_law_605 : decode mLw_law.2.1 605 = .ok (.aload_n 2, 1) := by decide +kernel
theorem dLw_law_606 : decode mLw_law.2.1 606 = .ok (.aload_n 0, 1) := by decide +kernel
theorem dLw_law_607 : decode mLw_law.2.1 607 = .ok (.iload_n 3, 1) := by decide +kernel
theorem dLw_law_608 : decode mLw_law.2.1 608 = .ok (.iconst 1, 1) := by decide +kernel
theorem dLw_law_609 : decode mLw_law.2.1 609 = .ok (.iadd, 1) := by decide +kernel
theorem dLw_law_610 : decode mLw_law.2.1 610 = .ok (.iaload, 1) := by decide +kernel
theorem dLw_law_611 : decode mLw_law.2.1 611 = .ok (.aload_n 0, 1) := by decide +kernel
theorem dLw_law_612 : decode mLw_law.2.1 612 = .ok (.iload_n 3, 1) := by decide +kernel
theorem dLw_law_613 : decode mLw_law.2.1 613 = .ok (.iconst 2, 1) := by decide +kernel
theorem dLw_law_614 : decode mLw_law.2.1 614 = .ok (.iadd, 1) := by decide +kernel
theorem dLw_law_615 : decode mLw_law.2.1 615 = .ok (.iaload, 1) := by decide +kernel
theorem dLw_law_616 : decode mLw_law.2.1 616 = .ok (.aload_n 0, 1) := by decide +kernel
theorem dLw_law_617 : decode mLw_law.2.1 617 = .ok (.iload_n 3, 1) := by decide +kernel
theorem dLw_law_618 : decode mLw_law.2.1 618 = .ok (.iconst 3, 1) := by decide +kernel
theorem dLw_law_619 : decode mLw_law.2.1 619 = .ok (.iadd, 1) := by decide +kernel
theorem dLw_law_620 : decode mLw_law.2.1 620 = .ok (.iaload, 1) := by decide +kernel
theorem dLw_law_621 : decode mLw_law.2.1 621 = .ok (.invokevirtual 59, 3) := by decide +kernel
theorem dLw_law_624 : decode mLw_law.2.1 624 = .ok (.lcmp, 1) := by decide +kernel
theorem dLw_law_625 : decode mLw_law.2.1 625 = .ok (.ifCond .eq 543, 3) := by decide +kernel
theorem dLw_law_628 : decode mLw_law.2.1 628 = .ok (.iconst 0, 1) := by decide +kernel
theorem dLw_law_629 : decode mLw_law.2.1 629 = .ok (.ireturn, 1) := by decide +kernel
theorem dLw_law_630 : decode mLw_law.2.1 630 = .ok (.aload_n 1, 1) := by decide +kernel
theorem dLw_law_631 : decode mLw_law.2.1 631 = .ok (.aload_n 0, 1) := by decide +kernel
theorem dLw_law_632 : decode mLw_law.2.1 632 = .ok (.iload_n 3, 1) := by decide +kernel
theorem dLw_law_633 : decode mLw_law.2.1 633 = .ok (.iconst 1, 1) := by decide +kernel
theorem dLw_law_634 : decode mLw_law.2.1 634 = .ok (.iadd, 1) := by decide +kernel
theorem dLw_law_635 : decode mLw_law.2.1 635 = .ok (.iaload, 1) := by decide +kernel
theorem dLw_law_636 : decode mLw_law.2.1 636 = .ok (.aload_n 0, 1) := by decide +kernel
theorem dLw_law_637 : decode mLw_law.2.1 637 = .ok (.iload_n 3, 1) := by decide +kernel
theorem dLw_law_638 : decode mLw_law.2.1 638 = .ok (.iconst 2, 1) := by decide +kernel
theorem dLw_law_639 : decode mLw_law.2.1 639 = .ok (.iadd, 1) := by decide +kernel
theorem dLw_law_640 : decode mLw_law.2.1 640 = .ok (.iaload, 1) := by decide +kernel
theorem dLw_law_641 : decode mLw_law.2.1 641 = .ok (.aload_n 0, 1) := by decide +kernel
theorem dLw_law_642 : decode mLw_law.2.1 642 = .ok (.iload_n 3, 1) := by decide +kernel
theorem dLw_law_643 : decode mLw_law.2.1 643 = .ok (.iconst 3, 1) := by decide +kernel
theorem dLw_law_644 : decode mLw_law.2.1 644 = .ok (.iadd, 1) := by decide +kernel
theorem dLw_law_645 : decode mLw_law.2.1 645 = .ok (.iaload, 1) := by decide +kernel
theorem dLw_law_646 : decode mLw_law.2.1 646 = .ok (.invokevirtual 60, 3) := by decide +kernel
theorem dLw_law_649 : decode mLw_law.2.1 649 = .ok (.aload_n 2, 1) := by decide +kernel
theorem dLw_law_650 : decode mLw_law.2.1 650 = .ok (.aload_n 0, 1) := by decide +kernel
theorem dLw_law_651 : decode mLw_law.2.1 651 = .ok (.iload_n 3, 1) := by decide +kernel
theorem dLw_law_652 : decode mLw_law.2.1 652 = .ok (.iconst 1, 1) := by decide +kernel
theorem dLw_law_653 : decode mLw_law.2.1 653 = .ok (.iadd, 1) := by decide +kernel
theorem dLw_law_654 : decode mLw_law.2.1 654 = .ok (.iaload, 1) := by decide +kernel
theorem dLw_law_655 : decode mLw_law.2.1 655 = .ok (.aload_n 0, 1) := by decide +kernel
