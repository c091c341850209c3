theorem dW_law_376 : decode code 376 = .ok (.iaload, 1) := by decide +kernel
theorem dW_law_377 : decode code 377 = .ok (.aload_n 0, 1) := by decide +kernel
theorem dW_law_378 : decode code 378 = .ok (.iload_n 3, 1) := by decide +kernel
theorem dW_law_379 : decode code 379 = .ok (.iconst 2, 1) := by decide +kernel
theorem dW_law_380 : decode code 380 = .ok (.iadd, 1) := by decide +kernel
theorem dW_law_381 : decode code 381 = .ok (.iaload, 1) := by decide +kernel
theorem dW_law_382 : decode code 382 = .ok (.aload_n 0, 1) := by decide +kernel
theorem dW_law_383 : decode code 383 = .ok (.iload_n 3, 1) := by decide +kernel
theorem dW_law_384 : decode code 384 = .ok (.iconst 3, 1) := by decide +kernel
theorem dW_law_385 : decode code 385 = .ok (.iadd, 1) := by decide +kernel
theorem dW_law_386 : decode code 386 = .ok (.iaload, 1) := by decide +kernel
theorem dW_law_387 : decode code 387 = .ok (.invokevirtual 38, 3) := by decide +kernel
theorem dW_law_390 : decode code 390 = .ok (.aload_n 2, 1) := by decide +kernel
theorem dW_law_391 : decode code 391 = .ok (.aload_n 0, 1) := by decide +kernel
theorem dW_law_392 : decode code 392 = .ok (.iload_n 3, 1) := by decide +kernel
theorem dW_law_393 : decode code 393 = .ok (.iconst 1, 1) := by decide +kernel
theorem dW_law_394 : decode code 394 = .ok (.iadd, 1) := by decide +kernel
theorem dW_law_395 : decode code 395 = .ok (.iaload, 1) := by decide +kernel
theorem dW_law_396 : decode code 396 = .ok (.aload_n 0, 1) := by decide +kernel
theorem dW_law_397 : decode code 397 = .ok (.iload_n 3, 1) := by decide +kernel
theorem dW_law_398 : decode code 398 = .ok (.iconst 2, 1) := by decide +kernel
theorem dW_law_399 : decode code 399 = .ok (.iadd, 1) := by decide +kernel
theorem dW_law_400 : decode code 400 = .ok (.iaload, 1) := by decide +kernel
theorem dW_law_401 : decode code 401 = .ok (.aload_n 0, 1) := by decide +kernel
theorem dW_law_402 : decode code 402 = .ok (.iload_n 3, 1) := by decide +kernel
theorem dW_law_403 : decode code 403 = .ok (.iconst 3, 1) := by decide +kernel
theorem dW_law_404 : decode code 404 = .ok (.iadd, 1) := by decide +kernel
theorem dW_law_405 : decode code 405 = .ok (.iaload, 1) := by decide +kernel
theorem dW_law_406 : decode code 406 = .ok (.invokevirtual 41, 3) := by decide +kernel
theorem dW_law_409 : decode code 409 = .ok (.if_icmp .eq 712, 3) := by decide +kernel
theorem dW_law_412 : decode code 412 = .ok (.iconst 0, 1) := by decide +kernel
theorem dW_law_413 : decode code 413 = .ok (.ireturn, 1) := by decide +kernel
theorem dW_law_414 : decode code 414 = .ok (.aload_n 1, 1) := by decide +kernel
theorem dW_law_415 : decode code 415 = .ok (.aload_n 0, 1) := by decide +kernel
theorem dW_law_416 : decode code 416 = .ok (.iload_n 3, 1) := by decide +kernel
theorem dW_law_417 : decode code 417 = .ok (.iconst 1, 1) := by decide +kernel
theorem dW_law_418 : decode code 418 = .ok (.iadd, 1) := by decide +kernel
theorem dW_law_419 : decode code 419 = .ok (.iaload, 1) := by decide +kernel
theorem dW_law_420 : decode code 420 = .ok (.aload_n 0, 1) := by decide +kernel
theorem dW_law_421 : decode code 421 = .ok (.iload_n 3, 1) := by decide +kernel
theorem dW_law_422 : decode code 422 = .ok (.iconst 2, 1) := by decide +kernel
theorem dW_law_423 : decode code 423 = .ok (.iadd, 1) := by decide +kernel
theorem dW_law_424 : decode code 424 = .ok (.iaload, 1) := by decide +kernel
theorem dW_law_425 : decode code 425 = .ok (.invokevirtual 42, 3) := by decide +kernel
theorem dW_law_428 : decode code 428 = .ok (.aload_n 2, 1) := by decide +kernel
theorem dW_law_429 : decode code 429 = .ok (.aload_n 0, 1) := by decide +kernel
theorem dW_law_430 : decode code 430 = .ok (.iload_n 3, 1) := by decide +kernel
theorem dW_law_431 : decode code 431 = .ok (.iconst 1, 1) := by decide +kernel
theorem dW_law_432 : decode code 432 = .ok (.iadd, 1) := by decide +kernel
theorem dW_law_433 : decode code 433 = .ok (.iaload, 1) := by decide +kernel
theorem dW_law_434 : decode code 434 = .ok (.aload_n 0, 1) := by decide +kernel
theorem dW_law_435 : decode code 435 = .ok (.iload_n 3, 1) := by decide +kernel
theorem dW_law_436 : decode code 436 = .ok (.iconst 2, 1) := by decide +kernel
theorem dW_law_437 : decode code 437 = .ok (.iadd, 1) := by decide +kernel
theorem dW_law_438 : decode code 438 = .ok (.iaload, 1) := by decide +kernel
theorem dW_law_439 : decode code 439 = .ok (.invokevirtual 46, 3) := by decide +kernel
theorem dW_law_442 : decode code 442 = .ok (.if_icmp .eq 679, 3) := by decide +kernel
theorem dW_law_445 : decode code 445 = .ok (.iconst 0, 1) := by decide +kernel
theorem dW_law_446 : decode code 446 = .ok (.ireturn, 1) := by decide +kernel
theorem dW_law_447 : decode code 447 = .ok (.aload_n 1, 1) := by decide +kernel
theorem dW_law_448 : decode code 448 = .ok (.aload_n 0, 1) := by decide +kernel
theorem dW_law_449 : decode code 449 = .ok (.iload_n 3, 1) := by decide +kernel
theorem dW_law_450 : decode code 450 = .ok (.iconst 1, 1) := by decide +kernel
theorem dW_law_451 : decode code 451 = .ok (.iadd, 1) := by decide +kernel
theorem dW_law_452 : decode code 452 = .ok (.iaload, 1) := by decide +kernel
theorem dW_law_453 : decode code 453 = .ok (.aload_n 0, 1) := by decide +kernel
theorem dW_law_454 : decode code 454 = .ok (.iload_n 3, 1) := by decide +kernel
theorem dW_law_455 : decode code 455 = .ok (.iconst 2, 1) := by decide +kernel
theorem dW_law_456 : decode code 456 = .ok (.iadd, 1) := by decide +kernel
theorem dW_law_457 : decode code 457 = .ok (.iaload, 1) := by decide +kernel
theorem dW_law_458 : decode code 458 = .ok (.invokevirtual 47, 3) := by decide +kernel
theorem dW_law_461 : decode code 461 = .ok (.aload_n 2, 1) := by decide +kernel
theorem dW_law_462 : decode code 462 = .ok (.aload_n 0, 1) := by decide +kernel
theorem dW_law_463 : decode code 463 = .ok (.iload_n 3, 1) := by decide +kernel
theorem dW_law_464 : decode code 464 = .ok (.iconst 1, 1) := by decide +kernel
theorem dW_law_465 : decode code 465 = .ok (.iadd, 1) := by decide +kernel
theorem dW_law_466 : decode code 466 = .ok (.iaload, 1) := by decide +kernel
theorem dW_law_467 : decode code 467 = .ok (.aload_n 0, 1) := by decide +kernel
theorem dW_law_468 : decode code 468 = .ok (.iload_n 3, 1) := by decide +kernel
theorem dW_law_469 : decode code 469 = .ok (.iconst 2, 1) := by decide +kernel
theorem dW_law_470 : decode code 470 = .ok (.iadd, 1) := by decide +kernel
theorem dW_law_471 : decode code 471 = .ok (.iaload, 1) := by decide +kernel
theorem dW_law_472 : decode code 472 = .ok (.invokevirtual 50, 3) := by decide +kernel
theorem dW_law_475 : decode code 475 = .ok (.if_icmp .eq 646, 3) := by decide +kernel
theorem dW_law_478 : decode code 478 = .ok (.iconst 0, 1) := by decide +kernel
theorem dW_law_479 : decode code 479 = .ok (.ireturn, 1) := by decide +kernel
theorem dW_law_480 : decode code 480 = .ok (.aload_n 1, 1) := by decide +kernel
theorem dW_law_481 : decode code 481 = .ok (.aload_n 0, 1) := by decide +kernel
theorem dW_law_482 : decode code 482 = .ok (.iload_n 3, 1) := by decide +kernel
theorem dW_law_483 : decode code 483 = .ok (.iconst 1, 1) := by decide +kernel
theorem dW_law_484 : decode code 484 = .ok (.iadd, 1) := by decide +kernel
theorem dW_law_485 : decode code 485 = .ok (.iaload, 1) := by decide +kernel
theorem dW_law_486 : decode code 486 = .ok (.aload_n 0, 1) := by decide +kernel
theorem dW_law_487 : decode code 487 = .ok (.iload_n 3, 1) := by decide +kernel
theorem dW_law_488 : decode code 488 = .ok (.iconst 2, 1) := by decide +kernel
theorem dW_law_489 : decode code 489 = .ok (.iadd, 1) := by decide +kernel
theorem dW_law_490 : decode code 490 = .ok (.iaload, 1) := by decide +kernel
theorem dW_law_491 : decode code 491 = .ok (.invokevirtual 51, 3) := by decide +kernel
theorem dW_law_494 : decode code 494 = .ok (.aload_n 2, 1) := by decide +kernel
theorem dW_law_495 : decode code 495 = .ok (.aload_n 0, 1) := by decide +kernel
theorem dW_law_496 : decode code 496 = .ok (.iload_n 3, 1) := by decide +kernel
theorem dW_law_497 : decode code 497 = .ok (.iconst 1, 1) := by decide +kernel
theorem dW_law_498 : decode code 498 = .ok (.iadd, 1) := by decide +kernel
theorem dW_law_499 : decode code 499 = .ok (.iaload, 1) := by decide +kernel
theorem dW_law_500 : decode code 500 = .ok (.aload_n 0, 1) := by decide +kernel
theorem dW_law_501 : decode code 501 = .ok (.iload_n 3, 1) := by decide +kernel
theorem dW_law_502 : decode code 502 = .ok (.iconst 2, 1) := by decide +kernel
theorem dW_law_503 : decode code 503 = .ok (.iadd, 1) := by decide +kernel
theorem dW_law_504 : decode code 504 = .ok (.iaload, 1) := by decide +kernel
theorem dW_law_505 : decode code 505 = .ok (.invokevirtual 54, 3) := by decide +kernel
theorem dW_law_508 : decode code 508 = .ok (.if_icmp .eq 613, 3) := by decide +kernel
theorem dW_law_511 : decode code 511 = .ok (.iconst 0, 1) := by decide +kernel
theorem dW_law_512 : decode code 512 = .ok (.ireturn, 1) := by decide +kernel
theorem dW_law_513 : decode code 513 = .ok (.aload_n 1, 1) := by decide +kernel
theorem dW_law_514 : decode code 514 = .ok (.aload_n 0, 1) := by decide +kernel
theorem dW_law_515 : decode code 515 = .ok (.iload_n 3, 1) := by decide +kernel
theorem dW_law_516 : decode code 516 = .ok (.iconst 1, 1) := by decide +kernel
theorem dW_law_517 : decode code 517 = .ok (.iadd, 1) := by decide +kernel
theorem dW_law_518 : decode code 518 = .ok (.iaload, 1) := by decide +kernel
theorem dW_law_519 : decode code 519 = .ok (.aload_n 0, 1) := by decide +kernel
theorem dW_law_520 : decode code 520 = .ok (.iload_n 3, 1) := by decide +kernel
theorem dW_law_521 : decode code 521 = .ok (.iconst 2, 1) := by decide +kernel
theorem dW_law_522 : decode code 522 = .ok (.iadd, 1) := by decide +kernel
theorem dW_law_523 : decode code 523 = .ok (.iaload, 1) := by decide +kernel
theorem dW_law_524 : decode code 524 = .ok (.aload_n 0, 1) := by decide +kernel
theorem dW_law_525 : decode code 525 = .ok (.iload_n 3, 1) := by decide +kernel
theorem dW_law_526 : decode code 526 = .ok (.iconst 3, 1) := by decide +kernel
theorem dW_law_527 : decode code 527 = .ok (.iadd, 1) := by decide +kernel
theorem dW_law_528 : decode code 528 = .ok (.iaload, 1) := by decide +kernel
theorem dW_law_529 : decode code 529 = .ok (.i2l, 1) := by decide +kernel
theorem dW_law_530 : decode code 530 = .ok (.bipush 32, 2) := by decide +kernel
theorem dW_law_532 : decode code 532 = .ok (.lshl, 1) := by decide +kernel
theorem dW_law_533 : decode code 533 = .ok (.aload_n 0, 1) := by decide +kernel
theorem dW_law_534 : decode code 534 = .ok (.iload_n 3, 1) := by decide +kernel
theorem dW_law_535 : decode code 535 = .ok (.iconst 4, 1) := by decide +kernel
theorem dW_law_536 : decode code 536 = .ok (.iadd, 1) := by decide +kernel
theorem dW_law_537 : decode code 537 = .ok (.iaload, 1) := by decide +kernel
theorem dW_law_538 : decode code 538 = .ok (.i2l, 1) := by decide +kernel
theorem dW_law_539 : decode code 539 = .ok (.ldc2_w 22, 3) := by decide +kernel
theorem dW_law_542 : decode code 542 = .ok (.land, 1) := by decide +kernel
theorem dW_law_543 : decode code 543 = .ok (.lor, 1) := by decide +kernel
theorem dW_law_544 : decode code 544 = .ok (.invokevirtual 55, 3) := by decide +kernel
theorem dW_law_547 : decode code 547 = .ok (.aload_n 2, 1) := by decide +kernel
theorem dW_law_548 : decode code 548 = .ok (.aload_n 0, 1) := by decide +kernel
theorem dW_law_549 : decode code 549 = .ok (.iload_n 3, 1) := by decide +kernel
theorem dW_law_550 : decode code 550 = .ok (.iconst 1, 1) := by decide +kernel
theorem dW_law_551 : decode code 551 = .ok (.iadd, 1) := by decide +kernel
theorem dW_law_552 : decode code 552 = .ok (.iaload, 1) := by decide +kernel
theorem dW_law_553 : decode code 553 = .ok (.aload_n 0, 1) := by decide +kernel
theorem dW_law_554 : decode code 554 = .ok (.iload_n 3, 1) := by decide +kernel
theorem dW_law_555 : decode code 555 = .ok (.iconst 2, 1) := by decide +kernel
theorem dW_law_556 : decode code 556 = .ok (.iadd, 1) := by decide +kernel
theorem dW_law_557 : decode code 557 = .ok (.iaload, 1) := by decide +kernel
theorem dW_law_558 : decode code 558 = .ok (.aload_n 0, 1) := by decide +kernel
theorem dW_law_559 : decode code 559 = .ok (.iload_n 3, 1) := by decide +kernel
theorem dW_law_560 : decode code 560 = .ok (.iconst 3, 1) := by decide +kernel
theorem dW_law_561 : decode code 561 = .ok (.iadd, 1) := by decide +kernel
theorem dW_law_562 : decode code 562 = .ok (.iaload, 1) := by decide +kernel
theorem dW_law_563 : decode code 563 = .ok (.i2l, 1) := by decide +kernel
theorem dW_law_564 : decode code 564 = .ok (.bipush 32, 2) := by decide +kernel
theorem dW_law_566 : decode code 566 = .ok (.lshl, 1) := by decide +kernel
theorem dW_law_567 : decode code 567 = .ok (.aload_n 0, 1) := by decide +kernel
theorem dW_law_568 : decode code 568 = .ok (.iload_n 3, 1) := by decide +kernel
theorem dW_law_569 : decode code 569 = .ok (.iconst 4, 1) := by decide +kernel
theorem dW_law_570 : decode code 570 = .ok (.iadd, 1) := by decide +kernel
theorem dW_law_571 : decode code 571 = .ok (.iaload, 1) := by decide +kernel
theorem dW_law_572 : decode code 572 = .ok (.i2l, 1) := by decide +kernel
theorem dW_law_573 : decode code 573 = .ok (.ldc2_w 22, 3) := by decide +kernel
theorem dW_law_576 : decode code 576 = .ok (.land, 1) := by decide +kernel
theorem dW_law_577 : decode code 577 = .ok (.lor, 1) := by decide +kernel
theorem dW_law_578 : decode code 578 = .ok (.invokevirtual 59, 3) := by decide +kernel
theorem dW_law_581 : decode code 581 = .ok (.if_icmp .eq 540, 3) := by decide +kernel
theorem dW_law_584 : decode code 584 = .ok (.iconst 0, 1) := by decide +kernel
theorem dW_law_585 : decode code 585 = .ok (.ireturn, 1) := by decide +kernel
theorem dW_law_586 : decode code 586 = .ok (.aload_n 1, 1) := by decide +kernel
theorem dW_law_587 : decode code 587 = .ok (.aload_n 0, 1) := by decide +kernel
theorem dW_law_588 : decode code 588 = .ok (.iload_n 3, 1) := by decide +kernel
theorem dW_law_589 : decode code 589 = .ok (.iconst 1, 1) := by decide +kernel
theorem dW_law_590 : decode code 590 = .ok (.iadd, 1) := by decide +kernel
theorem dW_law_591 : decode code 591 = .ok (.iaload, 1) := by decide +kernel
theorem dW_law_592 : decode code 592 = .ok (.aload_n 0, 1) := by decide +kernel
theorem dW_law_593 : decode code 593 = .ok (.iload_n 3, 1) := by decide +kernel
theorem dW_law_594 : decode code 594 = .ok (.iconst 2, 1) := by decide +kernel
theorem dW_law_595 : decode code 595 = .ok (.iadd, 1) := by decide +kernel
theorem dW_law_596 : decode code 596 = .ok (.iaload, 1) := by decide +kernel
theorem dW_law_597 : decode code 597 = .ok (.invokevirtual 60, 3) := by decide +kernel
theorem dW_law_600 : decode code 600 = .ok (.aload_n 2, 1) := by decide +kernel
theorem dW_law_601 : decode code 601 = .ok (.aload_n 0, 1) := by decide +kernel
theorem dW_law_602 : decode code 602 = .ok (.iload_n 3, 1) := by decide +kernel
theorem dW_law_603 : decode code 603 = .ok (.iconst 1, 1) := by decide +kernel
theorem dW_law_604 : decode code 604 = .ok (.iadd, 1) := by decide +kernel
theorem dW_law_605 : decode code 605 = .ok (.iaload, 1) := by decide +kernel
theorem dW_law_606 : decode code 606 = .ok (.aload_n 0, 1) := by decide +kernel
theorem dW_law_607 : decode code 607 = .ok (.iload_n 3, 1) := by decide +kernel
theorem dW_law_608 : decode code 608 = .ok (.iconst 2, 1) := by decide +kernel
theorem dW_law_609 : decode code 609 = .ok (.iadd, 1) := by decide +kernel
theorem dW_law_610 : decode code 610 = .ok (.iaload, 1) := by decide +kernel
theorem dW_law_611 : decode code 611 = .ok (.invokevirtual 63, 3) := by decide +kernel
theorem dW_law_614 : decode code 614 = .ok (.if_icmp .eq 507, 3) := by decide +kernel
theorem dW_law_617 : decode code 617 = .ok (.iconst 0, 1) := by decide +kernel
