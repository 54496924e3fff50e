theorem dL_isRight_359 : decode cL_isRight 359 = .ok (.istore 9, 2) := by decide +kernel
theorem dL_isRight_361 : decode cL_isRight 361 = .ok (.iload 6, 2) := by decide +kernel
theorem dL_isRight_363 : decode cL_isRight 363 = .ok (.ifCond .ne 25, 3) := by decide +kernel
theorem dL_isRight_366 : decode cL_isRight 366 = .ok (.aload_n 0, 1) := by decide +kernel
theorem dL_isRight_367 : decode cL_isRight 367 = .ok (.iload 12, 2) := by decide +kernel
theorem dL_isRight_369 : decode cL_isRight 369 = .ok (.iconst 2, 1) := by decide +kernel
theorem dL_isRight_370 : decode cL_isRight 370 = .ok (.invokevirtual 64, 3) := by decide +kernel
theorem dL_isRight_373 : decode cL_isRight 373 = .ok (.iload 5, 2) := by decide +kernel
theorem dL_isRight_375 : decode cL_isRight 375 = .ok (.if_icmp .ne 13, 3) := by decide +kernel
theorem dL_isRight_378 : decode cL_isRight 378 = .ok (.aload_n 0, 1) := by decide +kernel
theorem dL_isRight_379 : decode cL_isRight 379 = .ok (.iload 12, 2) := by decide +kernel
theorem dL_isRight_381 : decode cL_isRight 381 = .ok (.iconst 5, 1) := by decide +kernel
theorem dL_isRight_382 : decode cL_isRight 382 = .ok (.invokevirtual 64, 3) := by decide +kernel
theorem dL_isRight_385 : decode cL_isRight 385 = .ok (.ifCond .eq 14, 3) := by decide +kernel
theorem dL_isRight_388 : decode cL_isRight 388 = .ok (.aload_n 0, 1) := by decide +kernel
theorem dL_isRight_389 : decode cL_isRight 389 = .ok (.iload 12, 2) := by decide +kernel
theorem dL_isRight_391 : decode cL_isRight 391 = .ok (.iconst 4, 1) := by decide +kernel
theorem dL_isRight_392 : decode cL_isRight 392 = .ok (.invokevirtual 64, 3) := by decide +kernel
theorem dL_isRight_395 : decode cL_isRight 395 = .ok (.iconst 1, 1) := by decide +kernel
theorem dL_isRight_396 : decode cL_isRight 396 = .ok (.if_icmp .ge 5, 3) := by decide +kernel
theorem dL_isRight_399 : decode cL_isRight 399 = .ok (.iconst 0, 1) := by decide +kernel
theorem dL_isRight_400 : decode cL_isRight 400 = .ok (.ireturn, 1) := by decide +kernel
theorem dL_isRight_401 : decode cL_isRight 401 = .ok (.iinc 12 1, 3) := by decide +kernel
theorem dL_isRight_404 : decode cL_isRight 404 = .ok (.goto (-174), 3) := by decide +kernel
theorem dL_isRight_407 : decode cL_isRight 407 = .ok (.iload 10, 2) := by decide +kernel
theorem dL_isRight_409 : decode cL_isRight 409 = .ok (.aload_n 0, 1) := by decide +kernel
theorem dL_isRight_410 : decode cL_isRight 410 = .ok (.iload 5, 2) := by decide +kernel
theorem dL_isRight_412 : decode cL_isRight 412 = .ok (.bipush 8, 2) := by decide +kernel
theorem dL_isRight_414 : decode cL_isRight 414 = .ok (.invokevirtual 33, 3) := by decide +kernel
theorem dL_isRight_417 : decode cL_isRight 417 = .ok (.if_icmp .ne 31, 3) := by decide +kernel
theorem dL_isRight_420 : decode cL_isRight 420 = .ok (.iload 11, 2) := by decide +kernel
theorem dL_isRight_422 : decode cL_isRight 422 = .ok (.iconst 1, 1) := by decide +kernel
theorem dL_isRight_423 : decode cL_isRight 423 = .ok (.if_icmp .gt 25, 3) := by decide +kernel
theorem dL_isRight_426 : decode cL_isRight 426 = .ok (.aload_n 0, 1) := by decide +kernel
theorem dL_isRight_427 : decode cL_isRight 427 = .ok (.iload 5, 2) := by decide +kernel
theorem dL_isRight_429 : decode cL_isRight 429 = .ok (.iconst 3, 1) := by decide +kernel
theorem dL_isRight_430 : decode cL_isRight 430 = .ok (.invokevirtual 33, 3) := by decide +kernel
theorem dL_isRight_433 : decode cL_isRight 433 = .ok (.iload 9, 2) := by decide +kernel
theorem dL_isRight_435 : decode cL_isRight 435 = .ok (.iconst 1, 1) := by decide +kernel
theorem dL_isRight_436 : decode cL_isRight 436 = .ok (.if_icmp .ge 7, 3) := by decide +kernel
theorem dL_isRight_439 : decode cL_isRight 439 = .ok (.iconst 1, 1) := by decide +kernel
theorem dL_isRight_440 : decode cL_isRight 440 = .ok (.goto 5, 3) := by decide +kernel
theorem dL_isRight_443 : decode cL_isRight 443 = .ok (.iload 9, 2) := by decide +kernel
theorem dL_isRight_445 : decode cL_isRight 445 = .ok (.if_icmp .eq 5, 3) := by decide +kernel
theorem dL_isRight_448 : decode cL_isRight 448 = .ok (.iconst 0, 1) := by decide +kernel
theorem dL_isRight_449 : decode cL_isRight 449 = .ok (.ireturn, 1) := by decide +kernel
theorem dL_isRight_450 : decode cL_isRight 450 = .ok (.iinc 5 1, 3) := by decide +kernel
theorem dL_isRight_453 : decode cL_isRight 453 = .ok (.goto (-437), 3) := by decide +kernel
theorem dL_isRight_456 : decode cL_isRight 456 = .ok (.iconst 1, 1) := by decide +kernel
theorem dL_isRight_457 : decode cL_isRight 457 = .ok (.istore 5, 2) := by decide +kernel
theorem dL_isRight_459 : decode cL_isRight 459 = .ok (.iload 5, 2) := by decide +kernel
theorem dL_isRight_461 : decode cL_isRight 461 = .ok (.iload_n 2, 1) := by decide +kernel
theorem dL_isRight_462 : decode cL_isRight 462 = .ok (.if_icmp .ge 28, 3) := by decide +kernel
theorem dL_isRight_465 : decode cL_isRight 465 = .ok (.aload_n 0, 1) := by decide +kernel
theorem dL_isRight_466 : decode cL_isRight 466 = .ok (.iload 5, 2) := by decide +kernel
theorem dL_isRight_468 : decode cL_isRight 468 = .ok (.invokevirtual 61, 3) := by decide +kernel
theorem dL_isRight_471 : decode cL_isRight 471 = .ok (.aload_n 0, 1) := by decide +kernel
theorem dL_isRight_472 : decode cL_isRight 472 = .ok (.iload 5, 2) := by decide +kernel
theorem dL_isRight_474 : decode cL_isRight 474 = .ok (.iconst 1, 1) := by decide +kernel
theorem dL_isRight_475 : decode cL_isRight 475 = .ok (.isub, 1) := by decide +kernel
theorem dL_isRight_476 : decode cL_isRight 476 = .ok (.invokevirtual 61, 3) := by decide +kernel
theorem dL_isRight_479 : decode cL_isRight 479 = .ok (.if_icmp .ne 5, 3) := by decide +kernel
theorem dL_isRight_482 : decode cL_isRight 482 = .ok (.iconst 0, 1) := by decide +kernel
theorem dL_isRight_483 : decode cL_isRight 483 = .ok (.ireturn, 1) := by decide +kernel
theorem dL_isRight_484 : decode cL_isRight 484 = .ok (.iinc 5 1, 3) := by decide +kernel
theorem dL_isRight_487 : decode cL_isRight 487 = .ok (.goto (-28), 3) := by decide +kernel
theorem dL_isRight_490 : decode cL_isRight 490 = .ok (.iload 4, 2) := by decide +kernel
theorem dL_isRight_492 : decode cL_isRight 492 = .ok (.ifCond .lt 24, 3) := by decide +kernel
theorem dL_isRight_495 : decode cL_isRight 495 = .ok (.aload_n 0, 1) := by decide +kernel
theorem dL_isRight_496 : decode cL_isRight 496 = .ok (.iload 4, 2) := by decide +kernel
theorem dL_isRight_498 : decode cL_isRight 498 = .ok (.iconst 2, 1) := by decide +kernel
theorem dL_isRight_499 : decode cL_isRight 499 = .ok (.invokevirtual 33, 3) := by decide +kernel
theorem dL_isRight_502 : decode cL_isRight 502 = .ok (.ifCond .eq 37, 3) := by decide +kernel
theorem dL_isRight_505 : decode cL_isRight 505 = .ok (.aload_n 0, 1) := by decide +kernel
theorem dL_isRight_506 : decode cL_isRight 506 = .ok (.iload 4, 2) := by decide +kernel
theorem dL_isRight_508 : decode cL_isRight 508 = .ok (.iconst 5, 1) := by decide +kernel
theorem dL_isRight_509 : decode cL_isRight 509 = .ok (.invokevirtual 33, 3) := by decide +kernel
theorem dL_isRight_512 : decode cL_isRight 512 = .ok (.iconst 1, 1) := by decide +kernel
theorem dL_isRight_513 : decode cL_isRight 513 = .ok (.if_icmp .ne 26, 3) := by decide +kernel
theorem dL_isRight_516 : decode cL_isRight 516 = .ok (.aload_n 0, 1) := by decide +kernel
theorem dL_isRight_517 : decode cL_isRight 517 = .ok (.iconst 5, 1) := by decide +kernel
theorem dL_isRight_518 : decode cL_isRight 518 = .ok (.invokevirtual 8, 3) := by decide +kernel
theorem dL_isRight_521 : decode cL_isRight 521 = .ok (.bipush 8, 2) := by decide +kernel
theorem dL_isRight_523 : decode cL_isRight 523 = .ok (.if_icmp .gt 16, 3) := by decide +kernel
theorem dL_isRight_526 : decode cL_isRight 526 = .ok (.aload_n 0, 1) := by decide +kernel
theorem dL_isRight_527 : decode cL_isRight 527 = .ok (.iconst 5, 1) := by decide +kernel
theorem dL_isRight_528 : decode cL_isRight 528 = .ok (.invokevirtual 8, 3) := by decide +kernel
theorem dL_isRight_531 : decode cL_isRight 531 = .ok (.ifCond .le 10, 3) := by decide +kernel
theorem dL_isRight_534 : decode cL_isRight 534 = .ok (.iload 4, 2) := by decide +kernel
theorem dL_isRight_536 : decode cL_isRight 536 = .ok (.ifCond .ge 5, 3) := by decide +kernel
theorem dL_isRight_539 : decode cL_isRight 539 = .ok (.iconst 0, 1) := by decide +kernel
theorem dL_isRight_540 : decode cL_isRight 540 = .ok (.ireturn, 1) := by decide +kernel
theorem dL_isRight_541 : decode cL_isRight 541 = .ok (.iconst 0, 1) := by decide +kernel
theorem dL_isRight_542 : decode cL_isRight 542 = .ok (.istore 5, 2) := by decide +kernel
theorem dL_isRight_544 : decode cL_isRight 544 = .ok (.iload 5, 2) := by decide +kernel
theorem dL_isRight_546 : decode cL_isRight 546 = .ok (.aload_n 0, 1) := by decide +kernel
theorem dL_isRight_547 : decode cL_isRight 547 = .ok (.iconst 0, 1) := by decide +kernel
theorem dL_isRight_548 : decode cL_isRight 548 = .ok (.invokevirtual 8, 3) := by decide +kernel
theorem dL_isRight_551 : decode cL_isRight 551 = .ok (.if_icmp .ge 79, 3) := by decide +kernel
theorem dL_isRight_554 : decode cL_isRight 554 = .ok (.aload_n 0, 1) := by decide +kernel
theorem dL_isRight_555 : decode cL_isRight 555 = .ok (.iconst 5, 1) := by decide +kernel
theorem dL_isRight_556 : decode cL_isRight 556 = .ok (.invokevirtual 8, 3) := by decide +kernel
theorem dL_isRight_559 : decode cL_isRight 559 = .ok (.ifCond .le 49, 3) := by decide +kernel
theorem dL_isRight_562 : decode cL_isRight 562 = .ok (.aload_n 0, 1) := by decide +kernel
theorem dL_isRight_563 : decode cL_isRight 563 = .ok (.iconst 5, 1) := by decide +kernel
theorem dL_isRight_564 : decode cL_isRight 564 = .ok (.invokevirtual 8, 3) := by decide +kernel
theorem dL_isRight_567 : decode cL_isRight 567 = .ok (.bipush 8, 2) := by decide +kernel
theorem dL_isRight_569 : decode cL_isRight 569 = .ok (.if_icmp .ge 39, 3) := by decide +kernel
theorem dL_isRight_572 : decode cL_isRight 572 = .ok (.aload_n 0, 1) := by decide +kernel
theorem dL_isRight_573 : decode cL_isRight 573 = .ok (.iload 5, 2) := by decide +kernel
theorem dL_isRight_575 : decode cL_isRight 575 = .ok (.iconst 2, 1) := by decide +kernel
theorem dL_isRight_576 : decode cL_isRight 576 = .ok (.invokevirtual 33, 3) := by decide +kernel
theorem dL_isRight_579 : decode cL_isRight 579 = .ok (.ifCond .le 29, 3) := by decide +kernel
theorem dL_isRight_582 : decode cL_isRight 582 = .ok (.aload_n 0, 1) := by decide +kernel
theorem dL_isRight_583 : decode cL_isRight 583 = .ok (.iload 5, 2) := by decide +kernel
theorem dL_isRight_585 : decode cL_isRight 585 = .ok (.iconst 4, 1) := by decide +kernel
theorem dL_isRight_586 : decode cL_isRight 586 = .ok (.invokevirtual 33, 3) := by decide +kernel
theorem dL_isRight_589 : decode cL_isRight 589 = .ok (.iconst 1, 1) := by decide +kernel
theorem dL_isRight_590 : decode cL_isRight 590 = .ok (.if_icmp .ne 18, 3) := by decide +kernel
theorem dL_isRight_593 : decode cL_isRight 593 = .ok (.aload_n 0, 1) := by decide +kernel
theorem dL_isRight_594 : decode cL_isRight 594 = .ok (.iconst 0, 1) := by decide +kernel
theorem dL_isRight_595 : decode cL_isRight 595 = .ok (.iconst 1, 1) := by decide +kernel
theorem dL_isRight_596 : decode cL_isRight 596 = .ok (.invokevirtual 67, 3) := by decide +kernel
theorem dL_isRight_599 : decode cL_isRight 599 = .ok (.iload 5, 2) := by decide +kernel
theorem dL_isRight_601 : decode cL_isRight 601 = .ok (.if_icmp .eq 7, 3) := by decide +kernel
theorem dL_isRight_604 : decode cL_isRight 604 = .ok (.iconst 1, 1) := by decide +kernel
theorem dL_isRight_605 : decode cL_isRight 605 = .ok (.goto 4, 3) := by decide +kernel
theorem dL_isRight_608 : decode cL_isRight 608 = .ok (.iconst 0, 1) := by decide +kernel
theorem dL_isRight_609 : decode cL_isRight 609 = .ok (.istore 6, 2) := by decide +kernel
theorem dL_isRight_611 : decode cL_isRight 611 = .ok (.iload 6, 2) := by decide +kernel
theorem dL_isRight_613 : decode cL_isRight 613 = .ok (.aload_n 0, 1) := by decide +kernel
theorem dL_isRight_614 : decode cL_isRight 614 = .ok (.iload 5, 2) := by decide +kernel
theorem dL_isRight_616 : decode cL_isRight 616 = .ok (.invokevirtual 20, 3) := by decide +kernel
theorem dL_isRight_619 : decode cL_isRight 619 = .ok (.if_icmp .eq 5, 3) := by decide +kernel
theorem dL_isRight_622 : decode cL_isRight 622 = .ok (.iconst 0, 1) := by decide +kernel
theorem dL_isRight_623 : decode cL_isRight 623 = .ok (.ireturn, 1) := by decide +kernel
theorem dL_isRight_624 : decode cL_isRight 624 = .ok (.iinc 5 1, 3) := by decide +kernel
theorem dL_isRight_627 : decode cL_isRight 627 = .ok (.goto (-83), 3) := by decide +kernel
theorem dL_isRight_630 : decode cL_isRight 630 = .ok (.iload_n 1, 1) := by decide +kernel
theorem dL_isRight_631 : decode cL_isRight 631 = .ok (.aload_n 0, 1) := by decide +kernel
theorem dL_isRight_632 : decode cL_isRight 632 = .ok (.iconst 1, 1) := by decide +kernel
theorem dL_isRight_633 : decode cL_isRight 633 = .ok (.invokevirtual 8, 3) := by decide +kernel
theorem dL_isRight_636 : decode cL_isRight 636 = .ok (.if_icmp .ne 33, 3) := by decide +kernel
theorem dL_isRight_639 : decode cL_isRight 639 = .ok (.aload_n 0, 1) := by decide +kernel
theorem dL_isRight_640 : decode cL_isRight 640 = .ok (.iconst 2, 1) := by decide +kernel
theorem dL_isRight_641 : decode cL_isRight 641 = .ok (.invokevirtual 8, 3) := by decide +kernel
theorem dL_isRight_644 : decode cL_isRight 644 = .ok (.bipush 30, 2) := by decide +kernel
theorem dL_isRight_646 : decode cL_isRight 646 = .ok (.if_icmp .gt 23, 3) := by decide +kernel
theorem dL_isRight_649 : decode cL_isRight 649 = .ok (.aload_n 0, 1) := by decide +kernel
theorem dL_isRight_650 : decode cL_isRight 650 = .ok (.iconst 5, 1) := by decide +kernel
