theorem dLw_law_410 : decode cLw_law 410 = .ok (.iconst 0, 1) := by decide +kernel
theorem dLw_law_411 : decode cLw_law 411 = .ok (.laload, 1) := by decide +kernel
theorem dLw_law_412 : decode cLw_law 412 = .ok (.iload 6, 2) := by decide +kernel
theorem dLw_law_414 : decode cLw_law 414 = .ok (.ifCond .eq 7, 3) := by decide +kernel
theorem dLw_law_417 : decode cLw_law 417 = .ok (.lconst 1, 1) := by decide +kernel
theorem dLw_law_418 : decode cLw_law 418 = .ok (.goto 4, 3) := by decide +kernel
theorem dLw_law_421 : decode cLw_law 421 = .ok (.lconst 0, 1) := by decide +kernel
theorem dLw_law_422 : decode cLw_law 422 = .ok (.lcmp, 1) := by decide +kernel
theorem dLw_law_423 : decode cLw_law 423 = .ok (.ifCond .eq 5, 3) := by decide +kernel
theorem dLw_law_426 : decode cLw_law 426 = .ok (.iconst 0, 1) := by decide +kernel
theorem dLw_law_427 : decode cLw_law 427 = .ok (.ireturn, 1) := by decide +kernel
theorem dLw_law_428 : decode cLw_law 428 = .ok (.goto 674, 3) := by decide +kernel
theorem dLw_law_431 : decode cLw_law 431 = .ok (.aload_n 1, 1) := by decide +kernel
theorem dLw_law_432 : decode cLw_law 432 = .ok (.aload_n 0, 1) := by decide +kernel
theorem dLw_law_433 : decode cLw_law 433 = .ok (.iload 4, 2) := by decide +kernel
theorem dLw_law_435 : decode cLw_law 435 = .ok (.iconst 1, 1) := by decide +kernel
theorem dLw_law_436 : decode cLw_law 436 = .ok (.iadd, 1) := by decide +kernel
theorem dLw_law_437 : decode cLw_law 437 = .ok (.iaload, 1) := by decide +kernel
theorem dLw_law_438 : decode cLw_law 438 = .ok (.aload_n 0, 1) := by decide +kernel
theorem dLw_law_439 : decode cLw_law 439 = .ok (.iload 4, 2) := by decide +kernel
theorem dLw_law_441 : decode cLw_law 441 = .ok (.iconst 2, 1) := by decide +kernel
theorem dLw_law_442 : decode cLw_law 442 = .ok (.iadd, 1) := by decide +kernel
theorem dLw_law_443 : decode cLw_law 443 = .ok (.iaload, 1) := by decide +kernel
theorem dLw_law_444 : decode cLw_law 444 = .ok (.invokestatic 97, 3) := by decide +kernel
theorem dLw_law_447 : decode cLw_law 447 = .ok (.istore 5, 2) := by decide +kernel
theorem dLw_law_449 : decode cLw_law 449 = .ok (.aload_n 2, 1) := by decide +kernel
theorem dLw_law_450 : decode cLw_law 450 = .ok (.aload_n 0, 1) := by decide +kernel
theorem dLw_law_451 : decode cLw_law 451 = .ok (.iload 4, 2) := by decide +kernel
theorem dLw_law_453 : decode cLw_law 453 = .ok (.iconst 1, 1) := by decide +kernel
theorem dLw_law_454 : decode cLw_law 454 = .ok (.iadd, 1) := by decide +kernel
theorem dLw_law_455 : decode cLw_law 455 = .ok (.iaload, 1) := by decide +kernel
theorem dLw_law_456 : decode cLw_law 456 = .ok (.aload_n 0, 1) := by decide +kernel
theorem dLw_law_457 : decode cLw_law 457 = .ok (.iload 4, 2) := by decide +kernel
theorem dLw_law_459 : decode cLw_law 459 = .ok (.iconst 2, 1) := by decide +kernel
theorem dLw_law_460 : decode cLw_law 460 = .ok (.iadd, 1) := by decide +kernel
theorem dLw_law_461 : decode cLw_law 461 = .ok (.iaload, 1) := by decide +kernel
theorem dLw_law_462 : decode cLw_law 462 = .ok (.invokevirtual 100, 3) := by decide +kernel
theorem dLw_law_465 : decode cLw_law 465 = .ok (.aload_n 2, 1) := by decide +kernel
theorem dLw_law_466 : decode cLw_law 466 = .ok (.invokevirtual 79, 3) := by decide +kernel
theorem dLw_law_469 : decode cLw_law 469 = .ok (.iload 5, 2) := by decide +kernel
theorem dLw_law_471 : decode cLw_law 471 = .ok (.if_icmp .eq 5, 3) := by decide +kernel
theorem dLw_law_474 : decode cLw_law 474 = .ok (.iconst 0, 1) := by decide +kernel
theorem dLw_law_475 : decode cLw_law 475 = .ok (.ireturn, 1) := by decide +kernel
theorem dLw_law_476 : decode cLw_law 476 = .ok (.goto 626, 3) := by decide +kernel
theorem dLw_law_479 : decode cLw_law 479 = .ok (.aload_n 1, 1) := by decide +kernel
theorem dLw_law_480 : decode cLw_law 480 = .ok (.aload_n 0, 1) := by decide +kernel
theorem dLw_law_481 : decode cLw_law 481 = .ok (.iload 4, 2) := by decide +kernel
theorem dLw_law_483 : decode cLw_law 483 = .ok (.iconst 1, 1) := by decide +kernel
theorem dLw_law_484 : decode cLw_law 484 = .ok (.iadd, 1) := by decide +kernel
theorem dLw_law_485 : decode cLw_law 485 = .ok (.iaload, 1) := by decide +kernel
theorem dLw_law_486 : decode cLw_law 486 = .ok (.aload_n 0, 1) := by decide +kernel
theorem dLw_law_487 : decode cLw_law 487 = .ok (.iload 4, 2) := by decide +kernel
theorem dLw_law_489 : decode cLw_law 489 = .ok (.iconst 2, 1) := by decide +kernel
theorem dLw_law_490 : decode cLw_law 490 = .ok (.iadd, 1) := by decide +kernel
theorem dLw_law_491 : decode cLw_law 491 = .ok (.iaload, 1) := by decide +kernel
theorem dLw_law_492 : decode cLw_law 492 = .ok (.invokestatic 101, 3) := by decide +kernel
theorem dLw_law_495 : decode cLw_law 495 = .ok (.istore 5, 2) := by decide +kernel
theorem dLw_law_497 : decode cLw_law 497 = .ok (.aload_n 2, 1) := by decide +kernel
theorem dLw_law_498 : decode cLw_law 498 = .ok (.aload_n 0, 1) := by decide +kernel
theorem dLw_law_499 : decode cLw_law 499 = .ok (.iload 4, 2) := by decide +kernel
theorem dLw_law_501 : decode cLw_law 501 = .ok (.iconst 1, 1) := by decide +kernel
theorem dLw_law_502 : decode cLw_law 502 = .ok (.iadd, 1) := by decide +kernel
theorem dLw_law_503 : decode cLw_law 503 = .ok (.iaload, 1) := by decide +kernel
theorem dLw_law_504 : decode cLw_law 504 = .ok (.aload_n 0, 1) := by decide +kernel
theorem dLw_law_505 : decode cLw_law 505 = .ok (.iload 4, 2) := by decide +kernel
theorem dLw_law_507 : decode cLw_law 507 = .ok (.iconst 2, 1) := by decide +kernel
theorem dLw_law_508 : decode cLw_law 508 = .ok (.iadd, 1) := by decide +kernel
theorem dLw_law_509 : decode cLw_law 509 = .ok (.iaload, 1) := by decide +kernel
theorem dLw_law_510 : decode cLw_law 510 = .ok (.invokevirtual 103, 3) := by decide +kernel
theorem dLw_law_513 : decode cLw_law 513 = .ok (.aload_n 2, 1) := by decide +kernel
theorem dLw_law_514 : decode cLw_law 514 = .ok (.invokevirtual 79, 3) := by decide +kernel
theorem dLw_law_517 : decode cLw_law 517 = .ok (.iload 5, 2) := by decide +kernel
theorem dLw_law_519 : decode cLw_law 519 = .ok (.if_icmp .eq 5, 3) := by decide +kernel
theorem dLw_law_522 : decode cLw_law 522 = .ok (.iconst 0, 1) := by decide +kernel
theorem dLw_law_523 : decode cLw_law 523 = .ok (.ireturn, 1) := by decide +kernel
theorem dLw_law_524 : decode cLw_law 524 = .ok (.goto 578, 3) := by decide +kernel
theorem dLw_law_527 : decode cLw_law 527 = .ok (.aload_n 1, 1) := by decide +kernel
theorem dLw_law_528 : decode cLw_law 528 = .ok (.aload_n 0, 1) := by decide +kernel
theorem dLw_law_529 : decode cLw_law 529 = .ok (.iload 4, 2) := by decide +kernel
theorem dLw_law_531 : decode cLw_law 531 = .ok (.iconst 1, 1) := by decide +kernel
theorem dLw_law_532 : decode cLw_law 532 = .ok (.iadd, 1) := by decide +kernel
theorem dLw_law_533 : decode cLw_law 533 = .ok (.iaload, 1) := by decide +kernel
theorem dLw_law_534 : decode cLw_law 534 = .ok (.aload_n 0, 1) := by decide +kernel
theorem dLw_law_535 : decode cLw_law 535 = .ok (.iload 4, 2) := by decide +kernel
theorem dLw_law_537 : decode cLw_law 537 = .ok (.iconst 2, 1) := by decide +kernel
theorem dLw_law_538 : decode cLw_law 538 = .ok (.iadd, 1) := by decide +kernel
theorem dLw_law_539 : decode cLw_law 539 = .ok (.iaload, 1) := by decide +kernel
theorem dLw_law_540 : decode cLw_law 540 = .ok (.invokestatic 104, 3) := by decide +kernel
theorem dLw_law_543 : decode cLw_law 543 = .ok (.istore 5, 2) := by decide +kernel
theorem dLw_law_545 : decode cLw_law 545 = .ok (.aload_n 2, 1) := by decide +kernel
theorem dLw_law_546 : decode cLw_law 546 = .ok (.aload_n 0, 1) := by decide +kernel
theorem dLw_law_547 : decode cLw_law 547 = .ok (.iload 4, 2) := by decide +kernel
theorem dLw_law_549 : decode cLw_law 549 = .ok (.iconst 1, 1) := by decide +kernel
theorem dLw_law_550 : decode cLw_law 550 = .ok (.iadd, 1) := by decide +kernel
theorem dLw_law_551 : decode cLw_law 551 = .ok (.iaload, 1) := by decide +kernel
theorem dLw_law_552 : decode cLw_law 552 = .ok (.aload_n 0, 1) := by decide +kernel
theorem dLw_law_553 : decode cLw_law 553 = .ok (.iload 4, 2) := by decide +kernel
theorem dLw_law_555 : decode cLw_law 555 = .ok (.iconst 2, 1) := by decide +kernel
theorem dLw_law_556 : decode cLw_law 556 = .ok (.iadd, 1) := by decide +kernel
theorem dLw_law_557 : decode cLw_law 557 = .ok (.iaload, 1) := by decide +kernel
theorem dLw_law_558 : decode cLw_law 558 = .ok (.invokevirtual 106, 3) := by decide +kernel
theorem dLw_law_561 : decode cLw_law 561 = .ok (.aload_n 2, 1) := by decide +kernel
theorem dLw_law_562 : decode cLw_law 562 = .ok (.invokevirtual 79, 3) := by decide +kernel
theorem dLw_law_565 : decode cLw_law 565 = .ok (.iload 5, 2) := by decide +kernel
theorem dLw_law_567 : decode cLw_law 567 = .ok (.if_icmp .eq 5, 3) := by decide +kernel
theorem dLw_law_570 : decode cLw_law 570 = .ok (.iconst 0, 1) := by decide +kernel
theorem dLw_law_571 : decode cLw_law 571 = .ok (.ireturn, 1) := by decide +kernel
theorem dLw_law_572 : decode cLw_law 572 = .ok (.goto 530, 3) := by decide +kernel
theorem dLw_law_575 : decode cLw_law 575 = .ok (.aload_n 1, 1) := by decide +kernel
theorem dLw_law_576 : decode cLw_law 576 = .ok (.aload_n 0, 1) := by decide +kernel
theorem dLw_law_577 : decode cLw_law 577 = .ok (.iload 4, 2) := by decide +kernel
theorem dLw_law_579 : decode cLw_law 579 = .ok (.iconst 1, 1) := by decide +kernel
theorem dLw_law_580 : decode cLw_law 580 = .ok (.iadd, 1) := by decide +kernel
theorem dLw_law_581 : decode cLw_law 581 = .ok (.iaload, 1) := by decide +kernel
theorem dLw_law_582 : decode cLw_law 582 = .ok (.aload_n 0, 1) := by decide +kernel
theorem dLw_law_583 : decode cLw_law 583 = .ok (.iload 4, 2) := by decide +kernel
theorem dLw_law_585 : decode cLw_law 585 = .ok (.iconst 2, 1) := by decide +kernel
theorem dLw_law_586 : decode cLw_law 586 = .ok (.iadd, 1) := by decide +kernel
theorem dLw_law_587 : decode cLw_law 587 = .ok (.iaload, 1) := by decide +kernel
theorem dLw_law_588 : decode cLw_law 588 = .ok (.invokestatic 107, 3) := by decide +kernel
theorem dLw_law_591 : decode cLw_law 591 = .ok (.istore 5, 2) := by decide +kernel
theorem dLw_law_593 : decode cLw_law 593 = .ok (.aload_n 2, 1) := by decide +kernel
theorem dLw_law_594 : decode cLw_law 594 = .ok (.aload_n 0, 1) := by decide +kernel
theorem dLw_law_595 : decode cLw_law 595 = .ok (.iload 4, 2) := by decide +kernel
theorem dLw_law_597 : decode cLw_law 597 = .ok (.iconst 1, 1) := by decide +kernel
theorem dLw_law_598 : decode cLw_law 598 = .ok (.iadd, 1) := by decide +kernel
theorem dLw_law_599 : decode cLw_law 599 = .ok (.iaload, 1) := by decide +kernel
theorem dLw_law_600 : decode cLw_law 600 = .ok (.aload_n 0, 1) := by decide +kernel
theorem dLw_law_601 : decode cLw_law 601 = .ok (.iload 4, 2) := by decide +kernel
theorem dLw_law_603 : decode cLw_law 603 = .ok (.iconst 2, 1) := by decide +kernel
theorem dLw_law_604 : decode cLw_law 604 = .ok (.iadd, 1) := by decide +kernel
theorem dLw_law_605 : decode cLw_law 605 = .ok (.iaload, 1) := by decide +kernel
theorem dLw_law_606 : decode cLw_law 606 = .ok (.invokevirtual 109, 3) := by decide +kernel
theorem dLw_law_609 : decode cLw_law 609 = .ok (.aload_n 2, 1) := by decide +kernel
theorem dLw_law_610 : decode cLw_law 610 = .ok (.invokevirtual 79, 3) := by decide +kernel
theorem dLw_law_613 : decode cLw_law 613 = .ok (.iload 5, 2) := by decide +kernel
theorem dLw_law_615 : decode cLw_law 615 = .ok (.if_icmp .eq 5, 3) := by decide +kernel
theorem dLw_law_618 : decode cLw_law 618 = .ok (.iconst 0, 1) := by decide +kernel
theorem dLw_law_619 : decode cLw_law 619 = .ok (.ireturn, 1) := by decide +kernel
theorem dLw_law_620 : decode cLw_law 620 = .ok (.goto 482, 3) := by decide +kernel
theorem dLw_law_623 : decode cLw_law 623 = .ok (.aload_n 1, 1) := by decide +kernel
theorem dLw_law_624 : decode cLw_law 624 = .ok (.aload_n 0, 1) := by decide +kernel
theorem dLw_law_625 : decode cLw_law 625 = .ok (.iload 4, 2) := by decide +kernel
theorem dLw_law_627 : decode cLw_law 627 = .ok (.iconst 1, 1) := by decide +kernel
theorem dLw_law_628 : decode cLw_law 628 = .ok (.iadd, 1) := by decide +kernel
theorem dLw_law_629 : decode cLw_law 629 = .ok (.iaload, 1) := by decide +kernel
theorem dLw_law_630 : decode cLw_law 630 = .ok (.aload_n 0, 1) := by decide +kernel
theorem dLw_law_631 : decode cLw_law 631 = .ok (.iload 4, 2) := by decide +kernel
theorem dLw_law_633 : decode cLw_law 633 = .ok (.iconst 2, 1) := by decide +kernel
theorem dLw_law_634 : decode cLw_law 634 = .ok (.iadd, 1) := by decide +kernel
theorem dLw_law_635 : decode cLw_law 635 = .ok (.iaload, 1) := by decide +kernel
theorem dLw_law_636 : decode cLw_law 636 = .ok (.aload_n 0, 1) := by decide +kernel
theorem dLw_law_637 : decode cLw_law 637 = .ok (.iload 4, 2) := by decide +kernel
theorem dLw_law_639 : decode cLw_law 639 = .ok (.iconst 3, 1) := by decide +kernel
theorem dLw_law_640 : decode cLw_law 640 = .ok (.iadd, 1) := by decide +kernel
theorem dLw_law_641 : decode cLw_law 641 = .ok (.iaload, 1) := by decide +kernel
theorem dLw_law_642 : decode cLw_law 642 = .ok (.aload_n 0, 1) := by decide +kernel
theorem dLw_law_643 : decode cLw_law 643 = .ok (.iload 4, 2) := by decide +kernel
theorem dLw_law_645 : decode cLw_law 645 = .ok (.iconst 4, 1) := by decide +kernel
theorem dLw_law_646 : decode cLw_law 646 = .ok (.iadd, 1) := by decide +kernel
theorem dLw_law_647 : decode cLw_law 647 = .ok (.iaload, 1) := by decide +kernel
theorem dLw_law_648 : decode cLw_law 648 = .ok (.ifCond .eq 7, 3) := by decide +kernel
theorem dLw_law_651 : decode cLw_law 651 = .ok (.iconst 1, 1) := by decide +kernel
theorem dLw_law_652 : decode cLw_law 652 = .ok (.goto 4, 3) := by decide +kernel
theorem dLw_law_655 : decode cLw_law 655 = .ok (.iconst 0, 1) := by decide +kernel
theorem dLw_law_656 : decode cLw_law 656 = .ok (.aload_n 3, 1) := by decide +kernel
theorem dLw_law_657 : decode cLw_law 657 = .ok (.invokestatic 110, 3) := by decide +kernel
theorem dLw_law_660 : decode cLw_law 660 = .ok (.istore 5, 2) := by decide +kernel
theorem dLw_law_662 : decode cLw_law 662 = .ok (.aload_n 2, 1) := by decide +kernel
theorem dLw_law_663 : decode cLw_law 663 = .ok (.aload_n 0, 1) := by decide +kernel
theorem dLw_law_664 : decode cLw_law 664 = .ok (.iload 4, 2) := by decide +kernel
theorem dLw_law_666 : decode cLw_law 666 = .ok (.iconst 1, 1) := by decide +kernel
theorem dLw_law_667 : decode cLw_law 667 = .ok (.iadd, 1) := by decide +kernel
theorem dLw_law_668 : decode cLw_law 668 = .ok (.iaload, 1) := by decide +kernel
theorem dLw_law_669 : decode cLw_law 669 = .ok (.aload_n 0, 1) := by decide +kernel
theorem dLw_law_670 : decode cLw_law 670 = .ok (.iload 4, 2) := by decide +kernel
theorem dLw_law_672 : decode cLw_law 672 = .ok (.iconst 2, 1) := by decide +kernel
theorem dLw_law_673 : decode cLw_law 673 = .ok (.iadd, 1) := by decide +kernel
theorem dLw_law_674 : decode cLw_law 674 = .ok (.iaload, 1) := by decide +kernel
theorem dLw_law_675 : decode cLw_law 675 = .ok (.aload_n 0, 1) := by decide +kernel
theorem dLw_law_676 : decode cLw_law 676 = .ok (.iload 4, 2) := by decide +kernel
theorem dLw_law_678 : decode cLw_law 678 = .ok (.iconst 3, 1) := by decide +kernel
theorem dLw_law_679 : decode cLw_law 679 = .ok (.iadd, 1) := by decide +kernel
theorem dLw_law_680 : decode cLw_law 680 = .ok (.iaload, 1) := by decide +kernel
theorem dLw_law_681 : decode cLw_law 681 = .ok (.aload_n 0, 1) := by decide +kernel
theorem dLw_law_682 : decode cLw_law 682 = .ok (.iload 4, 2) := by decide +kernel
theorem dLw_law_684 : decode cLw_law 684 = .ok (.iconst 4, 1) := by decide +kernel
theorem dLw_law_685 : decode cLw_law 685 = .ok (.iadd, 1) := by decide +kernel
theorem dLw_law_686 : decode cLw_law 686 = .ok (.iaload, 1) := by decide +kernel
theorem dLw_law_687 : decode cLw_law 687 = .ok (.ifCond .eq 7, 3) := by decide +kernel
theorem dLw_law_690 : decode cLw_law 690 = .ok (.iconst 1, 1) := by decide +kernel
theorem dLw_law_691 : decode cLw_law 691 = .ok (.goto 4, 3) := by decide +kernel
theorem dLw_law_694 : decode cLw_law 694 = .ok (.iconst 0, 1) := by decide +kernel
theorem dLw_law_695 : decode cLw_law 695 = .ok (.invokevirtual 113, 3) := by decide +kernel
theorem dLw_law_698 : decode cLw_law 698 = .ok (.istore 6, 2) := by decide +kernel
theorem dLw_law_700 : decode cLw_law 700 = .ok (.aload_n 2, 1) := by decide +kernel
theorem dLw_law_701 : decode cLw_law 701 = .ok (.invokevirtual 79, 3) := by decide +kernel
theorem dLw_law_704 : decode cLw_law 704 = .ok (.iload 5, 2) := by decide +kernel
theorem dLw_law_706 : decode cLw_law 706 = .ok (.if_icmp .eq 5, 3) := by decide +kernel
theorem dLw_law_709 : decode cLw_law 709 = .ok (.iconst 0, 1) := by decide +kernel
theorem dLw_law_710 : decode cLw_law 710 = .ok (.ireturn, 1) := by decide +kernel
theorem dLw_law_711 : decode cLw_law 711 = .ok (.iload 5, 2) := by decide +kernel
theorem dLw_law_713 : decode cLw_law 713 = .ok (.ifCond .ne 22, 3) := by decide +kernel
theorem dLw_law_716 : decode cLw_law 716 = .ok (.aload_n 3, 1) := by decide +kernel
theorem dLw_law_717 : decode cLw_law 717 = .ok (.iconst 0, 1) := by decide +kernel
theorem dLw_law_718 : decode cLw_law 718 = .ok (.laload, 1) := by decide +kernel
theorem dLw_law_719 : decode cLw_law 719 = .ok (.iload 6, 2) := by decide +kernel
theorem dLw_law_721 : decode cLw_law 721 = .ok (.ifCond .eq 7, 3) := by decide +kernel
theorem dLw_law_724 : decode cLw_law 724 = .ok (.lconst 1, 1) := by decide +kernel
theorem dLw_law_725 : decode cLw_law 725 = .ok (.goto 4, 3) := by decide +kernel
theorem dLw_law_728 : decode cLw_law 728 = .ok (.lconst 0, 1) := by decide +kernel
theorem dLw_law_729 : decode cLw_law 729 = .ok (.lcmp, 1) := by decide +kernel
theorem dLw_law_730 : decode cLw_law 730 = .ok (.ifCond .eq 5, 3) := by decide +kernel
theorem dLw_law_733 : decode cLw_law 733 = .ok (.iconst 0, 1) := by decide +kernel
theorem dLw_law_734 : decode cLw_law 734 = .ok (.ireturn, 1) := by decide +kernel
theorem dLw_law_735 : decode cLw_law 735 = .ok (.goto 367, 3) := by decide +kernel
theorem dLw_law_738 : decode cLw_law 738 = .ok (.aload_n 1, 1) := by decide +kernel
theorem dLw_law_739 : decode cLw_law 739 = .ok (.aload_n 0, 1) := by decide +kernel
theorem dLw_law_740 : decode cLw_law 740 = .ok (.iload 4, 2) := by decide +kernel
theorem dLw_law_742 : decode cLw_law 742 = .ok (.iconst 1, 1) := by decide +kernel
theorem dLw_law_743 : decode cLw_law 743 = .ok (.iadd, 1) := by decide +kernel
theorem dLw_law_744 : decode cLw_law 744 = .ok (.iaload, 1) := by decide +kernel
theorem dLw_law_745 : decode cLw_law 745 = .ok (.aload_n 0, 1) := by decide +kernel
theorem dLw_law_746 : decode cLw_law 746 = .ok (.iload 4, 2) := by decide +kernel
theorem dLw_law_748 : decode cLw_law 748 = .ok (.iconst 2, 1) := by decide +kernel
theorem dLw_law_749 : decode cLw_law 749 = .ok (.iadd, 1) := by decide +kernel
theorem dLw_law_750 : decode cLw_law 750 = .ok (.iaload, 1) := by decide +kernel
theorem dLw_law_751 : decode cLw_law 751 = .ok (.aload_n 3, 1) := by decide +kernel
theorem dLw_law_752 : decode cLw_law 752 = .ok (.invokestatic 114, 3) := by decide +kernel
theorem dLw_law_755 : decode cLw_law 755 = .ok (.istore 5, 2) := by decide +kernel
theorem dLw_law_757 : decode cLw_law 757 = .ok (.aload_n 2, 1) := by decide +kernel
theorem dLw_law_758 : decode cLw_law 758 = .ok (.aload_n 0, 1) := by decide +kernel
theorem dLw_law_759 : decode cLw_law 759 = .ok (.iload 4, 2) := by decide +kernel
theorem dLw_law_761 : decode cLw_law 761 = .ok (.iconst 1, 1) := by decide +kernel
theorem dLw_law_762 : decode cLw_law 762 = .ok (.iadd, 1) := by decide +kernel
theorem dLw_law_763 : decode cLw_law 763 = .ok (.iaload, 1) := by decide +kernel
theorem dLw_law_764 : decode cLw_law 764 = .ok (.aload_n 0, 1) := by decide +kernel
theorem dLw_law_765 : decode cLw_law 765 = .ok (.iload 4, 2) := by decide +kernel
theorem dLw_law_767 : decode cLw_law 767 = .ok (.iconst 2, 1) := by decide +kernel
theorem dLw_law_768 : decode cLw_law 768 = .ok (.iadd, 1) := by decide +kernel
theorem dLw_law_769 : decode cLw_law 769 = .ok (.iaload, 1) := by decide +kernel
theorem dLw_law_770 : decode cLw_law 770 = .ok (.invokevirtual 117, 3) := by decide +kernel
theorem dLw_law_773 : decode cLw_law 773 = .ok (.istore 6, 2) := by decide +kernel
theorem dLw_law_775 : decode cLw_law 775 = .ok (.aload_n 2, 1) := by decide +kernel
theorem dLw_law_776 : decode cLw_law 776 = .ok (.invokevirtual 79, 3) := by decide +kernel
theorem dLw_law_779 : decode cLw_law 779 = .ok (.iload 5, 2) := by decide +kernel
theorem dLw_law_781 : decode cLw_law 781 = .ok (.if_icmp .eq 5, 3) := by decide +kernel
theorem dLw_law_784 : decode cLw_law 784 = .ok (.iconst 0, 1) := by decide +kernel
theorem dLw_law_785 : decode cLw_law 785 = .ok (.ireturn, 1) := by decide +kernel
theorem dLw_law_786 : decode cLw_law 786 = .ok (.iload 5, 2) := by decide +kernel
theorem dLw_law_788 : decode cLw_law 788 = .ok (.ifCond .ne 15, 3) := by decide +kernel
theorem dLw_law_791 : decode cLw_law 791 = .ok (.aload_n 3, 1) := by decide +kernel
theorem dLw_law_792 : decode cLw_law 792 = .ok (.iconst 0, 1) := by decide +kernel
theorem dLw_law_793 : decode cLw_law 793 = .ok (.laload, 1) := by decide +kernel
theorem dLw_law_794 : decode cLw_law 794 = .ok (.iload 6, 2) := by decide +kernel
theorem dLw_law_796 : decode cLw_law 796 = .ok (.i2l, 1) := by decide +kernel
theorem dLw_law_797 : decode cLw_law 797 = .ok (.lcmp, 1) := by decide +kernel
theorem dLw_law_798 : decode cLw_law 798 = .ok (.ifCond .eq 5, 3) := by decide +kernel
theorem dLw_law_801 : decode cLw_law 801 = .ok (.iconst 0, 1) := by decide +kernel
theorem dLw_law_802 : decode cLw_law 802 = .ok (.ireturn, 1) := by decide +kernel
theorem dLw_law_803 : decode cLw_law 803 = .ok (.goto 299, 3) := by decide +kernel
theorem dLw_law_806 : decode cLw_law 806 = .ok (.aload_n 1, 1) := by decide +kernel
theorem dLw_law_807 : decode cLw_law 807 = .ok (.aload_n 0, 1) := by decide +kernel
theorem dLw_law_808 : decode cLw_law 808 = .ok (.iload 4, 2) := by decide +kernel
theorem dLw_law_810 : decode cLw_law 810 = .ok (.iconst 1, 1) := by decide +kernel
theorem dLw_law_811 : decode cLw_law 811 = .ok (.iadd, 1) := by decide +kernel
theorem dLw_law_812 : decode cLw_law 812 = .ok (.iaload, 1) := by decide +kernel
theorem dLw_law_813 : decode cLw_law 813 = .ok (.aload_n 0, 1) := by decide +kernel
theorem dLw_law_814 : decode cLw_law 814 = .ok (.iload 4, 2) := by decide +kernel
theorem dLw_law_816 : decode cLw_law 816 = .ok (.iconst 2, 1) := by decide +kernel
theorem dLw_law_817 : decode cLw_law 817 = .ok (.iadd, 1) := by decide +kernel
theorem dLw_law_818 : decode cLw_law 818 = .ok (.iaload, 1) := by decide +kernel
theorem dLw_law_819 : decode cLw_law 819 = .ok (.aload_n 3, 1) := by decide +kernel
theorem dLw_law_820 : decode cLw_law 820 = .ok (.invokestatic 118, 3) := by decide +kernel
theorem dLw_law_823 : decode cLw_law 823 = .ok (.istore 5, 2) := by decide +kernel
theorem dLw_law_825 : decode cLw_law 825 = .ok (.aload_n 2, 1) := by decide +kernel
theorem dLw_law_826 : decode cLw_law 826 = .ok (.aload_n 0, 1) := by decide +kernel
theorem dLw_law_827 : decode cLw_law 827 = .ok (.iload 4, 2) := by decide +kernel
theorem dLw_law_829 : decode cLw_law 829 = .ok (.iconst 1, 1) := by decide +kernel
theorem dLw_law_830 : decode cLw_law 830 = .ok (.iadd, 1) := by decide +kernel
theorem dLw_law_831 : decode cLw_law 831 = .ok (.iaload, 1) := by decide +kernel
theorem dLw_law_832 : decode cLw_law 832 = .ok (.aload_n 0, 1) := by decide +kernel
theorem dLw_law_833 : decode cLw_law 833 = .ok (.iload 4, 2) := by decide +kernel
theorem dLw_law_835 : decode cLw_law 835 = .ok (.iconst 2, 1) := by decide +kernel
theorem dLw_law_836 : decode cLw_law 836 = .ok (.iadd, 1) := by decide +kernel
theorem dLw_law_837 : decode cLw_law 837 = .ok (.iaload, 1) := by decide +kernel
theorem dLw_law_838 : decode cLw_law 838 = .ok (.invokevirtual 120, 3) := by decide +kernel
theorem dLw_law_841 : decode cLw_law 841 = .ok (.istore 6, 2) := by decide +kernel
theorem dLw_law_843 : decode cLw_law 843 = .ok (.aload_n 2, 1) := by decide +kernel
theorem dLw_law_844 : decode cLw_law 844 = .ok (.invokevirtual 79, 3) := by decide +kernel
theorem dLw_law_847 : decode cLw_law 847 = .ok (.iload 5, 2) := by decide +kernel
theorem dLw_law_849 : decode cLw_law 849 = .ok (.if_icmp .eq 5, 3) := by decide +kernel
theorem dLw_law_852 : decode cLw_law 852 = .ok (.iconst 0, 1) := by decide +kernel
theorem dLw_law_853 : decode cLw_law 853 = .ok (.ireturn, 1) := by decide +kernel
theorem dLw_law_854 : decode cLw_law 854 = .ok (.iload 5, 2) := by decide +kernel
theorem dLw_law_856 : decode cLw_law 856 = .ok (.ifCond .ne 15, 3) := by decide +kernel
theorem dLw_law_859 : decode cLw_law 859 = .ok (.aload_n 3, 1) := by decide +kernel
theorem dLw_law_860 : decode cLw_law 860 = .ok (.iconst 0, 1) := by decide +kernel
theorem dLw_law_861 : decode cLw_law 861 = .ok (.laload, 1) := by decide +kernel
theorem dLw_law_862 : decode cLw_law 862 = .ok (.iload 6, 2) := by decide +kernel
theorem dLw_law_864 : decode cLw_law 864 = .ok (.i2l, 1) := by decide +kernel
theorem dLw_law_865 : decode cLw_law 865 = .ok (.lcmp, 1) := by decide +kernel
theorem dLw_law_866 : decode cLw_law 866 = .ok (.ifCond .eq 5, 3) := by decide +kernel
theorem dLw_law_869 : decode cLw_law 869 = .ok (.iconst 0, 1) := by decide +kernel
theorem dLw_law_870 : decode cLw_law 870 = .ok (.ireturn, 1) := by decide +kernel
theorem dLw_law_871 : decode cLw_law 871 = .ok (.goto 231, 3) := by decide +kernel
theorem dLw_law_874 : decode cLw_law 874 = .ok (.aload_n 1, 1) := by decide +kernel
theorem dLw_law_875 : decode cLw_law 875 = .ok (.aload_n 0, 1) := by decide +kernel
theorem dLw_law_876 : decode cLw_law 876 = .ok (.iload 4, 2) := by decide +kernel
theorem dLw_law_878 : decode cLw_law 878 = .ok (.iconst 1, 1) := by decide +kernel
theorem dLw_law_879 : decode cLw_law 879 = .ok (.iadd, 1) := by decide +kernel
theorem dLw_law_880 : decode cLw_law 880 = .ok (.iaload, 1) := by decide +kernel
theorem dLw_law_881 : decode cLw_law 881 = .ok (.aload_n 0, 1) := by decide +kernel
theorem dLw_law_882 : decode cLw_law 882 = .ok (.iload 4, 2) := by decide +kernel
theorem dLw_law_884 : decode cLw_law 884 = .ok (.iconst 2, 1) := by decide +kernel
theorem dLw_law_885 : decode cLw_law 885 = .ok (.iadd, 1) := by decide +kernel
theorem dLw_law_886 : decode cLw_law 886 = .ok (.iaload, 1) := by decide +kernel
theorem dLw_law_887 : decode cLw_law 887 = .ok (.aload_n 0, 1) := by decide +kernel
theorem dLw_law_888 : decode cLw_law 888 = .ok (.iload 4, 2) := by decide +kernel
theorem dLw_law_890 : decode cLw_law 890 = .ok (.iconst 3, 1) := by decide +kernel
theorem dLw_law_891 : decode cLw_law 891 = .ok (.iadd, 1) := by decide +kernel
theorem dLw_law_892 : decode cLw_law 892 = .ok (.iaload, 1) := by decide +kernel
theorem dLw_law_893 : decode cLw_law 893 = .ok (.aload_n 3, 1) := by decide +kernel
theorem dLw_law_894 : decode cLw_law 894 = .ok (.invokestatic 121, 3) := by decide +kernel
theorem dLw_law_897 : decode cLw_law 897 = .ok (.istore 5, 2) := by decide +kernel
theorem dLw_law_899 : decode cLw_law 899 = .ok (.aload_n 2, 1) := by decide +kernel
theorem dLw_law_900 : decode cLw_law 900 = .ok (.aload_n 0, 1) := by decide +kernel
theorem dLw_law_901 : decode cLw_law 901 = .ok (.iload 4, 2) := by decide +kernel
theorem dLw_law_903 : decode cLw_law 903 = .ok (.iconst 1, 1) := by decide +kernel
theorem dLw_law_904 : decode cLw_law 904 = .ok (.iadd, 1) := by decide +kernel
theorem dLw_law_905 : decode cLw_law 905 = .ok (.iaload, 1) := by decide +kernel
theorem dLw_law_906 : decode cLw_law 906 = .ok (.aload_n 0, 1) := by decide +kernel
theorem dLw_law_907 : decode cLw_law 907 = .ok (.iload 4, 2) := by decide +kernel
theorem dLw_law_909 : decode cLw_law 909 = .ok (.iconst 2, 1) := by decide +kernel
theorem dLw_law_910 : decode cLw_law 910 = .ok (.iadd, 1) := by decide +kernel
theorem dLw_law_911 : decode cLw_law 911 = .ok (.iaload, 1) := by decide +kernel
theorem dLw_law_912 : decode cLw_law 912 = .ok (.aload_n 0, 1) := by decide +kernel
theorem dLw_law_913 : decode cLw_law 913 = .ok (.iload 4, 2) := by decide +kernel
theorem dLw_law_915 : decode cLw_law 915 = .ok (.iconst 3, 1) := by decide +kernel
theorem dLw_law_916 : decode cLw_law 916 = .ok (.iadd, 1) := by decide +kernel
theorem dLw_law_917 : decode cLw_law 917 = .ok (.iaload, 1) := by decide +kernel
theorem dLw_law_918 : decode cLw_law 918 = .ok (.invokevirtual 124, 3) := by decide +kernel
theorem dLw_law_921 : decode cLw_law 921 = .ok (.istore 6, 2) := by decide +kernel
theorem dLw_law_923 : decode cLw_law 923 = .ok (.aload_n 2, 1) := by decide +kernel
theorem dLw_law_924 : decode cLw_law 924 = .ok (.invokevirtual 79, 3) := by decide +kernel
theorem dLw_law_927 : decode cLw_law 927 = .ok (.iload 5, 2) := by decide +kernel
theorem dLw_law_929 : decode cLw_law 929 = .ok (.if_icmp .eq 5, 3) := by decide +kernel
theorem dLw_law_932 : decode cLw_law 932 = .ok (.iconst 0, 1) := by decide +kernel
theorem dLw_law_933 : decode cLw_law 933 = .ok (.ireturn, 1) := by decide +kernel
theorem dLw_law_934 : decode cLw_law 934 = .ok (.iload 5, 2) := by decide +kernel
theorem dLw_law_936 : decode cLw_law 936 = .ok (.ifCond .ne 15, 3) := by decide +kernel
theorem dLw_law_939 : decode cLw_law 939 = .ok (.aload_n 3, 1) := by decide +kernel
theorem dLw_law_940 : decode cLw_law 940 = .ok (.iconst 0, 1) := by decide +kernel
theorem dLw_law_941 : decode cLw_law 941 = .ok (.laload, 1) := by decide +kernel
theorem dLw_law_942 : decode cLw_law 942 = .ok (.iload 6, 2) := by decide +kernel
theorem dLw_law_944 : decode cLw_law 944 = .ok (.i2l, 1) := by decide +kernel
theorem dLw_law_945 : decode cLw_law 945 = .ok (.lcmp, 1) := by decide +kernel
theorem dLw_law_946 : decode cLw_law 946 = .ok (.ifCond .eq 5, 3) := by decide +kernel
theorem dLw_law_949 : decode cLw_law 949 = .ok (.iconst 0, 1) := by decide +kernel
theorem dLw_law_950 : decode cLw_law 950 = .ok (.ireturn, 1) := by decide +kernel
theorem dLw_law_951 : decode cLw_law 951 = .ok (.goto 151, 3) := by decide +kernel
theorem dLw_law_954 : decode cLw_law 954 = .ok (.aload_n 1, 1) := by decide +kernel
theorem dLw_law_955 : decode cLw_law 955 = .ok (.aload_n 0, 1) := by decide +kernel
theorem dLw_law_956 : decode cLw_law 956 = .ok (.iload 4, 2) := by decide +kernel
theorem dLw_law_958 : decode cLw_law 958 = .ok (.iconst 1, 1) := by decide +kernel
theorem dLw_law_959 : decode cLw_law 959 = .ok (.iadd, 1) := by decide +kernel
theorem dLw_law_960 : decode cLw_law 960 = .ok (.iaload, 1) := by decide +kernel
theorem dLw_law_961 : decode cLw_law 961 = .ok (.aload_n 0, 1) := by decide +kernel
theorem dLw_law_962 : decode cLw_law 962 = .ok (.iload 4, 2) := by decide +kernel
theorem dLw_law_964 : decode cLw_law 964 = .ok (.iconst 2, 1) := by decide +kernel
theorem dLw_law_965 : decode cLw_law 965 = .ok (.iadd, 1) := by decide +kernel
theorem dLw_law_966 : decode cLw_law 966 = .ok (.iaload, 1) := by decide +kernel
theorem dLw_law_967 : decode cLw_law 967 = .ok (.aload_n 0, 1) := by decide +kernel
theorem dLw_law_968 : decode cLw_law 968 = .ok (.iload 4, 2) := by decide +kernel
theorem dLw_law_970 : decode cLw_law 970 = .ok (.iconst 3, 1) := by decide +kernel
theorem dLw_law_971 : decode cLw_law 971 = .ok (.iadd, 1) := by decide +kernel
theorem dLw_law_972 : decode cLw_law 972 = .ok (.iaload, 1) := by decide +kernel
theorem dLw_law_973 : decode cLw_law 973 = .ok (.aload_n 3, 1) := by decide +kernel
theorem dLw_law_974 : decode cLw_law 974 = .ok (.invokestatic 125, 3) := by decide +kernel
theorem dLw_law_977 : decode cLw_law 977 = .ok (.istore 5, 2) := by decide +kernel
theorem dLw_law_979 : decode cLw_law 979 = .ok (.aload_n 2, 1) := by decide +kernel
theorem dLw_law_980 : decode cLw_law 980 = .ok (.aload_n 0, 1) := by decide +kernel
theorem dLw_law_981 : decode cLw_law 981 = .ok (.iload 4, 2) := by decide +kernel
theorem dLw_law_983 : decode cLw_law 983 = .ok (.iconst 1, 1) := by decide +kernel
theorem dLw_law_984 : decode cLw_law 984 = .ok (.iadd, 1) := by decide +kernel
theorem dLw_law_985 : decode cLw_law 985 = .ok (.iaload, 1) := by decide +kernel
theorem dLw_law_986 : decode cLw_law 986 = .ok (.aload_n 0, 1) := by decide +kernel
theorem dLw_law_987 : decode cLw_law 987 = .ok (.iload 4, 2) := by decide +kernel
theorem dLw_law_989 : decode cLw_law 989 = .ok (.iconst 2, 1) := by decide +kernel
theorem dLw_law_990 : decode cLw_law 990 = .ok (.iadd, 1) := by decide +kernel
theorem dLw_law_991 : decode cLw_law 991 = .ok (.iaload, 1) := by decide +kernel
theorem dLw_law_992 : decode cLw_law 992 = .ok (.aload_n 0, 1) := by decide +kernel
theorem dLw_law_993 : decode cLw_law 993 = .ok (.iload 4, 2) := by decide +kernel
theorem dLw_law_995 : decode cLw_law 995 = .ok (.iconst 3, 1) := by decide +kernel
theorem dLw_law_996 : decode cLw_law 996 = .ok (.iadd, 1) := by decide +kernel
theorem dLw_law_997 : decode cLw_law 997 = .ok (.iaload, 1) := by decide +kernel
theorem dLw_law_998 : decode cLw_law 998 = .ok (.invokevirtual 127, 3) := by decide +kernel
theorem dLw_law_1001 : decode cLw_law 1001 = .ok (.istore 6, 2) := by decide +kernel
theorem dLw_law_1003 : decode cLw_law 1003 = .ok (.aload_n 2, 1) := by decide +kernel
theorem dLw_law_1004 : decode cLw_law 1004 = .ok (.invokevirtual 79, 3) := by decide +kernel
theorem dLw_law_1007 : decode cLw_law 1007 = .ok (.iload 5, 2) := by decide +kernel
theorem dLw_law_1009 : decode cLw_law 1009 = .ok (.if_icmp .eq 5, 3) := by decide +kernel
theorem dLw_law_1012 : decode cLw_law 1012 = .ok (.iconst 0, 1) := by decide +kernel
theorem dLw_law_1013 : decode cLw_law 1013 = .ok (.ireturn, 1) := by decide +kernel
theorem dLw_law_1014 : decode cLw_law 1014 = .ok (.iload 5, 2) := by decide +kernel
theorem dLw_law_1016 : decode cLw_law 1016 = .ok (.ifCond .ne 15, 3) := by decide +kernel
theorem dLw_law_1019 : decode cLw_law 1019 = .ok (.aload_n 3, 1) := by decide +kernel
theorem dLw_law_1020 : decode cLw_law 1020 = .ok (.iconst 0, 1) := by decide +kernel
theorem dLw_law_1021 : decode cLw_law 1021 = .ok (.laload, 1) := by decide +kernel
theorem dLw_law_1022 : decode cLw_law 1022 = .ok (.iload 6, 2) := by decide +kernel
theorem dLw_law_1024 : decode cLw_law 1024 = .ok (.i2l, 1) := by decide +kernel
theorem dLw_law_1025 : decode cLw_law 1025 = .ok (.lcmp, 1) := by decide +kernel
theorem dLw_law_1026 : decode cLw_law 1026 = .ok (.ifCond .eq 5, 3) := by decide +kernel
theorem dLw_law_1029 : decode cLw_law 1029 = .ok (.iconst 0, 1) := by decide +kernel
theorem dLw_law_1030 : decode cLw_law 1030 = .ok (.ireturn, 1) := by decide +kernel
theorem dLw_law_1031 : decode cLw_law 1031 = .ok (.goto 71, 3) := by decide +kernel
theorem dLw_law_1034 : decode cLw_law 1034 = .ok (.aload_n 1, 1) := by decide +kernel
theorem dLw_law_1035 : decode cLw_law 1035 = .ok (.aload_n 0, 1) := by decide +kernel
theorem dLw_law_1036 : decode cLw_law 1036 = .ok (.iload 4, 2) := by decide +kernel
theorem dLw_law_1038 : decode cLw_law 1038 = .ok (.iconst 1, 1) := by decide +kernel
theorem dLw_law_1039 : decode cLw_law 1039 = .ok (.iadd, 1) := by decide +kernel
theorem dLw_law_1040 : decode cLw_law 1040 = .ok (.iaload, 1) := by decide +kernel
theorem dLw_law_1041 : decode cLw_law 1041 = .ok (.aload_n 0, 1) := by decide +kernel
theorem dLw_law_1042 : decode cLw_law 1042 = .ok (.iload 4, 2) := by decide +kernel
theorem dLw_law_1044 : decode cLw_law 1044 = .ok (.iconst 2, 1) := by decide +kernel
theorem dLw_law_1045 : decode cLw_law 1045 = .ok (.iadd, 1) := by decide +kernel
theorem dLw_law_1046 : decode cLw_law 1046 = .ok (.iaload, 1) := by decide +kernel
theorem dLw_law_1047 : decode cLw_law 1047 = .ok (.aload_n 3, 1) := by decide +kernel
theorem dLw_law_1048 : decode cLw_law 1048 = .ok (.invokestatic 128, 3) := by decide +kernel
theorem dLw_law_1051 : decode cLw_law 1051 = .ok (.istore 5, 2) := by decide +kernel
theorem dLw_law_1053 : decode cLw_law 1053 = .ok (.aload_n 2, 1) := by decide +kernel
theorem dLw_law_1054 : decode cLw_law 1054 = .ok (.aload_n 0, 1) := by decide +kernel
theorem dLw_law_1055 : decode cLw_law 1055 = .ok (.iload 4, 2) := by decide +kernel
theorem dLw_law_1057 : decode cLw_law 1057 = .ok (.iconst 1, 1) := by decide +kernel
theorem dLw_law_1058 : decode cLw_law 1058 = .ok (.iadd, 1) := by decide +kernel
theorem dLw_law_1059 : decode cLw_law 1059 = .ok (.iaload, 1) := by decide +kernel
theorem dLw_law_1060 : decode cLw_law 1060 = .ok (.aload_n 0, 1) := by decide +kernel
theorem dLw_law_1061 : decode cLw_law 1061 = .ok (.iload 4, 2) := by decide +kernel
theorem dLw_law_1063 : decode cLw_law 1063 = .ok (.iconst 2, 1) := by decide +kernel
theorem dLw_law_1064 : decode cLw_law 1064 = .ok (.iadd, 1) := by decide +kernel
theorem dLw_law_1065 : decode cLw_law 1065 = .ok (.iaload, 1) := by decide +kernel
theorem dLw_law_1066 : decode cLw_law 1066 = .ok (.invokevirtual 130, 3) := by decide +kernel
theorem dLw_law_1069 : decode cLw_law 1069 = .ok (.istore 6, 2) := by decide +kernel
theorem dLw_law_1071 : decode cLw_law 1071 = .ok (.aload_n 2, 1) := by decide +kernel
theorem dLw_law_1072 : decode cLw_law 1072 = .ok (.invokevirtual 79, 3) := by decide +kernel
theorem dLw_law_1075 : decode cLw_law 1075 = .ok (.iload 5, 2) := by decide +kernel
theorem dLw_law_1077 : decode cLw_law 1077 = .ok (.if_icmp .eq 5, 3) := by decide +kernel
theorem dLw_law_1080 : decode cLw_law 1080 = .ok (.iconst 0, 1) := by decide +kernel
theorem dLw_law_1081 : decode cLw_law 1081 = .ok (.ireturn, 1) := by decide +kernel
theorem dLw_law_1082 : decode cLw_law 1082 = .ok (.iload 5, 2) := by decide +kernel
