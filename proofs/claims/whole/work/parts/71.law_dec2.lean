theorem d_l_416 : decode code 416 = .ok (.iadd, 1) := by decide +kernel
theorem d_l_417 : decode code 417 = .ok (.iaload, 1) := by decide +kernel
theorem d_l_418 : decode code 418 = .ok (.invokevirtual 41, 3) := by decide +kernel
theorem d_l_421 : decode code 421 = .ok (.if_icmp .eq 357, 3) := by decide +kernel
theorem d_l_424 : decode code 424 = .ok (.iconst 0, 1) := by decide +kernel
theorem d_l_425 : decode code 425 = .ok (.ireturn, 1) := by decide +kernel
theorem d_l_426 : decode code 426 = .ok (.aload_n 1, 1) := by decide +kernel
theorem d_l_427 : decode code 427 = .ok (.aload_n 0, 1) := by decide +kernel
theorem d_l_428 : decode code 428 = .ok (.iload_n 3, 1) := by decide +kernel
theorem d_l_429 : decode code 429 = .ok (.iconst 1, 1) := by decide +kernel
theorem d_l_430 : decode code 430 = .ok (.iadd, 1) := by decide +kernel
theorem d_l_431 : decode code 431 = .ok (.iaload, 1) := by decide +kernel
theorem d_l_432 : decode code 432 = .ok (.invokevirtual 42, 3) := by decide +kernel
theorem d_l_435 : decode code 435 = .ok (.aload_n 2, 1) := by decide +kernel
theorem d_l_436 : decode code 436 = .ok (.aload_n 0, 1) := by decide +kernel
theorem d_l_437 : decode code 437 = .ok (.iload_n 3, 1) := by decide +kernel
theorem d_l_438 : decode code 438 = .ok (.iconst 1, 1) := by decide +kernel
theorem d_l_439 : decode code 439 = .ok (.iadd, 1) := by decide +kernel
theorem d_l_440 : decode code 440 = .ok (.iaload, 1) := by decide +kernel
theorem d_l_441 : decode code 441 = .ok (.invokevirtual 46, 3) := by decide +kernel
theorem d_l_444 : decode code 444 = .ok (.if_icmp .eq 334, 3) := by decide +kernel
theorem d_l_447 : decode code 447 = .ok (.iconst 0, 1) := by decide +kernel
theorem d_l_448 : decode code 448 = .ok (.ireturn, 1) := by decide +kernel
theorem d_l_449 : decode code 449 = .ok (.aload_n 1, 1) := by decide +kernel
theorem d_l_450 : decode code 450 = .ok (.aload_n 0, 1) := by decide +kernel
theorem d_l_451 : decode code 451 = .ok (.iload_n 3, 1) := by decide +kernel
theorem d_l_452 : decode code 452 = .ok (.iconst 1, 1) := by decide +kernel
theorem d_l_453 : decode code 453 = .ok (.iadd, 1) := by decide +kernel
theorem d_l_454 : decode code 454 = .ok (.iaload, 1) := by decide +kernel
theorem d_l_455 : decode code 455 = .ok (.invokevirtual 47, 3) := by decide +kernel
theorem d_l_458 : decode code 458 = .ok (.aload_n 2, 1) := by decide +kernel
theorem d_l_459 : decode code 459 = .ok (.aload_n 0, 1) := by decide +kernel
theorem d_l_460 : decode code 460 = .ok (.iload_n 3, 1) := by decide +kernel
theorem d_l_461 : decode code 461 = .ok (.iconst 1, 1) := by decide +kernel
theorem d_l_462 : decode code 462 = .ok (.iadd, 1) := by decide +kernel
theorem d_l_463 : decode code 463 = .ok (.iaload, 1) := by decide +kernel
theorem d_l_464 : decode code 464 = .ok (.invokevirtual 51, 3) := by decide +kernel
theorem d_l_467 : decode code 467 = .ok (.if_icmp .eq 311, 3) := by decide +kernel
theorem d_l_470 : decode code 470 = .ok (.iconst 0, 1) := by decide +kernel
theorem d_l_471 : decode code 471 = .ok (.ireturn, 1) := by decide +kernel
theorem d_l_472 : decode code 472 = .ok (.aload_n 1, 1) := by decide +kernel
theorem d_l_473 : decode code 473 = .ok (.aload_n 0, 1) := by decide +kernel
theorem d_l_474 : decode code 474 = .ok (.iload_n 3, 1) := by decide +kernel
theorem d_l_475 : decode code 475 = .ok (.iconst 1, 1) := by decide +kernel
theorem d_l_476 : decode code 476 = .ok (.iadd, 1) := by decide +kernel
theorem d_l_477 : decode code 477 = .ok (.iaload, 1) := by decide +kernel
theorem d_l_478 : decode code 478 = .ok (.invokevirtual 52, 3) := by decide +kernel
theorem d_l_481 : decode code 481 = .ok (.aload_n 2, 1) := by decide +kernel
theorem d_l_482 : decode code 482 = .ok (.aload_n 0, 1) := by decide +kernel
theorem d_l_483 : decode code 483 = .ok (.iload_n 3, 1) := by decide +kernel
theorem d_l_484 : decode code 484 = .ok (.iconst 1, 1) := by decide +kernel
theorem d_l_485 : decode code 485 = .ok (.iadd, 1) := by decide +kernel
theorem d_l_486 : decode code 486 = .ok (.iaload, 1) := by decide +kernel
theorem d_l_487 : decode code 487 = .ok (.invokevirtual 55, 3) := by decide +kernel
theorem d_l_490 : decode code 490 = .ok (.if_icmp .eq 288, 3) := by decide +kernel
theorem d_l_493 : decode code 493 = .ok (.iconst 0, 1) := by decide +kernel
theorem d_l_494 : decode code 494 = .ok (.ireturn, 1) := by decide +kernel
theorem d_l_495 : decode code 495 = .ok (.aload_n 1, 1) := by decide +kernel
theorem d_l_496 : decode code 496 = .ok (.aload_n 0, 1) := by decide +kernel
theorem d_l_497 : decode code 497 = .ok (.iload_n 3, 1) := by decide +kernel
theorem d_l_498 : decode code 498 = .ok (.iconst 1, 1) := by decide +kernel
theorem d_l_499 : decode code 499 = .ok (.iadd, 1) := by decide +kernel
theorem d_l_500 : decode code 500 = .ok (.iaload, 1) := by decide +kernel
theorem d_l_501 : decode code 501 = .ok (.invokevirtual 56, 3) := by decide +kernel
theorem d_l_504 : decode code 504 = .ok (.aload_n 2, 1) := by decide +kernel
theorem d_l_505 : decode code 505 = .ok (.aload_n 0, 1) := by decide +kernel
theorem d_l_506 : decode code 506 = .ok (.iload_n 3, 1) := by decide +kernel
theorem d_l_507 : decode code 507 = .ok (.iconst 1, 1) := by decide +kernel
theorem d_l_508 : decode code 508 = .ok (.iadd, 1) := by decide +kernel
theorem d_l_509 : decode code 509 = .ok (.iaload, 1) := by decide +kernel
theorem d_l_510 : decode code 510 = .ok (.invokevirtual 59, 3) := by decide +kernel
theorem d_l_513 : decode code 513 = .ok (.if_icmp .eq 265, 3) := by decide +kernel
theorem d_l_516 : decode code 516 = .ok (.iconst 0, 1) := by decide +kernel
theorem d_l_517 : decode code 517 = .ok (.ireturn, 1) := by decide +kernel
theorem d_l_518 : decode code 518 = .ok (.aload_n 1, 1) := by decide +kernel
theorem d_l_519 : decode code 519 = .ok (.aload_n 0, 1) := by decide +kernel
theorem d_l_520 : decode code 520 = .ok (.iload_n 3, 1) := by decide +kernel
theorem d_l_521 : decode code 521 = .ok (.iconst 1, 1) := by decide +kernel
theorem d_l_522 : decode code 522 = .ok (.iadd, 1) := by decide +kernel
theorem d_l_523 : decode code 523 = .ok (.iaload, 1) := by decide +kernel
theorem d_l_524 : decode code 524 = .ok (.aload_n 0, 1) := by decide +kernel
theorem d_l_525 : decode code 525 = .ok (.iload_n 3, 1) := by decide +kernel
theorem d_l_526 : decode code 526 = .ok (.iconst 2, 1) := by decide +kernel
theorem d_l_527 : decode code 527 = .ok (.iadd, 1) := by decide +kernel
theorem d_l_528 : decode code 528 = .ok (.iaload, 1) := by decide +kernel
theorem d_l_529 : decode code 529 = .ok (.invokevirtual 60, 3) := by decide +kernel
theorem d_l_532 : decode code 532 = .ok (.aload_n 2, 1) := by decide +kernel
theorem d_l_533 : decode code 533 = .ok (.aload_n 0, 1) := by decide +kernel
theorem d_l_534 : decode code 534 = .ok (.iload_n 3, 1) := by decide +kernel
theorem d_l_535 : decode code 535 = .ok (.iconst 1, 1) := by decide +kernel
theorem d_l_536 : decode code 536 = .ok (.iadd, 1) := by decide +kernel
theorem d_l_537 : decode code 537 = .ok (.iaload, 1) := by decide +kernel
theorem d_l_538 : decode code 538 = .ok (.aload_n 0, 1) := by decide +kernel
theorem d_l_539 : decode code 539 = .ok (.iload_n 3, 1) := by decide +kernel
theorem d_l_540 : decode code 540 = .ok (.iconst 2, 1) := by decide +kernel
theorem d_l_541 : decode code 541 = .ok (.iadd, 1) := by decide +kernel
theorem d_l_542 : decode code 542 = .ok (.iaload, 1) := by decide +kernel
theorem d_l_543 : decode code 543 = .ok (.invokevirtual 64, 3) := by decide +kernel
theorem d_l_546 : decode code 546 = .ok (.if_icmp .eq 232, 3) := by decide +kernel
theorem d_l_549 : decode code 549 = .ok (.iconst 0, 1) := by decide +kernel
theorem d_l_550 : decode code 550 = .ok (.ireturn, 1) := by decide +kernel
theorem d_l_551 : decode code 551 = .ok (.aload_n 1, 1) := by decide +kernel
theorem d_l_552 : decode code 552 = .ok (.aload_n 0, 1) := by decide +kernel
theorem d_l_553 : decode code 553 = .ok (.iload_n 3, 1) := by decide +kernel
theorem d_l_554 : decode code 554 = .ok (.iconst 1, 1) := by decide +kernel
theorem d_l_555 : decode code 555 = .ok (.iadd, 1) := by decide +kernel
theorem d_l_556 : decode code 556 = .ok (.iaload, 1) := by decide +kernel
theorem d_l_557 : decode code 557 = .ok (.aload_n 0, 1) := by decide +kernel
theorem d_l_558 : decode code 558 = .ok (.iload_n 3, 1) := by decide +kernel
theorem d_l_559 : decode code 559 = .ok (.iconst 2, 1) := by decide +kernel
theorem d_l_560 : decode code 560 = .ok (.iadd, 1) := by decide +kernel
theorem d_l_561 : decode code 561 = .ok (.iaload, 1) := by decide +kernel
theorem d_l_562 : decode code 562 = .ok (.aload_n 0, 1) := by decide +kernel
theorem d_l_563 : decode code 563 = .ok (.iload_n 3, 1) := by decide +kernel
theorem d_l_564 : decode code 564 = .ok (.iconst 3, 1) := by decide +kernel
theorem d_l_565 : decode code 565 = .ok (.iadd, 1) := by decide +kernel
theorem d_l_566 : decode code 566 = .ok (.iaload, 1) := by decide +kernel
theorem d_l_567 : decode code 567 = .ok (.aload_n 0, 1) := by decide +kernel
theorem d_l_568 : decode code 568 = .ok (.iload_n 3, 1) := by decide +kernel
theorem d_l_569 : decode code 569 = .ok (.iconst 4, 1) := by decide +kernel
theorem d_l_570 : decode code 570 = .ok (.iadd, 1) := by decide +kernel
theorem d_l_571 : decode code 571 = .ok (.iaload, 1) := by decide +kernel
theorem d_l_572 : decode code 572 = .ok (.aload_n 0, 1) := by decide +kernel
theorem d_l_573 : decode code 573 = .ok (.iload_n 3, 1) := by decide +kernel
theorem d_l_574 : decode code 574 = .ok (.iconst 5, 1) := by decide +kernel
theorem d_l_575 : decode code 575 = .ok (.iadd, 1) := by decide +kernel
theorem d_l_576 : decode code 576 = .ok (.iaload, 1) := by decide +kernel
theorem d_l_577 : decode code 577 = .ok (.invokevirtual 65, 3) := by decide +kernel
theorem d_l_580 : decode code 580 = .ok (.aload_n 2, 1) := by decide +kernel
theorem d_l_581 : decode code 581 = .ok (.aload_n 0, 1) := by decide +kernel
theorem d_l_582 : decode code 582 = .ok (.iload_n 3, 1) := by decide +kernel
theorem d_l_583 : decode code 583 = .ok (.iconst 1, 1) := by decide +kernel
theorem d_l_584 : decode code 584 = .ok (.iadd, 1) := by decide +kernel
theorem d_l_585 : decode code 585 = .ok (.iaload, 1) := by decide +kernel
theorem d_l_586 : decode code 586 = .ok (.aload_n 0, 1) := by decide +kernel
theorem d_l_587 : decode code 587 = .ok (.iload_n 3, 1) := by decide +kernel
theorem d_l_588 : decode code 588 = .ok (.iconst 2, 1) := by decide +kernel
theorem d_l_589 : decode code 589 = .ok (.iadd, 1) := by decide +kernel
theorem d_l_590 : decode code 590 = .ok (.iaload, 1) := by decide +kernel
theorem d_l_591 : decode code 591 = .ok (.aload_n 0, 1) := by decide +kernel
theorem d_l_592 : decode code 592 = .ok (.iload_n 3, 1) := by decide +kernel
theorem d_l_593 : decode code 593 = .ok (.iconst 3, 1) := by decide +kernel
theorem d_l_594 : decode code 594 = .ok (.iadd, 1) := by decide +kernel
theorem d_l_595 : decode code 595 = .ok (.iaload, 1) := by decide +kernel
theorem d_l_596 : decode code 596 = .ok (.aload_n 0, 1) := by decide +kernel
theorem d_l_597 : decode code 597 = .ok (.iload_n 3, 1) := by decide +kernel
theorem d_l_598 : decode code 598 = .ok (.iconst 4, 1) := by decide +kernel
theorem d_l_599 : decode code 599 = .ok (.iadd, 1) := by decide +kernel
theorem d_l_600 : decode code 600 = .ok (.iaload, 1) := by decide +kernel
theorem d_l_601 : decode code 601 = .ok (.aload_n 0, 1) := by decide +kernel
theorem d_l_602 : decode code 602 = .ok (.iload_n 3, 1) := by decide +kernel
theorem d_l_603 : decode code 603 = .ok (.iconst 5, 1) := by decide +kernel
theorem d_l_604 : decode code 604 = .ok (.iadd, 1) := by decide +kernel
theorem d_l_605 : decode code 605 = .ok (.iaload, 1) := by decide +kernel
theorem d_l_606 : decode code 606 = .ok (.invokevirtual 68, 3) := by decide +kernel
theorem d_l_609 : decode code 609 = .ok (.if_icmp .eq 169, 3) := by decide +kernel
theorem d_l_612 : decode code 612 = .ok (.iconst 0, 1) := by decide +kernel
theorem d_l_613 : decode code 613 = .ok (.ireturn, 1) := by decide +kernel
theorem d_l_614 : decode code 614 = .ok (.aload_n 1, 1) := by decide +kernel
theorem d_l_615 : decode code 615 = .ok (.aload_n 0, 1) := by decide +kernel
theorem d_l_616 : decode code 616 = .ok (.iload_n 3, 1) := by decide +kernel
theorem d_l_617 : decode code 617 = .ok (.iconst 1, 1) := by decide +kernel
theorem d_l_618 : decode code 618 = .ok (.iadd, 1) := by decide +kernel
theorem d_l_619 : decode code 619 = .ok (.iaload, 1) := by decide +kernel
theorem d_l_620 : decode code 620 = .ok (.invokevirtual 69, 3) := by decide +kernel
theorem d_l_623 : decode code 623 = .ok (.aload_n 2, 1) := by decide +kernel
theorem d_l_624 : decode code 624 = .ok (.aload_n 0, 1) := by decide +kernel
theorem d_l_625 : decode code 625 = .ok (.iload_n 3, 1) := by decide +kernel
theorem d_l_626 : decode code 626 = .ok (.iconst 1, 1) := by decide +kernel
theorem d_l_627 : decode code 627 = .ok (.iadd, 1) := by decide +kernel
theorem d_l_628 : decode code 628 = .ok (.iaload, 1) := by decide +kernel
theorem d_l_629 : decode code 629 = .ok (.invokevirtual 72, 3) := by decide +kernel
theorem d_l_632 : decode code 632 = .ok (.if_icmp .eq 146, 3) := by decide +kernel
theorem d_l_635 : decode code 635 = .ok (.iconst 0, 1) := by decide +kernel
theorem d_l_636 : decode code 636 = .ok (.ireturn, 1) := by decide +kernel
theorem d_l_637 : decode code 637 = .ok (.aload_n 1, 1) := by decide +kernel
theorem d_l_638 : decode code 638 = .ok (.aload_n 0, 1) := by decide +kernel
theorem d_l_639 : decode code 639 = .ok (.iload_n 3, 1) := by decide +kernel
theorem d_l_640 : decode code 640 = .ok (.iconst 1, 1) := by decide +kernel
theorem d_l_641 : decode code 641 = .ok (.iadd, 1) := by decide +kernel
theorem d_l_642 : decode code 642 = .ok (.iaload, 1) := by decide +kernel
theorem d_l_643 : decode code 643 = .ok (.invokevirtual 73, 3) := by decide +kernel
theorem d_l_646 : decode code 646 = .ok (.aload_n 2, 1) := by decide +kernel
theorem d_l_647 : decode code 647 = .ok (.aload_n 0, 1) := by decide +kernel
theorem d_l_648 : decode code 648 = .ok (.iload_n 3, 1) := by decide +kernel
theorem d_l_649 : decode code 649 = .ok (.iconst 1, 1) := by decide +kernel
theorem d_l_650 : decode code 650 = .ok (.iadd, 1) := by decide +kernel
theorem d_l_651 : decode code 651 = .ok (.iaload, 1) := by decide +kernel
theorem d_l_652 : decode code 652 = .ok (.invokevirtual 76, 3) := by decide +kernel
theorem d_l_655 : decode code 655 = .ok (.if_icmp .eq 123, 3) := by decide +kernel
theorem d_l_658 : decode code 658 = .ok (.iconst 0, 1) := by decide +kernel
theorem d_l_659 : decode code 659 = .ok (.ireturn, 1) := by decide +kernel
theorem d_l_660 : decode code 660 = .ok (.aload_n 1, 1) := by decide +kernel
theorem d_l_661 : decode code 661 = .ok (.invokevirtual 77, 3) := by decide +kernel
theorem d_l_664 : decode code 664 = .ok (.aload_n 2, 1) := by decide +kernel
theorem d_l_665 : decode code 665 = .ok (.invokevirtual 81, 3) := by decide +kernel
theorem d_l_668 : decode code 668 = .ok (.if_icmp .eq 110, 3) := by decide +kernel
theorem d_l_671 : decode code 671 = .ok (.iconst 0, 1) := by decide +kernel
theorem d_l_672 : decode code 672 = .ok (.ireturn, 1) := by decide +kernel
theorem d_l_673 : decode code 673 = .ok (.aload_n 1, 1) := by decide +kernel
theorem d_l_674 : decode code 674 = .ok (.invokevirtual 82, 3) := by decide +kernel
theorem d_l_677 : decode code 677 = .ok (.aload_n 2, 1) := by decide +kernel
theorem d_l_678 : decode code 678 = .ok (.invokevirtual 85, 3) := by decide +kernel
theorem d_l_681 : decode code 681 = .ok (.if_icmp .eq 97, 3) := by decide +kernel
theorem d_l_684 : decode code 684 = .ok (.iconst 0, 1) := by decide +kernel
theorem d_l_685 : decode code 685 = .ok (.ireturn, 1) := by decide +kernel
theorem d_l_686 : decode code 686 = .ok (.aload_n 1, 1) := by decide +kernel
theorem d_l_687 : decode code 687 = .ok (.aload_n 0, 1) := by decide +kernel
theorem d_l_688 : decode code 688 = .ok (.iload_n 3, 1) := by decide +kernel
theorem d_l_689 : decode code 689 = .ok (.iconst 1, 1) := by decide +kernel
theorem d_l_690 : decode code 690 = .ok (.iadd, 1) := by decide +kernel
theorem d_l_691 : decode code 691 = .ok (.iaload, 1) := by decide +kernel
theorem d_l_692 : decode code 692 = .ok (.aload_n 0, 1) := by decide +kernel
theorem d_l_693 : decode code 693 = .ok (.iload_n 3, 1) := by decide +kernel
theorem d_l_694 : decode code 694 = .ok (.iconst 2, 1) := by decide +kernel
theorem d_l_695 : decode code 695 = .ok (.iadd, 1) := by decide +kernel
theorem d_l_696 : decode code 696 = .ok (.iaload, 1) := by decide +kernel
theorem d_l_697 : decode code 697 = .ok (.invokevirtual 86, 3) := by decide +kernel
theorem d_l_700 : decode code 700 = .ok (.aload_n 2, 1) := by decide +kernel
theorem d_l_701 : decode code 701 = .ok (.aload_n 0, 1) := by decide +kernel
theorem d_l_702 : decode code 702 = .ok (.iload_n 3, 1) := by decide +kernel
theorem d_l_703 : decode code 703 = .ok (.iconst 1, 1) := by decide +kernel
theorem d_l_704 : decode code 704 = .ok (.iadd, 1) := by decide +kernel
theorem d_l_705 : decode code 705 = .ok (.iaload, 1) := by decide +kernel
theorem d_l_706 : decode code 706 = .ok (.aload_n 0, 1) := by decide +kernel
theorem d_l_707 : decode code 707 = .ok (.iload_n 3, 1) := by decide +kernel
theorem d_l_708 : decode code 708 = .ok (.iconst 2, 1) := by decide +kernel
theorem d_l_709 : decode code 709 = .ok (.iadd, 1) := by decide +kernel
theorem d_l_710 : decode code 710 = .ok (.iaload, 1) := by decide +kernel
theorem d_l_711 : decode code 711 = .ok (.invokevirtual 89, 3) := by decide +kernel
theorem d_l_714 : decode code 714 = .ok (.if_icmp .eq 64, 3) := by decide +kernel
theorem d_l_717 : decode code 717 = .ok (.iconst 0, 1) := by decide +kernel
theorem d_l_718 : decode code 718 = .ok (.ireturn, 1) := by decide +kernel
theorem d_l_719 : decode code 719 = .ok (.aload_n 1, 1) := by decide +kernel
theorem d_l_720 : decode code 720 = .ok (.aload_n 0, 1) := by decide +kernel
theorem d_l_721 : decode code 721 = .ok (.iload_n 3, 1) := by decide +kernel
theorem d_l_722 : decode code 722 = .ok (.iconst 1, 1) := by decide +kernel
theorem d_l_723 : decode code 723 = .ok (.iadd, 1) := by decide +kernel
theorem d_l_724 : decode code 724 = .ok (.iaload, 1) := by decide +kernel
theorem d_l_725 : decode code 725 = .ok (.invokevirtual 90, 3) := by decide +kernel
theorem d_l_728 : decode code 728 = .ok (.aload_n 2, 1) := by decide +kernel
theorem d_l_729 : decode code 729 = .ok (.aload_n 0, 1) := by decide +kernel
theorem d_l_730 : decode code 730 = .ok (.iload_n 3, 1) := by decide +kernel
theorem d_l_731 : decode code 731 = .ok (.iconst 1, 1) := by decide +kernel
theorem d_l_732 : decode code 732 = .ok (.iadd, 1) := by decide +kernel
theorem d_l_733 : decode code 733 = .ok (.iaload, 1) := by decide +kernel
theorem d_l_734 : decode code 734 = .ok (.invokevirtual 93, 3) := by decide +kernel
theorem d_l_737 : decode code 737 = .ok (.if_icmp .eq 41, 3) := by decide +kernel
theorem d_l_740 : decode code 740 = .ok (.iconst 0, 1) := by decide +kernel
theorem d_l_741 : decode code 741 = .ok (.ireturn, 1) := by decide +kernel
theorem d_l_742 : decode code 742 = .ok (.aload_n 1, 1) := by decide +kernel
theorem d_l_743 : decode code 743 = .ok (.aload_n 0, 1) := by decide +kernel
theorem d_l_744 : decode code 744 = .ok (.iload_n 3, 1) := by decide +kernel
theorem d_l_745 : decode code 745 = .ok (.iconst 1, 1) := by decide +kernel
theorem d_l_746 : decode code 746 = .ok (.iadd, 1) := by decide +kernel
theorem d_l_747 : decode code 747 = .ok (.iaload, 1) := by decide +kernel
theorem d_l_748 : decode code 748 = .ok (.invokevirtual 94, 3) := by decide +kernel
theorem d_l_751 : decode code 751 = .ok (.aload_n 2, 1) := by decide +kernel
theorem d_l_752 : decode code 752 = .ok (.aload_n 0, 1) := by decide +kernel
theorem d_l_753 : decode code 753 = .ok (.iload_n 3, 1) := by decide +kernel
theorem d_l_754 : decode code 754 = .ok (.iconst 1, 1) := by decide +kernel
theorem d_l_755 : decode code 755 = .ok (.iadd, 1) := by decide +kernel
theorem d_l_756 : decode code 756 = .ok (.iaload, 1) := by decide +kernel
theorem d_l_757 : decode code 757 = .ok (.invokevirtual 97, 3) := by decide +kernel
theorem d_l_760 : decode code 760 = .ok (.if_icmp .eq 18, 3) := by decide +kernel
theorem d_l_763 : decode code 763 = .ok (.iconst 0, 1) := by decide +kernel
theorem d_l_764 : decode code 764 = .ok (.ireturn, 1) := by decide +kernel
theorem d_l_765 : decode code 765 = .ok (.aload_n 1, 1) := by decide +kernel
theorem d_l_766 : decode code 766 = .ok (.invokevirtual 98, 3) := by decide +kernel
theorem d_l_769 : decode code 769 = .ok (.aload_n 2, 1) := by decide +kernel
theorem d_l_770 : decode code 770 = .ok (.invokevirtual 101, 3) := by decide +kernel
theorem d_l_773 : decode code 773 = .ok (.if_icmp .eq 5, 3) := by decide +kernel
theorem d_l_776 : decode code 776 = .ok (.iconst 0, 1) := by decide +kernel
theorem d_l_777 : decode code 777 = .ok (.ireturn, 1) := by decide +kernel
theorem d_l_778 : decode code 778 = .ok (.iinc 3 6, 3) := by decide +kernel
theorem d_l_781 : decode code 781 = .ok (.goto (-763), 3) := by decide +kernel
theorem d_l_784 : decode code 784 = .ok (.iconst 1, 1) := by decide +kernel
theorem d_l_785 : decode code 785 = .ok (.ireturn, 1) := by decide +kernel
