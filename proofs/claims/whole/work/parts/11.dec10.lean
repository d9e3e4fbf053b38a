/-! decode rows, by program -/
theorem d_L_law_514 : decode (xt_code m_L_law) 514 = .ok (.aload_n 0, 1) := by decide +kernel
theorem d_L_law_515 : decode (xt_code m_L_law) 515 = .ok (.iload_n 3, 1) := by decide +kernel
theorem d_L_law_516 : decode (xt_code m_L_law) 516 = .ok (.iconst 1, 1) := by decide +kernel
theorem d_L_law_517 : decode (xt_code m_L_law) 517 = .ok (.iadd, 1) := by decide +kernel
theorem d_L_law_518 : decode (xt_code m_L_law) 518 = .ok (.iaload, 1) := by decide +kernel
theorem d_L_law_519 : decode (xt_code m_L_law) 519 = .ok (.invokevirtual 64, 3) := by decide +kernel
theorem d_L_law_522 : decode (xt_code m_L_law) 522 = .ok (.aload_n 2, 1) := by decide +kernel
theorem d_L_law_523 : decode (xt_code m_L_law) 523 = .ok (.aload_n 0, 1) := by decide +kernel
theorem d_L_law_524 : decode (xt_code m_L_law) 524 = .ok (.iload_n 3, 1) := by decide +kernel
theorem d_L_law_525 : decode (xt_code m_L_law) 525 = .ok (.iconst 1, 1) := by decide +kernel
theorem d_L_law_526 : decode (xt_code m_L_law) 526 = .ok (.iadd, 1) := by decide +kernel
theorem d_L_law_527 : decode (xt_code m_L_law) 527 = .ok (.iaload, 1) := by decide +kernel
theorem d_L_law_528 : decode (xt_code m_L_law) 528 = .ok (.invokevirtual 67, 3) := by decide +kernel
theorem d_L_law_531 : decode (xt_code m_L_law) 531 = .ok (.if_icmp .eq 127, 3) := by decide +kernel
theorem d_L_law_534 : decode (xt_code m_L_law) 534 = .ok (.iconst 0, 1) := by decide +kernel
theorem d_L_law_535 : decode (xt_code m_L_law) 535 = .ok (.ireturn, 1) := by decide +kernel
theorem d_L_law_536 : decode (xt_code m_L_law) 536 = .ok (.aload_n 1, 1) := by decide +kernel
theorem d_L_law_537 : decode (xt_code m_L_law) 537 = .ok (.aload_n 0, 1) := by decide +kernel
theorem d_L_law_538 : decode (xt_code m_L_law) 538 = .ok (.iload_n 3, 1) := by decide +kernel
theorem d_L_law_539 : decode (xt_code m_L_law) 539 = .ok (.iconst 1, 1) := by decide +kernel
theorem d_L_law_540 : decode (xt_code m_L_law) 540 = .ok (.iadd, 1) := by decide +kernel
theorem d_L_law_541 : decode (xt_code m_L_law) 541 = .ok (.iaload, 1) := by decide +kernel
theorem d_L_law_542 : decode (xt_code m_L_law) 542 = .ok (.aload_n 0, 1) := by decide +kernel
theorem d_L_law_543 : decode (xt_code m_L_law) 543 = .ok (.iload_n 3, 1) := by decide +kernel
theorem d_L_law_544 : decode (xt_code m_L_law) 544 = .ok (.iconst 2, 1) := by decide +kernel
theorem d_L_law_545 : decode (xt_code m_L_law) 545 = .ok (.iadd, 1) := by decide +kernel
theorem d_L_law_546 : decode (xt_code m_L_law) 546 = .ok (.iaload, 1) := by decide +kernel
theorem d_L_law_547 : decode (xt_code m_L_law) 547 = .ok (.invokevirtual 68, 3) := by decide +kernel
theorem d_L_law_550 : decode (xt_code m_L_law) 550 = .ok (.aload_n 2, 1) := by decide +kernel
theorem d_L_law_551 : decode (xt_code m_L_law) 551 = .ok (.aload_n 0, 1) := by decide +kernel
theorem d_L_law_552 : decode (xt_code m_L_law) 552 = .ok (.iload_n 3, 1) := by decide +kernel
theorem d_L_law_553 : decode (xt_code m_L_law) 553 = .ok (.iconst 1, 1) := by decide +kernel
theorem d_L_law_554 : decode (xt_code m_L_law) 554 = .ok (.iadd, 1) := by decide +kernel
theorem d_L_law_555 : decode (xt_code m_L_law) 555 = .ok (.iaload, 1) := by decide +kernel
theorem d_L_law_556 : decode (xt_code m_L_law) 556 = .ok (.aload_n 0, 1) := by decide +kernel
theorem d_L_law_557 : decode (xt_code m_L_law) 557 = .ok (.iload_n 3, 1) := by decide +kernel
theorem d_L_law_558 : decode (xt_code m_L_law) 558 = .ok (.iconst 2, 1) := by decide +kernel
theorem d_L_law_559 : decode (xt_code m_L_law) 559 = .ok (.iadd, 1) := by decide +kernel
theorem d_L_law_560 : decode (xt_code m_L_law) 560 = .ok (.iaload, 1) := by decide +kernel
theorem d_L_law_561 : decode (xt_code m_L_law) 561 = .ok (.invokevirtual 71, 3) := by decide +kernel
theorem d_L_law_564 : decode (xt_code m_L_law) 564 = .ok (.if_icmp .eq 94, 3) := by decide +kernel
theorem d_L_law_567 : decode (xt_code m_L_law) 567 = .ok (.iconst 0, 1) := by decide +kernel
theorem d_L_law_568 : decode (xt_code m_L_law) 568 = .ok (.ireturn, 1) := by decide +kernel
theorem d_L_law_569 : decode (xt_code m_L_law) 569 = .ok (.aload_n 1, 1) := by decide +kernel
theorem d_L_law_570 : decode (xt_code m_L_law) 570 = .ok (.aload_n 0, 1) := by decide +kernel
theorem d_L_law_571 : decode (xt_code m_L_law) 571 = .ok (.iload_n 3, 1) := by decide +kernel
theorem d_L_law_572 : decode (xt_code m_L_law) 572 = .ok (.iconst 1, 1) := by decide +kernel
theorem d_L_law_573 : decode (xt_code m_L_law) 573 = .ok (.iadd, 1) := by decide +kernel
theorem d_L_law_574 : decode (xt_code m_L_law) 574 = .ok (.iaload, 1) := by decide +kernel
theorem d_L_law_575 : decode (xt_code m_L_law) 575 = .ok (.aload_n 0, 1) := by decide +kernel
theorem d_L_law_576 : decode (xt_code m_L_law) 576 = .ok (.iload_n 3, 1) := by decide +kernel
theorem d_L_law_577 : decode (xt_code m_L_law) 577 = .ok (.iconst 2, 1) := by decide +kernel
theorem d_L_law_578 : decode (xt_code m_L_law) 578 = .ok (.iadd, 1) := by decide +kernel
theorem d_L_law_579 : decode (xt_code m_L_law) 579 = .ok (.iaload, 1) := by decide +kernel
theorem d_L_law_580 : decode (xt_code m_L_law) 580 = .ok (.aload_n 0, 1) := by decide +kernel
theorem d_L_law_581 : decode (xt_code m_L_law) 581 = .ok (.iload_n 3, 1) := by decide +kernel
theorem d_L_law_582 : decode (xt_code m_L_law) 582 = .ok (.iconst 3, 1) := by decide +kernel
theorem d_L_law_583 : decode (xt_code m_L_law) 583 = .ok (.iadd, 1) := by decide +kernel
theorem d_L_law_584 : decode (xt_code m_L_law) 584 = .ok (.iaload, 1) := by decide +kernel
theorem d_L_law_585 : decode (xt_code m_L_law) 585 = .ok (.invokevirtual 72, 3) := by decide +kernel
theorem d_L_law_588 : decode (xt_code m_L_law) 588 = .ok (.aload_n 2, 1) := by decide +kernel
theorem d_L_law_589 : decode (xt_code m_L_law) 589 = .ok (.aload_n 0, 1) := by decide +kernel
theorem d_L_law_590 : decode (xt_code m_L_law) 590 = .ok (.iload_n 3, 1) := by decide +kernel
theorem d_L_law_591 : decode (xt_code m_L_law) 591 = .ok (.iconst 1, 1) := by decide +kernel
theorem d_L_law_592 : decode (xt_code m_L_law) 592 = .ok (.iadd, 1) := by decide +kernel
theorem d_L_law_593 : decode (xt_code m_L_law) 593 = .ok (.iaload, 1) := by decide +kernel
theorem d_L_law_594 : decode (xt_code m_L_law) 594 = .ok (.aload_n 0, 1) := by decide +kernel
theorem d_L_law_595 : decode (xt_code m_L_law) 595 = .ok (.iload_n 3, 1) := by decide +kernel
theorem d_L_law_596 : decode (xt_code m_L_law) 596 = .ok (.iconst 2, 1) := by decide +kernel
theorem d_L_law_597 : decode (xt_code m_L_law) 597 = .ok (.iadd, 1) := by decide +kernel
theorem d_L_law_598 : decode (xt_code m_L_law) 598 = .ok (.iaload, 1) := by decide +kernel
theorem d_L_law_599 : decode (xt_code m_L_law) 599 = .ok (.aload_n 0, 1) := by decide +kernel
theorem d_L_law_600 : decode (xt_code m_L_law) 600 = .ok (.iload_n 3, 1) := by decide +kernel
theorem d_L_law_601 : decode (xt_code m_L_law) 601 = .ok (.iconst 3, 1) := by decide +kernel
theorem d_L_law_602 : decode (xt_code m_L_law) 602 = .ok (.iadd, 1) := by decide +kernel
theorem d_L_law_603 : decode (xt_code m_L_law) 603 = .ok (.iaload, 1) := by decide +kernel
theorem d_L_law_604 : decode (xt_code m_L_law) 604 = .ok (.invokevirtual 75, 3) := by decide +kernel
theorem d_L_law_607 : decode (xt_code m_L_law) 607 = .ok (.if_icmp .eq 51, 3) := by decide +kernel
theorem d_L_law_610 : decode (xt_code m_L_law) 610 = .ok (.iconst 0, 1) := by decide +kernel
theorem d_L_law_611 : decode (xt_code m_L_law) 611 = .ok (.ireturn, 1) := by decide +kernel
theorem d_L_law_612 : decode (xt_code m_L_law) 612 = .ok (.aload_n 1, 1) := by decide +kernel
theorem d_L_law_613 : decode (xt_code m_L_law) 613 = .ok (.aload_n 0, 1) := by decide +kernel
theorem d_L_law_614 : decode (xt_code m_L_law) 614 = .ok (.iload_n 3, 1) := by decide +kernel
theorem d_L_law_615 : decode (xt_code m_L_law) 615 = .ok (.iconst 1, 1) := by decide +kernel
theorem d_L_law_616 : decode (xt_code m_L_law) 616 = .ok (.iadd, 1) := by decide +kernel
theorem d_L_law_617 : decode (xt_code m_L_law) 617 = .ok (.iaload, 1) := by decide +kernel
theorem d_L_law_618 : decode (xt_code m_L_law) 618 = .ok (.invokevirtual 76, 3) := by decide +kernel
theorem d_L_law_621 : decode (xt_code m_L_law) 621 = .ok (.aload_n 2, 1) := by decide +kernel
theorem d_L_law_622 : decode (xt_code m_L_law) 622 = .ok (.aload_n 0, 1) := by decide +kernel
theorem d_L_law_623 : decode (xt_code m_L_law) 623 = .ok (.iload_n 3, 1) := by decide +kernel
theorem d_L_law_624 : decode (xt_code m_L_law) 624 = .ok (.iconst 1, 1) := by decide +kernel
theorem d_L_law_625 : decode (xt_code m_L_law) 625 = .ok (.iadd, 1) := by decide +kernel
theorem d_L_law_626 : decode (xt_code m_L_law) 626 = .ok (.iaload, 1) := by decide +kernel
theorem d_L_law_627 : decode (xt_code m_L_law) 627 = .ok (.invokevirtual 79, 3) := by decide +kernel
theorem d_L_law_630 : decode (xt_code m_L_law) 630 = .ok (.if_icmp .eq 28, 3) := by decide +kernel
theorem d_L_law_633 : decode (xt_code m_L_law) 633 = .ok (.iconst 0, 1) := by decide +kernel
theorem d_L_law_634 : decode (xt_code m_L_law) 634 = .ok (.ireturn, 1) := by decide +kernel
theorem d_L_law_635 : decode (xt_code m_L_law) 635 = .ok (.aload_n 1, 1) := by decide +kernel
theorem d_L_law_636 : decode (xt_code m_L_law) 636 = .ok (.aload_n 0, 1) := by decide +kernel
theorem d_L_law_637 : decode (xt_code m_L_law) 637 = .ok (.iload_n 3, 1) := by decide +kernel
theorem d_L_law_638 : decode (xt_code m_L_law) 638 = .ok (.iconst 1, 1) := by decide +kernel
theorem d_L_law_639 : decode (xt_code m_L_law) 639 = .ok (.iadd, 1) := by decide +kernel
theorem d_L_law_640 : decode (xt_code m_L_law) 640 = .ok (.iaload, 1) := by decide +kernel
theorem d_L_law_641 : decode (xt_code m_L_law) 641 = .ok (.invokevirtual 80, 3) := by decide +kernel
theorem d_L_law_644 : decode (xt_code m_L_law) 644 = .ok (.aload_n 2, 1) := by decide +kernel
theorem d_L_law_645 : decode (xt_code m_L_law) 645 = .ok (.aload_n 0, 1) := by decide +kernel
theorem d_L_law_646 : decode (xt_code m_L_law) 646 = .ok (.iload_n 3, 1) := by decide +kernel
theorem d_L_law_647 : decode (xt_code m_L_law) 647 = .ok (.iconst 1, 1) := by decide +kernel
theorem d_L_law_648 : decode (xt_code m_L_law) 648 = .ok (.iadd, 1) := by decide +kernel
theorem d_L_law_649 : decode (xt_code m_L_law) 649 = .ok (.iaload, 1) := by decide +kernel
theorem d_L_law_650 : decode (xt_code m_L_law) 650 = .ok (.invokevirtual 83, 3) := by decide +kernel
theorem d_L_law_653 : decode (xt_code m_L_law) 653 = .ok (.if_icmp .eq 5, 3) := by decide +kernel
theorem d_L_law_656 : decode (xt_code m_L_law) 656 = .ok (.iconst 0, 1) := by decide +kernel
theorem d_L_law_657 : decode (xt_code m_L_law) 657 = .ok (.ireturn, 1) := by decide +kernel
theorem d_L_law_658 : decode (xt_code m_L_law) 658 = .ok (.iinc 3 6, 3) := by decide +kernel
theorem d_L_law_661 : decode (xt_code m_L_law) 661 = .ok (.goto (-643), 3) := by decide +kernel
theorem d_L_law_664 : decode (xt_code m_L_law) 664 = .ok (.iconst 1, 1) := by decide +kernel
theorem d_L_law_665 : decode (xt_code m_L_law) 665 = .ok (.ireturn, 1) := by decide +kernel
