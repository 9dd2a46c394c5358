theorem d_code_506 : decode code 506 = .ok (.iadd, 1) := by decide +kernel
theorem d_code_507 : decode code 507 = .ok (.iaload, 1) := by decide +kernel
theorem d_code_508 : decode code 508 = .ok (.invokevirtual 78, 3) := by decide +kernel
theorem d_code_511 : decode code 511 = .ok (.aload_n 2, 1) := by decide +kernel
theorem d_code_512 : decode code 512 = .ok (.aload_n 0, 1) := by decide +kernel
theorem d_code_513 : decode code 513 = .ok (.iload_n 3, 1) := by decide +kernel
theorem d_code_514 : decode code 514 = .ok (.iconst 1, 1) := by decide +kernel
theorem d_code_515 : decode code 515 = .ok (.iadd, 1) := by decide +kernel
theorem d_code_516 : decode code 516 = .ok (.iaload, 1) := by decide +kernel
theorem d_code_517 : decode code 517 = .ok (.invokevirtual 81, 3) := by decide +kernel
theorem d_code_520 : decode code 520 = .ok (.if_icmp .eq 238, 3) := by decide +kernel
theorem d_code_525 : decode code 525 = .ok (.aload_n 1, 1) := by decide +kernel
theorem d_code_526 : decode code 526 = .ok (.aload_n 0, 1) := by decide +kernel
theorem d_code_527 : decode code 527 = .ok (.iload_n 3, 1) := by decide +kernel
theorem d_code_528 : decode code 528 = .ok (.iconst 1, 1) := by decide +kernel
theorem d_code_529 : decode code 529 = .ok (.iadd, 1) := by decide +kernel
theorem d_code_530 : decode code 530 = .ok (.iaload, 1) := by decide +kernel
theorem d_code_531 : decode code 531 = .ok (.invokevirtual 82, 3) := by decide +kernel
theorem d_code_534 : decode code 534 = .ok (.aload_n 2, 1) := by decide +kernel
theorem d_code_535 : decode code 535 = .ok (.aload_n 0, 1) := by decide +kernel
theorem d_code_536 : decode code 536 = .ok (.iload_n 3, 1) := by decide +kernel
theorem d_code_537 : decode code 537 = .ok (.iconst 1, 1) := by decide +kernel
theorem d_code_538 : decode code 538 = .ok (.iadd, 1) := by decide +kernel
theorem d_code_539 : decode code 539 = .ok (.iaload, 1) := by decide +kernel
theorem d_code_540 : decode code 540 = .ok (.invokevirtual 85, 3) := by decide +kernel
theorem d_code_543 : decode code 543 = .ok (.if_icmp .eq 215, 3) := by decide +kernel
theorem d_code_548 : decode code 548 = .ok (.aload_n 1, 1) := by decide +kernel
theorem d_code_549 : decode code 549 = .ok (.invokevirtual 86, 3) := by decide +kernel
theorem d_code_552 : decode code 552 = .ok (.aload_n 2, 1) := by decide +kernel
theorem d_code_553 : decode code 553 = .ok (.invokevirtual 89, 3) := by decide +kernel
theorem d_code_556 : decode code 556 = .ok (.if_icmp .eq 202, 3) := by decide +kernel
theorem d_code_561 : decode code 561 = .ok (.aload_n 1, 1) := by decide +kernel
theorem d_code_562 : decode code 562 = .ok (.aload_n 0, 1) := by decide +kernel
theorem d_code_563 : decode code 563 = .ok (.iload_n 3, 1) := by decide +kernel
theorem d_code_564 : decode code 564 = .ok (.iconst 1, 1) := by decide +kernel
theorem d_code_565 : decode code 565 = .ok (.iadd, 1) := by decide +kernel
theorem d_code_566 : decode code 566 = .ok (.iaload, 1) := by decide +kernel
theorem d_code_567 : decode code 567 = .ok (.invokevirtual 90, 3) := by decide +kernel
theorem d_code_570 : decode code 570 = .ok (.aload_n 2, 1) := by decide +kernel
theorem d_code_571 : decode code 571 = .ok (.aload_n 0, 1) := by decide +kernel
theorem d_code_572 : decode code 572 = .ok (.iload_n 3, 1) := by decide +kernel
theorem d_code_573 : decode code 573 = .ok (.iconst 1, 1) := by decide +kernel
theorem d_code_574 : decode code 574 = .ok (.iadd, 1) := by decide +kernel
theorem d_code_575 : decode code 575 = .ok (.iaload, 1) := by decide +kernel
theorem d_code_576 : decode code 576 = .ok (.invokevirtual 93, 3) := by decide +kernel
theorem d_code_579 : decode code 579 = .ok (.if_icmp .eq 179, 3) := by decide +kernel
theorem d_code_584 : decode code 584 = .ok (.aload_n 1, 1) := by decide +kernel
theorem d_code_585 : decode code 585 = .ok (.invokevirtual 94, 3) := by decide +kernel
theorem d_code_588 : decode code 588 = .ok (.aload_n 2, 1) := by decide +kernel
theorem d_code_589 : decode code 589 = .ok (.invokevirtual 97, 3) := by decide +kernel
theorem d_code_592 : decode code 592 = .ok (.if_icmp .eq 166, 3) := by decide +kernel
theorem d_code_597 : decode code 597 = .ok (.aload_n 1, 1) := by decide +kernel
theorem d_code_598 : decode code 598 = .ok (.invokevirtual 98, 3) := by decide +kernel
theorem d_code_601 : decode code 601 = .ok (.aload_n 2, 1) := by decide +kernel
theorem d_code_602 : decode code 602 = .ok (.invokevirtual 101, 3) := by decide +kernel
theorem d_code_605 : decode code 605 = .ok (.if_icmp .eq 153, 3) := by decide +kernel
theorem d_code_610 : decode code 610 = .ok (.aload_n 1, 1) := by decide +kernel
theorem d_code_611 : decode code 611 = .ok (.invokevirtual 102, 3) := by decide +kernel
theorem d_code_614 : decode code 614 = .ok (.aload_n 2, 1) := by decide +kernel
theorem d_code_615 : decode code 615 = .ok (.invokevirtual 105, 3) := by decide +kernel
theorem d_code_618 : decode code 618 = .ok (.if_icmp .eq 140, 3) := by decide +kernel
theorem d_code_623 : decode code 623 = .ok (.aload_n 1, 1) := by decide +kernel
theorem d_code_624 : decode code 624 = .ok (.aload_n 0, 1) := by decide +kernel
theorem d_code_625 : decode code 625 = .ok (.iload_n 3, 1) := by decide +kernel
theorem d_code_626 : decode code 626 = .ok (.iconst 1, 1) := by decide +kernel
theorem d_code_627 : decode code 627 = .ok (.iadd, 1) := by decide +kernel
theorem d_code_628 : decode code 628 = .ok (.iaload, 1) := by decide +kernel
theorem d_code_629 : decode code 629 = .ok (.aload_n 0, 1) := by decide +kernel
theorem d_code_630 : decode code 630 = .ok (.iload_n 3, 1) := by decide +kernel
theorem d_code_631 : decode code 631 = .ok (.iconst 2, 1) := by decide +kernel
theorem d_code_632 : decode code 632 = .ok (.iadd, 1) := by decide +kernel
theorem d_code_633 : decode code 633 = .ok (.iaload, 1) := by decide +kernel
theorem d_code_634 : decode code 634 = .ok (.invokevirtual 106, 3) := by decide +kernel
theorem d_code_637 : decode code 637 = .ok (.aload_n 2, 1) := by decide +kernel
theorem d_code_638 : decode code 638 = .ok (.aload_n 0, 1) := by decide +kernel
theorem d_code_639 : decode code 639 = .ok (.iload_n 3, 1) := by decide +kernel
theorem d_code_640 : decode code 640 = .ok (.iconst 1, 1) := by decide +kernel
theorem d_code_641 : decode code 641 = .ok (.iadd, 1) := by decide +kernel
theorem d_code_642 : decode code 642 = .ok (.iaload, 1) := by decide +kernel
theorem d_code_643 : decode code 643 = .ok (.aload_n 0, 1) := by decide +kernel
