/-! the law, decoded -/
theorem dl_538 : decode code 538 = .ok (.invokevirtual 71, 3) := by decide +kernel
theorem dl_541 : decode code 541 = .ok (.if_icmp .eq 289, 3) := by decide +kernel
theorem dl_544 : decode code 544 = .ok (.iconst 0, 1) := by decide +kernel
theorem dl_545 : decode code 545 = .ok (.ireturn, 1) := by decide +kernel
theorem dl_546 : decode code 546 = .ok (.aload_n 1, 1) := by decide +kernel
theorem dl_547 : decode code 547 = .ok (.aload_n 0, 1) := by decide +kernel
theorem dl_548 : decode code 548 = .ok (.iload_n 3, 1) := by decide +kernel
theorem dl_549 : decode code 549 = .ok (.iconst 1, 1) := by decide +kernel
theorem dl_550 : decode code 550 = .ok (.iadd, 1) := by decide +kernel
theorem dl_551 : decode code 551 = .ok (.iaload, 1) := by decide +kernel
theorem dl_552 : decode code 552 = .ok (.invokevirtual 72, 3) := by decide +kernel
theorem dl_555 : decode code 555 = .ok (.aload_n 2, 1) := by decide +kernel
theorem dl_556 : decode code 556 = .ok (.aload_n 0, 1) := by decide +kernel
theorem dl_557 : decode code 557 = .ok (.iload_n 3, 1) := by decide +kernel
theorem dl_558 : decode code 558 = .ok (.iconst 1, 1) := by decide +kernel
theorem dl_559 : decode code 559 = .ok (.iadd, 1) := by decide +kernel
theorem dl_560 : decode code 560 = .ok (.iaload, 1) := by decide +kernel
theorem dl_561 : decode code 561 = .ok (.invokevirtual 75, 3) := by decide +kernel
theorem dl_564 : decode code 564 = .ok (.if_icmp .eq 266, 3) := by decide +kernel
theorem dl_567 : decode code 567 = .ok (.iconst 0, 1) := by decide +kernel
theorem dl_568 : decode code 568 = .ok (.ireturn, 1) := by decide +kernel
theorem dl_569 : decode code 569 = .ok (.aload_n 1, 1) := by decide +kernel
theorem dl_570 : decode code 570 = .ok (.invokevirtual 76, 3) := by decide +kernel
theorem dl_573 : decode code 573 = .ok (.aload_n 2, 1) := by decide +kernel
theorem dl_574 : decode code 574 = .ok (.invokevirtual 79, 3) := by decide +kernel
theorem dl_577 : decode code 577 = .ok (.if_icmp .eq 253, 3) := by decide +kernel
theorem dl_580 : decode code 580 = .ok (.iconst 0, 1) := by decide +kernel
theorem dl_581 : decode code 581 = .ok (.ireturn, 1) := by decide +kernel
theorem dl_582 : decode code 582 = .ok (.aload_n 1, 1) := by decide +kernel
theorem dl_583 : decode code 583 = .ok (.invokevirtual 80, 3) := by decide +kernel
theorem dl_586 : decode code 586 = .ok (.aload_n 2, 1) := by decide +kernel
theorem dl_587 : decode code 587 = .ok (.invokevirtual 83, 3) := by decide +kernel
theorem dl_590 : decode code 590 = .ok (.if_icmp .eq 240, 3) := by decide +kernel
theorem dl_593 : decode code 593 = .ok (.iconst 0, 1) := by decide +kernel
theorem dl_594 : decode code 594 = .ok (.ireturn, 1) := by decide +kernel
theorem dl_595 : decode code 595 = .ok (.aload_n 1, 1) := by decide +kernel
theorem dl_596 : decode code 596 = .ok (.aload_n 0, 1) := by decide +kernel
theorem dl_597 : decode code 597 = .ok (.iload_n 3, 1) := by decide +kernel
theorem dl_598 : decode code 598 = .ok (.iconst 1, 1) := by decide +kernel
theorem dl_599 : decode code 599 = .ok (.iadd, 1) := by decide +kernel
theorem dl_600 : decode code 600 = .ok (.iaload, 1) := by decide +kernel
theorem dl_601 : decode code 601 = .ok (.aload_n 0, 1) := by decide +kernel
theorem dl_602 : decode code 602 = .ok (.iload_n 3, 1) := by decide +kernel
theorem dl_603 : decode code 603 = .ok (.iconst 2, 1) := by decide +kernel
theorem dl_604 : decode code 604 = .ok (.iadd, 1) := by decide +kernel
theorem dl_605 : decode code 605 = .ok (.iaload, 1) := by decide +kernel
theorem dl_606 : decode code 606 = .ok (.invokevirtual 84, 3) := by decide +kernel
theorem dl_609 : decode code 609 = .ok (.aload_n 2, 1) := by decide +kernel
theorem dl_610 : decode code 610 = .ok (.aload_n 0, 1) := by decide +kernel
theorem dl_611 : decode code 611 = .ok (.iload_n 3, 1) := by decide +kernel
theorem dl_612 : decode code 612 = .ok (.iconst 1, 1) := by decide +kernel
theorem dl_613 : decode code 613 = .ok (.iadd, 1) := by decide +kernel
theorem dl_614 : decode code 614 = .ok (.iaload, 1) := by decide +kernel
theorem dl_615 : decode code 615 = .ok (.aload_n 0, 1) := by decide +kernel
theorem dl_616 : decode code 616 = .ok (.iload_n 3, 1) := by decide +kernel
theorem dl_617 : decode code 617 = .ok (.iconst 2, 1) := by decide +kernel
theorem dl_618 : decode code 618 = .ok (.iadd, 1) := by decide +kernel
theorem dl_619 : decode code 619 = .ok (.iaload, 1) := by decide +kernel
theorem dl_620 : decode code 620 = .ok (.invokevirtual 87, 3) := by decide +kernel
theorem dl_623 : decode code 623 = .ok (.lcmp, 1) := by decide +kernel
theorem dl_624 : decode code 624 = .ok (.ifCond .eq 206, 3) := by decide +kernel
theorem dl_627 : decode code 627 = .ok (.iconst 0, 1) := by decide +kernel
theorem dl_628 : decode code 628 = .ok (.ireturn, 1) := by decide +kernel
theorem dl_629 : decode code 629 = .ok (.aload_n 1, 1) := by decide +kernel
theorem dl_630 : decode code 630 = .ok (.aload_n 0, 1) := by decide +kernel
theorem dl_631 : decode code 631 = .ok (.iload_n 3, 1) := by decide +kernel
theorem dl_632 : decode code 632 = .ok (.iconst 1, 1) := by decide +kernel
theorem dl_633 : decode code 633 = .ok (.iadd, 1) := by decide +kernel
theorem dl_634 : decode code 634 = .ok (.iaload, 1) := by decide +kernel
theorem dl_635 : decode code 635 = .ok (.aload_n 0, 1) := by decide +kernel
theorem dl_636 : decode code 636 = .ok (.iload_n 3, 1) := by decide +kernel
theorem dl_637 : decode code 637 = .ok (.iconst 2, 1) := by decide +kernel
theorem dl_638 : decode code 638 = .ok (.iadd, 1) := by decide +kernel
theorem dl_639 : decode code 639 = .ok (.iaload, 1) := by decide +kernel
theorem dl_640 : decode code 640 = .ok (.invokevirtual 88, 3) := by decide +kernel
theorem dl_643 : decode code 643 = .ok (.aload_n 2, 1) := by decide +kernel
theorem dl_644 : decode code 644 = .ok (.aload_n 0, 1) := by decide +kernel
theorem dl_645 : decode code 645 = .ok (.iload_n 3, 1) := by decide +kernel
theorem dl_646 : decode code 646 = .ok (.iconst 1, 1) := by decide +kernel
theorem dl_647 : decode code 647 = .ok (.iadd, 1) := by decide +kernel
theorem dl_648 : decode code 648 = .ok (.iaload, 1) := by decide +kernel
theorem dl_649 : decode code 649 = .ok (.aload_n 0, 1) := by decide +kernel
theorem dl_650 : decode code 650 = .ok (.iload_n 3, 1) := by decide +kernel
theorem dl_651 : decode code 651 = .ok (.iconst 2, 1) := by decide +kernel
theorem dl_652 : decode code 652 = .ok (.iadd, 1) := by decide +kernel
theorem dl_653 : decode code 653 = .ok (.iaload, 1) := by decide +kernel
theorem dl_654 : decode code 654 = .ok (.invokevirtual 91, 3) := by decide +kernel
theorem dl_657 : decode code 657 = .ok (.lcmp, 1) := by decide +kernel
theorem dl_658 : decode code 658 = .ok (.ifCond .eq 172, 3) := by decide +kernel
theorem dl_661 : decode code 661 = .ok (.iconst 0, 1) := by decide +kernel
theorem dl_662 : decode code 662 = .ok (.ireturn, 1) := by decide +kernel
theorem dl_663 : decode code 663 = .ok (.aload_n 1, 1) := by decide +kernel
theorem dl_664 : decode code 664 = .ok (.invokevirtual 92, 3) := by decide +kernel
theorem dl_667 : decode code 667 = .ok (.aload_n 2, 1) := by decide +kernel
theorem dl_668 : decode code 668 = .ok (.invokevirtual 95, 3) := by decide +kernel
theorem dl_671 : decode code 671 = .ok (.if_icmp .eq 159, 3) := by decide +kernel
theorem dl_674 : decode code 674 = .ok (.iconst 0, 1) := by decide +kernel
theorem dl_675 : decode code 675 = .ok (.ireturn, 1) := by decide +kernel
theorem dl_676 : decode code 676 = .ok (.aload_n 1, 1) := by decide +kernel
theorem dl_677 : decode code 677 = .ok (.aload_n 0, 1) := by decide +kernel
theorem dl_678 : decode code 678 = .ok (.iload_n 3, 1) := by decide +kernel
theorem dl_679 : decode code 679 = .ok (.iconst 1, 1) := by decide +kernel
theorem dl_680 : decode code 680 = .ok (.iadd, 1) := by decide +kernel
theorem dl_681 : decode code 681 = .ok (.iaload, 1) := by decide +kernel
theorem dl_682 : decode code 682 = .ok (.invokevirtual 96, 3) := by decide +kernel
theorem dl_685 : decode code 685 = .ok (.aload_n 2, 1) := by decide +kernel
theorem dl_686 : decode code 686 = .ok (.aload_n 0, 1) := by decide +kernel
theorem dl_687 : decode code 687 = .ok (.iload_n 3, 1) := by decide +kernel
theorem dl_688 : decode code 688 = .ok (.iconst 1, 1) := by decide +kernel
theorem dl_689 : decode code 689 = .ok (.iadd, 1) := by decide +kernel
