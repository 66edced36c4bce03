theorem dL_law_504 : decode cL_law 504 = .ok (.aload_n 1, 1) := by decide +kernel
theorem dL_law_505 : decode cL_law 505 = .ok (.aload_n 0, 1) := by decide +kernel
theorem dL_law_506 : decode cL_law 506 = .ok (.iload 4, 2) := by decide +kernel
theorem dL_law_508 : decode cL_law 508 = .ok (.iconst 1, 1) := by decide +kernel
theorem dL_law_509 : decode cL_law 509 = .ok (.iadd, 1) := by decide +kernel
theorem dL_law_510 : decode cL_law 510 = .ok (.iaload, 1) := by decide +kernel
theorem dL_law_511 : decode cL_law 511 = .ok (.aload_n 3, 1) := by decide +kernel
theorem dL_law_512 : decode cL_law 512 = .ok (.invokestatic 133, 3) := by decide +kernel
theorem dL_law_515 : decode cL_law 515 = .ok (.istore 5, 2) := by decide +kernel
theorem dL_law_517 : decode cL_law 517 = .ok (.aload_n 2, 1) := by decide +kernel
theorem dL_law_518 : decode cL_law 518 = .ok (.aload_n 0, 1) := by decide +kernel
theorem dL_law_519 : decode cL_law 519 = .ok (.iload 4, 2) := by decide +kernel
theorem dL_law_521 : decode cL_law 521 = .ok (.iconst 1, 1) := by decide +kernel
theorem dL_law_522 : decode cL_law 522 = .ok (.iadd, 1) := by decide +kernel
theorem dL_law_523 : decode cL_law 523 = .ok (.iaload, 1) := by decide +kernel
theorem dL_law_524 : decode cL_law 524 = .ok (.invokevirtual 135, 3) := by decide +kernel
theorem dL_law_527 : decode cL_law 527 = .ok (.istore 6, 2) := by decide +kernel
theorem dL_law_529 : decode cL_law 529 = .ok (.aload_n 2, 1) := by decide +kernel
theorem dL_law_530 : decode cL_law 530 = .ok (.invokevirtual 113, 3) := by decide +kernel
theorem dL_law_533 : decode cL_law 533 = .ok (.iload 5, 2) := by decide +kernel
theorem dL_law_535 : decode cL_law 535 = .ok (.if_icmp .eq 5, 3) := by decide +kernel
theorem dL_law_540 : decode cL_law 540 = .ok (.iload 5, 2) := by decide +kernel
theorem dL_law_542 : decode cL_law 542 = .ok (.ifCond .ne 15, 3) := by decide +kernel
theorem dL_law_557 : decode cL_law 557 = .ok (.goto 1012, 3) := by decide +kernel
theorem dL_law_560 : decode cL_law 560 = .ok (.aload_n 1, 1) := by decide +kernel
theorem dL_law_561 : decode cL_law 561 = .ok (.aload_n 0, 1) := by decide +kernel
theorem dL_law_562 : decode cL_law 562 = .ok (.iload 4, 2) := by decide +kernel
theorem dL_law_564 : decode cL_law 564 = .ok (.iconst 1, 1) := by decide +kernel
theorem dL_law_565 : decode cL_law 565 = .ok (.iadd, 1) := by decide +kernel
theorem dL_law_566 : decode cL_law 566 = .ok (.iaload, 1) := by decide +kernel
theorem dL_law_567 : decode cL_law 567 = .ok (.aload_n 0, 1) := by decide +kernel
theorem dL_law_568 : decode cL_law 568 = .ok (.iload 4, 2) := by decide +kernel
theorem dL_law_570 : decode cL_law 570 = .ok (.iconst 2, 1) := by decide +kernel
theorem dL_law_571 : decode cL_law 571 = .ok (.iadd, 1) := by decide +kernel
theorem dL_law_572 : decode cL_law 572 = .ok (.iaload, 1) := by decide +kernel
theorem dL_law_573 : decode cL_law 573 = .ok (.aload_n 3, 1) := by decide +kernel
theorem dL_law_574 : decode cL_law 574 = .ok (.invokestatic 136, 3) := by decide +kernel
theorem dL_law_577 : decode cL_law 577 = .ok (.istore 5, 2) := by decide +kernel
theorem dL_law_579 : decode cL_law 579 = .ok (.aload_n 2, 1) := by decide +kernel
theorem dL_law_580 : decode cL_law 580 = .ok (.aload_n 0, 1) := by decide +kernel
theorem dL_law_581 : decode cL_law 581 = .ok (.iload 4, 2) := by decide +kernel
theorem dL_law_583 : decode cL_law 583 = .ok (.iconst 1, 1) := by decide +kernel
theorem dL_law_584 : decode cL_law 584 = .ok (.iadd, 1) := by decide +kernel
theorem dL_law_585 : decode cL_law 585 = .ok (.iaload, 1) := by decide +kernel
theorem dL_law_586 : decode cL_law 586 = .ok (.aload_n 0, 1) := by decide +kernel
theorem dL_law_587 : decode cL_law 587 = .ok (.iload 4, 2) := by decide +kernel
theorem dL_law_589 : decode cL_law 589 = .ok (.iconst 2, 1) := by decide +kernel
theorem dL_law_590 : decode cL_law 590 = .ok (.iadd, 1) := by decide +kernel
theorem dL_law_591 : decode cL_law 591 = .ok (.iaload, 1) := by decide +kernel
theorem dL_law_592 : decode cL_law 592 = .ok (.invokevirtual 139, 3) := by decide +kernel
theorem dL_law_595 : decode cL_law 595 = .ok (.istore 6, 2) := by decide +kernel
theorem dL_law_597 : decode cL_law 597 = .ok (.aload_n 2, 1) := by decide +kernel
theorem dL_law_598 : decode cL_law 598 = .ok (.invokevirtual 113, 3) := by decide +kernel
theorem dL_law_601 : decode cL_law 601 = .ok (.iload 5, 2) := by decide +kernel
theorem dL_law_603 : decode cL_law 603 = .ok (.if_icmp .eq 5, 3) := by decide +kernel
theorem dL_law_608 : decode cL_law 608 = .ok (.iload 5, 2) := by decide +kernel
theorem dL_law_610 : decode cL_law 610 = .ok (.ifCond .ne 15, 3) := by decide +kernel
theorem dL_law_625 : decode cL_law 625 = .ok (.goto 944, 3) := by decide +kernel
theorem dL_law_628 : decode cL_law 628 = .ok (.aload_n 1, 1) := by decide +kernel
theorem dL_law_629 : decode cL_law 629 = .ok (.aload_n 3, 1) := by decide +kernel
theorem dL_law_630 : decode cL_law 630 = .ok (.invokestatic 140, 3) := by decide +kernel
theorem dL_law_633 : decode cL_law 633 = .ok (.istore 5, 2) := by decide +kernel
theorem dL_law_635 : decode cL_law 635 = .ok (.aload_n 2, 1) := by decide +kernel
theorem dL_law_636 : decode cL_law 636 = .ok (.invokevirtual 142, 3) := by decide +kernel
theorem dL_law_639 : decode cL_law 639 = .ok (.istore 6, 2) := by decide +kernel
theorem dL_law_641 : decode cL_law 641 = .ok (.aload_n 2, 1) := by decide +kernel
theorem dL_law_642 : decode cL_law 642 = .ok (.invokevirtual 113, 3) := by decide +kernel
theorem dL_law_645 : decode cL_law 645 = .ok (.iload 5, 2) := by decide +kernel
theorem dL_law_647 : decode cL_law 647 = .ok (.if_icmp .eq 5, 3) := by decide +kernel
theorem dL_law_652 : decode cL_law 652 = .ok (.iload 5, 2) := by decide +kernel
theorem dL_law_654 : decode cL_law 654 = .ok (.ifCond .ne 15, 3) := by decide +kernel
theorem dL_law_669 : decode cL_law 669 = .ok (.goto 900, 3) := by decide +kernel
theorem dL_law_672 : decode cL_law 672 = .ok (.aload_n 1, 1) := by decide +kernel
theorem dL_law_673 : decode cL_law 673 = .ok (.aload_n 0, 1) := by decide +kernel
theorem dL_law_674 : decode cL_law 674 = .ok (.iload 4, 2) := by decide +kernel
theorem dL_law_676 : decode cL_law 676 = .ok (.iconst 1, 1) := by decide +kernel
theorem dL_law_677 : decode cL_law 677 = .ok (.iadd, 1) := by decide +kernel
theorem dL_law_678 : decode cL_law 678 = .ok (.iaload, 1) := by decide +kernel
theorem dL_law_679 : decode cL_law 679 = .ok (.ifCond .eq 7, 3) := by decide +kernel
theorem dL_law_682 : decode cL_law 682 = .ok (.iconst 1, 1) := by decide +kernel
theorem dL_law_683 : decode cL_law 683 = .ok (.goto 4, 3) := by decide +kernel
theorem dL_law_686 : decode cL_law 686 = .ok (.iconst 0, 1) := by decide +kernel
theorem dL_law_687 : decode cL_law 687 = .ok (.aload_n 3, 1) := by decide +kernel
theorem dL_law_688 : decode cL_law 688 = .ok (.invokestatic 143, 3) := by decide +kernel
theorem dL_law_691 : decode cL_law 691 = .ok (.istore 5, 2) := by decide +kernel
theorem dL_law_693 : decode cL_law 693 = .ok (.aload_n 2, 1) := by decide +kernel
theorem dL_law_694 : decode cL_law 694 = .ok (.aload_n 0, 1) := by decide +kernel
theorem dL_law_695 : decode cL_law 695 = .ok (.iload 4, 2) := by decide +kernel
theorem dL_law_697 : decode cL_law 697 = .ok (.iconst 1, 1) := by decide +kernel
theorem dL_law_698 : decode cL_law 698 = .ok (.iadd, 1) := by decide +kernel
theorem dL_law_699 : decode cL_law 699 = .ok (.iaload, 1) := by decide +kernel
theorem dL_law_700 : decode cL_law 700 = .ok (.ifCond .eq 7, 3) := by decide +kernel
theorem dL_law_703 : decode cL_law 703 = .ok (.iconst 1, 1) := by decide +kernel
theorem dL_law_704 : decode cL_law 704 = .ok (.goto 4, 3) := by decide +kernel
theorem dL_law_707 : decode cL_law 707 = .ok (.iconst 0, 1) := by decide +kernel
theorem dL_law_708 : decode cL_law 708 = .ok (.invokevirtual 146, 3) := by decide +kernel
theorem dL_law_711 : decode cL_law 711 = .ok (.istore 6, 2) := by decide +kernel
theorem dL_law_713 : decode cL_law 713 = .ok (.aload_n 2, 1) := by decide +kernel
theorem dL_law_714 : decode cL_law 714 = .ok (.invokevirtual 113, 3) := by decide +kernel
theorem dL_law_717 : decode cL_law 717 = .ok (.iload 5, 2) := by decide +kernel
theorem dL_law_719 : decode cL_law 719 = .ok (.if_icmp .eq 5, 3) := by decide +kernel
theorem dL_law_724 : decode cL_law 724 = .ok (.iload 5, 2) := by decide +kernel
theorem dL_law_726 : decode cL_law 726 = .ok (.ifCond .ne 15, 3) := by decide +kernel
theorem dL_law_741 : decode cL_law 741 = .ok (.goto 828, 3) := by decide +kernel
theorem dL_law_744 : decode cL_law 744 = .ok (.aload_n 1, 1) := by decide +kernel
theorem dL_law_745 : decode cL_law 745 = .ok (.aload_n 3, 1) := by decide +kernel
theorem dL_law_746 : decode cL_law 746 = .ok (.invokestatic 147, 3) := by decide +kernel
theorem dL_law_749 : decode cL_law 749 = .ok (.istore 5, 2) := by decide +kernel
theorem dL_law_751 : decode cL_law 751 = .ok (.aload_n 2, 1) := by decide +kernel
theorem dL_law_752 : decode cL_law 752 = .ok (.invokevirtual 149, 3) := by decide +kernel
theorem dL_law_755 : decode cL_law 755 = .ok (.istore 6, 2) := by decide +kernel
theorem dL_law_757 : decode cL_law 757 = .ok (.aload_n 2, 1) := by decide +kernel
theorem dL_law_758 : decode cL_law 758 = .ok (.invokevirtual 113, 3) := by decide +kernel
theorem dL_law_761 : decode cL_law 761 = .ok (.iload 5, 2) := by decide +kernel
theorem dL_law_763 : decode cL_law 763 = .ok (.if_icmp .eq 5, 3) := by decide +kernel
theorem dL_law_768 : decode cL_law 768 = .ok (.iload 5, 2) := by decide +kernel
theorem dL_law_770 : decode cL_law 770 = .ok (.ifCond .ne 15, 3) := by decide +kernel
theorem dL_law_785 : decode cL_law 785 = .ok (.goto 784, 3) := by decide +kernel
theorem dL_law_788 : decode cL_law 788 = .ok (.aload_n 1, 1) := by decide +kernel
theorem dL_law_789 : decode cL_law 789 = .ok (.aload_n 0, 1) := by decide +kernel
theorem dL_law_790 : decode cL_law 790 = .ok (.iload 4, 2) := by decide +kernel
theorem dL_law_792 : decode cL_law 792 = .ok (.iconst 1, 1) := by decide +kernel
theorem dL_law_793 : decode cL_law 793 = .ok (.iadd, 1) := by decide +kernel
theorem dL_law_794 : decode cL_law 794 = .ok (.iaload, 1) := by decide +kernel
theorem dL_law_795 : decode cL_law 795 = .ok (.aload_n 3, 1) := by decide +kernel
theorem dL_law_796 : decode cL_law 796 = .ok (.invokestatic 150, 3) := by decide +kernel
theorem dL_law_799 : decode cL_law 799 = .ok (.istore 5, 2) := by decide +kernel
theorem dL_law_801 : decode cL_law 801 = .ok (.aload_n 2, 1) := by decide +kernel
theorem dL_law_802 : decode cL_law 802 = .ok (.aload_n 0, 1) := by decide +kernel
theorem dL_law_803 : decode cL_law 803 = .ok (.iload 4, 2) := by decide +kernel
theorem dL_law_805 : decode cL_law 805 = .ok (.iconst 1, 1) := by decide +kernel
theorem dL_law_806 : decode cL_law 806 = .ok (.iadd, 1) := by decide +kernel
theorem dL_law_807 : decode cL_law 807 = .ok (.iaload, 1) := by decide +kernel
theorem dL_law_808 : decode cL_law 808 = .ok (.invokevirtual 152, 3) := by decide +kernel
theorem dL_law_811 : decode cL_law 811 = .ok (.istore 6, 2) := by decide +kernel
theorem dL_law_813 : decode cL_law 813 = .ok (.aload_n 2, 1) := by decide +kernel
theorem dL_law_814 : decode cL_law 814 = .ok (.invokevirtual 113, 3) := by decide +kernel
theorem dL_law_817 : decode cL_law 817 = .ok (.iload 5, 2) := by decide +kernel
theorem dL_law_819 : decode cL_law 819 = .ok (.if_icmp .eq 5, 3) := by decide +kernel
theorem dL_law_824 : decode cL_law 824 = .ok (.iload 5, 2) := by decide +kernel
theorem dL_law_826 : decode cL_law 826 = .ok (.ifCond .ne 15, 3) := by decide +kernel
theorem dL_law_841 : decode cL_law 841 = .ok (.goto 728, 3) := by decide +kernel
theorem dL_law_844 : decode cL_law 844 = .ok (.aload_n 1, 1) := by decide +kernel
theorem dL_law_845 : decode cL_law 845 = .ok (.aload_n 3, 1) := by decide +kernel
theorem dL_law_846 : decode cL_law 846 = .ok (.invokestatic 153, 3) := by decide +kernel
theorem dL_law_849 : decode cL_law 849 = .ok (.istore 5, 2) := by decide +kernel
theorem dL_law_851 : decode cL_law 851 = .ok (.aload_n 2, 1) := by decide +kernel
theorem dL_law_852 : decode cL_law 852 = .ok (.invokevirtual 155, 3) := by decide +kernel
theorem dL_law_855 : decode cL_law 855 = .ok (.istore 6, 2) := by decide +kernel
theorem dL_law_857 : decode cL_law 857 = .ok (.aload_n 2, 1) := by decide +kernel
theorem dL_law_858 : decode cL_law 858 = .ok (.invokevirtual 113, 3) := by decide +kernel
theorem dL_law_861 : decode cL_law 861 = .ok (.iload 5, 2) := by decide +kernel
theorem dL_law_863 : decode cL_law 863 = .ok (.if_icmp .eq 5, 3) := by decide +kernel
theorem dL_law_868 : decode cL_law 868 = .ok (.iload 5, 2) := by decide +kernel
theorem dL_law_870 : decode cL_law 870 = .ok (.ifCond .ne 15, 3) := by decide +kernel
theorem dL_law_885 : decode cL_law 885 = .ok (.goto 684, 3) := by decide +kernel
theorem dL_law_888 : decode cL_law 888 = .ok (.aload_n 1, 1) := by decide +kernel
theorem dL_law_889 : decode cL_law 889 = .ok (.aload_n 3, 1) := by decide +kernel
theorem dL_law_890 : decode cL_law 890 = .ok (.invokestatic 156, 3) := by decide +kernel
theorem dL_law_893 : decode cL_law 893 = .ok (.istore 5, 2) := by decide +kernel
theorem dL_law_895 : decode cL_law 895 = .ok (.aload_n 2, 1) := by decide +kernel
theorem dL_law_896 : decode cL_law 896 = .ok (.invokevirtual 158, 3) := by decide +kernel
theorem dL_law_899 : decode cL_law 899 = .ok (.istore 6, 2) := by decide +kernel
theorem dL_law_901 : decode cL_law 901 = .ok (.aload_n 2, 1) := by decide +kernel
theorem dL_law_902 : decode cL_law 902 = .ok (.invokevirtual 113, 3) := by decide +kernel
theorem dL_law_905 : decode cL_law 905 = .ok (.iload 5, 2) := by decide +kernel
theorem dL_law_907 : decode cL_law 907 = .ok (.if_icmp .eq 5, 3) := by decide +kernel
theorem dL_law_912 : decode cL_law 912 = .ok (.iload 5, 2) := by decide +kernel
theorem dL_law_914 : decode cL_law 914 = .ok (.ifCond .ne 15, 3) := by decide +kernel
theorem dL_law_929 : decode cL_law 929 = .ok (.goto 640, 3) := by decide +kernel
theorem dL_law_932 : decode cL_law 932 = .ok (.aload_n 1, 1) := by decide +kernel
theorem dL_law_933 : decode cL_law 933 = .ok (.aload_n 0, 1) := by decide +kernel
theorem dL_law_934 : decode cL_law 934 = .ok (.iload 4, 2) := by decide +kernel
theorem dL_law_936 : decode cL_law 936 = .ok (.iconst 1, 1) := by decide +kernel
theorem dL_law_937 : decode cL_law 937 = .ok (.iadd, 1) := by decide +kernel
theorem dL_law_938 : decode cL_law 938 = .ok (.iaload, 1) := by decide +kernel
theorem dL_law_939 : decode cL_law 939 = .ok (.aload_n 3, 1) := by decide +kernel
theorem dL_law_940 : decode cL_law 940 = .ok (.invokestatic 159, 3) := by decide +kernel
theorem dL_law_943 : decode cL_law 943 = .ok (.istore 5, 2) := by decide +kernel
theorem dL_law_945 : decode cL_law 945 = .ok (.aload_n 2, 1) := by decide +kernel
theorem dL_law_946 : decode cL_law 946 = .ok (.aload_n 0, 1) := by decide +kernel
theorem dL_law_947 : decode cL_law 947 = .ok (.iload 4, 2) := by decide +kernel
theorem dL_law_949 : decode cL_law 949 = .ok (.iconst 1, 1) := by decide +kernel
theorem dL_law_950 : decode cL_law 950 = .ok (.iadd, 1) := by decide +kernel
theorem dL_law_951 : decode cL_law 951 = .ok (.iaload, 1) := by decide +kernel
theorem dL_law_952 : decode cL_law 952 = .ok (.invokevirtual 161, 3) := by decide +kernel
theorem dL_law_955 : decode cL_law 955 = .ok (.istore 6, 2) := by decide +kernel
theorem dL_law_957 : decode cL_law 957 = .ok (.aload_n 2, 1) := by decide +kernel
theorem dL_law_958 : decode cL_law 958 = .ok (.invokevirtual 113, 3) := by decide +kernel
theorem dL_law_961 : decode cL_law 961 = .ok (.iload 5, 2) := by decide +kernel
theorem dL_law_963 : decode cL_law 963 = .ok (.if_icmp .eq 5, 3) := by decide +kernel
theorem dL_law_968 : decode cL_law 968 = .ok (.iload 5, 2) := by decide +kernel
theorem dL_law_970 : decode cL_law 970 = .ok (.ifCond .ne 15, 3) := by decide +kernel
theorem dL_law_985 : decode cL_law 985 = .ok (.goto 584, 3) := by decide +kernel
set_option maxHeartbeats 4000000 in
set_option maxRecDepth 100000 in
theorem lc_let_neg {p : Program} {l : Launch} {e : Env} {s : State} {m : MethodId} {below : List Frame} {meth : Method} {c : Code} (hlt : l.stackTraces = false) {b : Nat} {xs : Nat → Int32} (C0 : lw_At p s m meth c b 3 xs) {A : Nat → Prop} (hAA : A = fun q : Nat => s.heap.size ≤ q) {dC : Nat → ClassId} {dI : Nat → Nat → Nat} {tp te : Nat} (hG : gx tp te A s s.heap) {qx rp rt rc r1 r2 r3 r4 a1 a2 a3 a4 a5 a6 a7 t1 t2 t3 t4 t5 t6 t7 c1 c2 c3 c4 c5 c6 c7 qm lp m1 m2 m3 m4 m5 m6 m7 m8 qo : Nat} {k1 k2 k3 k4 k5 k6 k7 ko : ClassId} {H : Heap} {locs : List Loc} (hK : va_K (dC, dI) vwCl [(k1, .int), (k2, .int), (k3, .int), (k4, .long), (k5, .int), (k6, .int), (k7, .int), (ko, .long)] s) (hP : va_P (dC, dI) vwCl [(qx, .inr (8, [.ref rp, .int 0, .ref rt, .ref rc, .int ((-1)), .ref r1, .ref r2, .ref r3, .ref r4, .null, .int 0])), (rp, .inr (6, [.ref a1, .ref a2, .ref a3, .ref a4, .ref a5, .ref a6, .ref a7, .int 0])), (a1, .inl (k1, 1200, .inl (fun _ => 0))), (a2, .inl (k2, 1200, .inl (fun _ => 0))), (a3, .inl (k3, 1200, .inl (fun _ => 0))), (a4, .inl (k4, 1200, .inr (.inl (fun _ => 0)))), (a5, .inl (k5, 1200, .inl (fun _ => 0))), (a6, .inl (k6, 1200, .inl (fun _ => 0))), (a7, .inl (k7, 1200, .inl (fun _ => 0))), (rt, .inr (6, [.ref t1, .ref t2, .ref t3, .ref t4, .ref t5, .ref t6, .ref t7, .int 0])), (rc, .inr (6, [.ref c1, .ref c2, .ref c3, .ref c4, .ref c5, .ref c6, .ref c7, .int 0])), (qm, .inr (17, [.ref lp, .null, .null, .int 0, .int 0, .ref m1, .ref m2, .ref m3, .ref m4, .ref m5, .null, .null, .int 0, .ref m6, .int 0, .int 0, .int 0, .long 0, .null, .ref m7, .ref m8, .int 0, .int 0, .long 0])), (lp, .inr (0, [.int 0, .ref te, .int 0])), (qo, .inl (ko, 1, .inr (.inl (fun _ => 0))))] H) (hD : va_D A [(qx, .inr (8, [.ref rp, .int 0, .ref rt, .ref rc, .int ((-1)), .ref r1, .ref r2, .ref r3, .ref r4, .null, .int 0])), (rp, .inr (6, [.ref a1, .ref a2, .ref a3, .ref a4, .ref a5, .ref a6, .ref a7, .int 0])), (a1, .inl (k1, 1200, .inl (fun _ => 0))), (a2, .inl (k2, 1200, .inl (fun _ => 0))), (a3, .inl (k3, 1200, .inl (fun _ => 0))), (a4, .inl (k4, 1200, .inr (.inl (fun _ => 0)))), (a5, .inl (k5, 1200, .inl (fun _ => 0))), (a6, .inl (k6, 1200, .inl (fun _ => 0))), (a7, .inl (k7, 1200, .inl (fun _ => 0))), (rt, .inr (6, [.ref t1, .ref t2, .ref t3, .ref t4, .ref t5, .ref t6, .ref t7, .int 0])), (rc, .inr (6, [.ref c1, .ref c2, .ref c3, .ref c4, .ref c5, .ref c6, .ref c7, .int 0])), (qm, .inr (17, [.ref lp, .null, .null, .int 0, .int 0, .ref m1, .ref m2, .ref m3, .ref m4, .ref m5, .null, .null, .int 0, .ref m6, .int 0, .int 0, .int 0, .long 0, .null, .ref m7, .ref m8, .int 0, .int 0, .long 0])), (lp, .inr (0, [.int 0, .ref te, .int 0])), (qo, .inl (ko, 1, .inr (.inl (fun _ => 0))))]) (hS : va_S A s.heap H locs) {ls : Array Slot} (hl : lv_has ls 8 [(4, .int 0), (3, .ref qo), (2, .ref qm), (1, .ref qx), (0, .ref b)]) (p1 p2 : Int32) (e1 : xs (1 : Int32).toNatClampNeg = p1) (e2 : xs (2 : Int32).toNatClampNeg = p2) (hvn : p1 < 0) : W p l e room_1 s m #[Value.ref b] below meth c H locs 89 78003 (lw_Z below #[Value.ref b] s) (F0 m 504 ls []) := by
  obtain ⟨hx, hb, hr, hml, hown, hts0, hX, hbl, hlocks, hgv⟩ := id C0
  have hts : ∀ w ∈ z_law, w.before #[Value.ref b] s = true := fun w h => hts0 w (z_law_in w h)
  have hown : s.vm.findClass RL = some m.cls := hown
  have hA : ∀ q : Nat, s.heap.size ≤ q → A q := fun q h => by rw [hAA]; exact h
  have hbA : ¬ A b := by rw [hAA]; exact Nat.not_le.mpr hbl
  have hP := hP.sub (ws' := [(qx, .inr (8, [.ref rp, .int 0, .ref rt, .ref rc, .int ((-1)), .ref r1, .ref r2, .ref r3, .ref r4, .null, .int 0])), (qm, .inr (17, [.ref lp, .null, .null, .int 0, .int 0, .ref m1, .ref m2, .ref m3, .ref m4, .ref m5, .null, .null, .int 0, .ref m6, .int 0, .int 0, .int 0, .long 0, .null, .ref m7, .ref m8, .int 0, .int 0, .long 0])), (lp, .inr (0, [.int 0, .ref te, .int 0]))]) [0, 11, 12] rfl
  have hD := hD.sub (ws' := [(qx, .inr (8, [.ref rp, .int 0, .ref rt, .ref rc, .int ((-1)), .ref r1, .ref r2, .ref r3, .ref r4, .null, .int 0])), (qm, .inr (17, [.ref lp, .null, .null, .int 0, .int 0, .ref m1, .ref m2, .ref m3, .ref m4, .ref m5, .null, .null, .int 0, .ref m6, .int 0, .int 0, .int 0, .long 0, .null, .ref m7, .ref m8, .int 0, .int 0, .long 0])), (lp, .inr (0, [.int 0, .ref te, .int 0]))]) [0, 11, 12] (by decide) rfl
  have hK := hK.sub (tys' := []) [] rfl
  have hP : va_P (dC, dI) vwCl [(qx, .inr (8, [.ref rp, .int 0, .ref rt, .ref rc, .int ((-1)), .ref r1, .ref r2, .ref r3, .ref r4, .null, .int 0])), (qm, .inr (17, [.ref lp, .null, .null, .int 0, .int 0, .ref m1, .ref m2, .ref m3, .ref m4, .ref m5, .null, .null, .int 0, .ref m6, .int 0, .int 0, .int 0, .long 0, .null, .ref m7, .ref m8, .int 0, .int 0, .long 0])), (lp, .inr (0, [.int 0, .ref te, .int 0]))] H := hP
  have hD : va_D A [(qx, .inr (8, [.ref rp, .int 0, .ref rt, .ref rc, .int ((-1)), .ref r1, .ref r2, .ref r3, .ref r4, .null, .int 0])), (qm, .inr (17, [.ref lp, .null, .null, .int 0, .int 0, .ref m1, .ref m2, .ref m3, .ref m4, .ref m5, .null, .null, .int 0, .ref m6, .int 0, .int 0, .int 0, .long 0, .null, .ref m7, .ref m8, .int 0, .int 0, .long 0])), (lp, .inr (0, [.int 0, .ref te, .int 0]))] := hD
  have hK : va_K (dC, dI) vwCl [] s := hK
  refine lv_aload_n hx hb dL_law_504 rfl (lv_at hl 3 rfl) ?_
  refine lv_aload_n hx hb dL_law_505 rfl (lv_at hl 4 rfl) ?_
  refine lv_iload hx hb dL_law_506 (lv_at hl 0 rfl) ?_
  refine lv_iconst (v := 1) hx hb dL_law_508 (by decide) ?_
  refine lv_iadd hx hb dL_law_509 ?_
  refine lv_topi (fun z_1 ez_1 => ?_)
  obtain rfl : z_1 = 1 := ez_1.trans (by decide)
  refine va_sld hx hb hX hbl hbA hS (by unfold vp_in; decide +kernel) dL_law_510 ?_
  refine lv_topi (fun z_2 ez_2 => ?_)
  obtain rfl : p1 = z_2 := (ez_2.trans e1).symm
  refine lv_aload_n hx hb dL_law_511 rfl (lv_at hl 1 rfl) ?_
  have hPc := hP.sub (ws' := [(qx, .inr (8, [.ref rp, .int 0, .ref rt, .ref rc, .int ((-1)), .ref r1, .ref r2, .ref r3, .ref r4, .null, .int 0]))]) [0] rfl
  have hDc := hD.sub (ws' := [(qx, .inr (8, [.ref rp, .int 0, .ref rt, .ref rc, .int ((-1)), .ref r1, .ref r2, .ref r3, .ref r4, .null, .int 0]))]) [0] (by decide) rfl
  have hKc := hK.sub (tys' := []) [] rfl
  have hFc := va_free (wc := [(qx, .inr (8, [.ref rp, .int 0, .ref rt, .ref rc, .int ((-1)), .ref r1, .ref r2, .ref r3, .ref r4, .null, .int 0]))]) hD hS hA [0] rfl
  refine vx_calli (vx_runSX (As := [.ref qx, .int p1, .ref qo]) (rest := []) ⟨hx, hb, hml, hown, hts⟩ (c_L_let_neg l dC dI tp te H.size hlt qx rp rt rc r1 r2 r3 r4 p1 qo hvn) (vx_cwSW 3 hts g_law_133_L_let_neg rfl rfl rfl (by decide +kernel) ⟨Nat.le_of_ble_eq_true rfl, Nat.le_of_ble_eq_true rfl⟩) ⟨Pw.blind, Pw.mk hPc hKc hDc hG hS hFc⟩ rfl rfl hl.1 rfl (lv_room (Nat.le_of_ble_eq_true rfl)) dL_law_512 ⟨Nat.le_of_ble_eq_true rfl, Nat.le_of_ble_eq_true rfl⟩) hS (fun q _ h => hFc q h) hFc (fun q _ h => hFc q h) (fun E ce q9 u t9 H1 locs ht hvm hpx hBX hz1 hk1 hS hce hcv hcl => hpx.elim) (fun r u t9 H_3 locs ht hvm hw hB hz1 hk1 hS => ?_)
  have hw : r = 1 := hw
  subst hw
  obtain ⟨hP, hD⟩ := va_join (wr := [(qm, .inr (17, [.ref lp, .null, .null, .int 0, .int 0, .ref m1, .ref m2, .ref m3, .ref m4, .ref m5, .null, .null, .int 0, .ref m6, .int 0, .int 0, .int 0, .long 0, .null, .ref m7, .ref m8, .int 0, .int 0, .long 0])), (lp, .inr (0, [.int 0, .ref te, .int 0]))]) (w1 := []) hP hD [0] [1, 2] rfl rfl (by decide) (by decide) hk1 hFc va_P.nil va_D.nil
  have hK := hK.sub (tys' := []) [] rfl
  have hP : va_P (dC, dI) vwCl [(qm, .inr (17, [.ref lp, .null, .null, .int 0, .int 0, .ref m1, .ref m2, .ref m3, .ref m4, .ref m5, .null, .null, .int 0, .ref m6, .int 0, .int 0, .int 0, .long 0, .null, .ref m7, .ref m8, .int 0, .int 0, .long 0])), (lp, .inr (0, [.int 0, .ref te, .int 0]))] H_3 := hP
  have hD : va_D A [(qm, .inr (17, [.ref lp, .null, .null, .int 0, .int 0, .ref m1, .ref m2, .ref m3, .ref m4, .ref m5, .null, .null, .int 0, .ref m6, .int 0, .int 0, .int 0, .long 0, .null, .ref m7, .ref m8, .int 0, .int 0, .long 0])), (lp, .inr (0, [.int 0, .ref te, .int 0]))] := hD
  have hK : va_K (dC, dI) vwCl [] s := hK
  refine W.widen (k := 90) (n := 78009) (Nat.le_of_ble_eq_true rfl) (Nat.le_of_ble_eq_true rfl) ?_
  refine lv_istore (lv' := [(5, .int 1), (4, .int 0), (3, .ref qo), (2, .ref qm), (1, .ref qx), (0, .ref b)]) hx hb dL_law_515 hl (by decide) rfl (fun ls hl => ?_)
  refine lv_aload_n hx hb dL_law_517 rfl (lv_at hl 3 rfl) ?_
  refine lv_aload_n hx hb dL_law_518 rfl (lv_at hl 5 rfl) ?_
  refine lv_iload hx hb dL_law_519 (lv_at hl 1 rfl) ?_
  refine lv_iconst (v := 1) hx hb dL_law_521 (by decide) ?_
  refine lv_iadd hx hb dL_law_522 ?_
  refine lv_topi (fun z_5 ez_5 => ?_)
  obtain rfl : z_5 = 1 := ez_5.trans (by decide)
  refine va_sld hx hb hX hbl hbA hS (by unfold vp_in; decide +kernel) dL_law_523 ?_
  refine lv_topi (fun z_6 ez_6 => ?_)
  obtain rfl : p1 = z_6 := (ez_6.trans e1).symm
  have hPc := hP.sub (ws' := [(qm, .inr (17, [.ref lp, .null, .null, .int 0, .int 0, .ref m1, .ref m2, .ref m3, .ref m4, .ref m5, .null, .null, .int 0, .ref m6, .int 0, .int 0, .int 0, .long 0, .null, .ref m7, .ref m8, .int 0, .int 0, .long 0])), (lp, .inr (0, [.int 0, .ref te, .int 0]))]) [0, 1] rfl
  have hDc := hD.sub (ws' := [(qm, .inr (17, [.ref lp, .null, .null, .int 0, .int 0, .ref m1, .ref m2, .ref m3, .ref m4, .ref m5, .null, .null, .int 0, .ref m6, .int 0, .int 0, .int 0, .long 0, .null, .ref m7, .ref m8, .int 0, .int 0, .long 0])), (lp, .inr (0, [.int 0, .ref te, .int 0]))]) [0, 1] (by decide) rfl
  have hKc := hK.sub (tys' := []) [] rfl
  have hFc := va_free (wc := [(qm, .inr (17, [.ref lp, .null, .null, .int 0, .int 0, .ref m1, .ref m2, .ref m3, .ref m4, .ref m5, .null, .null, .int 0, .ref m6, .int 0, .int 0, .int 0, .long 0, .null, .ref m7, .ref m8, .int 0, .int 0, .long 0])), (lp, .inr (0, [.int 0, .ref te, .int 0]))]) hD hS hA [0, 1] rfl
  refine va_calli (va_runV (As := [.int p1]) (rest := []) ⟨hx, hb, hml, hown, hts⟩ (c_M_let_neg l dC dI tp te H_3.size qm lp m1 m2 m3 m4 m5 m6 m7 m8 p1 hvn) (cwV 1 hts g_law_135_M_let_neg rfl rfl rfl (by decide +kernel) ⟨Nat.le_of_ble_eq_true rfl, Nat.le_of_ble_eq_true rfl⟩) ⟨Pw.blind, va_recv hKc hPc (ci := 17) (q0 := 0) rfl rfl, Pw.mk hPc hKc hDc hG hS hFc⟩ rfl rfl hl.1 rfl (lv_room (Nat.le_of_ble_eq_true rfl)) dL_law_524 ⟨Nat.le_of_ble_eq_true rfl, Nat.le_of_ble_eq_true rfl⟩) hS (fun q _ h => hFc q h) hFc (fun r u t9 H_7 locs ht hvm hw hB hz1 hk1 hS => ?_)
  have hw : r = 0 := hw
  subst hw
  obtain ⟨hP1, hK1, hD1⟩ := hB
  rw [ht] at hP1
  have hK1 := va_K.moved hvm.symm hK1
  obtain ⟨hP, hD⟩ := va_join (wr := []) (w1 := [(qm, .inr (17, [.ref lp, .null, .null, .int 0, .int 1, .ref m1, .ref m2, .ref m3, .ref m4, .ref m5, .null, .null, .int 0, .ref m6, .int 0, .int 0, .int 0, .long 0, .null, .ref m7, .ref m8, .int 0, .int 0, .long 0]))]) hP hD [0, 1] [] rfl rfl (by decide) (by decide) hk1 hFc hP1 hD1
  have hK := (hK.sub (tys' := []) [] rfl).app hK1
  have hP : va_P (dC, dI) vwCl [(qm, .inr (17, [.ref lp, .null, .null, .int 0, .int 1, .ref m1, .ref m2, .ref m3, .ref m4, .ref m5, .null, .null, .int 0, .ref m6, .int 0, .int 0, .int 0, .long 0, .null, .ref m7, .ref m8, .int 0, .int 0, .long 0]))] H_7 := hP
  have hD : va_D A [(qm, .inr (17, [.ref lp, .null, .null, .int 0, .int 1, .ref m1, .ref m2, .ref m3, .ref m4, .ref m5, .null, .null, .int 0, .ref m6, .int 0, .int 0, .int 0, .long 0, .null, .ref m7, .ref m8, .int 0, .int 0, .long 0]))] := hD
  have hK : va_K (dC, dI) vwCl [] s := hK
  refine W.widen (k := 90) (n := 78009) (Nat.le_of_ble_eq_true rfl) (Nat.le_of_ble_eq_true rfl) ?_
  refine lv_istore (lv' := [(6, .int 0), (5, .int 1), (4, .int 0), (3, .ref qo), (2, .ref qm), (1, .ref qx), (0, .ref b)]) hx hb dL_law_527 hl (by decide) rfl (fun ls hl => ?_)
  refine lv_aload_n hx hb dL_law_529 rfl (lv_at hl 4 rfl) ?_
  have hPc := hP.sub (ws' := [(qm, .inr (17, [.ref lp, .null, .null, .int 0, .int 1, .ref m1, .ref m2, .ref m3, .ref m4, .ref m5, .null, .null, .int 0, .ref m6, .int 0, .int 0, .int 0, .long 0, .null, .ref m7, .ref m8, .int 0, .int 0, .long 0]))]) [0] rfl
  have hDc := hD.sub (ws' := [(qm, .inr (17, [.ref lp, .null, .null, .int 0, .int 1, .ref m1, .ref m2, .ref m3, .ref m4, .ref m5, .null, .null, .int 0, .ref m6, .int 0, .int 0, .int 0, .long 0, .null, .ref m7, .ref m8, .int 0, .int 0, .long 0]))]) [0] (by decide) rfl
  have hKc := hK.sub (tys' := []) [] rfl
  have hFc := va_free (wc := [(qm, .inr (17, [.ref lp, .null, .null, .int 0, .int 1, .ref m1, .ref m2, .ref m3, .ref m4, .ref m5, .null, .null, .int 0, .ref m6, .int 0, .int 0, .int 0, .long 0, .null, .ref m7, .ref m8, .int 0, .int 0, .long 0]))]) hD hS hA [0] rfl
  refine va_calli (va_runV (As := []) (rest := []) ⟨hx, hb, hml, hown, hts⟩ (c_thrown l dC dI tp te H_7.size qm lp m1 m2 m3 m4 m5 m6 m7 m8 1) (cwV 0 hts g_law_113_thrown rfl rfl rfl (by decide +kernel) ⟨Nat.le_of_ble_eq_true rfl, Nat.le_of_ble_eq_true rfl⟩) ⟨Pw.blind, va_recv hKc hPc (ci := 17) (q0 := 0) rfl rfl, Pw.mk hPc hKc hDc hG hS hFc⟩ rfl rfl hl.1 rfl (lv_room (Nat.le_of_ble_eq_true rfl)) dL_law_530 ⟨Nat.le_of_ble_eq_true rfl, Nat.le_of_ble_eq_true rfl⟩) hS (fun q _ h => hFc q h) hFc (fun r u t9 H_9 locs ht hvm hw hB hz1 hk1 hS => ?_)
  have hw : r = 1 := hw
  subst hw
  obtain ⟨hP1, hK1, hD1⟩ := hB
  rw [ht] at hP1
  have hK1 := va_K.moved hvm.symm hK1
  obtain ⟨hP, hD⟩ := va_join (wr := []) (w1 := [(qm, .inr (17, [.ref lp, .null, .null, .int 0, .int 1, .ref m1, .ref m2, .ref m3, .ref m4, .ref m5, .null, .null, .int 0, .ref m6, .int 0, .int 0, .int 0, .long 0, .null, .ref m7, .ref m8, .int 0, .int 0, .long 0]))]) hP hD [0] [] rfl rfl (by decide) (by decide) hk1 hFc hP1 hD1
  have hK := (hK.sub (tys' := []) [] rfl).app hK1
  have hP : va_P (dC, dI) vwCl [(qm, .inr (17, [.ref lp, .null, .null, .int 0, .int 1, .ref m1, .ref m2, .ref m3, .ref m4, .ref m5, .null, .null, .int 0, .ref m6, .int 0, .int 0, .int 0, .long 0, .null, .ref m7, .ref m8, .int 0, .int 0, .long 0]))] H_9 := hP
  have hD : va_D A [(qm, .inr (17, [.ref lp, .null, .null, .int 0, .int 1, .ref m1, .ref m2, .ref m3, .ref m4, .ref m5, .null, .null, .int 0, .ref m6, .int 0, .int 0, .int 0, .long 0, .null, .ref m7, .ref m8, .int 0, .int 0, .long 0]))] := hD
  have hK : va_K (dC, dI) vwCl [] s := hK
  refine W.widen (k := 90) (n := 78009) (Nat.le_of_ble_eq_true rfl) (Nat.le_of_ble_eq_true rfl) ?_
  refine lv_iload hx hb dL_law_533 (lv_at hl 1 rfl) ?_
  refine lv_icmp_eq (tgt := 540) hx hb dL_law_535 (by decide) (fun c9 => ?_) (fun c9 => absurd (by decide) c9)
  refine lv_iload hx hb dL_law_540 (lv_at hl 1 rfl) ?_
  refine lv_if_ne (tgt := 557) hx hb dL_law_542 (by decide) (fun c9 => ?_) (fun c9 => absurd c9 (by decide))
  refine lv_goto (tgt := 1569) hx hb dL_law_557 (by decide) ?_
  exact lc_next C0 hAA hS (lv_sub hl [6, 2] rfl) (Nat.le_of_ble_eq_true rfl) (Nat.le_of_ble_eq_true rfl)
set_option maxHeartbeats 4000000 in
set_option maxRecDepth 100000 in
theorem lc_let_big {p : Program} {l : Launch} {e : Env} {s : State} {m : MethodId} {below : List Frame} {meth : Method} {c : Code} (hlt : l.stackTraces = false) {b : Nat} {xs : Nat → Int32} (C0 : lw_At p s m meth c b 3 xs) {A : Nat → Prop} (hAA : A = fun q : Nat => s.heap.size ≤ q) {dC : Nat → ClassId} {dI : Nat → Nat → Nat} {tp te : Nat} (hG : gx tp te A s s.heap) {qx rp rt rc r1 r2 r3 r4 a1 a2 a3 a4 a5 a6 a7 t1 t2 t3 t4 t5 t6 t7 c1 c2 c3 c4 c5 c6 c7 qm lp m1 m2 m3 m4 m5 m6 m7 m8 qo : Nat} {k1 k2 k3 k4 k5 k6 k7 ko : ClassId} {H : Heap} {locs : List Loc} (hK : va_K (dC, dI) vwCl [(k1, .int), (k2, .int), (k3, .int), (k4, .long), (k5, .int), (k6, .int), (k7, .int), (ko, .long)] s) (hP : va_P (dC, dI) vwCl [(qx, .inr (8, [.ref rp, .int 0, .ref rt, .ref rc, .int ((-1)), .ref r1, .ref r2, .ref r3, .ref r4, .null, .int 0])), (rp, .inr (6, [.ref a1, .ref a2, .ref a3, .ref a4, .ref a5, .ref a6, .ref a7, .int 0])), (a1, .inl (k1, 1200, .inl (fun _ => 0))), (a2, .inl (k2, 1200, .inl (fun _ => 0))), (a3, .inl (k3, 1200, .inl (fun _ => 0))), (a4, .inl (k4, 1200, .inr (.inl (fun _ => 0)))), (a5, .inl (k5, 1200, .inl (fun _ => 0))), (a6, .inl (k6, 1200, .inl (fun _ => 0))), (a7, .inl (k7, 1200, .inl (fun _ => 0))), (rt, .inr (6, [.ref t1, .ref t2, .ref t3, .ref t4, .ref t5, .ref t6, .ref t7, .int 0])), (rc, .inr (6, [.ref c1, .ref c2, .ref c3, .ref c4, .ref c5, .ref c6, .ref c7, .int 0])), (qm, .inr (17, [.ref lp, .null, .null, .int 0, .int 0, .ref m1, .ref m2, .ref m3, .ref m4, .ref m5, .null, .null, .int 0, .ref m6, .int 0, .int 0, .int 0, .long 0, .null, .ref m7, .ref m8, .int 0, .int 0, .long 0])), (lp, .inr (0, [.int 0, .ref te, .int 0])), (qo, .inl (ko, 1, .inr (.inl (fun _ => 0))))] H) (hD : va_D A [(qx, .inr (8, [.ref rp, .int 0, .ref rt, .ref rc, .int ((-1)), .ref r1, .ref r2, .ref r3, .ref r4, .null, .int 0])), (rp, .inr (6, [.ref a1, .ref a2, .ref a3, .ref a4, .ref a5, .ref a6, .ref a7, .int 0])), (a1, .inl (k1, 1200, .inl (fun _ => 0))), (a2, .inl (k2, 1200, .inl (fun _ => 0))), (a3, .inl (k3, 1200, .inl (fun _ => 0))), (a4, .inl (k4, 1200, .inr (.inl (fun _ => 0)))), (a5, .inl (k5, 1200, .inl (fun _ => 0))), (a6, .inl (k6, 1200, .inl (fun _ => 0))), (a7, .inl (k7, 1200, .inl (fun _ => 0))), (rt, .inr (6, [.ref t1, .ref t2, .ref t3, .ref t4, .ref t5, .ref t6, .ref t7, .int 0])), (rc, .inr (6, [.ref c1, .ref c2, .ref c3, .ref c4, .ref c5, .ref c6, .ref c7, .int 0])), (qm, .inr (17, [.ref lp, .null, .null, .int 0, .int 0, .ref m1, .ref m2, .ref m3, .ref m4, .ref m5, .null, .null, .int 0, .ref m6, .int 0, .int 0, .int 0, .long 0, .null, .ref m7, .ref m8, .int 0, .int 0, .long 0])), (lp, .inr (0, [.int 0, .ref te, .int 0])), (qo, .inl (ko, 1, .inr (.inl (fun _ => 0))))]) (hS : va_S A s.heap H locs) {ls : Array Slot} (hl : lv_has ls 8 [(4, .int 0), (3, .ref qo), (2, .ref qm), (1, .ref qx), (0, .ref b)]) (p1 p2 : Int32) (e1 : xs (1 : Int32).toNatClampNeg = p1) (e2 : xs (2 : Int32).toNatClampNeg = p2) (hvn : ¬ p1 < 0) (hvb : ¬ p1 < 10) (hvc : 10 ≤ p1) : W p l e room_1 s m #[Value.ref b] below meth c H locs 89 78003 (lw_Z below #[Value.ref b] s) (F0 m 504 ls []) := by
  obtain ⟨hx, hb, hr, hml, hown, hts0, hX, hbl, hlocks, hgv⟩ := id C0
  have hts : ∀ w ∈ z_law, w.before #[Value.ref b] s = true := fun w h => hts0 w (z_law_in w h)
  have hown : s.vm.findClass RL = some m.cls := hown
  have hA : ∀ q : Nat, s.heap.size ≤ q → A q := fun q h => by rw [hAA]; exact h
  have hbA : ¬ A b := by rw [hAA]; exact Nat.not_le.mpr hbl
  have hP := hP.sub (ws' := [(qx, .inr (8, [.ref rp, .int 0, .ref rt, .ref rc, .int ((-1)), .ref r1, .ref r2, .ref r3, .ref r4, .null, .int 0])), (qm, .inr (17, [.ref lp, .null, .null, .int 0, .int 0, .ref m1, .ref m2, .ref m3, .ref m4, .ref m5, .null, .null, .int 0, .ref m6, .int 0, .int 0, .int 0, .long 0, .null, .ref m7, .ref m8, .int 0, .int 0, .long 0])), (lp, .inr (0, [.int 0, .ref te, .int 0]))]) [0, 11, 12] rfl
  have hD := hD.sub (ws' := [(qx, .inr (8, [.ref rp, .int 0, .ref rt, .ref rc, .int ((-1)), .ref r1, .ref r2, .ref r3, .ref r4, .null, .int 0])), (qm, .inr (17, [.ref lp, .null, .null, .int 0, .int 0, .ref m1, .ref m2, .ref m3, .ref m4, .ref m5, .null, .null, .int 0, .ref m6, .int 0, .int 0, .int 0, .long 0, .null, .ref m7, .ref m8, .int 0, .int 0, .long 0])), (lp, .inr (0, [.int 0, .ref te, .int 0]))]) [0, 11, 12] (by decide) rfl
  have hK := hK.sub (tys' := []) [] rfl
  have hP : va_P (dC, dI) vwCl [(qx, .inr (8, [.ref rp, .int 0, .ref rt, .ref rc, .int ((-1)), .ref r1, .ref r2, .ref r3, .ref r4, .null, .int 0])), (qm, .inr (17, [.ref lp, .null, .null, .int 0, .int 0, .ref m1, .ref m2, .ref m3, .ref m4, .ref m5, .null, .null, .int 0, .ref m6, .int 0, .int 0, .int 0, .long 0, .null, .ref m7, .ref m8, .int 0, .int 0, .long 0])), (lp, .inr (0, [.int 0, .ref te, .int 0]))] H := hP
  have hD : va_D A [(qx, .inr (8, [.ref rp, .int 0, .ref rt, .ref rc, .int ((-1)), .ref r1, .ref r2, .ref r3, .ref r4, .null, .int 0])), (qm, .inr (17, [.ref lp, .null, .null, .int 0, .int 0, .ref m1, .ref m2, .ref m3, .ref m4, .ref m5, .null, .null, .int 0, .ref m6, .int 0, .int 0, .int 0, .long 0, .null, .ref m7, .ref m8, .int 0, .int 0, .long 0])), (lp, .inr (0, [.int 0, .ref te, .int 0]))] := hD
  have hK : va_K (dC, dI) vwCl [] s := hK
  refine lv_aload_n hx hb dL_law_504 rfl (lv_at hl 3 rfl) ?_
  refine lv_aload_n hx hb dL_law_505 rfl (lv_at hl 4 rfl) ?_
  refine lv_iload hx hb dL_law_506 (lv_at hl 0 rfl) ?_
  refine lv_iconst (v := 1) hx hb dL_law_508 (by decide) ?_
  refine lv_iadd hx hb dL_law_509 ?_
  refine lv_topi (fun z_1 ez_1 => ?_)
  obtain rfl : z_1 = 1 := ez_1.trans (by decide)
  refine va_sld hx hb hX hbl hbA hS (by unfold vp_in; decide +kernel) dL_law_510 ?_
  refine lv_topi (fun z_2 ez_2 => ?_)
  obtain rfl : p1 = z_2 := (ez_2.trans e1).symm
  refine lv_aload_n hx hb dL_law_511 rfl (lv_at hl 1 rfl) ?_
  have hPc := hP.sub (ws' := [(qx, .inr (8, [.ref rp, .int 0, .ref rt, .ref rc, .int ((-1)), .ref r1, .ref r2, .ref r3, .ref r4, .null, .int 0]))]) [0] rfl
  have hDc := hD.sub (ws' := [(qx, .inr (8, [.ref rp, .int 0, .ref rt, .ref rc, .int ((-1)), .ref r1, .ref r2, .ref r3, .ref r4, .null, .int 0]))]) [0] (by decide) rfl
  have hKc := hK.sub (tys' := []) [] rfl
  have hFc := va_free (wc := [(qx, .inr (8, [.ref rp, .int 0, .ref rt, .ref rc, .int ((-1)), .ref r1, .ref r2, .ref r3, .ref r4, .null, .int 0]))]) hD hS hA [0] rfl
  refine vx_calli (vx_runSX (As := [.ref qx, .int p1, .ref qo]) (rest := []) ⟨hx, hb, hml, hown, hts⟩ (c_L_let_big l dC dI tp te H.size hlt qx rp rt rc r1 r2 r3 r4 p1 qo hvn hvb hvc) (vx_cwSW 3 hts g_law_133_L_let_big rfl rfl rfl (by decide +kernel) ⟨Nat.le_of_ble_eq_true rfl, Nat.le_of_ble_eq_true rfl⟩) ⟨Pw.blind, Pw.mk hPc hKc hDc hG hS hFc⟩ rfl rfl hl.1 rfl (lv_room (Nat.le_of_ble_eq_true rfl)) dL_law_512 ⟨Nat.le_of_ble_eq_true rfl, Nat.le_of_ble_eq_true rfl⟩) hS (fun q _ h => hFc q h) hFc (fun q _ h => hFc q h) (fun E ce q9 u t9 H1 locs ht hvm hpx hBX hz1 hk1 hS hce hcv hcl => hpx.elim) (fun r u t9 H_3 locs ht hvm hw hB hz1 hk1 hS => ?_)
  have hw : r = 1 := hw
  subst hw
  obtain ⟨hP, hD⟩ := va_join (wr := [(qm, .inr (17, [.ref lp, .null, .null, .int 0, .int 0, .ref m1, .ref m2, .ref m3, .ref m4, .ref m5, .null, .null, .int 0, .ref m6, .int 0, .int 0, .int 0, .long 0, .null, .ref m7, .ref m8, .int 0, .int 0, .long 0])), (lp, .inr (0, [.int 0, .ref te, .int 0]))]) (w1 := []) hP hD [0] [1, 2] rfl rfl (by decide) (by decide) hk1 hFc va_P.nil va_D.nil
  have hK := hK.sub (tys' := []) [] rfl
  have hP : va_P (dC, dI) vwCl [(qm, .inr (17, [.ref lp, .null, .null, .int 0, .int 0, .ref m1, .ref m2, .ref m3, .ref m4, .ref m5, .null, .null, .int 0, .ref m6, .int 0, .int 0, .int 0, .long 0, .null, .ref m7, .ref m8, .int 0, .int 0, .long 0])), (lp, .inr (0, [.int 0, .ref te, .int 0]))] H_3 := hP
  have hD : va_D A [(qm, .inr (17, [.ref lp, .null, .null, .int 0, .int 0, .ref m1, .ref m2, .ref m3, .ref m4, .ref m5, .null, .null, .int 0, .ref m6, .int 0, .int 0, .int 0, .long 0, .null, .ref m7, .ref m8, .int 0, .int 0, .long 0])), (lp, .inr (0, [.int 0, .ref te, .int 0]))] := hD
  have hK : va_K (dC, dI) vwCl [] s := hK
  refine W.widen (k := 90) (n := 78009) (Nat.le_of_ble_eq_true rfl) (Nat.le_of_ble_eq_true rfl) ?_
  refine lv_istore (lv' := [(5, .int 1), (4, .int 0), (3, .ref qo), (2, .ref qm), (1, .ref qx), (0, .ref b)]) hx hb dL_law_515 hl (by decide) rfl (fun ls hl => ?_)
  refine lv_aload_n hx hb dL_law_517 rfl (lv_at hl 3 rfl) ?_
  refine lv_aload_n hx hb dL_law_518 rfl (lv_at hl 5 rfl) ?_
  refine lv_iload hx hb dL_law_519 (lv_at hl 1 rfl) ?_
  refine lv_iconst (v := 1) hx hb dL_law_521 (by decide) ?_
  refine lv_iadd hx hb dL_law_522 ?_
  refine lv_topi (fun z_5 ez_5 => ?_)
  obtain rfl : z_5 = 1 := ez_5.trans (by decide)
  refine va_sld hx hb hX hbl hbA hS (by unfold vp_in; decide +kernel) dL_law_523 ?_
  refine lv_topi (fun z_6 ez_6 => ?_)
  obtain rfl : p1 = z_6 := (ez_6.trans e1).symm
  have hPc := hP.sub (ws' := [(qm, .inr (17, [.ref lp, .null, .null, .int 0, .int 0, .ref m1, .ref m2, .ref m3, .ref m4, .ref m5, .null, .null, .int 0, .ref m6, .int 0, .int 0, .int 0, .long 0, .null, .ref m7, .ref m8, .int 0, .int 0, .long 0])), (lp, .inr (0, [.int 0, .ref te, .int 0]))]) [0, 1] rfl
  have hDc := hD.sub (ws' := [(qm, .inr (17, [.ref lp, .null, .null, .int 0, .int 0, .ref m1, .ref m2, .ref m3, .ref m4, .ref m5, .null, .null, .int 0, .ref m6, .int 0, .int 0, .int 0, .long 0, .null, .ref m7, .ref m8, .int 0, .int 0, .long 0])), (lp, .inr (0, [.int 0, .ref te, .int 0]))]) [0, 1] (by decide) rfl
  have hKc := hK.sub (tys' := []) [] rfl
  have hFc := va_free (wc := [(qm, .inr (17, [.ref lp, .null, .null, .int 0, .int 0, .ref m1, .ref m2, .ref m3, .ref m4, .ref m5, .null, .null, .int 0, .ref m6, .int 0, .int 0, .int 0, .long 0, .null, .ref m7, .ref m8, .int 0, .int 0, .long 0])), (lp, .inr (0, [.int 0, .ref te, .int 0]))]) hD hS hA [0, 1] rfl
  refine va_calli (va_runV (As := [.int p1]) (rest := []) ⟨hx, hb, hml, hown, hts⟩ (c_M_let_big l dC dI tp te H_3.size qm lp m1 m2 m3 m4 m5 m6 m7 m8 p1 hvn hvb hvc) (cwV 1 hts g_law_135_M_let_big rfl rfl rfl (by decide +kernel) ⟨Nat.le_of_ble_eq_true rfl, Nat.le_of_ble_eq_true rfl⟩) ⟨Pw.blind, va_recv hKc hPc (ci := 17) (q0 := 0) rfl rfl, Pw.mk hPc hKc hDc hG hS hFc⟩ rfl rfl hl.1 rfl (lv_room (Nat.le_of_ble_eq_true rfl)) dL_law_524 ⟨Nat.le_of_ble_eq_true rfl, Nat.le_of_ble_eq_true rfl⟩) hS (fun q _ h => hFc q h) hFc (fun r u t9 H_7 locs ht hvm hw hB hz1 hk1 hS => ?_)
  have hw : r = 0 := hw
  subst hw
  obtain ⟨hP1, hK1, hD1⟩ := hB
  rw [ht] at hP1
  have hK1 := va_K.moved hvm.symm hK1
  obtain ⟨hP, hD⟩ := va_join (wr := []) (w1 := [(qm, .inr (17, [.ref lp, .null, .null, .int 0, .int 1, .ref m1, .ref m2, .ref m3, .ref m4, .ref m5, .null, .null, .int 0, .ref m6, .int 0, .int 0, .int 0, .long 0, .null, .ref m7, .ref m8, .int 0, .int 0, .long 0]))]) hP hD [0, 1] [] rfl rfl (by decide) (by decide) hk1 hFc hP1 hD1
  have hK := (hK.sub (tys' := []) [] rfl).app hK1
  have hP : va_P (dC, dI) vwCl [(qm, .inr (17, [.ref lp, .null, .null, .int 0, .int 1, .ref m1, .ref m2, .ref m3, .ref m4, .ref m5, .null, .null, .int 0, .ref m6, .int 0, .int 0, .int 0, .long 0, .null, .ref m7, .ref m8, .int 0, .int 0, .long 0]))] H_7 := hP
  have hD : va_D A [(qm, .inr (17, [.ref lp, .null, .null, .int 0, .int 1, .ref m1, .ref m2, .ref m3, .ref m4, .ref m5, .null, .null, .int 0, .ref m6, .int 0, .int 0, .int 0, .long 0, .null, .ref m7, .ref m8, .int 0, .int 0, .long 0]))] := hD
  have hK : va_K (dC, dI) vwCl [] s := hK
  refine W.widen (k := 90) (n := 78009) (Nat.le_of_ble_eq_true rfl) (Nat.le_of_ble_eq_true rfl) ?_
  refine lv_istore (lv' := [(6, .int 0), (5, .int 1), (4, .int 0), (3, .ref qo), (2, .ref qm), (1, .ref qx), (0, .ref b)]) hx hb dL_law_527 hl (by decide) rfl (fun ls hl => ?_)
  refine lv_aload_n hx hb dL_law_529 rfl (lv_at hl 4 rfl) ?_
  have hPc := hP.sub (ws' := [(qm, .inr (17, [.ref lp, .null, .null, .int 0, .int 1, .ref m1, .ref m2, .ref m3, .ref m4, .ref m5, .null, .null, .int 0, .ref m6, .int 0, .int 0, .int 0, .long 0, .null, .ref m7, .ref m8, .int 0, .int 0, .long 0]))]) [0] rfl
  have hDc := hD.sub (ws' := [(qm, .inr (17, [.ref lp, .null, .null, .int 0, .int 1, .ref m1, .ref m2, .ref m3, .ref m4, .ref m5, .null, .null, .int 0, .ref m6, .int 0, .int 0, .int 0, .long 0, .null, .ref m7, .ref m8, .int 0, .int 0, .long 0]))]) [0] (by decide) rfl
  have hKc := hK.sub (tys' := []) [] rfl
  have hFc := va_free (wc := [(qm, .inr (17, [.ref lp, .null, .null, .int 0, .int 1, .ref m1, .ref m2, .ref m3, .ref m4, .ref m5, .null, .null, .int 0, .ref m6, .int 0, .int 0, .int 0, .long 0, .null, .ref m7, .ref m8, .int 0, .int 0, .long 0]))]) hD hS hA [0] rfl
  refine va_calli (va_runV (As := []) (rest := []) ⟨hx, hb, hml, hown, hts⟩ (c_thrown l dC dI tp te H_7.size qm lp m1 m2 m3 m4 m5 m6 m7 m8 1) (cwV 0 hts g_law_113_thrown rfl rfl rfl (by decide +kernel) ⟨Nat.le_of_ble_eq_true rfl, Nat.le_of_ble_eq_true rfl⟩) ⟨Pw.blind, va_recv hKc hPc (ci := 17) (q0 := 0) rfl rfl, Pw.mk hPc hKc hDc hG hS hFc⟩ rfl rfl hl.1 rfl (lv_room (Nat.le_of_ble_eq_true rfl)) dL_law_530 ⟨Nat.le_of_ble_eq_true rfl, Nat.le_of_ble_eq_true rfl⟩) hS (fun q _ h => hFc q h) hFc (fun r u t9 H_9 locs ht hvm hw hB hz1 hk1 hS => ?_)
  have hw : r = 1 := hw
  subst hw
  obtain ⟨hP1, hK1, hD1⟩ := hB
  rw [ht] at hP1
  have hK1 := va_K.moved hvm.symm hK1
  obtain ⟨hP, hD⟩ := va_join (wr := []) (w1 := [(qm, .inr (17, [.ref lp, .null, .null, .int 0, .int 1, .ref m1, .ref m2, .ref m3, .ref m4, .ref m5, .null, .null, .int 0, .ref m6, .int 0, .int 0, .int 0, .long 0, .null, .ref m7, .ref m8, .int 0, .int 0, .long 0]))]) hP hD [0] [] rfl rfl (by decide) (by decide) hk1 hFc hP1 hD1
  have hK := (hK.sub (tys' := []) [] rfl).app hK1
  have hP : va_P (dC, dI) vwCl [(qm, .inr (17, [.ref lp, .null, .null, .int 0, .int 1, .ref m1, .ref m2, .ref m3, .ref m4, .ref m5, .null, .null, .int 0, .ref m6, .int 0, .int 0, .int 0, .long 0, .null, .ref m7, .ref m8, .int 0, .int 0, .long 0]))] H_9 := hP
  have hD : va_D A [(qm, .inr (17, [.ref lp, .null, .null, .int 0, .int 1, .ref m1, .ref m2, .ref m3, .ref m4, .ref m5, .null, .null, .int 0, .ref m6, .int 0, .int 0, .int 0, .long 0, .null, .ref m7, .ref m8, .int 0, .int 0, .long 0]))] := hD
  have hK : va_K (dC, dI) vwCl [] s := hK
  refine W.widen (k := 90) (n := 78009) (Nat.le_of_ble_eq_true rfl) (Nat.le_of_ble_eq_true rfl) ?_
  refine lv_iload hx hb dL_law_533 (lv_at hl 1 rfl) ?_
  refine lv_icmp_eq (tgt := 540) hx hb dL_law_535 (by decide) (fun c9 => ?_) (fun c9 => absurd (by decide) c9)
  refine lv_iload hx hb dL_law_540 (lv_at hl 1 rfl) ?_
  refine lv_if_ne (tgt := 557) hx hb dL_law_542 (by decide) (fun c9 => ?_) (fun c9 => absurd c9 (by decide))
  refine lv_goto (tgt := 1569) hx hb dL_law_557 (by decide) ?_
  exact lc_next C0 hAA hS (lv_sub hl [6, 2] rfl) (Nat.le_of_ble_eq_true rfl) (Nat.le_of_ble_eq_true rfl)
set_option maxHeartbeats 4000000 in
set_option maxRecDepth 100000 in
theorem lc_let_ok {p : Program} {l : Launch} {e : Env} {s : State} {m : MethodId} {below : List Frame} {meth : Method} {c : Code} (hlt : l.stackTraces = false) {b : Nat} {xs : Nat → Int32} (C0 : lw_At p s m meth c b 3 xs) {A : Nat → Prop} (hAA : A = fun q : Nat => s.heap.size ≤ q) {dC : Nat → ClassId} {dI : Nat → Nat → Nat} {tp te : Nat} (hG : gx tp te A s s.heap) {qx rp rt rc r1 r2 r3 r4 a1 a2 a3 a4 a5 a6 a7 t1 t2 t3 t4 t5 t6 t7 c1 c2 c3 c4 c5 c6 c7 qm lp m1 m2 m3 m4 m5 m6 m7 m8 qo : Nat} {k1 k2 k3 k4 k5 k6 k7 ko : ClassId} {H : Heap} {locs : List Loc} (hK : va_K (dC, dI) vwCl [(k1, .int), (k2, .int), (k3, .int), (k4, .long), (k5, .int), (k6, .int), (k7, .int), (ko, .long)] s) (hP : va_P (dC, dI) vwCl [(qx, .inr (8, [.ref rp, .int 0, .ref rt, .ref rc, .int ((-1)), .ref r1, .ref r2, .ref r3, .ref r4, .null, .int 0])), (rp, .inr (6, [.ref a1, .ref a2, .ref a3, .ref a4, .ref a5, .ref a6, .ref a7, .int 0])), (a1, .inl (k1, 1200, .inl (fun _ => 0))), (a2, .inl (k2, 1200, .inl (fun _ => 0))), (a3, .inl (k3, 1200, .inl (fun _ => 0))), (a4, .inl (k4, 1200, .inr (.inl (fun _ => 0)))), (a5, .inl (k5, 1200, .inl (fun _ => 0))), (a6, .inl (k6, 1200, .inl (fun _ => 0))), (a7, .inl (k7, 1200, .inl (fun _ => 0))), (rt, .inr (6, [.ref t1, .ref t2, .ref t3, .ref t4, .ref t5, .ref t6, .ref t7, .int 0])), (rc, .inr (6, [.ref c1, .ref c2, .ref c3, .ref c4, .ref c5, .ref c6, .ref c7, .int 0])), (qm, .inr (17, [.ref lp, .null, .null, .int 0, .int 0, .ref m1, .ref m2, .ref m3, .ref m4, .ref m5, .null, .null, .int 0, .ref m6, .int 0, .int 0, .int 0, .long 0, .null, .ref m7, .ref m8, .int 0, .int 0, .long 0])), (lp, .inr (0, [.int 0, .ref te, .int 0])), (qo, .inl (ko, 1, .inr (.inl (fun _ => 0))))] H) (hD : va_D A [(qx, .inr (8, [.ref rp, .int 0, .ref rt, .ref rc, .int ((-1)), .ref r1, .ref r2, .ref r3, .ref r4, .null, .int 0])), (rp, .inr (6, [.ref a1, .ref a2, .ref a3, .ref a4, .ref a5, .ref a6, .ref a7, .int 0])), (a1, .inl (k1, 1200, .inl (fun _ => 0))), (a2, .inl (k2, 1200, .inl (fun _ => 0))), (a3, .inl (k3, 1200, .inl (fun _ => 0))), (a4, .inl (k4, 1200, .inr (.inl (fun _ => 0)))), (a5, .inl (k5, 1200, .inl (fun _ => 0))), (a6, .inl (k6, 1200, .inl (fun _ => 0))), (a7, .inl (k7, 1200, .inl (fun _ => 0))), (rt, .inr (6, [.ref t1, .ref t2, .ref t3, .ref t4, .ref t5, .ref t6, .ref t7, .int 0])), (rc, .inr (6, [.ref c1, .ref c2, .ref c3, .ref c4, .ref c5, .ref c6, .ref c7, .int 0])), (qm, .inr (17, [.ref lp, .null, .null, .int 0, .int 0, .ref m1, .ref m2, .ref m3, .ref m4, .ref m5, .null, .null, .int 0, .ref m6, .int 0, .int 0, .int 0, .long 0, .null, .ref m7, .ref m8, .int 0, .int 0, .long 0])), (lp, .inr (0, [.int 0, .ref te, .int 0])), (qo, .inl (ko, 1, .inr (.inl (fun _ => 0))))]) (hS : va_S A s.heap H locs) {ls : Array Slot} (hl : lv_has ls 8 [(4, .int 0), (3, .ref qo), (2, .ref qm), (1, .ref qx), (0, .ref b)]) (p1 p2 : Int32) (e1 : xs (1 : Int32).toNatClampNeg = p1) (e2 : xs (2 : Int32).toNatClampNeg = p2) (hvn : ¬ p1 < 0) (hvb : p1 < 10) (hvc : ¬ 10 ≤ p1) : W p l e room_1 s m #[Value.ref b] below meth c H locs 89 78003 (lw_Z below #[Value.ref b] s) (F0 m 504 ls []) := by
  obtain ⟨hx, hb, hr, hml, hown, hts0, hX, hbl, hlocks, hgv⟩ := id C0
  have hts : ∀ w ∈ z_law, w.before #[Value.ref b] s = true := fun w h => hts0 w (z_law_in w h)
  have hown : s.vm.findClass RL = some m.cls := hown
  have hA : ∀ q : Nat, s.heap.size ≤ q → A q := fun q h => by rw [hAA]; exact h
  have hbA : ¬ A b := by rw [hAA]; exact Nat.not_le.mpr hbl
  have hP := hP.sub (ws' := [(qx, .inr (8, [.ref rp, .int 0, .ref rt, .ref rc, .int ((-1)), .ref r1, .ref r2, .ref r3, .ref r4, .null, .int 0])), (qm, .inr (17, [.ref lp, .null, .null, .int 0, .int 0, .ref m1, .ref m2, .ref m3, .ref m4, .ref m5, .null, .null, .int 0, .ref m6, .int 0, .int 0, .int 0, .long 0, .null, .ref m7, .ref m8, .int 0, .int 0, .long 0])), (lp, .inr (0, [.int 0, .ref te, .int 0]))]) [0, 11, 12] rfl
  have hD := hD.sub (ws' := [(qx, .inr (8, [.ref rp, .int 0, .ref rt, .ref rc, .int ((-1)), .ref r1, .ref r2, .ref r3, .ref r4, .null, .int 0])), (qm, .inr (17, [.ref lp, .null, .null, .int 0, .int 0, .ref m1, .ref m2, .ref m3, .ref m4, .ref m5, .null, .null, .int 0, .ref m6, .int 0, .int 0, .int 0, .long 0, .null, .ref m7, .ref m8, .int 0, .int 0, .long 0])), (lp, .inr (0, [.int 0, .ref te, .int 0]))]) [0, 11, 12] (by decide) rfl
  have hK := hK.sub (tys' := []) [] rfl
  have hP : va_P (dC, dI) vwCl [(qx, .inr (8, [.ref rp, .int 0, .ref rt, .ref rc, .int ((-1)), .ref r1, .ref r2, .ref r3, .ref r4, .null, .int 0])), (qm, .inr (17, [.ref lp, .null, .null, .int 0, .int 0, .ref m1, .ref m2, .ref m3, .ref m4, .ref m5, .null, .null, .int 0, .ref m6, .int 0, .int 0, .int 0, .long 0, .null, .ref m7, .ref m8, .int 0, .int 0, .long 0])), (lp, .inr (0, [.int 0, .ref te, .int 0]))] H := hP
  have hD : va_D A [(qx, .inr (8, [.ref rp, .int 0, .ref rt, .ref rc, .int ((-1)), .ref r1, .ref r2, .ref r3, .ref r4, .null, .int 0])), (qm, .inr (17, [.ref lp, .null, .null, .int 0, .int 0, .ref m1, .ref m2, .ref m3, .ref m4, .ref m5, .null, .null, .int 0, .ref m6, .int 0, .int 0, .int 0, .long 0, .null, .ref m7, .ref m8, .int 0, .int 0, .long 0])), (lp, .inr (0, [.int 0, .ref te, .int 0]))] := hD
  have hK : va_K (dC, dI) vwCl [] s := hK
  refine lv_aload_n hx hb dL_law_504 rfl (lv_at hl 3 rfl) ?_
  refine lv_aload_n hx hb dL_law_505 rfl (lv_at hl 4 rfl) ?_
  refine lv_iload hx hb dL_law_506 (lv_at hl 0 rfl) ?_
  refine lv_iconst (v := 1) hx hb dL_law_508 (by decide) ?_
  refine lv_iadd hx hb dL_law_509 ?_
  refine lv_topi (fun z_1 ez_1 => ?_)
  obtain rfl : z_1 = 1 := ez_1.trans (by decide)
  refine va_sld hx hb hX hbl hbA hS (by unfold vp_in; decide +kernel) dL_law_510 ?_
  refine lv_topi (fun z_2 ez_2 => ?_)
  obtain rfl : p1 = z_2 := (ez_2.trans e1).symm
  refine lv_aload_n hx hb dL_law_511 rfl (lv_at hl 1 rfl) ?_
  have hPc := hP.sub (ws' := [(qx, .inr (8, [.ref rp, .int 0, .ref rt, .ref rc, .int ((-1)), .ref r1, .ref r2, .ref r3, .ref r4, .null, .int 0]))]) [0] rfl
  have hDc := hD.sub (ws' := [(qx, .inr (8, [.ref rp, .int 0, .ref rt, .ref rc, .int ((-1)), .ref r1, .ref r2, .ref r3, .ref r4, .null, .int 0]))]) [0] (by decide) rfl
  have hKc := hK.sub (tys' := []) [] rfl
  have hFc := va_free (wc := [(qx, .inr (8, [.ref rp, .int 0, .ref rt, .ref rc, .int ((-1)), .ref r1, .ref r2, .ref r3, .ref r4, .null, .int 0]))]) hD hS hA [0] rfl
  refine vx_calli (vx_runSX (As := [.ref qx, .int p1, .ref qo]) (rest := []) ⟨hx, hb, hml, hown, hts⟩ (c_L_let_ok l dC dI tp te H.size hlt qx rp rt rc r1 r2 r3 r4 p1 qo hvn hvb hvc) (vx_cwSW 3 hts g_law_133_L_let_ok rfl rfl rfl (by decide +kernel) ⟨Nat.le_of_ble_eq_true rfl, Nat.le_of_ble_eq_true rfl⟩) ⟨Pw.blind, Pw.mk hPc hKc hDc hG hS hFc⟩ rfl rfl hl.1 rfl (lv_room (Nat.le_of_ble_eq_true rfl)) dL_law_512 ⟨Nat.le_of_ble_eq_true rfl, Nat.le_of_ble_eq_true rfl⟩) hS (fun q _ h => hFc q h) hFc (fun q _ h => hFc q h) (fun E ce q9 u t9 H1 locs ht hvm hpx hBX hz1 hk1 hS hce hcv hcl => hpx.elim) (fun r u t9 H_3 locs ht hvm hw hB hz1 hk1 hS => ?_)
  have hw : r = 2 := hw
  subst hw
  obtain ⟨hP, hD⟩ := va_join (wr := [(qm, .inr (17, [.ref lp, .null, .null, .int 0, .int 0, .ref m1, .ref m2, .ref m3, .ref m4, .ref m5, .null, .null, .int 0, .ref m6, .int 0, .int 0, .int 0, .long 0, .null, .ref m7, .ref m8, .int 0, .int 0, .long 0])), (lp, .inr (0, [.int 0, .ref te, .int 0]))]) (w1 := []) hP hD [0] [1, 2] rfl rfl (by decide) (by decide) hk1 hFc va_P.nil va_D.nil
  have hK := hK.sub (tys' := []) [] rfl
  have hP : va_P (dC, dI) vwCl [(qm, .inr (17, [.ref lp, .null, .null, .int 0, .int 0, .ref m1, .ref m2, .ref m3, .ref m4, .ref m5, .null, .null, .int 0, .ref m6, .int 0, .int 0, .int 0, .long 0, .null, .ref m7, .ref m8, .int 0, .int 0, .long 0])), (lp, .inr (0, [.int 0, .ref te, .int 0]))] H_3 := hP
  have hD : va_D A [(qm, .inr (17, [.ref lp, .null, .null, .int 0, .int 0, .ref m1, .ref m2, .ref m3, .ref m4, .ref m5, .null, .null, .int 0, .ref m6, .int 0, .int 0, .int 0, .long 0, .null, .ref m7, .ref m8, .int 0, .int 0, .long 0])), (lp, .inr (0, [.int 0, .ref te, .int 0]))] := hD
  have hK : va_K (dC, dI) vwCl [] s := hK
  refine W.widen (k := 90) (n := 78009) (Nat.le_of_ble_eq_true rfl) (Nat.le_of_ble_eq_true rfl) ?_
  refine lv_istore (lv' := [(5, .int 2), (4, .int 0), (3, .ref qo), (2, .ref qm), (1, .ref qx), (0, .ref b)]) hx hb dL_law_515 hl (by decide) rfl (fun ls hl => ?_)
  refine lv_aload_n hx hb dL_law_517 rfl (lv_at hl 3 rfl) ?_
  refine lv_aload_n hx hb dL_law_518 rfl (lv_at hl 5 rfl) ?_
  refine lv_iload hx hb dL_law_519 (lv_at hl 1 rfl) ?_
  refine lv_iconst (v := 1) hx hb dL_law_521 (by decide) ?_
  refine lv_iadd hx hb dL_law_522 ?_
  refine lv_topi (fun z_5 ez_5 => ?_)
  obtain rfl : z_5 = 1 := ez_5.trans (by decide)
  refine va_sld hx hb hX hbl hbA hS (by unfold vp_in; decide +kernel) dL_law_523 ?_
  refine lv_topi (fun z_6 ez_6 => ?_)
  obtain rfl : p1 = z_6 := (ez_6.trans e1).symm
  have hPc := hP.sub (ws' := [(qm, .inr (17, [.ref lp, .null, .null, .int 0, .int 0, .ref m1, .ref m2, .ref m3, .ref m4, .ref m5, .null, .null, .int 0, .ref m6, .int 0, .int 0, .int 0, .long 0, .null, .ref m7, .ref m8, .int 0, .int 0, .long 0])), (lp, .inr (0, [.int 0, .ref te, .int 0]))]) [0, 1] rfl
  have hDc := hD.sub (ws' := [(qm, .inr (17, [.ref lp, .null, .null, .int 0, .int 0, .ref m1, .ref m2, .ref m3, .ref m4, .ref m5, .null, .null, .int 0, .ref m6, .int 0, .int 0, .int 0, .long 0, .null, .ref m7, .ref m8, .int 0, .int 0, .long 0])), (lp, .inr (0, [.int 0, .ref te, .int 0]))]) [0, 1] (by decide) rfl
  have hKc := hK.sub (tys' := []) [] rfl
  have hFc := va_free (wc := [(qm, .inr (17, [.ref lp, .null, .null, .int 0, .int 0, .ref m1, .ref m2, .ref m3, .ref m4, .ref m5, .null, .null, .int 0, .ref m6, .int 0, .int 0, .int 0, .long 0, .null, .ref m7, .ref m8, .int 0, .int 0, .long 0])), (lp, .inr (0, [.int 0, .ref te, .int 0]))]) hD hS hA [0, 1] rfl
  refine va_calli (va_runV (As := [.int p1]) (rest := []) ⟨hx, hb, hml, hown, hts⟩ (c_M_let_ok l dC dI tp te H_3.size qm lp m1 m2 m3 m4 m5 m6 m7 m8 p1 hvn hvb hvc) (cwV 1 hts g_law_135_M_let_ok rfl rfl rfl (by decide +kernel) ⟨Nat.le_of_ble_eq_true rfl, Nat.le_of_ble_eq_true rfl⟩) ⟨Pw.blind, va_recv hKc hPc (ci := 17) (q0 := 0) rfl rfl, Pw.mk hPc hKc hDc hG hS hFc⟩ rfl rfl hl.1 rfl (lv_room (Nat.le_of_ble_eq_true rfl)) dL_law_524 ⟨Nat.le_of_ble_eq_true rfl, Nat.le_of_ble_eq_true rfl⟩) hS (fun q _ h => hFc q h) hFc (fun r u t9 H_7 locs ht hvm hw hB hz1 hk1 hS => ?_)
  have hw : r = 0 := hw
  subst hw
  obtain ⟨hP1, hK1, hD1⟩ := hB
  rw [ht] at hP1
  have hK1 := va_K.moved hvm.symm hK1
  obtain ⟨hP, hD⟩ := va_join (wr := []) (w1 := [(qm, .inr (17, [.ref lp, .null, .null, .int 0, .int 2, .ref m1, .ref m2, .ref m3, .ref m4, .ref m5, .null, .null, .int 0, .ref m6, .int 0, .int 0, .int 0, .long 0, .null, .ref m7, .ref m8, .int 0, .int 0, .long 0]))]) hP hD [0, 1] [] rfl rfl (by decide) (by decide) hk1 hFc hP1 hD1
  have hK := (hK.sub (tys' := []) [] rfl).app hK1
  have hP : va_P (dC, dI) vwCl [(qm, .inr (17, [.ref lp, .null, .null, .int 0, .int 2, .ref m1, .ref m2, .ref m3, .ref m4, .ref m5, .null, .null, .int 0, .ref m6, .int 0, .int 0, .int 0, .long 0, .null, .ref m7, .ref m8, .int 0, .int 0, .long 0]))] H_7 := hP
  have hD : va_D A [(qm, .inr (17, [.ref lp, .null, .null, .int 0, .int 2, .ref m1, .ref m2, .ref m3, .ref m4, .ref m5, .null, .null, .int 0, .ref m6, .int 0, .int 0, .int 0, .long 0, .null, .ref m7, .ref m8, .int 0, .int 0, .long 0]))] := hD
  have hK : va_K (dC, dI) vwCl [] s := hK
  refine W.widen (k := 90) (n := 78009) (Nat.le_of_ble_eq_true rfl) (Nat.le_of_ble_eq_true rfl) ?_
  refine lv_istore (lv' := [(6, .int 0), (5, .int 2), (4, .int 0), (3, .ref qo), (2, .ref qm), (1, .ref qx), (0, .ref b)]) hx hb dL_law_527 hl (by decide) rfl (fun ls hl => ?_)
  refine lv_aload_n hx hb dL_law_529 rfl (lv_at hl 4 rfl) ?_
  have hPc := hP.sub (ws' := [(qm, .inr (17, [.ref lp, .null, .null, .int 0, .int 2, .ref m1, .ref m2, .ref m3, .ref m4, .ref m5, .null, .null, .int 0, .ref m6, .int 0, .int 0, .int 0, .long 0, .null, .ref m7, .ref m8, .int 0, .int 0, .long 0]))]) [0] rfl
  have hDc := hD.sub (ws' := [(qm, .inr (17, [.ref lp, .null, .null, .int 0, .int 2, .ref m1, .ref m2, .ref m3, .ref m4, .ref m5, .null, .null, .int 0, .ref m6, .int 0, .int 0, .int 0, .long 0, .null, .ref m7, .ref m8, .int 0, .int 0, .long 0]))]) [0] (by decide) rfl
  have hKc := hK.sub (tys' := []) [] rfl
  have hFc := va_free (wc := [(qm, .inr (17, [.ref lp, .null, .null, .int 0, .int 2, .ref m1, .ref m2, .ref m3, .ref m4, .ref m5, .null, .null, .int 0, .ref m6, .int 0, .int 0, .int 0, .long 0, .null, .ref m7, .ref m8, .int 0, .int 0, .long 0]))]) hD hS hA [0] rfl
  refine va_calli (va_runV (As := []) (rest := []) ⟨hx, hb, hml, hown, hts⟩ (c_thrown l dC dI tp te H_7.size qm lp m1 m2 m3 m4 m5 m6 m7 m8 2) (cwV 0 hts g_law_113_thrown rfl rfl rfl (by decide +kernel) ⟨Nat.le_of_ble_eq_true rfl, Nat.le_of_ble_eq_true rfl⟩) ⟨Pw.blind, va_recv hKc hPc (ci := 17) (q0 := 0) rfl rfl, Pw.mk hPc hKc hDc hG hS hFc⟩ rfl rfl hl.1 rfl (lv_room (Nat.le_of_ble_eq_true rfl)) dL_law_530 ⟨Nat.le_of_ble_eq_true rfl, Nat.le_of_ble_eq_true rfl⟩) hS (fun q _ h => hFc q h) hFc (fun r u t9 H_9 locs ht hvm hw hB hz1 hk1 hS => ?_)
  have hw : r = 2 := hw
  subst hw
  obtain ⟨hP1, hK1, hD1⟩ := hB
  rw [ht] at hP1
  have hK1 := va_K.moved hvm.symm hK1
  obtain ⟨hP, hD⟩ := va_join (wr := []) (w1 := [(qm, .inr (17, [.ref lp, .null, .null, .int 0, .int 2, .ref m1, .ref m2, .ref m3, .ref m4, .ref m5, .null, .null, .int 0, .ref m6, .int 0, .int 0, .int 0, .long 0, .null, .ref m7, .ref m8, .int 0, .int 0, .long 0]))]) hP hD [0] [] rfl rfl (by decide) (by decide) hk1 hFc hP1 hD1
  have hK := (hK.sub (tys' := []) [] rfl).app hK1
  have hP : va_P (dC, dI) vwCl [(qm, .inr (17, [.ref lp, .null, .null, .int 0, .int 2, .ref m1, .ref m2, .ref m3, .ref m4, .ref m5, .null, .null, .int 0, .ref m6, .int 0, .int 0, .int 0, .long 0, .null, .ref m7, .ref m8, .int 0, .int 0, .long 0]))] H_9 := hP
  have hD : va_D A [(qm, .inr (17, [.ref lp, .null, .null, .int 0, .int 2, .ref m1, .ref m2, .ref m3, .ref m4, .ref m5, .null, .null, .int 0, .ref m6, .int 0, .int 0, .int 0, .long 0, .null, .ref m7, .ref m8, .int 0, .int 0, .long 0]))] := hD
  have hK : va_K (dC, dI) vwCl [] s := hK
  refine W.widen (k := 90) (n := 78009) (Nat.le_of_ble_eq_true rfl) (Nat.le_of_ble_eq_true rfl) ?_
  refine lv_iload hx hb dL_law_533 (lv_at hl 1 rfl) ?_
  refine lv_icmp_eq (tgt := 540) hx hb dL_law_535 (by decide) (fun c9 => ?_) (fun c9 => absurd (by decide) c9)
  refine lv_iload hx hb dL_law_540 (lv_at hl 1 rfl) ?_
  refine lv_if_ne (tgt := 557) hx hb dL_law_542 (by decide) (fun c9 => ?_) (fun c9 => absurd c9 (by decide))
  refine lv_goto (tgt := 1569) hx hb dL_law_557 (by decide) ?_
  exact lc_next C0 hAA hS (lv_sub hl [6, 2] rfl) (Nat.le_of_ble_eq_true rfl) (Nat.le_of_ble_eq_true rfl)
set_option maxHeartbeats 4000000 in
set_option maxRecDepth 100000 in
theorem lc_rec_fneg {p : Program} {l : Launch} {e : Env} {s : State} {m : MethodId} {below : List Frame} {meth : Method} {c : Code} (hlt : l.stackTraces = false) {b : Nat} {xs : Nat → Int32} (C0 : lw_At p s m meth c b 3 xs) {A : Nat → Prop} (hAA : A = fun q : Nat => s.heap.size ≤ q) {dC : Nat → ClassId} {dI : Nat → Nat → Nat} {tp te : Nat} (hG : gx tp te A s s.heap) {qx rp rt rc r1 r2 r3 r4 a1 a2 a3 a4 a5 a6 a7 t1 t2 t3 t4 t5 t6 t7 c1 c2 c3 c4 c5 c6 c7 qm lp m1 m2 m3 m4 m5 m6 m7 m8 qo : Nat} {k1 k2 k3 k4 k5 k6 k7 ko : ClassId} {H : Heap} {locs : List Loc} (hK : va_K (dC, dI) vwCl [(k1, .int), (k2, .int), (k3, .int), (k4, .long), (k5, .int), (k6, .int), (k7, .int), (ko, .long)] s) (hP : va_P (dC, dI) vwCl [(qx, .inr (8, [.ref rp, .int 0, .ref rt, .ref rc, .int ((-1)), .ref r1, .ref r2, .ref r3, .ref r4, .null, .int 0])), (rp, .inr (6, [.ref a1, .ref a2, .ref a3, .ref a4, .ref a5, .ref a6, .ref a7, .int 0])), (a1, .inl (k1, 1200, .inl (fun _ => 0))), (a2, .inl (k2, 1200, .inl (fun _ => 0))), (a3, .inl (k3, 1200, .inl (fun _ => 0))), (a4, .inl (k4, 1200, .inr (.inl (fun _ => 0)))), (a5, .inl (k5, 1200, .inl (fun _ => 0))), (a6, .inl (k6, 1200, .inl (fun _ => 0))), (a7, .inl (k7, 1200, .inl (fun _ => 0))), (rt, .inr (6, [.ref t1, .ref t2, .ref t3, .ref t4, .ref t5, .ref t6, .ref t7, .int 0])), (rc, .inr (6, [.ref c1, .ref c2, .ref c3, .ref c4, .ref c5, .ref c6, .ref c7, .int 0])), (qm, .inr (17, [.ref lp, .null, .null, .int 0, .int 0, .ref m1, .ref m2, .ref m3, .ref m4, .ref m5, .null, .null, .int 0, .ref m6, .int 0, .int 0, .int 0, .long 0, .null, .ref m7, .ref m8, .int 0, .int 0, .long 0])), (lp, .inr (0, [.int 0, .ref te, .int 0])), (qo, .inl (ko, 1, .inr (.inl (fun _ => 0))))] H) (hD : va_D A [(qx, .inr (8, [.ref rp, .int 0, .ref rt, .ref rc, .int ((-1)), .ref r1, .ref r2, .ref r3, .ref r4, .null, .int 0])), (rp, .inr (6, [.ref a1, .ref a2, .ref a3, .ref a4, .ref a5, .ref a6, .ref a7, .int 0])), (a1, .inl (k1, 1200, .inl (fun _ => 0))), (a2, .inl (k2, 1200, .inl (fun _ => 0))), (a3, .inl (k3, 1200, .inl (fun _ => 0))), (a4, .inl (k4, 1200, .inr (.inl (fun _ => 0)))), (a5, .inl (k5, 1200, .inl (fun _ => 0))), (a6, .inl (k6, 1200, .inl (fun _ => 0))), (a7, .inl (k7, 1200, .inl (fun _ => 0))), (rt, .inr (6, [.ref t1, .ref t2, .ref t3, .ref t4, .ref t5, .ref t6, .ref t7, .int 0])), (rc, .inr (6, [.ref c1, .ref c2, .ref c3, .ref c4, .ref c5, .ref c6, .ref c7, .int 0])), (qm, .inr (17, [.ref lp, .null, .null, .int 0, .int 0, .ref m1, .ref m2, .ref m3, .ref m4, .ref m5, .null, .null, .int 0, .ref m6, .int 0, .int 0, .int 0, .long 0, .null, .ref m7, .ref m8, .int 0, .int 0, .long 0])), (lp, .inr (0, [.int 0, .ref te, .int 0])), (qo, .inl (ko, 1, .inr (.inl (fun _ => 0))))]) (hS : va_S A s.heap H locs) {ls : Array Slot} (hl : lv_has ls 8 [(4, .int 0), (3, .ref qo), (2, .ref qm), (1, .ref qx), (0, .ref b)]) (p1 p2 : Int32) (e1 : xs (1 : Int32).toNatClampNeg = p1) (e2 : xs (2 : Int32).toNatClampNeg = p2) (hvn : p1 < 0) : W p l e room_1 s m #[Value.ref b] below meth c H locs 89 78003 (lw_Z below #[Value.ref b] s) (F0 m 560 ls []) := by
  obtain ⟨hx, hb, hr, hml, hown, hts0, hX, hbl, hlocks, hgv⟩ := id C0
  have hts : ∀ w ∈ z_law, w.before #[Value.ref b] s = true := fun w h => hts0 w (z_law_in w h)
  have hown : s.vm.findClass RL = some m.cls := hown
  have hA : ∀ q : Nat, s.heap.size ≤ q → A q := fun q h => by rw [hAA]; exact h
  have hbA : ¬ A b := by rw [hAA]; exact Nat.not_le.mpr hbl
  have hP := hP.sub (ws' := [(qx, .inr (8, [.ref rp, .int 0, .ref rt, .ref rc, .int ((-1)), .ref r1, .ref r2, .ref r3, .ref r4, .null, .int 0])), (qm, .inr (17, [.ref lp, .null, .null, .int 0, .int 0, .ref m1, .ref m2, .ref m3, .ref m4, .ref m5, .null, .null, .int 0, .ref m6, .int 0, .int 0, .int 0, .long 0, .null, .ref m7, .ref m8, .int 0, .int 0, .long 0])), (lp, .inr (0, [.int 0, .ref te, .int 0]))]) [0, 11, 12] rfl
  have hD := hD.sub (ws' := [(qx, .inr (8, [.ref rp, .int 0, .ref rt, .ref rc, .int ((-1)), .ref r1, .ref r2, .ref r3, .ref r4, .null, .int 0])), (qm, .inr (17, [.ref lp, .null, .null, .int 0, .int 0, .ref m1, .ref m2, .ref m3, .ref m4, .ref m5, .null, .null, .int 0, .ref m6, .int 0, .int 0, .int 0, .long 0, .null, .ref m7, .ref m8, .int 0, .int 0, .long 0])), (lp, .inr (0, [.int 0, .ref te, .int 0]))]) [0, 11, 12] (by decide) rfl
  have hK := hK.sub (tys' := []) [] rfl
  have hP : va_P (dC, dI) vwCl [(qx, .inr (8, [.ref rp, .int 0, .ref rt, .ref rc, .int ((-1)), .ref r1, .ref r2, .ref r3, .ref r4, .null, .int 0])), (qm, .inr (17, [.ref lp, .null, .null, .int 0, .int 0, .ref m1, .ref m2, .ref m3, .ref m4, .ref m5, .null, .null, .int 0, .ref m6, .int 0, .int 0, .int 0, .long 0, .null, .ref m7, .ref m8, .int 0, .int 0, .long 0])), (lp, .inr (0, [.int 0, .ref te, .int 0]))] H := hP
  have hD : va_D A [(qx, .inr (8, [.ref rp, .int 0, .ref rt, .ref rc, .int ((-1)), .ref r1, .ref r2, .ref r3, .ref r4, .null, .int 0])), (qm, .inr (17, [.ref lp, .null, .null, .int 0, .int 0, .ref m1, .ref m2, .ref m3, .ref m4, .ref m5, .null, .null, .int 0, .ref m6, .int 0, .int 0, .int 0, .long 0, .null, .ref m7, .ref m8, .int 0, .int 0, .long 0])), (lp, .inr (0, [.int 0, .ref te, .int 0]))] := hD
  have hK : va_K (dC, dI) vwCl [] s := hK
  refine lv_aload_n hx hb dL_law_560 rfl (lv_at hl 3 rfl) ?_
  refine lv_aload_n hx hb dL_law_561 rfl (lv_at hl 4 rfl) ?_
  refine lv_iload hx hb dL_law_562 (lv_at hl 0 rfl) ?_
  refine lv_iconst (v := 1) hx hb dL_law_564 (by decide) ?_
  refine lv_iadd hx hb dL_law_565 ?_
  refine lv_topi (fun z_1 ez_1 => ?_)
  obtain rfl : z_1 = 1 := ez_1.trans (by decide)
  refine va_sld hx hb hX hbl hbA hS (by unfold vp_in; decide +kernel) dL_law_566 ?_
  refine lv_topi (fun z_2 ez_2 => ?_)
  obtain rfl : p1 = z_2 := (ez_2.trans e1).symm
  refine lv_aload_n hx hb dL_law_567 rfl (lv_at hl 4 rfl) ?_
  refine lv_iload hx hb dL_law_568 (lv_at hl 0 rfl) ?_
  refine lv_iconst (v := 2) hx hb dL_law_570 (by decide) ?_
  refine lv_iadd hx hb dL_law_571 ?_
  refine lv_topi (fun z_3 ez_3 => ?_)
  obtain rfl : z_3 = 2 := ez_3.trans (by decide)
  refine va_sld hx hb hX hbl hbA hS (by unfold vp_in; decide +kernel) dL_law_572 ?_
  refine lv_topi (fun z_4 ez_4 => ?_)
  obtain rfl : p2 = z_4 := (ez_4.trans e2).symm
  refine lv_aload_n hx hb dL_law_573 rfl (lv_at hl 1 rfl) ?_
  have hPc := hP.sub (ws' := [(qx, .inr (8, [.ref rp, .int 0, .ref rt, .ref rc, .int ((-1)), .ref r1, .ref r2, .ref r3, .ref r4, .null, .int 0]))]) [0] rfl
  have hDc := hD.sub (ws' := [(qx, .inr (8, [.ref rp, .int 0, .ref rt, .ref rc, .int ((-1)), .ref r1, .ref r2, .ref r3, .ref r4, .null, .int 0]))]) [0] (by decide) rfl
  have hKc := hK.sub (tys' := []) [] rfl
  have hFc := va_free (wc := [(qx, .inr (8, [.ref rp, .int 0, .ref rt, .ref rc, .int ((-1)), .ref r1, .ref r2, .ref r3, .ref r4, .null, .int 0]))]) hD hS hA [0] rfl
  refine vx_calli (vx_runSX (As := [.ref qx, .int p1, .int p2, .ref qo]) (rest := []) ⟨hx, hb, hml, hown, hts⟩ (c_L_rec_fneg l dC dI tp te H.size hlt qx rp rt rc r1 r2 r3 r4 p1 p2 qo hvn) (vx_cwSW 4 hts g_law_136_L_rec_fneg rfl rfl rfl (by decide +kernel) ⟨Nat.le_of_ble_eq_true rfl, Nat.le_of_ble_eq_true rfl⟩) ⟨Pw.blind, Pw.mk hPc hKc hDc hG hS hFc⟩ rfl rfl hl.1 rfl (lv_room (Nat.le_of_ble_eq_true rfl)) dL_law_574 ⟨Nat.le_of_ble_eq_true rfl, Nat.le_of_ble_eq_true rfl⟩) hS (fun q _ h => hFc q h) hFc (fun q _ h => hFc q h) (fun E ce q9 u t9 H1 locs ht hvm hpx hBX hz1 hk1 hS hce hcv hcl => hpx.elim) (fun r u t9 H_5 locs ht hvm hw hB hz1 hk1 hS => ?_)
  have hw : r = 1 := hw
  subst hw
  obtain ⟨hP, hD⟩ := va_join (wr := [(qm, .inr (17, [.ref lp, .null, .null, .int 0, .int 0, .ref m1, .ref m2, .ref m3, .ref m4, .ref m5, .null, .null, .int 0, .ref m6, .int 0, .int 0, .int 0, .long 0, .null, .ref m7, .ref m8, .int 0, .int 0, .long 0])), (lp, .inr (0, [.int 0, .ref te, .int 0]))]) (w1 := []) hP hD [0] [1, 2] rfl rfl (by decide) (by decide) hk1 hFc va_P.nil va_D.nil
  have hK := hK.sub (tys' := []) [] rfl
  have hP : va_P (dC, dI) vwCl [(qm, .inr (17, [.ref lp, .null, .null, .int 0, .int 0, .ref m1, .ref m2, .ref m3, .ref m4, .ref m5, .null, .null, .int 0, .ref m6, .int 0, .int 0, .int 0, .long 0, .null, .ref m7, .ref m8, .int 0, .int 0, .long 0])), (lp, .inr (0, [.int 0, .ref te, .int 0]))] H_5 := hP
  have hD : va_D A [(qm, .inr (17, [.ref lp, .null, .null, .int 0, .int 0, .ref m1, .ref m2, .ref m3, .ref m4, .ref m5, .null, .null, .int 0, .ref m6, .int 0, .int 0, .int 0, .long 0, .null, .ref m7, .ref m8, .int 0, .int 0, .long 0])), (lp, .inr (0, [.int 0, .ref te, .int 0]))] := hD
  have hK : va_K (dC, dI) vwCl [] s := hK
  refine W.widen (k := 90) (n := 78009) (Nat.le_of_ble_eq_true rfl) (Nat.le_of_ble_eq_true rfl) ?_
  refine lv_istore (lv' := [(5, .int 1), (4, .int 0), (3, .ref qo), (2, .ref qm), (1, .ref qx), (0, .ref b)]) hx hb dL_law_577 hl (by decide) rfl (fun ls hl => ?_)
  refine lv_aload_n hx hb dL_law_579 rfl (lv_at hl 3 rfl) ?_
  refine lv_aload_n hx hb dL_law_580 rfl (lv_at hl 5 rfl) ?_
  refine lv_iload hx hb dL_law_581 (lv_at hl 1 rfl) ?_
  refine lv_iconst (v := 1) hx hb dL_law_583 (by decide) ?_
  refine lv_iadd hx hb dL_law_584 ?_
  refine lv_topi (fun z_7 ez_7 => ?_)
  obtain rfl : z_7 = 1 := ez_7.trans (by decide)
  refine va_sld hx hb hX hbl hbA hS (by unfold vp_in; decide +kernel) dL_law_585 ?_
  refine lv_topi (fun z_8 ez_8 => ?_)
  obtain rfl : p1 = z_8 := (ez_8.trans e1).symm
  refine lv_aload_n hx hb dL_law_586 rfl (lv_at hl 5 rfl) ?_
  refine lv_iload hx hb dL_law_587 (lv_at hl 1 rfl) ?_
  refine lv_iconst (v := 2) hx hb dL_law_589 (by decide) ?_
  refine lv_iadd hx hb dL_law_590 ?_
  refine lv_topi (fun z_9 ez_9 => ?_)
  obtain rfl : z_9 = 2 := ez_9.trans (by decide)
  refine va_sld hx hb hX hbl hbA hS (by unfold vp_in; decide +kernel) dL_law_591 ?_
  refine lv_topi (fun z_10 ez_10 => ?_)
  obtain rfl : p2 = z_10 := (ez_10.trans e2).symm
  have hPc := hP.sub (ws' := [(qm, .inr (17, [.ref lp, .null, .null, .int 0, .int 0, .ref m1, .ref m2, .ref m3, .ref m4, .ref m5, .null, .null, .int 0, .ref m6, .int 0, .int 0, .int 0, .long 0, .null, .ref m7, .ref m8, .int 0, .int 0, .long 0])), (lp, .inr (0, [.int 0, .ref te, .int 0]))]) [0, 1] rfl
  have hDc := hD.sub (ws' := [(qm, .inr (17, [.ref lp, .null, .null, .int 0, .int 0, .ref m1, .ref m2, .ref m3, .ref m4, .ref m5, .null, .null, .int 0, .ref m6, .int 0, .int 0, .int 0, .long 0, .null, .ref m7, .ref m8, .int 0, .int 0, .long 0])), (lp, .inr (0, [.int 0, .ref te, .int 0]))]) [0, 1] (by decide) rfl
  have hKc := hK.sub (tys' := []) [] rfl
  have hFc := va_free (wc := [(qm, .inr (17, [.ref lp, .null, .null, .int 0, .int 0, .ref m1, .ref m2, .ref m3, .ref m4, .ref m5, .null, .null, .int 0, .ref m6, .int 0, .int 0, .int 0, .long 0, .null, .ref m7, .ref m8, .int 0, .int 0, .long 0])), (lp, .inr (0, [.int 0, .ref te, .int 0]))]) hD hS hA [0, 1] rfl
  refine va_calli (va_runV (As := [.int p1, .int p2]) (rest := []) ⟨hx, hb, hml, hown, hts⟩ (c_M_rec_fneg l dC dI tp te H_5.size qm lp m1 m2 m3 m4 m5 m6 m7 m8 p1 p2 hvn) (cwV 2 hts g_law_139_M_rec_fneg rfl rfl rfl (by decide +kernel) ⟨Nat.le_of_ble_eq_true rfl, Nat.le_of_ble_eq_true rfl⟩) ⟨Pw.blind, va_recv hKc hPc (ci := 17) (q0 := 0) rfl rfl, Pw.mk hPc hKc hDc hG hS hFc⟩ rfl rfl hl.1 rfl (lv_room (Nat.le_of_ble_eq_true rfl)) dL_law_592 ⟨Nat.le_of_ble_eq_true rfl, Nat.le_of_ble_eq_true rfl⟩) hS (fun q _ h => hFc q h) hFc (fun r u t9 H_11 locs ht hvm hw hB hz1 hk1 hS => ?_)
  have hw : r = 0 := hw
  subst hw
  obtain ⟨hP1, hK1, hD1⟩ := hB
  rw [ht] at hP1
  have hK1 := va_K.moved hvm.symm hK1
  obtain ⟨hP, hD⟩ := va_join (wr := []) (w1 := [(qm, .inr (17, [.ref lp, .null, .null, .int 0, .int 1, .ref m1, .ref m2, .ref m3, .ref m4, .ref m5, .null, .null, .int 0, .ref m6, .int 0, .int 0, .int 0, .long 0, .null, .ref m7, .ref m8, .int 0, .int 0, .long 0]))]) hP hD [0, 1] [] rfl rfl (by decide) (by decide) hk1 hFc hP1 hD1
  have hK := (hK.sub (tys' := []) [] rfl).app hK1
  have hP : va_P (dC, dI) vwCl [(qm, .inr (17, [.ref lp, .null, .null, .int 0, .int 1, .ref m1, .ref m2, .ref m3, .ref m4, .ref m5, .null, .null, .int 0, .ref m6, .int 0, .int 0, .int 0, .long 0, .null, .ref m7, .ref m8, .int 0, .int 0, .long 0]))] H_11 := hP
  have hD : va_D A [(qm, .inr (17, [.ref lp, .null, .null, .int 0, .int 1, .ref m1, .ref m2, .ref m3, .ref m4, .ref m5, .null, .null, .int 0, .ref m6, .int 0, .int 0, .int 0, .long 0, .null, .ref m7, .ref m8, .int 0, .int 0, .long 0]))] := hD
  have hK : va_K (dC, dI) vwCl [] s := hK
  refine W.widen (k := 90) (n := 78009) (Nat.le_of_ble_eq_true rfl) (Nat.le_of_ble_eq_true rfl) ?_
  refine lv_istore (lv' := [(6, .int 0), (5, .int 1), (4, .int 0), (3, .ref qo), (2, .ref qm), (1, .ref qx), (0, .ref b)]) hx hb dL_law_595 hl (by decide) rfl (fun ls hl => ?_)
  refine lv_aload_n hx hb dL_law_597 rfl (lv_at hl 4 rfl) ?_
  have hPc := hP.sub (ws' := [(qm, .inr (17, [.ref lp, .null, .null, .int 0, .int 1, .ref m1, .ref m2, .ref m3, .ref m4, .ref m5, .null, .null, .int 0, .ref m6, .int 0, .int 0, .int 0, .long 0, .null, .ref m7, .ref m8, .int 0, .int 0, .long 0]))]) [0] rfl
  have hDc := hD.sub (ws' := [(qm, .inr (17, [.ref lp, .null, .null, .int 0, .int 1, .ref m1, .ref m2, .ref m3, .ref m4, .ref m5, .null, .null, .int 0, .ref m6, .int 0, .int 0, .int 0, .long 0, .null, .ref m7, .ref m8, .int 0, .int 0, .long 0]))]) [0] (by decide) rfl
  have hKc := hK.sub (tys' := []) [] rfl
  have hFc := va_free (wc := [(qm, .inr (17, [.ref lp, .null, .null, .int 0, .int 1, .ref m1, .ref m2, .ref m3, .ref m4, .ref m5, .null, .null, .int 0, .ref m6, .int 0, .int 0, .int 0, .long 0, .null, .ref m7, .ref m8, .int 0, .int 0, .long 0]))]) hD hS hA [0] rfl
  refine va_calli (va_runV (As := []) (rest := []) ⟨hx, hb, hml, hown, hts⟩ (c_thrown l dC dI tp te H_11.size qm lp m1 m2 m3 m4 m5 m6 m7 m8 1) (cwV 0 hts g_law_113_thrown rfl rfl rfl (by decide +kernel) ⟨Nat.le_of_ble_eq_true rfl, Nat.le_of_ble_eq_true rfl⟩) ⟨Pw.blind, va_recv hKc hPc (ci := 17) (q0 := 0) rfl rfl, Pw.mk hPc hKc hDc hG hS hFc⟩ rfl rfl hl.1 rfl (lv_room (Nat.le_of_ble_eq_true rfl)) dL_law_598 ⟨Nat.le_of_ble_eq_true rfl, Nat.le_of_ble_eq_true rfl⟩) hS (fun q _ h => hFc q h) hFc (fun r u t9 H_13 locs ht hvm hw hB hz1 hk1 hS => ?_)
  have hw : r = 1 := hw
  subst hw
  obtain ⟨hP1, hK1, hD1⟩ := hB
  rw [ht] at hP1
  have hK1 := va_K.moved hvm.symm hK1
  obtain ⟨hP, hD⟩ := va_join (wr := []) (w1 := [(qm, .inr (17, [.ref lp, .null, .null, .int 0, .int 1, .ref m1, .ref m2, .ref m3, .ref m4, .ref m5, .null, .null, .int 0, .ref m6, .int 0, .int 0, .int 0, .long 0, .null, .ref m7, .ref m8, .int 0, .int 0, .long 0]))]) hP hD [0] [] rfl rfl (by decide) (by decide) hk1 hFc hP1 hD1
  have hK := (hK.sub (tys' := []) [] rfl).app hK1
  have hP : va_P (dC, dI) vwCl [(qm, .inr (17, [.ref lp, .null, .null, .int 0, .int 1, .ref m1, .ref m2, .ref m3, .ref m4, .ref m5, .null, .null, .int 0, .ref m6, .int 0, .int 0, .int 0, .long 0, .null, .ref m7, .ref m8, .int 0, .int 0, .long 0]))] H_13 := hP
  have hD : va_D A [(qm, .inr (17, [.ref lp, .null, .null, .int 0, .int 1, .ref m1, .ref m2, .ref m3, .ref m4, .ref m5, .null, .null, .int 0, .ref m6, .int 0, .int 0, .int 0, .long 0, .null, .ref m7, .ref m8, .int 0, .int 0, .long 0]))] := hD
  have hK : va_K (dC, dI) vwCl [] s := hK
  refine W.widen (k := 90) (n := 78009) (Nat.le_of_ble_eq_true rfl) (Nat.le_of_ble_eq_true rfl) ?_
  refine lv_iload hx hb dL_law_601 (lv_at hl 1 rfl) ?_
  refine lv_icmp_eq (tgt := 608) hx hb dL_law_603 (by decide) (fun c9 => ?_) (fun c9 => absurd (by decide) c9)
  refine lv_iload hx hb dL_law_608 (lv_at hl 1 rfl) ?_
  refine lv_if_ne (tgt := 625) hx hb dL_law_610 (by decide) (fun c9 => ?_) (fun c9 => absurd c9 (by decide))
  refine lv_goto (tgt := 1569) hx hb dL_law_625 (by decide) ?_
  exact lc_next C0 hAA hS (lv_sub hl [6, 2] rfl) (Nat.le_of_ble_eq_true rfl) (Nat.le_of_ble_eq_true rfl)
set_option maxHeartbeats 4000000 in
set_option maxRecDepth 100000 in
theorem lc_rec_fbig {p : Program} {l : Launch} {e : Env} {s : State} {m : MethodId} {below : List Frame} {meth : Method} {c : Code} (hlt : l.stackTraces = false) {b : Nat} {xs : Nat → Int32} (C0 : lw_At p s m meth c b 3 xs) {A : Nat → Prop} (hAA : A = fun q : Nat => s.heap.size ≤ q) {dC : Nat → ClassId} {dI : Nat → Nat → Nat} {tp te : Nat} (hG : gx tp te A s s.heap) {qx rp rt rc r1 r2 r3 r4 a1 a2 a3 a4 a5 a6 a7 t1 t2 t3 t4 t5 t6 t7 c1 c2 c3 c4 c5 c6 c7 qm lp m1 m2 m3 m4 m5 m6 m7 m8 qo : Nat} {k1 k2 k3 k4 k5 k6 k7 ko : ClassId} {H : Heap} {locs : List Loc} (hK : va_K (dC, dI) vwCl [(k1, .int), (k2, .int), (k3, .int), (k4, .long), (k5, .int), (k6, .int), (k7, .int), (ko, .long)] s) (hP : va_P (dC, dI) vwCl [(qx, .inr (8, [.ref rp, .int 0, .ref rt, .ref rc, .int ((-1)), .ref r1, .ref r2, .ref r3, .ref r4, .null, .int 0])), (rp, .inr (6, [.ref a1, .ref a2, .ref a3, .ref a4, .ref a5, .ref a6, .ref a7, .int 0])), (a1, .inl (k1, 1200, .inl (fun _ => 0))), (a2, .inl (k2, 1200, .inl (fun _ => 0))), (a3, .inl (k3, 1200, .inl (fun _ => 0))), (a4, .inl (k4, 1200, .inr (.inl (fun _ => 0)))), (a5, .inl (k5, 1200, .inl (fun _ => 0))), (a6, .inl (k6, 1200, .inl (fun _ => 0))), (a7, .inl (k7, 1200, .inl (fun _ => 0))), (rt, .inr (6, [.ref t1, .ref t2, .ref t3, .ref t4, .ref t5, .ref t6, .ref t7, .int 0])), (rc, .inr (6, [.ref c1, .ref c2, .ref c3, .ref c4, .ref c5, .ref c6, .ref c7, .int 0])), (qm, .inr (17, [.ref lp, .null, .null, .int 0, .int 0, .ref m1, .ref m2, .ref m3, .ref m4, .ref m5, .null, .null, .int 0, .ref m6, .int 0, .int 0, .int 0, .long 0, .null, .ref m7, .ref m8, .int 0, .int 0, .long 0])), (lp, .inr (0, [.int 0, .ref te, .int 0])), (qo, .inl (ko, 1, .inr (.inl (fun _ => 0))))] H) (hD : va_D A [(qx, .inr (8, [.ref rp, .int 0, .ref rt, .ref rc, .int ((-1)), .ref r1, .ref r2, .ref r3, .ref r4, .null, .int 0])), (rp, .inr (6, [.ref a1, .ref a2, .ref a3, .ref a4, .ref a5, .ref a6, .ref a7, .int 0])), (a1, .inl (k1, 1200, .inl (fun _ => 0))), (a2, .inl (k2, 1200, .inl (fun _ => 0))), (a3, .inl (k3, 1200, .inl (fun _ => 0))), (a4, .inl (k4, 1200, .inr (.inl (fun _ => 0)))), (a5, .inl (k5, 1200, .inl (fun _ => 0))), (a6, .inl (k6, 1200, .inl (fun _ => 0))), (a7, .inl (k7, 1200, .inl (fun _ => 0))), (rt, .inr (6, [.ref t1, .ref t2, .ref t3, .ref t4, .ref t5, .ref t6, .ref t7, .int 0])), (rc, .inr (6, [.ref c1, .ref c2, .ref c3, .ref c4, .ref c5, .ref c6, .ref c7, .int 0])), (qm, .inr (17, [.ref lp, .null, .null, .int 0, .int 0, .ref m1, .ref m2, .ref m3, .ref m4, .ref m5, .null, .null, .int 0, .ref m6, .int 0, .int 0, .int 0, .long 0, .null, .ref m7, .ref m8, .int 0, .int 0, .long 0])), (lp, .inr (0, [.int 0, .ref te, .int 0])), (qo, .inl (ko, 1, .inr (.inl (fun _ => 0))))]) (hS : va_S A s.heap H locs) {ls : Array Slot} (hl : lv_has ls 8 [(4, .int 0), (3, .ref qo), (2, .ref qm), (1, .ref qx), (0, .ref b)]) (p1 p2 : Int32) (e1 : xs (1 : Int32).toNatClampNeg = p1) (e2 : xs (2 : Int32).toNatClampNeg = p2) (hvn : ¬ p1 < 0) (hvb : ¬ p1 < 10) (hvc : 10 ≤ p1) : W p l e room_1 s m #[Value.ref b] below meth c H locs 89 78003 (lw_Z below #[Value.ref b] s) (F0 m 560 ls []) := by
  obtain ⟨hx, hb, hr, hml, hown, hts0, hX, hbl, hlocks, hgv⟩ := id C0
  have hts : ∀ w ∈ z_law, w.before #[Value.ref b] s = true := fun w h => hts0 w (z_law_in w h)
  have hown : s.vm.findClass RL = some m.cls := hown
  have hA : ∀ q : Nat, s.heap.size ≤ q → A q := fun q h => by rw [hAA]; exact h
  have hbA : ¬ A b := by rw [hAA]; exact Nat.not_le.mpr hbl
  have hP := hP.sub (ws' := [(qx, .inr (8, [.ref rp, .int 0, .ref rt, .ref rc, .int ((-1)), .ref r1, .ref r2, .ref r3, .ref r4, .null, .int 0])), (qm, .inr (17, [.ref lp, .null, .null, .int 0, .int 0, .ref m1, .ref m2, .ref m3, .ref m4, .ref m5, .null, .null, .int 0, .ref m6, .int 0, .int 0, .int 0, .long 0, .null, .ref m7, .ref m8, .int 0, .int 0, .long 0])), (lp, .inr (0, [.int 0, .ref te, .int 0]))]) [0, 11, 12] rfl
  have hD := hD.sub (ws' := [(qx, .inr (8, [.ref rp, .int 0, .ref rt, .ref rc, .int ((-1)), .ref r1, .ref r2, .ref r3, .ref r4, .null, .int 0])), (qm, .inr (17, [.ref lp, .null, .null, .int 0, .int 0, .ref m1, .ref m2, .ref m3, .ref m4, .ref m5, .null, .null, .int 0, .ref m6, .int 0, .int 0, .int 0, .long 0, .null, .ref m7, .ref m8, .int 0, .int 0, .long 0])), (lp, .inr (0, [.int 0, .ref te, .int 0]))]) [0, 11, 12] (by decide) rfl
  have hK := hK.sub (tys' := []) [] rfl
  have hP : va_P (dC, dI) vwCl [(qx, .inr (8, [.ref rp, .int 0, .ref rt, .ref rc, .int ((-1)), .ref r1, .ref r2, .ref r3, .ref r4, .null, .int 0])), (qm, .inr (17, [.ref lp, .null, .null, .int 0, .int 0, .ref m1, .ref m2, .ref m3, .ref m4, .ref m5, .null, .null, .int 0, .ref m6, .int 0, .int 0, .int 0, .long 0, .null, .ref m7, .ref m8, .int 0, .int 0, .long 0])), (lp, .inr (0, [.int 0, .ref te, .int 0]))] H := hP
  have hD : va_D A [(qx, .inr (8, [.ref rp, .int 0, .ref rt, .ref rc, .int ((-1)), .ref r1, .ref r2, .ref r3, .ref r4, .null, .int 0])), (qm, .inr (17, [.ref lp, .null, .null, .int 0, .int 0, .ref m1, .ref m2, .ref m3, .ref m4, .ref m5, .null, .null, .int 0, .ref m6, .int 0, .int 0, .int 0, .long 0, .null, .ref m7, .ref m8, .int 0, .int 0, .long 0])), (lp, .inr (0, [.int 0, .ref te, .int 0]))] := hD
  have hK : va_K (dC, dI) vwCl [] s := hK
  refine lv_aload_n hx hb dL_law_560 rfl (lv_at hl 3 rfl) ?_
  refine lv_aload_n hx hb dL_law_561 rfl (lv_at hl 4 rfl) ?_
  refine lv_iload hx hb dL_law_562 (lv_at hl 0 rfl) ?_
  refine lv_iconst (v := 1) hx hb dL_law_564 (by decide) ?_
  refine lv_iadd hx hb dL_law_565 ?_
  refine lv_topi (fun z_1 ez_1 => ?_)
  obtain rfl : z_1 = 1 := ez_1.trans (by decide)
  refine va_sld hx hb hX hbl hbA hS (by unfold vp_in; decide +kernel) dL_law_566 ?_
  refine lv_topi (fun z_2 ez_2 => ?_)
  obtain rfl : p1 = z_2 := (ez_2.trans e1).symm
  refine lv_aload_n hx hb dL_law_567 rfl (lv_at hl 4 rfl) ?_
  refine lv_iload hx hb dL_law_568 (lv_at hl 0 rfl) ?_
  refine lv_iconst (v := 2) hx hb dL_law_570 (by decide) ?_
  refine lv_iadd hx hb dL_law_571 ?_
  refine lv_topi (fun z_3 ez_3 => ?_)
  obtain rfl : z_3 = 2 := ez_3.trans (by decide)
  refine va_sld hx hb hX hbl hbA hS (by unfold vp_in; decide +kernel) dL_law_572 ?_
  refine lv_topi (fun z_4 ez_4 => ?_)
  obtain rfl : p2 = z_4 := (ez_4.trans e2).symm
  refine lv_aload_n hx hb dL_law_573 rfl (lv_at hl 1 rfl) ?_
  have hPc := hP.sub (ws' := [(qx, .inr (8, [.ref rp, .int 0, .ref rt, .ref rc, .int ((-1)), .ref r1, .ref r2, .ref r3, .ref r4, .null, .int 0]))]) [0] rfl
  have hDc := hD.sub (ws' := [(qx, .inr (8, [.ref rp, .int 0, .ref rt, .ref rc, .int ((-1)), .ref r1, .ref r2, .ref r3, .ref r4, .null, .int 0]))]) [0] (by decide) rfl
  have hKc := hK.sub (tys' := []) [] rfl
  have hFc := va_free (wc := [(qx, .inr (8, [.ref rp, .int 0, .ref rt, .ref rc, .int ((-1)), .ref r1, .ref r2, .ref r3, .ref r4, .null, .int 0]))]) hD hS hA [0] rfl
  refine vx_calli (vx_runSX (As := [.ref qx, .int p1, .int p2, .ref qo]) (rest := []) ⟨hx, hb, hml, hown, hts⟩ (c_L_rec_fbig l dC dI tp te H.size hlt qx rp rt rc r1 r2 r3 r4 p1 p2 qo hvn hvb hvc) (vx_cwSW 4 hts g_law_136_L_rec_fbig rfl rfl rfl (by decide +kernel) ⟨Nat.le_of_ble_eq_true rfl, Nat.le_of_ble_eq_true rfl⟩) ⟨Pw.blind, Pw.mk hPc hKc hDc hG hS hFc⟩ rfl rfl hl.1 rfl (lv_room (Nat.le_of_ble_eq_true rfl)) dL_law_574 ⟨Nat.le_of_ble_eq_true rfl, Nat.le_of_ble_eq_true rfl⟩) hS (fun q _ h => hFc q h) hFc (fun q _ h => hFc q h) (fun E ce q9 u t9 H1 locs ht hvm hpx hBX hz1 hk1 hS hce hcv hcl => hpx.elim) (fun r u t9 H_5 locs ht hvm hw hB hz1 hk1 hS => ?_)
  have hw : r = 1 := hw
  subst hw
  obtain ⟨hP, hD⟩ := va_join (wr := [(qm, .inr (17, [.ref lp, .null, .null, .int 0, .int 0, .ref m1, .ref m2, .ref m3, .ref m4, .ref m5, .null, .null, .int 0, .ref m6, .int 0, .int 0, .int 0, .long 0, .null, .ref m7, .ref m8, .int 0, .int 0, .long 0])), (lp, .inr (0, [.int 0, .ref te, .int 0]))]) (w1 := []) hP hD [0] [1, 2] rfl rfl (by decide) (by decide) hk1 hFc va_P.nil va_D.nil
  have hK := hK.sub (tys' := []) [] rfl
  have hP : va_P (dC, dI) vwCl [(qm, .inr (17, [.ref lp, .null, .null, .int 0, .int 0, .ref m1, .ref m2, .ref m3, .ref m4, .ref m5, .null, .null, .int 0, .ref m6, .int 0, .int 0, .int 0, .long 0, .null, .ref m7, .ref m8, .int 0, .int 0, .long 0])), (lp, .inr (0, [.int 0, .ref te, .int 0]))] H_5 := hP
  have hD : va_D A [(qm, .inr (17, [.ref lp, .null, .null, .int 0, .int 0, .ref m1, .ref m2, .ref m3, .ref m4, .ref m5, .null, .null, .int 0, .ref m6, .int 0, .int 0, .int 0, .long 0, .null, .ref m7, .ref m8, .int 0, .int 0, .long 0])), (lp, .inr (0, [.int 0, .ref te, .int 0]))] := hD
  have hK : va_K (dC, dI) vwCl [] s := hK
  refine W.widen (k := 90) (n := 78009) (Nat.le_of_ble_eq_true rfl) (Nat.le_of_ble_eq_true rfl) ?_
  refine lv_istore (lv' := [(5, .int 1), (4, .int 0), (3, .ref qo), (2, .ref qm), (1, .ref qx), (0, .ref b)]) hx hb dL_law_577 hl (by decide) rfl (fun ls hl => ?_)
  refine lv_aload_n hx hb dL_law_579 rfl (lv_at hl 3 rfl) ?_
  refine lv_aload_n hx hb dL_law_580 rfl (lv_at hl 5 rfl) ?_
  refine lv_iload hx hb dL_law_581 (lv_at hl 1 rfl) ?_
  refine lv_iconst (v := 1) hx hb dL_law_583 (by decide) ?_
  refine lv_iadd hx hb dL_law_584 ?_
  refine lv_topi (fun z_7 ez_7 => ?_)
  obtain rfl : z_7 = 1 := ez_7.trans (by decide)
  refine va_sld hx hb hX hbl hbA hS (by unfold vp_in; decide +kernel) dL_law_585 ?_
  refine lv_topi (fun z_8 ez_8 => ?_)
  obtain rfl : p1 = z_8 := (ez_8.trans e1).symm
  refine lv_aload_n hx hb dL_law_586 rfl (lv_at hl 5 rfl) ?_
  refine lv_iload hx hb dL_law_587 (lv_at hl 1 rfl) ?_
  refine lv_iconst (v := 2) hx hb dL_law_589 (by decide) ?_
  refine lv_iadd hx hb dL_law_590 ?_
  refine lv_topi (fun z_9 ez_9 => ?_)
  obtain rfl : z_9 = 2 := ez_9.trans (by decide)
  refine va_sld hx hb hX hbl hbA hS (by unfold vp_in; decide +kernel) dL_law_591 ?_
  refine lv_topi (fun z_10 ez_10 => ?_)
  obtain rfl : p2 = z_10 := (ez_10.trans e2).symm
  have hPc := hP.sub (ws' := [(qm, .inr (17, [.ref lp, .null, .null, .int 0, .int 0, .ref m1, .ref m2, .ref m3, .ref m4, .ref m5, .null, .null, .int 0, .ref m6, .int 0, .int 0, .int 0, .long 0, .null, .ref m7, .ref m8, .int 0, .int 0, .long 0])), (lp, .inr (0, [.int 0, .ref te, .int 0]))]) [0, 1] rfl
  have hDc := hD.sub (ws' := [(qm, .inr (17, [.ref lp, .null, .null, .int 0, .int 0, .ref m1, .ref m2, .ref m3, .ref m4, .ref m5, .null, .null, .int 0, .ref m6, .int 0, .int 0, .int 0, .long 0, .null, .ref m7, .ref m8, .int 0, .int 0, .long 0])), (lp, .inr (0, [.int 0, .ref te, .int 0]))]) [0, 1] (by decide) rfl
  have hKc := hK.sub (tys' := []) [] rfl
  have hFc := va_free (wc := [(qm, .inr (17, [.ref lp, .null, .null, .int 0, .int 0, .ref m1, .ref m2, .ref m3, .ref m4, .ref m5, .null, .null, .int 0, .ref m6, .int 0, .int 0, .int 0, .long 0, .null, .ref m7, .ref m8, .int 0, .int 0, .long 0])), (lp, .inr (0, [.int 0, .ref te, .int 0]))]) hD hS hA [0, 1] rfl
  refine va_calli (va_runV (As := [.int p1, .int p2]) (rest := []) ⟨hx, hb, hml, hown, hts⟩ (c_M_rec_fbig l dC dI tp te H_5.size qm lp m1 m2 m3 m4 m5 m6 m7 m8 p1 p2 hvn hvb hvc) (cwV 2 hts g_law_139_M_rec_fbig rfl rfl rfl (by decide +kernel) ⟨Nat.le_of_ble_eq_true rfl, Nat.le_of_ble_eq_true rfl⟩) ⟨Pw.blind, va_recv hKc hPc (ci := 17) (q0 := 0) rfl rfl, Pw.mk hPc hKc hDc hG hS hFc⟩ rfl rfl hl.1 rfl (lv_room (Nat.le_of_ble_eq_true rfl)) dL_law_592 ⟨Nat.le_of_ble_eq_true rfl, Nat.le_of_ble_eq_true rfl⟩) hS (fun q _ h => hFc q h) hFc (fun r u t9 H_11 locs ht hvm hw hB hz1 hk1 hS => ?_)
  have hw : r = 0 := hw
  subst hw
  obtain ⟨hP1, hK1, hD1⟩ := hB
  rw [ht] at hP1
  have hK1 := va_K.moved hvm.symm hK1
  obtain ⟨hP, hD⟩ := va_join (wr := []) (w1 := [(qm, .inr (17, [.ref lp, .null, .null, .int 0, .int 1, .ref m1, .ref m2, .ref m3, .ref m4, .ref m5, .null, .null, .int 0, .ref m6, .int 0, .int 0, .int 0, .long 0, .null, .ref m7, .ref m8, .int 0, .int 0, .long 0]))]) hP hD [0, 1] [] rfl rfl (by decide) (by decide) hk1 hFc hP1 hD1
  have hK := (hK.sub (tys' := []) [] rfl).app hK1
  have hP : va_P (dC, dI) vwCl [(qm, .inr (17, [.ref lp, .null, .null, .int 0, .int 1, .ref m1, .ref m2, .ref m3, .ref m4, .ref m5, .null, .null, .int 0, .ref m6, .int 0, .int 0, .int 0, .long 0, .null, .ref m7, .ref m8, .int 0, .int 0, .long 0]))] H_11 := hP
  have hD : va_D A [(qm, .inr (17, [.ref lp, .null, .null, .int 0, .int 1, .ref m1, .ref m2, .ref m3, .ref m4, .ref m5, .null, .null, .int 0, .ref m6, .int 0, .int 0, .int 0, .long 0, .null, .ref m7, .ref m8, .int 0, .int 0, .long 0]))] := hD
  have hK : va_K (dC, dI) vwCl [] s := hK
  refine W.widen (k := 90) (n := 78009) (Nat.le_of_ble_eq_true rfl) (Nat.le_of_ble_eq_true rfl) ?_
  refine lv_istore (lv' := [(6, .int 0), (5, .int 1), (4, .int 0), (3, .ref qo), (2, .ref qm), (1, .ref qx), (0, .ref b)]) hx hb dL_law_595 hl (by decide) rfl (fun ls hl => ?_)
  refine lv_aload_n hx hb dL_law_597 rfl (lv_at hl 4 rfl) ?_
  have hPc := hP.sub (ws' := [(qm, .inr (17, [.ref lp, .null, .null, .int 0, .int 1, .ref m1, .ref m2, .ref m3, .ref m4, .ref m5, .null, .null, .int 0, .ref m6, .int 0, .int 0, .int 0, .long 0, .null, .ref m7, .ref m8, .int 0, .int 0, .long 0]))]) [0] rfl
  have hDc := hD.sub (ws' := [(qm, .inr (17, [.ref lp, .null, .null, .int 0, .int 1, .ref m1, .ref m2, .ref m3, .ref m4, .ref m5, .null, .null, .int 0, .ref m6, .int 0, .int 0, .int 0, .long 0, .null, .ref m7, .ref m8, .int 0, .int 0, .long 0]))]) [0] (by decide) rfl
  have hKc := hK.sub (tys' := []) [] rfl
  have hFc := va_free (wc := [(qm, .inr (17, [.ref lp, .null, .null, .int 0, .int 1, .ref m1, .ref m2, .ref m3, .ref m4, .ref m5, .null, .null, .int 0, .ref m6, .int 0, .int 0, .int 0, .long 0, .null, .ref m7, .ref m8, .int 0, .int 0, .long 0]))]) hD hS hA [0] rfl
  refine va_calli (va_runV (As := []) (rest := []) ⟨hx, hb, hml, hown, hts⟩ (c_thrown l dC dI tp te H_11.size qm lp m1 m2 m3 m4 m5 m6 m7 m8 1) (cwV 0 hts g_law_113_thrown rfl rfl rfl (by decide +kernel) ⟨Nat.le_of_ble_eq_true rfl, Nat.le_of_ble_eq_true rfl⟩) ⟨Pw.blind, va_recv hKc hPc (ci := 17) (q0 := 0) rfl rfl, Pw.mk hPc hKc hDc hG hS hFc⟩ rfl rfl hl.1 rfl (lv_room (Nat.le_of_ble_eq_true rfl)) dL_law_598 ⟨Nat.le_of_ble_eq_true rfl, Nat.le_of_ble_eq_true rfl⟩) hS (fun q _ h => hFc q h) hFc (fun r u t9 H_13 locs ht hvm hw hB hz1 hk1 hS => ?_)
  have hw : r = 1 := hw
  subst hw
  obtain ⟨hP1, hK1, hD1⟩ := hB
  rw [ht] at hP1
  have hK1 := va_K.moved hvm.symm hK1
  obtain ⟨hP, hD⟩ := va_join (wr := []) (w1 := [(qm, .inr (17, [.ref lp, .null, .null, .int 0, .int 1, .ref m1, .ref m2, .ref m3, .ref m4, .ref m5, .null, .null, .int 0, .ref m6, .int 0, .int 0, .int 0, .long 0, .null, .ref m7, .ref m8, .int 0, .int 0, .long 0]))]) hP hD [0] [] rfl rfl (by decide) (by decide) hk1 hFc hP1 hD1
  have hK := (hK.sub (tys' := []) [] rfl).app hK1
  have hP : va_P (dC, dI) vwCl [(qm, .inr (17, [.ref lp, .null, .null, .int 0, .int 1, .ref m1, .ref m2, .ref m3, .ref m4, .ref m5, .null, .null, .int 0, .ref m6, .int 0, .int 0, .int 0, .long 0, .null, .ref m7, .ref m8, .int 0, .int 0, .long 0]))] H_13 := hP
  have hD : va_D A [(qm, .inr (17, [.ref lp, .null, .null, .int 0, .int 1, .ref m1, .ref m2, .ref m3, .ref m4, .ref m5, .null, .null, .int 0, .ref m6, .int 0, .int 0, .int 0, .long 0, .null, .ref m7, .ref m8, .int 0, .int 0, .long 0]))] := hD
  have hK : va_K (dC, dI) vwCl [] s := hK
  refine W.widen (k := 90) (n := 78009) (Nat.le_of_ble_eq_true rfl) (Nat.le_of_ble_eq_true rfl) ?_
  refine lv_iload hx hb dL_law_601 (lv_at hl 1 rfl) ?_
  refine lv_icmp_eq (tgt := 608) hx hb dL_law_603 (by decide) (fun c9 => ?_) (fun c9 => absurd (by decide) c9)
  refine lv_iload hx hb dL_law_608 (lv_at hl 1 rfl) ?_
  refine lv_if_ne (tgt := 625) hx hb dL_law_610 (by decide) (fun c9 => ?_) (fun c9 => absurd c9 (by decide))
  refine lv_goto (tgt := 1569) hx hb dL_law_625 (by decide) ?_
  exact lc_next C0 hAA hS (lv_sub hl [6, 2] rfl) (Nat.le_of_ble_eq_true rfl) (Nat.le_of_ble_eq_true rfl)
set_option maxHeartbeats 4000000 in
set_option maxRecDepth 100000 in
theorem lc_rec_xneg {p : Program} {l : Launch} {e : Env} {s : State} {m : MethodId} {below : List Frame} {meth : Method} {c : Code} (hlt : l.stackTraces = false) {b : Nat} {xs : Nat → Int32} (C0 : lw_At p s m meth c b 3 xs) {A : Nat → Prop} (hAA : A = fun q : Nat => s.heap.size ≤ q) {dC : Nat → ClassId} {dI : Nat → Nat → Nat} {tp te : Nat} (hG : gx tp te A s s.heap) {qx rp rt rc r1 r2 r3 r4 a1 a2 a3 a4 a5 a6 a7 t1 t2 t3 t4 t5 t6 t7 c1 c2 c3 c4 c5 c6 c7 qm lp m1 m2 m3 m4 m5 m6 m7 m8 qo : Nat} {k1 k2 k3 k4 k5 k6 k7 ko : ClassId} {H : Heap} {locs : List Loc} (hK : va_K (dC, dI) vwCl [(k1, .int), (k2, .int), (k3, .int), (k4, .long), (k5, .int), (k6, .int), (k7, .int), (ko, .long)] s) (hP : va_P (dC, dI) vwCl [(qx, .inr (8, [.ref rp, .int 0, .ref rt, .ref rc, .int ((-1)), .ref r1, .ref r2, .ref r3, .ref r4, .null, .int 0])), (rp, .inr (6, [.ref a1, .ref a2, .ref a3, .ref a4, .ref a5, .ref a6, .ref a7, .int 0])), (a1, .inl (k1, 1200, .inl (fun _ => 0))), (a2, .inl (k2, 1200, .inl (fun _ => 0))), (a3, .inl (k3, 1200, .inl (fun _ => 0))), (a4, .inl (k4, 1200, .inr (.inl (fun _ => 0)))), (a5, .inl (k5, 1200, .inl (fun _ => 0))), (a6, .inl (k6, 1200, .inl (fun _ => 0))), (a7, .inl (k7, 1200, .inl (fun _ => 0))), (rt, .inr (6, [.ref t1, .ref t2, .ref t3, .ref t4, .ref t5, .ref t6, .ref t7, .int 0])), (rc, .inr (6, [.ref c1, .ref c2, .ref c3, .ref c4, .ref c5, .ref c6, .ref c7, .int 0])), (qm, .inr (17, [.ref lp, .null, .null, .int 0, .int 0, .ref m1, .ref m2, .ref m3, .ref m4, .ref m5, .null, .null, .int 0, .ref m6, .int 0, .int 0, .int 0, .long 0, .null, .ref m7, .ref m8, .int 0, .int 0, .long 0])), (lp, .inr (0, [.int 0, .ref te, .int 0])), (qo, .inl (ko, 1, .inr (.inl (fun _ => 0))))] H) (hD : va_D A [(qx, .inr (8, [.ref rp, .int 0, .ref rt, .ref rc, .int ((-1)), .ref r1, .ref r2, .ref r3, .ref r4, .null, .int 0])), (rp, .inr (6, [.ref a1, .ref a2, .ref a3, .ref a4, .ref a5, .ref a6, .ref a7, .int 0])), (a1, .inl (k1, 1200, .inl (fun _ => 0))), (a2, .inl (k2, 1200, .inl (fun _ => 0))), (a3, .inl (k3, 1200, .inl (fun _ => 0))), (a4, .inl (k4, 1200, .inr (.inl (fun _ => 0)))), (a5, .inl (k5, 1200, .inl (fun _ => 0))), (a6, .inl (k6, 1200, .inl (fun _ => 0))), (a7, .inl (k7, 1200, .inl (fun _ => 0))), (rt, .inr (6, [.ref t1, .ref t2, .ref t3, .ref t4, .ref t5, .ref t6, .ref t7, .int 0])), (rc, .inr (6, [.ref c1, .ref c2, .ref c3, .ref c4, .ref c5, .ref c6, .ref c7, .int 0])), (qm, .inr (17, [.ref lp, .null, .null, .int 0, .int 0, .ref m1, .ref m2, .ref m3, .ref m4, .ref m5, .null, .null, .int 0, .ref m6, .int 0, .int 0, .int 0, .long 0, .null, .ref m7, .ref m8, .int 0, .int 0, .long 0])), (lp, .inr (0, [.int 0, .ref te, .int 0])), (qo, .inl (ko, 1, .inr (.inl (fun _ => 0))))]) (hS : va_S A s.heap H locs) {ls : Array Slot} (hl : lv_has ls 8 [(4, .int 0), (3, .ref qo), (2, .ref qm), (1, .ref qx), (0, .ref b)]) (p1 p2 : Int32) (e1 : xs (1 : Int32).toNatClampNeg = p1) (e2 : xs (2 : Int32).toNatClampNeg = p2) (hvn : ¬ p1 < 0) (hvb : p1 < 10) (hvc : ¬ 10 ≤ p1) (hvnx : p2 < 0) : W p l e room_1 s m #[Value.ref b] below meth c H locs 89 78003 (lw_Z below #[Value.ref b] s) (F0 m 560 ls []) := by
  obtain ⟨hx, hb, hr, hml, hown, hts0, hX, hbl, hlocks, hgv⟩ := id C0
  have hts : ∀ w ∈ z_law, w.before #[Value.ref b] s = true := fun w h => hts0 w (z_law_in w h)
  have hown : s.vm.findClass RL = some m.cls := hown
  have hA : ∀ q : Nat, s.heap.size ≤ q → A q := fun q h => by rw [hAA]; exact h
  have hbA : ¬ A b := by rw [hAA]; exact Nat.not_le.mpr hbl
  have hP := hP.sub (ws' := [(qx, .inr (8, [.ref rp, .int 0, .ref rt, .ref rc, .int ((-1)), .ref r1, .ref r2, .ref r3, .ref r4, .null, .int 0])), (qm, .inr (17, [.ref lp, .null, .null, .int 0, .int 0, .ref m1, .ref m2, .ref m3, .ref m4, .ref m5, .null, .null, .int 0, .ref m6, .int 0, .int 0, .int 0, .long 0, .null, .ref m7, .ref m8, .int 0, .int 0, .long 0])), (lp, .inr (0, [.int 0, .ref te, .int 0]))]) [0, 11, 12] rfl
  have hD := hD.sub (ws' := [(qx, .inr (8, [.ref rp, .int 0, .ref rt, .ref rc, .int ((-1)), .ref r1, .ref r2, .ref r3, .ref r4, .null, .int 0])), (qm, .inr (17, [.ref lp, .null, .null, .int 0, .int 0, .ref m1, .ref m2, .ref m3, .ref m4, .ref m5, .null, .null, .int 0, .ref m6, .int 0, .int 0, .int 0, .long 0, .null, .ref m7, .ref m8, .int 0, .int 0, .long 0])), (lp, .inr (0, [.int 0, .ref te, .int 0]))]) [0, 11, 12] (by decide) rfl
  have hK := hK.sub (tys' := []) [] rfl
  have hP : va_P (dC, dI) vwCl [(qx, .inr (8, [.ref rp, .int 0, .ref rt, .ref rc, .int ((-1)), .ref r1, .ref r2, .ref r3, .ref r4, .null, .int 0])), (qm, .inr (17, [.ref lp, .null, .null, .int 0, .int 0, .ref m1, .ref m2, .ref m3, .ref m4, .ref m5, .null, .null, .int 0, .ref m6, .int 0, .int 0, .int 0, .long 0, .null, .ref m7, .ref m8, .int 0, .int 0, .long 0])), (lp, .inr (0, [.int 0, .ref te, .int 0]))] H := hP
  have hD : va_D A [(qx, .inr (8, [.ref rp, .int 0, .ref rt, .ref rc, .int ((-1)), .ref r1, .ref r2, .ref r3, .ref r4, .null, .int 0])), (qm, .inr (17, [.ref lp, .null, .null, .int 0, .int 0, .ref m1, .ref m2, .ref m3, .ref m4, .ref m5, .null, .null, .int 0, .ref m6, .int 0, .int 0, .int 0, .long 0, .null, .ref m7, .ref m8, .int 0, .int 0, .long 0])), (lp, .inr (0, [.int 0, .ref te, .int 0]))] := hD
  have hK : va_K (dC, dI) vwCl [] s := hK
  refine lv_aload_n hx hb dL_law_560 rfl (lv_at hl 3 rfl) ?_
  refine lv_aload_n hx hb dL_law_561 rfl (lv_at hl 4 rfl) ?_
  refine lv_iload hx hb dL_law_562 (lv_at hl 0 rfl) ?_
  refine lv_iconst (v := 1) hx hb dL_law_564 (by decide) ?_
  refine lv_iadd hx hb dL_law_565 ?_
  refine lv_topi (fun z_1 ez_1 => ?_)
  obtain rfl : z_1 = 1 := ez_1.trans (by decide)
  refine va_sld hx hb hX hbl hbA hS (by unfold vp_in; decide +kernel) dL_law_566 ?_
  refine lv_topi (fun z_2 ez_2 => ?_)
  obtain rfl : p1 = z_2 := (ez_2.trans e1).symm
  refine lv_aload_n hx hb dL_law_567 rfl (lv_at hl 4 rfl) ?_
  refine lv_iload hx hb dL_law_568 (lv_at hl 0 rfl) ?_
  refine lv_iconst (v := 2) hx hb dL_law_570 (by decide) ?_
  refine lv_iadd hx hb dL_law_571 ?_
  refine lv_topi (fun z_3 ez_3 => ?_)
  obtain rfl : z_3 = 2 := ez_3.trans (by decide)
  refine va_sld hx hb hX hbl hbA hS (by unfold vp_in; decide +kernel) dL_law_572 ?_
  refine lv_topi (fun z_4 ez_4 => ?_)
  obtain rfl : p2 = z_4 := (ez_4.trans e2).symm
  refine lv_aload_n hx hb dL_law_573 rfl (lv_at hl 1 rfl) ?_
  have hPc := hP.sub (ws' := [(qx, .inr (8, [.ref rp, .int 0, .ref rt, .ref rc, .int ((-1)), .ref r1, .ref r2, .ref r3, .ref r4, .null, .int 0]))]) [0] rfl
  have hDc := hD.sub (ws' := [(qx, .inr (8, [.ref rp, .int 0, .ref rt, .ref rc, .int ((-1)), .ref r1, .ref r2, .ref r3, .ref r4, .null, .int 0]))]) [0] (by decide) rfl
  have hKc := hK.sub (tys' := []) [] rfl
  have hFc := va_free (wc := [(qx, .inr (8, [.ref rp, .int 0, .ref rt, .ref rc, .int ((-1)), .ref r1, .ref r2, .ref r3, .ref r4, .null, .int 0]))]) hD hS hA [0] rfl
  refine vx_calli (vx_runSX (As := [.ref qx, .int p1, .int p2, .ref qo]) (rest := []) ⟨hx, hb, hml, hown, hts⟩ (c_L_rec_xneg l dC dI tp te H.size hlt qx rp rt rc r1 r2 r3 r4 p1 p2 qo hvn hvb hvc hvnx) (vx_cwSW 4 hts g_law_136_L_rec_xneg rfl rfl rfl (by decide +kernel) ⟨Nat.le_of_ble_eq_true rfl, Nat.le_of_ble_eq_true rfl⟩) ⟨Pw.blind, Pw.mk hPc hKc hDc hG hS hFc⟩ rfl rfl hl.1 rfl (lv_room (Nat.le_of_ble_eq_true rfl)) dL_law_574 ⟨Nat.le_of_ble_eq_true rfl, Nat.le_of_ble_eq_true rfl⟩) hS (fun q _ h => hFc q h) hFc (fun q _ h => hFc q h) (fun E ce q9 u t9 H1 locs ht hvm hpx hBX hz1 hk1 hS hce hcv hcl => hpx.elim) (fun r u t9 H_5 locs ht hvm hw hB hz1 hk1 hS => ?_)
  have hw : r = 1 := hw
  subst hw
  obtain ⟨hP, hD⟩ := va_join (wr := [(qm, .inr (17, [.ref lp, .null, .null, .int 0, .int 0, .ref m1, .ref m2, .ref m3, .ref m4, .ref m5, .null, .null, .int 0, .ref m6, .int 0, .int 0, .int 0, .long 0, .null, .ref m7, .ref m8, .int 0, .int 0, .long 0])), (lp, .inr (0, [.int 0, .ref te, .int 0]))]) (w1 := []) hP hD [0] [1, 2] rfl rfl (by decide) (by decide) hk1 hFc va_P.nil va_D.nil
  have hK := hK.sub (tys' := []) [] rfl
  have hP : va_P (dC, dI) vwCl [(qm, .inr (17, [.ref lp, .null, .null, .int 0, .int 0, .ref m1, .ref m2, .ref m3, .ref m4, .ref m5, .null, .null, .int 0, .ref m6, .int 0, .int 0, .int 0, .long 0, .null, .ref m7, .ref m8, .int 0, .int 0, .long 0])), (lp, .inr (0, [.int 0, .ref te, .int 0]))] H_5 := hP
  have hD : va_D A [(qm, .inr (17, [.ref lp, .null, .null, .int 0, .int 0, .ref m1, .ref m2, .ref m3, .ref m4, .ref m5, .null, .null, .int 0, .ref m6, .int 0, .int 0, .int 0, .long 0, .null, .ref m7, .ref m8, .int 0, .int 0, .long 0])), (lp, .inr (0, [.int 0, .ref te, .int 0]))] := hD
  have hK : va_K (dC, dI) vwCl [] s := hK
  refine W.widen (k := 90) (n := 78009) (Nat.le_of_ble_eq_true rfl) (Nat.le_of_ble_eq_true rfl) ?_
  refine lv_istore (lv' := [(5, .int 1), (4, .int 0), (3, .ref qo), (2, .ref qm), (1, .ref qx), (0, .ref b)]) hx hb dL_law_577 hl (by decide) rfl (fun ls hl => ?_)
  refine lv_aload_n hx hb dL_law_579 rfl (lv_at hl 3 rfl) ?_
  refine lv_aload_n hx hb dL_law_580 rfl (lv_at hl 5 rfl) ?_
  refine lv_iload hx hb dL_law_581 (lv_at hl 1 rfl) ?_
  refine lv_iconst (v := 1) hx hb dL_law_583 (by decide) ?_
  refine lv_iadd hx hb dL_law_584 ?_
  refine lv_topi (fun z_7 ez_7 => ?_)
  obtain rfl : z_7 = 1 := ez_7.trans (by decide)
  refine va_sld hx hb hX hbl hbA hS (by unfold vp_in; decide +kernel) dL_law_585 ?_
  refine lv_topi (fun z_8 ez_8 => ?_)
  obtain rfl : p1 = z_8 := (ez_8.trans e1).symm
  refine lv_aload_n hx hb dL_law_586 rfl (lv_at hl 5 rfl) ?_
  refine lv_iload hx hb dL_law_587 (lv_at hl 1 rfl) ?_
  refine lv_iconst (v := 2) hx hb dL_law_589 (by decide) ?_
  refine lv_iadd hx hb dL_law_590 ?_
  refine lv_topi (fun z_9 ez_9 => ?_)
  obtain rfl : z_9 = 2 := ez_9.trans (by decide)
  refine va_sld hx hb hX hbl hbA hS (by unfold vp_in; decide +kernel) dL_law_591 ?_
  refine lv_topi (fun z_10 ez_10 => ?_)
  obtain rfl : p2 = z_10 := (ez_10.trans e2).symm
  have hPc := hP.sub (ws' := [(qm, .inr (17, [.ref lp, .null, .null, .int 0, .int 0, .ref m1, .ref m2, .ref m3, .ref m4, .ref m5, .null, .null, .int 0, .ref m6, .int 0, .int 0, .int 0, .long 0, .null, .ref m7, .ref m8, .int 0, .int 0, .long 0])), (lp, .inr (0, [.int 0, .ref te, .int 0]))]) [0, 1] rfl
  have hDc := hD.sub (ws' := [(qm, .inr (17, [.ref lp, .null, .null, .int 0, .int 0, .ref m1, .ref m2, .ref m3, .ref m4, .ref m5, .null, .null, .int 0, .ref m6, .int 0, .int 0, .int 0, .long 0, .null, .ref m7, .ref m8, .int 0, .int 0, .long 0])), (lp, .inr (0, [.int 0, .ref te, .int 0]))]) [0, 1] (by decide) rfl
  have hKc := hK.sub (tys' := []) [] rfl
  have hFc := va_free (wc := [(qm, .inr (17, [.ref lp, .null, .null, .int 0, .int 0, .ref m1, .ref m2, .ref m3, .ref m4, .ref m5, .null, .null, .int 0, .ref m6, .int 0, .int 0, .int 0, .long 0, .null, .ref m7, .ref m8, .int 0, .int 0, .long 0])), (lp, .inr (0, [.int 0, .ref te, .int 0]))]) hD hS hA [0, 1] rfl
  refine va_calli (va_runV (As := [.int p1, .int p2]) (rest := []) ⟨hx, hb, hml, hown, hts⟩ (c_M_rec_xneg l dC dI tp te H_5.size qm lp m1 m2 m3 m4 m5 m6 m7 m8 p1 p2 hvn hvb hvc hvnx) (cwV 2 hts g_law_139_M_rec_xneg rfl rfl rfl (by decide +kernel) ⟨Nat.le_of_ble_eq_true rfl, Nat.le_of_ble_eq_true rfl⟩) ⟨Pw.blind, va_recv hKc hPc (ci := 17) (q0 := 0) rfl rfl, Pw.mk hPc hKc hDc hG hS hFc⟩ rfl rfl hl.1 rfl (lv_room (Nat.le_of_ble_eq_true rfl)) dL_law_592 ⟨Nat.le_of_ble_eq_true rfl, Nat.le_of_ble_eq_true rfl⟩) hS (fun q _ h => hFc q h) hFc (fun r u t9 H_11 locs ht hvm hw hB hz1 hk1 hS => ?_)
  have hw : r = 0 := hw
  subst hw
  obtain ⟨hP1, hK1, hD1⟩ := hB
  rw [ht] at hP1
  have hK1 := va_K.moved hvm.symm hK1
  obtain ⟨hP, hD⟩ := va_join (wr := []) (w1 := [(qm, .inr (17, [.ref lp, .null, .null, .int 0, .int 1, .ref m1, .ref m2, .ref m3, .ref m4, .ref m5, .null, .null, .int 0, .ref m6, .int 0, .int 0, .int 0, .long 0, .null, .ref m7, .ref m8, .int 0, .int 0, .long 0]))]) hP hD [0, 1] [] rfl rfl (by decide) (by decide) hk1 hFc hP1 hD1
  have hK := (hK.sub (tys' := []) [] rfl).app hK1
  have hP : va_P (dC, dI) vwCl [(qm, .inr (17, [.ref lp, .null, .null, .int 0, .int 1, .ref m1, .ref m2, .ref m3, .ref m4, .ref m5, .null, .null, .int 0, .ref m6, .int 0, .int 0, .int 0, .long 0, .null, .ref m7, .ref m8, .int 0, .int 0, .long 0]))] H_11 := hP
  have hD : va_D A [(qm, .inr (17, [.ref lp, .null, .null, .int 0, .int 1, .ref m1, .ref m2, .ref m3, .ref m4, .ref m5, .null, .null, .int 0, .ref m6, .int 0, .int 0, .int 0, .long 0, .null, .ref m7, .ref m8, .int 0, .int 0, .long 0]))] := hD
  have hK : va_K (dC, dI) vwCl [] s := hK
  refine W.widen (k := 90) (n := 78009) (Nat.le_of_ble_eq_true rfl) (Nat.le_of_ble_eq_true rfl) ?_
  refine lv_istore (lv' := [(6, .int 0), (5, .int 1), (4, .int 0), (3, .ref qo), (2, .ref qm), (1, .ref qx), (0, .ref b)]) hx hb dL_law_595 hl (by decide) rfl (fun ls hl => ?_)
  refine lv_aload_n hx hb dL_law_597 rfl (lv_at hl 4 rfl) ?_
  have hPc := hP.sub (ws' := [(qm, .inr (17, [.ref lp, .null, .null, .int 0, .int 1, .ref m1, .ref m2, .ref m3, .ref m4, .ref m5, .null, .null, .int 0, .ref m6, .int 0, .int 0, .int 0, .long 0, .null, .ref m7, .ref m8, .int 0, .int 0, .long 0]))]) [0] rfl
  have hDc := hD.sub (ws' := [(qm, .inr (17, [.ref lp, .null, .null, .int 0, .int 1, .ref m1, .ref m2, .ref m3, .ref m4, .ref m5, .null, .null, .int 0, .ref m6, .int 0, .int 0, .int 0, .long 0, .null, .ref m7, .ref m8, .int 0, .int 0, .long 0]))]) [0] (by decide) rfl
  have hKc := hK.sub (tys' := []) [] rfl
  have hFc := va_free (wc := [(qm, .inr (17, [.ref lp, .null, .null, .int 0, .int 1, .ref m1, .ref m2, .ref m3, .ref m4, .ref m5, .null, .null, .int 0, .ref m6, .int 0, .int 0, .int 0, .long 0, .null, .ref m7, .ref m8, .int 0, .int 0, .long 0]))]) hD hS hA [0] rfl
  refine va_calli (va_runV (As := []) (rest := []) ⟨hx, hb, hml, hown, hts⟩ (c_thrown l dC dI tp te H_11.size qm lp m1 m2 m3 m4 m5 m6 m7 m8 1) (cwV 0 hts g_law_113_thrown rfl rfl rfl (by decide +kernel) ⟨Nat.le_of_ble_eq_true rfl, Nat.le_of_ble_eq_true rfl⟩) ⟨Pw.blind, va_recv hKc hPc (ci := 17) (q0 := 0) rfl rfl, Pw.mk hPc hKc hDc hG hS hFc⟩ rfl rfl hl.1 rfl (lv_room (Nat.le_of_ble_eq_true rfl)) dL_law_598 ⟨Nat.le_of_ble_eq_true rfl, Nat.le_of_ble_eq_true rfl⟩) hS (fun q _ h => hFc q h) hFc (fun r u t9 H_13 locs ht hvm hw hB hz1 hk1 hS => ?_)
  have hw : r = 1 := hw
  subst hw
  obtain ⟨hP1, hK1, hD1⟩ := hB
  rw [ht] at hP1
  have hK1 := va_K.moved hvm.symm hK1
  obtain ⟨hP, hD⟩ := va_join (wr := []) (w1 := [(qm, .inr (17, [.ref lp, .null, .null, .int 0, .int 1, .ref m1, .ref m2, .ref m3, .ref m4, .ref m5, .null, .null, .int 0, .ref m6, .int 0, .int 0, .int 0, .long 0, .null, .ref m7, .ref m8, .int 0, .int 0, .long 0]))]) hP hD [0] [] rfl rfl (by decide) (by decide) hk1 hFc hP1 hD1
  have hK := (hK.sub (tys' := []) [] rfl).app hK1
  have hP : va_P (dC, dI) vwCl [(qm, .inr (17, [.ref lp, .null, .null, .int 0, .int 1, .ref m1, .ref m2, .ref m3, .ref m4, .ref m5, .null, .null, .int 0, .ref m6, .int 0, .int 0, .int 0, .long 0, .null, .ref m7, .ref m8, .int 0, .int 0, .long 0]))] H_13 := hP
  have hD : va_D A [(qm, .inr (17, [.ref lp, .null, .null, .int 0, .int 1, .ref m1, .ref m2, .ref m3, .ref m4, .ref m5, .null, .null, .int 0, .ref m6, .int 0, .int 0, .int 0, .long 0, .null, .ref m7, .ref m8, .int 0, .int 0, .long 0]))] := hD
  have hK : va_K (dC, dI) vwCl [] s := hK
  refine W.widen (k := 90) (n := 78009) (Nat.le_of_ble_eq_true rfl) (Nat.le_of_ble_eq_true rfl) ?_
  refine lv_iload hx hb dL_law_601 (lv_at hl 1 rfl) ?_
  refine lv_icmp_eq (tgt := 608) hx hb dL_law_603 (by decide) (fun c9 => ?_) (fun c9 => absurd (by decide) c9)
  refine lv_iload hx hb dL_law_608 (lv_at hl 1 rfl) ?_
  refine lv_if_ne (tgt := 625) hx hb dL_law_610 (by decide) (fun c9 => ?_) (fun c9 => absurd c9 (by decide))
  refine lv_goto (tgt := 1569) hx hb dL_law_625 (by decide) ?_
  exact lc_next C0 hAA hS (lv_sub hl [6, 2] rfl) (Nat.le_of_ble_eq_true rfl) (Nat.le_of_ble_eq_true rfl)
set_option maxHeartbeats 4000000 in
set_option maxRecDepth 100000 in
theorem lc_rec_xbig {p : Program} {l : Launch} {e : Env} {s : State} {m : MethodId} {below : List Frame} {meth : Method} {c : Code} (hlt : l.stackTraces = false) {b : Nat} {xs : Nat → Int32} (C0 : lw_At p s m meth c b 3 xs) {A : Nat → Prop} (hAA : A = fun q : Nat => s.heap.size ≤ q) {dC : Nat → ClassId} {dI : Nat → Nat → Nat} {tp te : Nat} (hG : gx tp te A s s.heap) {qx rp rt rc r1 r2 r3 r4 a1 a2 a3 a4 a5 a6 a7 t1 t2 t3 t4 t5 t6 t7 c1 c2 c3 c4 c5 c6 c7 qm lp m1 m2 m3 m4 m5 m6 m7 m8 qo : Nat} {k1 k2 k3 k4 k5 k6 k7 ko : ClassId} {H : Heap} {locs : List Loc} (hK : va_K (dC, dI) vwCl [(k1, .int), (k2, .int), (k3, .int), (k4, .long), (k5, .int), (k6, .int), (k7, .int), (ko, .long)] s) (hP : va_P (dC, dI) vwCl [(qx, .inr (8, [.ref rp, .int 0, .ref rt, .ref rc, .int ((-1)), .ref r1, .ref r2, .ref r3, .ref r4, .null, .int 0])), (rp, .inr (6, [.ref a1, .ref a2, .ref a3, .ref a4, .ref a5, .ref a6, .ref a7, .int 0])), (a1, .inl (k1, 1200, .inl (fun _ => 0))), (a2, .inl (k2, 1200, .inl (fun _ => 0))), (a3, .inl (k3, 1200, .inl (fun _ => 0))), (a4, .inl (k4, 1200, .inr (.inl (fun _ => 0)))), (a5, .inl (k5, 1200, .inl (fun _ => 0))), (a6, .inl (k6, 1200, .inl (fun _ => 0))), (a7, .inl (k7, 1200, .inl (fun _ => 0))), (rt, .inr (6, [.ref t1, .ref t2, .ref t3, .ref t4, .ref t5, .ref t6, .ref t7, .int 0])), (rc, .inr (6, [.ref c1, .ref c2, .ref c3, .ref c4, .ref c5, .ref c6, .ref c7, .int 0])), (qm, .inr (17, [.ref lp, .null, .null, .int 0, .int 0, .ref m1, .ref m2, .ref m3, .ref m4, .ref m5, .null, .null, .int 0, .ref m6, .int 0, .int 0, .int 0, .long 0, .null, .ref m7, .ref m8, .int 0, .int 0, .long 0])), (lp, .inr (0, [.int 0, .ref te, .int 0])), (qo, .inl (ko, 1, .inr (.inl (fun _ => 0))))] H) (hD : va_D A [(qx, .inr (8, [.ref rp, .int 0, .ref rt, .ref rc, .int ((-1)), .ref r1, .ref r2, .ref r3, .ref r4, .null, .int 0])), (rp, .inr (6, [.ref a1, .ref a2, .ref a3, .ref a4, .ref a5, .ref a6, .ref a7, .int 0])), (a1, .inl (k1, 1200, .inl (fun _ => 0))), (a2, .inl (k2, 1200, .inl (fun _ => 0))), (a3, .inl (k3, 1200, .inl (fun _ => 0))), (a4, .inl (k4, 1200, .inr (.inl (fun _ => 0)))), (a5, .inl (k5, 1200, .inl (fun _ => 0))), (a6, .inl (k6, 1200, .inl (fun _ => 0))), (a7, .inl (k7, 1200, .inl (fun _ => 0))), (rt, .inr (6, [.ref t1, .ref t2, .ref t3, .ref t4, .ref t5, .ref t6, .ref t7, .int 0])), (rc, .inr (6, [.ref c1, .ref c2, .ref c3, .ref c4, .ref c5, .ref c6, .ref c7, .int 0])), (qm, .inr (17, [.ref lp, .null, .null, .int 0, .int 0, .ref m1, .ref m2, .ref m3, .ref m4, .ref m5, .null, .null, .int 0, .ref m6, .int 0, .int 0, .int 0, .long 0, .null, .ref m7, .ref m8, .int 0, .int 0, .long 0])), (lp, .inr (0, [.int 0, .ref te, .int 0])), (qo, .inl (ko, 1, .inr (.inl (fun _ => 0))))]) (hS : va_S A s.heap H locs) {ls : Array Slot} (hl : lv_has ls 8 [(4, .int 0), (3, .ref qo), (2, .ref qm), (1, .ref qx), (0, .ref b)]) (p1 p2 : Int32) (e1 : xs (1 : Int32).toNatClampNeg = p1) (e2 : xs (2 : Int32).toNatClampNeg = p2) (hvn : ¬ p1 < 0) (hvb : p1 < 10) (hvc : ¬ 10 ≤ p1) (hvnx : ¬ p2 < 0) (hvbx : ¬ p2 < 10) (hvcx : 10 ≤ p2) : W p l e room_1 s m #[Value.ref b] below meth c H locs 89 78003 (lw_Z below #[Value.ref b] s) (F0 m 560 ls []) := by
  obtain ⟨hx, hb, hr, hml, hown, hts0, hX, hbl, hlocks, hgv⟩ := id C0
  have hts : ∀ w ∈ z_law, w.before #[Value.ref b] s = true := fun w h => hts0 w (z_law_in w h)
  have hown : s.vm.findClass RL = some m.cls := hown
  have hA : ∀ q : Nat, s.heap.size ≤ q → A q := fun q h => by rw [hAA]; exact h
  have hbA : ¬ A b := by rw [hAA]; exact Nat.not_le.mpr hbl
  have hP := hP.sub (ws' := [(qx, .inr (8, [.ref rp, .int 0, .ref rt, .ref rc, .int ((-1)), .ref r1, .ref r2, .ref r3, .ref r4, .null, .int 0])), (qm, .inr (17, [.ref lp, .null, .null, .int 0, .int 0, .ref m1, .ref m2, .ref m3, .ref m4, .ref m5, .null, .null, .int 0, .ref m6, .int 0, .int 0, .int 0, .long 0, .null, .ref m7, .ref m8, .int 0, .int 0, .long 0])), (lp, .inr (0, [.int 0, .ref te, .int 0]))]) [0, 11, 12] rfl
  have hD := hD.sub (ws' := [(qx, .inr (8, [.ref rp, .int 0, .ref rt, .ref rc, .int ((-1)), .ref r1, .ref r2, .ref r3, .ref r4, .null, .int 0])), (qm, .inr (17, [.ref lp, .null, .null, .int 0, .int 0, .ref m1, .ref m2, .ref m3, .ref m4, .ref m5, .null, .null, .int 0, .ref m6, .int 0, .int 0, .int 0, .long 0, .null, .ref m7, .ref m8, .int 0, .int 0, .long 0])), (lp, .inr (0, [.int 0, .ref te, .int 0]))]) [0, 11, 12] (by decide) rfl
  have hK := hK.sub (tys' := []) [] rfl
  have hP : va_P (dC, dI) vwCl [(qx, .inr (8, [.ref rp, .int 0, .ref rt, .ref rc, .int ((-1)), .ref r1, .ref r2, .ref r3, .ref r4, .null, .int 0])), (qm, .inr (17, [.ref lp, .null, .null, .int 0, .int 0, .ref m1, .ref m2, .ref m3, .ref m4, .ref m5, .null, .null, .int 0, .ref m6, .int 0, .int 0, .int 0, .long 0, .null, .ref m7, .ref m8, .int 0, .int 0, .long 0])), (lp, .inr (0, [.int 0, .ref te, .int 0]))] H := hP
  have hD : va_D A [(qx, .inr (8, [.ref rp, .int 0, .ref rt, .ref rc, .int ((-1)), .ref r1, .ref r2, .ref r3, .ref r4, .null, .int 0])), (qm, .inr (17, [.ref lp, .null, .null, .int 0, .int 0, .ref m1, .ref m2, .ref m3, .ref m4, .ref m5, .null, .null, .int 0, .ref m6, .int 0, .int 0, .int 0, .long 0, .null, .ref m7, .ref m8, .int 0, .int 0, .long 0])), (lp, .inr (0, [.int 0, .ref te, .int 0]))] := hD
  have hK : va_K (dC, dI) vwCl [] s := hK
  refine lv_aload_n hx hb dL_law_560 rfl (lv_at hl 3 rfl) ?_
  refine lv_aload_n hx hb dL_law_561 rfl (lv_at hl 4 rfl) ?_
  refine lv_iload hx hb dL_law_562 (lv_at hl 0 rfl) ?_
  refine lv_iconst (v := 1) hx hb dL_law_564 (by decide) ?_
  refine lv_iadd hx hb dL_law_565 ?_
  refine lv_topi (fun z_1 ez_1 => ?_)
  obtain rfl : z_1 = 1 := ez_1.trans (by decide)
  refine va_sld hx hb hX hbl hbA hS (by unfold vp_in; decide +kernel) dL_law_566 ?_
  refine lv_topi (fun z_2 ez_2 => ?_)
  obtain rfl : p1 = z_2 := (ez_2.trans e1).symm
  refine lv_aload_n hx hb dL_law_567 rfl (lv_at hl 4 rfl) ?_
  refine lv_iload hx hb dL_law_568 (lv_at hl 0 rfl) ?_
  refine lv_iconst (v := 2) hx hb dL_law_570 (by decide) ?_
  refine lv_iadd hx hb dL_law_571 ?_
  refine lv_topi (fun z_3 ez_3 => ?_)
  obtain rfl : z_3 = 2 := ez_3.trans (by decide)
  refine va_sld hx hb hX hbl hbA hS (by unfold vp_in; decide +kernel) dL_law_572 ?_
  refine lv_topi (fun z_4 ez_4 => ?_)
  obtain rfl : p2 = z_4 := (ez_4.trans e2).symm
  refine lv_aload_n hx hb dL_law_573 rfl (lv_at hl 1 rfl) ?_
  have hPc := hP.sub (ws' := [(qx, .inr (8, [.ref rp, .int 0, .ref rt, .ref rc, .int ((-1)), .ref r1, .ref r2, .ref r3, .ref r4, .null, .int 0]))]) [0] rfl
  have hDc := hD.sub (ws' := [(qx, .inr (8, [.ref rp, .int 0, .ref rt, .ref rc, .int ((-1)), .ref r1, .ref r2, .ref r3, .ref r4, .null, .int 0]))]) [0] (by decide) rfl
  have hKc := hK.sub (tys' := []) [] rfl
  have hFc := va_free (wc := [(qx, .inr (8, [.ref rp, .int 0, .ref rt, .ref rc, .int ((-1)), .ref r1, .ref r2, .ref r3, .ref r4, .null, .int 0]))]) hD hS hA [0] rfl
  refine vx_calli (vx_runSX (As := [.ref qx, .int p1, .int p2, .ref qo]) (rest := []) ⟨hx, hb, hml, hown, hts⟩ (c_L_rec_xbig l dC dI tp te H.size hlt qx rp rt rc r1 r2 r3 r4 p1 p2 qo hvn hvb hvc hvnx hvbx hvcx) (vx_cwSW 4 hts g_law_136_L_rec_xbig rfl rfl rfl (by decide +kernel) ⟨Nat.le_of_ble_eq_true rfl, Nat.le_of_ble_eq_true rfl⟩) ⟨Pw.blind, Pw.mk hPc hKc hDc hG hS hFc⟩ rfl rfl hl.1 rfl (lv_room (Nat.le_of_ble_eq_true rfl)) dL_law_574 ⟨Nat.le_of_ble_eq_true rfl, Nat.le_of_ble_eq_true rfl⟩) hS (fun q _ h => hFc q h) hFc (fun q _ h => hFc q h) (fun E ce q9 u t9 H1 locs ht hvm hpx hBX hz1 hk1 hS hce hcv hcl => hpx.elim) (fun r u t9 H_5 locs ht hvm hw hB hz1 hk1 hS => ?_)
  have hw : r = 1 := hw
  subst hw
  obtain ⟨hP, hD⟩ := va_join (wr := [(qm, .inr (17, [.ref lp, .null, .null, .int 0, .int 0, .ref m1, .ref m2, .ref m3, .ref m4, .ref m5, .null, .null, .int 0, .ref m6, .int 0, .int 0, .int 0, .long 0, .null, .ref m7, .ref m8, .int 0, .int 0, .long 0])), (lp, .inr (0, [.int 0, .ref te, .int 0]))]) (w1 := []) hP hD [0] [1, 2] rfl rfl (by decide) (by decide) hk1 hFc va_P.nil va_D.nil
  have hK := hK.sub (tys' := []) [] rfl
  have hP : va_P (dC, dI) vwCl [(qm, .inr (17, [.ref lp, .null, .null, .int 0, .int 0, .ref m1, .ref m2, .ref m3, .ref m4, .ref m5, .null, .null, .int 0, .ref m6, .int 0, .int 0, .int 0, .long 0, .null, .ref m7, .ref m8, .int 0, .int 0, .long 0])), (lp, .inr (0, [.int 0, .ref te, .int 0]))] H_5 := hP
  have hD : va_D A [(qm, .inr (17, [.ref lp, .null, .null, .int 0, .int 0, .ref m1, .ref m2, .ref m3, .ref m4, .ref m5, .null, .null, .int 0, .ref m6, .int 0, .int 0, .int 0, .long 0, .null, .ref m7, .ref m8, .int 0, .int 0, .long 0])), (lp, .inr (0, [.int 0, .ref te, .int 0]))] := hD
  have hK : va_K (dC, dI) vwCl [] s := hK
  refine W.widen (k := 90) (n := 78009) (Nat.le_of_ble_eq_true rfl) (Nat.le_of_ble_eq_true rfl) ?_
  refine lv_istore (lv' := [(5, .int 1), (4, .int 0), (3, .ref qo), (2, .ref qm), (1, .ref qx), (0, .ref b)]) hx hb dL_law_577 hl (by decide) rfl (fun ls hl => ?_)
  refine lv_aload_n hx hb dL_law_579 rfl (lv_at hl 3 rfl) ?_
  refine lv_aload_n hx hb dL_law_580 rfl (lv_at hl 5 rfl) ?_
  refine lv_iload hx hb dL_law_581 (lv_at hl 1 rfl) ?_
  refine lv_iconst (v := 1) hx hb dL_law_583 (by decide) ?_
  refine lv_iadd hx hb dL_law_584 ?_
  refine lv_topi (fun z_7 ez_7 => ?_)
  obtain rfl : z_7 = 1 := ez_7.trans (by decide)
  refine va_sld hx hb hX hbl hbA hS (by unfold vp_in; decide +kernel) dL_law_585 ?_
  refine lv_topi (fun z_8 ez_8 => ?_)
  obtain rfl : p1 = z_8 := (ez_8.trans e1).symm
  refine lv_aload_n hx hb dL_law_586 rfl (lv_at hl 5 rfl) ?_
  refine lv_iload hx hb dL_law_587 (lv_at hl 1 rfl) ?_
  refine lv_iconst (v := 2) hx hb dL_law_589 (by decide) ?_
  refine lv_iadd hx hb dL_law_590 ?_
  refine lv_topi (fun z_9 ez_9 => ?_)
  obtain rfl : z_9 = 2 := ez_9.trans (by decide)
  refine va_sld hx hb hX hbl hbA hS (by unfold vp_in; decide +kernel) dL_law_591 ?_
  refine lv_topi (fun z_10 ez_10 => ?_)
  obtain rfl : p2 = z_10 := (ez_10.trans e2).symm
  have hPc := hP.sub (ws' := [(qm, .inr (17, [.ref lp, .null, .null, .int 0, .int 0, .ref m1, .ref m2, .ref m3, .ref m4, .ref m5, .null, .null, .int 0, .ref m6, .int 0, .int 0, .int 0, .long 0, .null, .ref m7, .ref m8, .int 0, .int 0, .long 0])), (lp, .inr (0, [.int 0, .ref te, .int 0]))]) [0, 1] rfl
  have hDc := hD.sub (ws' := [(qm, .inr (17, [.ref lp, .null, .null, .int 0, .int 0, .ref m1, .ref m2, .ref m3, .ref m4, .ref m5, .null, .null, .int 0, .ref m6, .int 0, .int 0, .int 0, .long 0, .null, .ref m7, .ref m8, .int 0, .int 0, .long 0])), (lp, .inr (0, [.int 0, .ref te, .int 0]))]) [0, 1] (by decide) rfl
  have hKc := hK.sub (tys' := []) [] rfl
  have hFc := va_free (wc := [(qm, .inr (17, [.ref lp, .null, .null, .int 0, .int 0, .ref m1, .ref m2, .ref m3, .ref m4, .ref m5, .null, .null, .int 0, .ref m6, .int 0, .int 0, .int 0, .long 0, .null, .ref m7, .ref m8, .int 0, .int 0, .long 0])), (lp, .inr (0, [.int 0, .ref te, .int 0]))]) hD hS hA [0, 1] rfl
  refine va_calli (va_runV (As := [.int p1, .int p2]) (rest := []) ⟨hx, hb, hml, hown, hts⟩ (c_M_rec_xbig l dC dI tp te H_5.size qm lp m1 m2 m3 m4 m5 m6 m7 m8 p1 p2 hvn hvb hvc hvnx hvbx hvcx) (cwV 2 hts g_law_139_M_rec_xbig rfl rfl rfl (by decide +kernel) ⟨Nat.le_of_ble_eq_true rfl, Nat.le_of_ble_eq_true rfl⟩) ⟨Pw.blind, va_recv hKc hPc (ci := 17) (q0 := 0) rfl rfl, Pw.mk hPc hKc hDc hG hS hFc⟩ rfl rfl hl.1 rfl (lv_room (Nat.le_of_ble_eq_true rfl)) dL_law_592 ⟨Nat.le_of_ble_eq_true rfl, Nat.le_of_ble_eq_true rfl⟩) hS (fun q _ h => hFc q h) hFc (fun r u t9 H_11 locs ht hvm hw hB hz1 hk1 hS => ?_)
  have hw : r = 0 := hw
  subst hw
  obtain ⟨hP1, hK1, hD1⟩ := hB
  rw [ht] at hP1
  have hK1 := va_K.moved hvm.symm hK1
  obtain ⟨hP, hD⟩ := va_join (wr := []) (w1 := [(qm, .inr (17, [.ref lp, .null, .null, .int 0, .int 1, .ref m1, .ref m2, .ref m3, .ref m4, .ref m5, .null, .null, .int 0, .ref m6, .int 0, .int 0, .int 0, .long 0, .null, .ref m7, .ref m8, .int 0, .int 0, .long 0]))]) hP hD [0, 1] [] rfl rfl (by decide) (by decide) hk1 hFc hP1 hD1
  have hK := (hK.sub (tys' := []) [] rfl).app hK1
  have hP : va_P (dC, dI) vwCl [(qm, .inr (17, [.ref lp, .null, .null, .int 0, .int 1, .ref m1, .ref m2, .ref m3, .ref m4, .ref m5, .null, .null, .int 0, .ref m6, .int 0, .int 0, .int 0, .long 0, .null, .ref m7, .ref m8, .int 0, .int 0, .long 0]))] H_11 := hP
  have hD : va_D A [(qm, .inr (17, [.ref lp, .null, .null, .int 0, .int 1, .ref m1, .ref m2, .ref m3, .ref m4, .ref m5, .null, .null, .int 0, .ref m6, .int 0, .int 0, .int 0, .long 0, .null, .ref m7, .ref m8, .int 0, .int 0, .long 0]))] := hD
  have hK : va_K (dC, dI) vwCl [] s := hK
  refine W.widen (k := 90) (n := 78009) (Nat.le_of_ble_eq_true rfl) (Nat.le_of_ble_eq_true rfl) ?_
  refine lv_istore (lv' := [(6, .int 0), (5, .int 1), (4, .int 0), (3, .ref qo), (2, .ref qm), (1, .ref qx), (0, .ref b)]) hx hb dL_law_595 hl (by decide) rfl (fun ls hl => ?_)
  refine lv_aload_n hx hb dL_law_597 rfl (lv_at hl 4 rfl) ?_
  have hPc := hP.sub (ws' := [(qm, .inr (17, [.ref lp, .null, .null, .int 0, .int 1, .ref m1, .ref m2, .ref m3, .ref m4, .ref m5, .null, .null, .int 0, .ref m6, .int 0, .int 0, .int 0, .long 0, .null, .ref m7, .ref m8, .int 0, .int 0, .long 0]))]) [0] rfl
  have hDc := hD.sub (ws' := [(qm, .inr (17, [.ref lp, .null, .null, .int 0, .int 1, .ref m1, .ref m2, .ref m3, .ref m4, .ref m5, .null, .null, .int 0, .ref m6, .int 0, .int 0, .int 0, .long 0, .null, .ref m7, .ref m8, .int 0, .int 0, .long 0]))]) [0] (by decide) rfl
  have hKc := hK.sub (tys' := []) [] rfl
  have hFc := va_free (wc := [(qm, .inr (17, [.ref lp, .null, .null, .int 0, .int 1, .ref m1, .ref m2, .ref m3, .ref m4, .ref m5, .null, .null, .int 0, .ref m6, .int 0, .int 0, .int 0, .long 0, .null, .ref m7, .ref m8, .int 0, .int 0, .long 0]))]) hD hS hA [0] rfl
  refine va_calli (va_runV (As := []) (rest := []) ⟨hx, hb, hml, hown, hts⟩ (c_thrown l dC dI tp te H_11.size qm lp m1 m2 m3 m4 m5 m6 m7 m8 1) (cwV 0 hts g_law_113_thrown rfl rfl rfl (by decide +kernel) ⟨Nat.le_of_ble_eq_true rfl, Nat.le_of_ble_eq_true rfl⟩) ⟨Pw.blind, va_recv hKc hPc (ci := 17) (q0 := 0) rfl rfl, Pw.mk hPc hKc hDc hG hS hFc⟩ rfl rfl hl.1 rfl (lv_room (Nat.le_of_ble_eq_true rfl)) dL_law_598 ⟨Nat.le_of_ble_eq_true rfl, Nat.le_of_ble_eq_true rfl⟩) hS (fun q _ h => hFc q h) hFc (fun r u t9 H_13 locs ht hvm hw hB hz1 hk1 hS => ?_)
  have hw : r = 1 := hw
  subst hw
  obtain ⟨hP1, hK1, hD1⟩ := hB
  rw [ht] at hP1
  have hK1 := va_K.moved hvm.symm hK1
  obtain ⟨hP, hD⟩ := va_join (wr := []) (w1 := [(qm, .inr (17, [.ref lp, .null, .null, .int 0, .int 1, .ref m1, .ref m2, .ref m3, .ref m4, .ref m5, .null, .null, .int 0, .ref m6, .int 0, .int 0, .int 0, .long 0, .null, .ref m7, .ref m8, .int 0, .int 0, .long 0]))]) hP hD [0] [] rfl rfl (by decide) (by decide) hk1 hFc hP1 hD1
  have hK := (hK.sub (tys' := []) [] rfl).app hK1
  have hP : va_P (dC, dI) vwCl [(qm, .inr (17, [.ref lp, .null, .null, .int 0, .int 1, .ref m1, .ref m2, .ref m3, .ref m4, .ref m5, .null, .null, .int 0, .ref m6, .int 0, .int 0, .int 0, .long 0, .null, .ref m7, .ref m8, .int 0, .int 0, .long 0]))] H_13 := hP
  have hD : va_D A [(qm, .inr (17, [.ref lp, .null, .null, .int 0, .int 1, .ref m1, .ref m2, .ref m3, .ref m4, .ref m5, .null, .null, .int 0, .ref m6, .int 0, .int 0, .int 0, .long 0, .null, .ref m7, .ref m8, .int 0, .int 0, .long 0]))] := hD
  have hK : va_K (dC, dI) vwCl [] s := hK
  refine W.widen (k := 90) (n := 78009) (Nat.le_of_ble_eq_true rfl) (Nat.le_of_ble_eq_true rfl) ?_
  refine lv_iload hx hb dL_law_601 (lv_at hl 1 rfl) ?_
  refine lv_icmp_eq (tgt := 608) hx hb dL_law_603 (by decide) (fun c9 => ?_) (fun c9 => absurd (by decide) c9)
  refine lv_iload hx hb dL_law_608 (lv_at hl 1 rfl) ?_
  refine lv_if_ne (tgt := 625) hx hb dL_law_610 (by decide) (fun c9 => ?_) (fun c9 => absurd c9 (by decide))
  refine lv_goto (tgt := 1569) hx hb dL_law_625 (by decide) ?_
  exact lc_next C0 hAA hS (lv_sub hl [6, 2] rfl) (Nat.le_of_ble_eq_true rfl) (Nat.le_of_ble_eq_true rfl)
set_option maxHeartbeats 4000000 in
set_option maxRecDepth 100000 in
theorem lc_rec_ok {p : Program} {l : Launch} {e : Env} {s : State} {m : MethodId} {below : List Frame} {meth : Method} {c : Code} (hlt : l.stackTraces = false) {b : Nat} {xs : Nat → Int32} (C0 : lw_At p s m meth c b 3 xs) {A : Nat → Prop} (hAA : A = fun q : Nat => s.heap.size ≤ q) {dC : Nat → ClassId} {dI : Nat → Nat → Nat} {tp te : Nat} (hG : gx tp te A s s.heap) {qx rp rt rc r1 r2 r3 r4 a1 a2 a3 a4 a5 a6 a7 t1 t2 t3 t4 t5 t6 t7 c1 c2 c3 c4 c5 c6 c7 qm lp m1 m2 m3 m4 m5 m6 m7 m8 qo : Nat} {k1 k2 k3 k4 k5 k6 k7 ko : ClassId} {H : Heap} {locs : List Loc} (hK : va_K (dC, dI) vwCl [(k1, .int), (k2, .int), (k3, .int), (k4, .long), (k5, .int), (k6, .int), (k7, .int), (ko, .long)] s) (hP : va_P (dC, dI) vwCl [(qx, .inr (8, [.ref rp, .int 0, .ref rt, .ref rc, .int ((-1)), .ref r1, .ref r2, .ref r3, .ref r4, .null, .int 0])), (rp, .inr (6, [.ref a1, .ref a2, .ref a3, .ref a4, .ref a5, .ref a6, .ref a7, .int 0])), (a1, .inl (k1, 1200, .inl (fun _ => 0))), (a2, .inl (k2, 1200, .inl (fun _ => 0))), (a3, .inl (k3, 1200, .inl (fun _ => 0))), (a4, .inl (k4, 1200, .inr (.inl (fun _ => 0)))), (a5, .inl (k5, 1200, .inl (fun _ => 0))), (a6, .inl (k6, 1200, .inl (fun _ => 0))), (a7, .inl (k7, 1200, .inl (fun _ => 0))), (rt, .inr (6, [.ref t1, .ref t2, .ref t3, .ref t4, .ref t5, .ref t6, .ref t7, .int 0])), (rc, .inr (6, [.ref c1, .ref c2, .ref c3, .ref c4, .ref c5, .ref c6, .ref c7, .int 0])), (qm, .inr (17, [.ref lp, .null, .null, .int 0, .int 0, .ref m1, .ref m2, .ref m3, .ref m4, .ref m5, .null, .null, .int 0, .ref m6, .int 0, .int 0, .int 0, .long 0, .null, .ref m7, .ref m8, .int 0, .int 0, .long 0])), (lp, .inr (0, [.int 0, .ref te, .int 0])), (qo, .inl (ko, 1, .inr (.inl (fun _ => 0))))] H) (hD : va_D A [(qx, .inr (8, [.ref rp, .int 0, .ref rt, .ref rc, .int ((-1)), .ref r1, .ref r2, .ref r3, .ref r4, .null, .int 0])), (rp, .inr (6, [.ref a1, .ref a2, .ref a3, .ref a4, .ref a5, .ref a6, .ref a7, .int 0])), (a1, .inl (k1, 1200, .inl (fun _ => 0))), (a2, .inl (k2, 1200, .inl (fun _ => 0))), (a3, .inl (k3, 1200, .inl (fun _ => 0))), (a4, .inl (k4, 1200, .inr (.inl (fun _ => 0)))), (a5, .inl (k5, 1200, .inl (fun _ => 0))), (a6, .inl (k6, 1200, .inl (fun _ => 0))), (a7, .inl (k7, 1200, .inl (fun _ => 0))), (rt, .inr (6, [.ref t1, .ref t2, .ref t3, .ref t4, .ref t5, .ref t6, .ref t7, .int 0])), (rc, .inr (6, [.ref c1, .ref c2, .ref c3, .ref c4, .ref c5, .ref c6, .ref c7, .int 0])), (qm, .inr (17, [.ref lp, .null, .null, .int 0, .int 0, .ref m1, .ref m2, .ref m3, .ref m4, .ref m5, .null, .null, .int 0, .ref m6, .int 0, .int 0, .int 0, .long 0, .null, .ref m7, .ref m8, .int 0, .int 0, .long 0])), (lp, .inr (0, [.int 0, .ref te, .int 0])), (qo, .inl (ko, 1, .inr (.inl (fun _ => 0))))]) (hS : va_S A s.heap H locs) {ls : Array Slot} (hl : lv_has ls 8 [(4, .int 0), (3, .ref qo), (2, .ref qm), (1, .ref qx), (0, .ref b)]) (p1 p2 : Int32) (e1 : xs (1 : Int32).toNatClampNeg = p1) (e2 : xs (2 : Int32).toNatClampNeg = p2) (hvn : ¬ p1 < 0) (hvb : p1 < 10) (hvc : ¬ 10 ≤ p1) (hvnx : ¬ p2 < 0) (hvbx : p2 < 10) (hvcx : ¬ 10 ≤ p2) : W p l e room_1 s m #[Value.ref b] below meth c H locs 89 78003 (lw_Z below #[Value.ref b] s) (F0 m 560 ls []) := by
  obtain ⟨hx, hb, hr, hml, hown, hts0, hX, hbl, hlocks, hgv⟩ := id C0
  have hts : ∀ w ∈ z_law, w.before #[Value.ref b] s = true := fun w h => hts0 w (z_law_in w h)
  have hown : s.vm.findClass RL = some m.cls := hown
  have hA : ∀ q : Nat, s.heap.size ≤ q → A q := fun q h => by rw [hAA]; exact h
  have hbA : ¬ A b := by rw [hAA]; exact Nat.not_le.mpr hbl
  have hP := hP.sub (ws' := [(qx, .inr (8, [.ref rp, .int 0, .ref rt, .ref rc, .int ((-1)), .ref r1, .ref r2, .ref r3, .ref r4, .null, .int 0])), (qm, .inr (17, [.ref lp, .null, .null, .int 0, .int 0, .ref m1, .ref m2, .ref m3, .ref m4, .ref m5, .null, .null, .int 0, .ref m6, .int 0, .int 0, .int 0, .long 0, .null, .ref m7, .ref m8, .int 0, .int 0, .long 0])), (lp, .inr (0, [.int 0, .ref te, .int 0]))]) [0, 11, 12] rfl
  have hD := hD.sub (ws' := [(qx, .inr (8, [.ref rp, .int 0, .ref rt, .ref rc, .int ((-1)), .ref r1, .ref r2, .ref r3, .ref r4, .null, .int 0])), (qm, .inr (17, [.ref lp, .null, .null, .int 0, .int 0, .ref m1, .ref m2, .ref m3, .ref m4, .ref m5, .null, .null, .int 0, .ref m6, .int 0, .int 0, .int 0, .long 0, .null, .ref m7, .ref m8, .int 0, .int 0, .long 0])), (lp, .inr (0, [.int 0, .ref te, .int 0]))]) [0, 11, 12] (by decide) rfl
  have hK := hK.sub (tys' := []) [] rfl
  have hP : va_P (dC, dI) vwCl [(qx, .inr (8, [.ref rp, .int 0, .ref rt, .ref rc, .int ((-1)), .ref r1, .ref r2, .ref r3, .ref r4, .null, .int 0])), (qm, .inr (17, [.ref lp, .null, .null, .int 0, .int 0, .ref m1, .ref m2, .ref m3, .ref m4, .ref m5, .null, .null, .int 0, .ref m6, .int 0, .int 0, .int 0, .long 0, .null, .ref m7, .ref m8, .int 0, .int 0, .long 0])), (lp, .inr (0, [.int 0, .ref te, .int 0]))] H := hP
  have hD : va_D A [(qx, .inr (8, [.ref rp, .int 0, .ref rt, .ref rc, .int ((-1)), .ref r1, .ref r2, .ref r3, .ref r4, .null, .int 0])), (qm, .inr (17, [.ref lp, .null, .null, .int 0, .int 0, .ref m1, .ref m2, .ref m3, .ref m4, .ref m5, .null, .null, .int 0, .ref m6, .int 0, .int 0, .int 0, .long 0, .null, .ref m7, .ref m8, .int 0, .int 0, .long 0])), (lp, .inr (0, [.int 0, .ref te, .int 0]))] := hD
  have hK : va_K (dC, dI) vwCl [] s := hK
  refine lv_aload_n hx hb dL_law_560 rfl (lv_at hl 3 rfl) ?_
  refine lv_aload_n hx hb dL_law_561 rfl (lv_at hl 4 rfl) ?_
  refine lv_iload hx hb dL_law_562 (lv_at hl 0 rfl) ?_
  refine lv_iconst (v := 1) hx hb dL_law_564 (by decide) ?_
  refine lv_iadd hx hb dL_law_565 ?_
  refine lv_topi (fun z_1 ez_1 => ?_)
  obtain rfl : z_1 = 1 := ez_1.trans (by decide)
  refine va_sld hx hb hX hbl hbA hS (by unfold vp_in; decide +kernel) dL_law_566 ?_
  refine lv_topi (fun z_2 ez_2 => ?_)
  obtain rfl : p1 = z_2 := (ez_2.trans e1).symm
  refine lv_aload_n hx hb dL_law_567 rfl (lv_at hl 4 rfl) ?_
  refine lv_iload hx hb dL_law_568 (lv_at hl 0 rfl) ?_
  refine lv_iconst (v := 2) hx hb dL_law_570 (by decide) ?_
  refine lv_iadd hx hb dL_law_571 ?_
  refine lv_topi (fun z_3 ez_3 => ?_)
  obtain rfl : z_3 = 2 := ez_3.trans (by decide)
  refine va_sld hx hb hX hbl hbA hS (by unfold vp_in; decide +kernel) dL_law_572 ?_
  refine lv_topi (fun z_4 ez_4 => ?_)
  obtain rfl : p2 = z_4 := (ez_4.trans e2).symm
  refine lv_aload_n hx hb dL_law_573 rfl (lv_at hl 1 rfl) ?_
  have hPc := hP.sub (ws' := [(qx, .inr (8, [.ref rp, .int 0, .ref rt, .ref rc, .int ((-1)), .ref r1, .ref r2, .ref r3, .ref r4, .null, .int 0]))]) [0] rfl
  have hDc := hD.sub (ws' := [(qx, .inr (8, [.ref rp, .int 0, .ref rt, .ref rc, .int ((-1)), .ref r1, .ref r2, .ref r3, .ref r4, .null, .int 0]))]) [0] (by decide) rfl
  have hKc := hK.sub (tys' := []) [] rfl
  have hFc := va_free (wc := [(qx, .inr (8, [.ref rp, .int 0, .ref rt, .ref rc, .int ((-1)), .ref r1, .ref r2, .ref r3, .ref r4, .null, .int 0]))]) hD hS hA [0] rfl
  refine vx_calli (vx_runSX (As := [.ref qx, .int p1, .int p2, .ref qo]) (rest := []) ⟨hx, hb, hml, hown, hts⟩ (c_L_rec_ok l dC dI tp te H.size hlt qx rp rt rc r1 r2 r3 r4 p1 p2 qo hvn hvb hvc hvnx hvbx hvcx) (vx_cwSW 4 hts g_law_136_L_rec_ok rfl rfl rfl (by decide +kernel) ⟨Nat.le_of_ble_eq_true rfl, Nat.le_of_ble_eq_true rfl⟩) ⟨Pw.blind, Pw.mk hPc hKc hDc hG hS hFc⟩ rfl rfl hl.1 rfl (lv_room (Nat.le_of_ble_eq_true rfl)) dL_law_574 ⟨Nat.le_of_ble_eq_true rfl, Nat.le_of_ble_eq_true rfl⟩) hS (fun q _ h => hFc q h) hFc (fun q _ h => hFc q h) (fun E ce q9 u t9 H1 locs ht hvm hpx hBX hz1 hk1 hS hce hcv hcl => hpx.elim) (fun r u t9 H_5 locs ht hvm hw hB hz1 hk1 hS => ?_)
  have hw : r = 2 := hw
  subst hw
  obtain ⟨hP, hD⟩ := va_join (wr := [(qm, .inr (17, [.ref lp, .null, .null, .int 0, .int 0, .ref m1, .ref m2, .ref m3, .ref m4, .ref m5, .null, .null, .int 0, .ref m6, .int 0, .int 0, .int 0, .long 0, .null, .ref m7, .ref m8, .int 0, .int 0, .long 0])), (lp, .inr (0, [.int 0, .ref te, .int 0]))]) (w1 := []) hP hD [0] [1, 2] rfl rfl (by decide) (by decide) hk1 hFc va_P.nil va_D.nil
  have hK := hK.sub (tys' := []) [] rfl
  have hP : va_P (dC, dI) vwCl [(qm, .inr (17, [.ref lp, .null, .null, .int 0, .int 0, .ref m1, .ref m2, .ref m3, .ref m4, .ref m5, .null, .null, .int 0, .ref m6, .int 0, .int 0, .int 0, .long 0, .null, .ref m7, .ref m8, .int 0, .int 0, .long 0])), (lp, .inr (0, [.int 0, .ref te, .int 0]))] H_5 := hP
  have hD : va_D A [(qm, .inr (17, [.ref lp, .null, .null, .int 0, .int 0, .ref m1, .ref m2, .ref m3, .ref m4, .ref m5, .null, .null, .int 0, .ref m6, .int 0, .int 0, .int 0, .long 0, .null, .ref m7, .ref m8, .int 0, .int 0, .long 0])), (lp, .inr (0, [.int 0, .ref te, .int 0]))] := hD
  have hK : va_K (dC, dI) vwCl [] s := hK
  refine W.widen (k := 90) (n := 78009) (Nat.le_of_ble_eq_true rfl) (Nat.le_of_ble_eq_true rfl) ?_
  refine lv_istore (lv' := [(5, .int 2), (4, .int 0), (3, .ref qo), (2, .ref qm), (1, .ref qx), (0, .ref b)]) hx hb dL_law_577 hl (by decide) rfl (fun ls hl => ?_)
  refine lv_aload_n hx hb dL_law_579 rfl (lv_at hl 3 rfl) ?_
  refine lv_aload_n hx hb dL_law_580 rfl (lv_at hl 5 rfl) ?_
  refine lv_iload hx hb dL_law_581 (lv_at hl 1 rfl) ?_
  refine lv_iconst (v := 1) hx hb dL_law_583 (by decide) ?_
  refine lv_iadd hx hb dL_law_584 ?_
  refine lv_topi (fun z_7 ez_7 => ?_)
  obtain rfl : z_7 = 1 := ez_7.trans (by decide)
  refine va_sld hx hb hX hbl hbA hS (by unfold vp_in; decide +kernel) dL_law_585 ?_
  refine lv_topi (fun z_8 ez_8 => ?_)
  obtain rfl : p1 = z_8 := (ez_8.trans e1).symm
  refine lv_aload_n hx hb dL_law_586 rfl (lv_at hl 5 rfl) ?_
  refine lv_iload hx hb dL_law_587 (lv_at hl 1 rfl) ?_
  refine lv_iconst (v := 2) hx hb dL_law_589 (by decide) ?_
  refine lv_iadd hx hb dL_law_590 ?_
  refine lv_topi (fun z_9 ez_9 => ?_)
  obtain rfl : z_9 = 2 := ez_9.trans (by decide)
  refine va_sld hx hb hX hbl hbA hS (by unfold vp_in; decide +kernel) dL_law_591 ?_
  refine lv_topi (fun z_10 ez_10 => ?_)
  obtain rfl : p2 = z_10 := (ez_10.trans e2).symm
  have hPc := hP.sub (ws' := [(qm, .inr (17, [.ref lp, .null, .null, .int 0, .int 0, .ref m1, .ref m2, .ref m3, .ref m4, .ref m5, .null, .null, .int 0, .ref m6, .int 0, .int 0, .int 0, .long 0, .null, .ref m7, .ref m8, .int 0, .int 0, .long 0])), (lp, .inr (0, [.int 0, .ref te, .int 0]))]) [0, 1] rfl
  have hDc := hD.sub (ws' := [(qm, .inr (17, [.ref lp, .null, .null, .int 0, .int 0, .ref m1, .ref m2, .ref m3, .ref m4, .ref m5, .null, .null, .int 0, .ref m6, .int 0, .int 0, .int 0, .long 0, .null, .ref m7, .ref m8, .int 0, .int 0, .long 0])), (lp, .inr (0, [.int 0, .ref te, .int 0]))]) [0, 1] (by decide) rfl
  have hKc := hK.sub (tys' := []) [] rfl
  have hFc := va_free (wc := [(qm, .inr (17, [.ref lp, .null, .null, .int 0, .int 0, .ref m1, .ref m2, .ref m3, .ref m4, .ref m5, .null, .null, .int 0, .ref m6, .int 0, .int 0, .int 0, .long 0, .null, .ref m7, .ref m8, .int 0, .int 0, .long 0])), (lp, .inr (0, [.int 0, .ref te, .int 0]))]) hD hS hA [0, 1] rfl
  refine va_calli (va_runV (As := [.int p1, .int p2]) (rest := []) ⟨hx, hb, hml, hown, hts⟩ (c_M_rec_ok l dC dI tp te H_5.size qm lp m1 m2 m3 m4 m5 m6 m7 m8 p1 p2 hvn hvb hvc hvnx hvbx hvcx) (cwV 2 hts g_law_139_M_rec_ok rfl rfl rfl (by decide +kernel) ⟨Nat.le_of_ble_eq_true rfl, Nat.le_of_ble_eq_true rfl⟩) ⟨Pw.blind, va_recv hKc hPc (ci := 17) (q0 := 0) rfl rfl, Pw.mk hPc hKc hDc hG hS hFc⟩ rfl rfl hl.1 rfl (lv_room (Nat.le_of_ble_eq_true rfl)) dL_law_592 ⟨Nat.le_of_ble_eq_true rfl, Nat.le_of_ble_eq_true rfl⟩) hS (fun q _ h => hFc q h) hFc (fun r u t9 H_11 locs ht hvm hw hB hz1 hk1 hS => ?_)
  have hw : r = 0 := hw
  subst hw
  obtain ⟨hP1, hK1, hD1⟩ := hB
  rw [ht] at hP1
  have hK1 := va_K.moved hvm.symm hK1
  obtain ⟨hP, hD⟩ := va_join (wr := []) (w1 := [(qm, .inr (17, [.ref lp, .null, .null, .int 0, .int 2, .ref m1, .ref m2, .ref m3, .ref m4, .ref m5, .null, .null, .int 0, .ref m6, .int 0, .int 0, .int 0, .long 0, .null, .ref m7, .ref m8, .int 0, .int 0, .long 0]))]) hP hD [0, 1] [] rfl rfl (by decide) (by decide) hk1 hFc hP1 hD1
  have hK := (hK.sub (tys' := []) [] rfl).app hK1
  have hP : va_P (dC, dI) vwCl [(qm, .inr (17, [.ref lp, .null, .null, .int 0, .int 2, .ref m1, .ref m2, .ref m3, .ref m4, .ref m5, .null, .null, .int 0, .ref m6, .int 0, .int 0, .int 0, .long 0, .null, .ref m7, .ref m8, .int 0, .int 0, .long 0]))] H_11 := hP
  have hD : va_D A [(qm, .inr (17, [.ref lp, .null, .null, .int 0, .int 2, .ref m1, .ref m2, .ref m3, .ref m4, .ref m5, .null, .null, .int 0, .ref m6, .int 0, .int 0, .int 0, .long 0, .null, .ref m7, .ref m8, .int 0, .int 0, .long 0]))] := hD
  have hK : va_K (dC, dI) vwCl [] s := hK
  refine W.widen (k := 90) (n := 78009) (Nat.le_of_ble_eq_true rfl) (Nat.le_of_ble_eq_true rfl) ?_
  refine lv_istore (lv' := [(6, .int 0), (5, .int 2), (4, .int 0), (3, .ref qo), (2, .ref qm), (1, .ref qx), (0, .ref b)]) hx hb dL_law_595 hl (by decide) rfl (fun ls hl => ?_)
  refine lv_aload_n hx hb dL_law_597 rfl (lv_at hl 4 rfl) ?_
  have hPc := hP.sub (ws' := [(qm, .inr (17, [.ref lp, .null, .null, .int 0, .int 2, .ref m1, .ref m2, .ref m3, .ref m4, .ref m5, .null, .null, .int 0, .ref m6, .int 0, .int 0, .int 0, .long 0, .null, .ref m7, .ref m8, .int 0, .int 0, .long 0]))]) [0] rfl
  have hDc := hD.sub (ws' := [(qm, .inr (17, [.ref lp, .null, .null, .int 0, .int 2, .ref m1, .ref m2, .ref m3, .ref m4, .ref m5, .null, .null, .int 0, .ref m6, .int 0, .int 0, .int 0, .long 0, .null, .ref m7, .ref m8, .int 0, .int 0, .long 0]))]) [0] (by decide) rfl
  have hKc := hK.sub (tys' := []) [] rfl
  have hFc := va_free (wc := [(qm, .inr (17, [.ref lp, .null, .null, .int 0, .int 2, .ref m1, .ref m2, .ref m3, .ref m4, .ref m5, .null, .null, .int 0, .ref m6, .int 0, .int 0, .int 0, .long 0, .null, .ref m7, .ref m8, .int 0, .int 0, .long 0]))]) hD hS hA [0] rfl
  refine va_calli (va_runV (As := []) (rest := []) ⟨hx, hb, hml, hown, hts⟩ (c_thrown l dC dI tp te H_11.size qm lp m1 m2 m3 m4 m5 m6 m7 m8 2) (cwV 0 hts g_law_113_thrown rfl rfl rfl (by decide +kernel) ⟨Nat.le_of_ble_eq_true rfl, Nat.le_of_ble_eq_true rfl⟩) ⟨Pw.blind, va_recv hKc hPc (ci := 17) (q0 := 0) rfl rfl, Pw.mk hPc hKc hDc hG hS hFc⟩ rfl rfl hl.1 rfl (lv_room (Nat.le_of_ble_eq_true rfl)) dL_law_598 ⟨Nat.le_of_ble_eq_true rfl, Nat.le_of_ble_eq_true rfl⟩) hS (fun q _ h => hFc q h) hFc (fun r u t9 H_13 locs ht hvm hw hB hz1 hk1 hS => ?_)
  have hw : r = 2 := hw
  subst hw
  obtain ⟨hP1, hK1, hD1⟩ := hB
  rw [ht] at hP1
  have hK1 := va_K.moved hvm.symm hK1
  obtain ⟨hP, hD⟩ := va_join (wr := []) (w1 := [(qm, .inr (17, [.ref lp, .null, .null, .int 0, .int 2, .ref m1, .ref m2, .ref m3, .ref m4, .ref m5, .null, .null, .int 0, .ref m6, .int 0, .int 0, .int 0, .long 0, .null, .ref m7, .ref m8, .int 0, .int 0, .long 0]))]) hP hD [0] [] rfl rfl (by decide) (by decide) hk1 hFc hP1 hD1
  have hK := (hK.sub (tys' := []) [] rfl).app hK1
  have hP : va_P (dC, dI) vwCl [(qm, .inr (17, [.ref lp, .null, .null, .int 0, .int 2, .ref m1, .ref m2, .ref m3, .ref m4, .ref m5, .null, .null, .int 0, .ref m6, .int 0, .int 0, .int 0, .long 0, .null, .ref m7, .ref m8, .int 0, .int 0, .long 0]))] H_13 := hP
  have hD : va_D A [(qm, .inr (17, [.ref lp, .null, .null, .int 0, .int 2, .ref m1, .ref m2, .ref m3, .ref m4, .ref m5, .null, .null, .int 0, .ref m6, .int 0, .int 0, .int 0, .long 0, .null, .ref m7, .ref m8, .int 0, .int 0, .long 0]))] := hD
  have hK : va_K (dC, dI) vwCl [] s := hK
  refine W.widen (k := 90) (n := 78009) (Nat.le_of_ble_eq_true rfl) (Nat.le_of_ble_eq_true rfl) ?_
  refine lv_iload hx hb dL_law_601 (lv_at hl 1 rfl) ?_
  refine lv_icmp_eq (tgt := 608) hx hb dL_law_603 (by decide) (fun c9 => ?_) (fun c9 => absurd (by decide) c9)
  refine lv_iload hx hb dL_law_608 (lv_at hl 1 rfl) ?_
  refine lv_if_ne (tgt := 625) hx hb dL_law_610 (by decide) (fun c9 => ?_) (fun c9 => absurd c9 (by decide))
  refine lv_goto (tgt := 1569) hx hb dL_law_625 (by decide) ?_
  exact lc_next C0 hAA hS (lv_sub hl [6, 2] rfl) (Nat.le_of_ble_eq_true rfl) (Nat.le_of_ble_eq_true rfl)
set_option maxHeartbeats 4000000 in
set_option maxRecDepth 100000 in
theorem lc_pair {p : Program} {l : Launch} {e : Env} {s : State} {m : MethodId} {below : List Frame} {meth : Method} {c : Code} (hlt : l.stackTraces = false) {b : Nat} {xs : Nat → Int32} (C0 : lw_At p s m meth c b 3 xs) {A : Nat → Prop} (hAA : A = fun q : Nat => s.heap.size ≤ q) {dC : Nat → ClassId} {dI : Nat → Nat → Nat} {tp te : Nat} (hG : gx tp te A s s.heap) {qx rp rt rc r1 r2 r3 r4 a1 a2 a3 a4 a5 a6 a7 t1 t2 t3 t4 t5 t6 t7 c1 c2 c3 c4 c5 c6 c7 qm lp m1 m2 m3 m4 m5 m6 m7 m8 qo : Nat} {k1 k2 k3 k4 k5 k6 k7 ko : ClassId} {H : Heap} {locs : List Loc} (hK : va_K (dC, dI) vwCl [(k1, .int), (k2, .int), (k3, .int), (k4, .long), (k5, .int), (k6, .int), (k7, .int), (ko, .long)] s) (hP : va_P (dC, dI) vwCl [(qx, .inr (8, [.ref rp, .int 0, .ref rt, .ref rc, .int ((-1)), .ref r1, .ref r2, .ref r3, .ref r4, .null, .int 0])), (rp, .inr (6, [.ref a1, .ref a2, .ref a3, .ref a4, .ref a5, .ref a6, .ref a7, .int 0])), (a1, .inl (k1, 1200, .inl (fun _ => 0))), (a2, .inl (k2, 1200, .inl (fun _ => 0))), (a3, .inl (k3, 1200, .inl (fun _ => 0))), (a4, .inl (k4, 1200, .inr (.inl (fun _ => 0)))), (a5, .inl (k5, 1200, .inl (fun _ => 0))), (a6, .inl (k6, 1200, .inl (fun _ => 0))), (a7, .inl (k7, 1200, .inl (fun _ => 0))), (rt, .inr (6, [.ref t1, .ref t2, .ref t3, .ref t4, .ref t5, .ref t6, .ref t7, .int 0])), (rc, .inr (6, [.ref c1, .ref c2, .ref c3, .ref c4, .ref c5, .ref c6, .ref c7, .int 0])), (qm, .inr (17, [.ref lp, .null, .null, .int 0, .int 0, .ref m1, .ref m2, .ref m3, .ref m4, .ref m5, .null, .null, .int 0, .ref m6, .int 0, .int 0, .int 0, .long 0, .null, .ref m7, .ref m8, .int 0, .int 0, .long 0])), (lp, .inr (0, [.int 0, .ref te, .int 0])), (qo, .inl (ko, 1, .inr (.inl (fun _ => 0))))] H) (hD : va_D A [(qx, .inr (8, [.ref rp, .int 0, .ref rt, .ref rc, .int ((-1)), .ref r1, .ref r2, .ref r3, .ref r4, .null, .int 0])), (rp, .inr (6, [.ref a1, .ref a2, .ref a3, .ref a4, .ref a5, .ref a6, .ref a7, .int 0])), (a1, .inl (k1, 1200, .inl (fun _ => 0))), (a2, .inl (k2, 1200, .inl (fun _ => 0))), (a3, .inl (k3, 1200, .inl (fun _ => 0))), (a4, .inl (k4, 1200, .inr (.inl (fun _ => 0)))), (a5, .inl (k5, 1200, .inl (fun _ => 0))), (a6, .inl (k6, 1200, .inl (fun _ => 0))), (a7, .inl (k7, 1200, .inl (fun _ => 0))), (rt, .inr (6, [.ref t1, .ref t2, .ref t3, .ref t4, .ref t5, .ref t6, .ref t7, .int 0])), (rc, .inr (6, [.ref c1, .ref c2, .ref c3, .ref c4, .ref c5, .ref c6, .ref c7, .int 0])), (qm, .inr (17, [.ref lp, .null, .null, .int 0, .int 0, .ref m1, .ref m2, .ref m3, .ref m4, .ref m5, .null, .null, .int 0, .ref m6, .int 0, .int 0, .int 0, .long 0, .null, .ref m7, .ref m8, .int 0, .int 0, .long 0])), (lp, .inr (0, [.int 0, .ref te, .int 0])), (qo, .inl (ko, 1, .inr (.inl (fun _ => 0))))]) (hS : va_S A s.heap H locs) {ls : Array Slot} (hl : lv_has ls 8 [(4, .int 0), (3, .ref qo), (2, .ref qm), (1, .ref qx), (0, .ref b)]) (p1 p2 : Int32) (e1 : xs (1 : Int32).toNatClampNeg = p1) (e2 : xs (2 : Int32).toNatClampNeg = p2)  : W p l e room_1 s m #[Value.ref b] below meth c H locs 89 78003 (lw_Z below #[Value.ref b] s) (F0 m 628 ls []) := by
  obtain ⟨hx, hb, hr, hml, hown, hts0, hX, hbl, hlocks, hgv⟩ := id C0
  have hts : ∀ w ∈ z_law, w.before #[Value.ref b] s = true := fun w h => hts0 w (z_law_in w h)
  have hown : s.vm.findClass RL = some m.cls := hown
  have hA : ∀ q : Nat, s.heap.size ≤ q → A q := fun q h => by rw [hAA]; exact h
  have hbA : ¬ A b := by rw [hAA]; exact Nat.not_le.mpr hbl
  have hP := hP.sub (ws' := [(qx, .inr (8, [.ref rp, .int 0, .ref rt, .ref rc, .int ((-1)), .ref r1, .ref r2, .ref r3, .ref r4, .null, .int 0])), (qm, .inr (17, [.ref lp, .null, .null, .int 0, .int 0, .ref m1, .ref m2, .ref m3, .ref m4, .ref m5, .null, .null, .int 0, .ref m6, .int 0, .int 0, .int 0, .long 0, .null, .ref m7, .ref m8, .int 0, .int 0, .long 0])), (lp, .inr (0, [.int 0, .ref te, .int 0]))]) [0, 11, 12] rfl
  have hD := hD.sub (ws' := [(qx, .inr (8, [.ref rp, .int 0, .ref rt, .ref rc, .int ((-1)), .ref r1, .ref r2, .ref r3, .ref r4, .null, .int 0])), (qm, .inr (17, [.ref lp, .null, .null, .int 0, .int 0, .ref m1, .ref m2, .ref m3, .ref m4, .ref m5, .null, .null, .int 0, .ref m6, .int 0, .int 0, .int 0, .long 0, .null, .ref m7, .ref m8, .int 0, .int 0, .long 0])), (lp, .inr (0, [.int 0, .ref te, .int 0]))]) [0, 11, 12] (by decide) rfl
  have hK := hK.sub (tys' := []) [] rfl
  have hP : va_P (dC, dI) vwCl [(qx, .inr (8, [.ref rp, .int 0, .ref rt, .ref rc, .int ((-1)), .ref r1, .ref r2, .ref r3, .ref r4, .null, .int 0])), (qm, .inr (17, [.ref lp, .null, .null, .int 0, .int 0, .ref m1, .ref m2, .ref m3, .ref m4, .ref m5, .null, .null, .int 0, .ref m6, .int 0, .int 0, .int 0, .long 0, .null, .ref m7, .ref m8, .int 0, .int 0, .long 0])), (lp, .inr (0, [.int 0, .ref te, .int 0]))] H := hP
  have hD : va_D A [(qx, .inr (8, [.ref rp, .int 0, .ref rt, .ref rc, .int ((-1)), .ref r1, .ref r2, .ref r3, .ref r4, .null, .int 0])), (qm, .inr (17, [.ref lp, .null, .null, .int 0, .int 0, .ref m1, .ref m2, .ref m3, .ref m4, .ref m5, .null, .null, .int 0, .ref m6, .int 0, .int 0, .int 0, .long 0, .null, .ref m7, .ref m8, .int 0, .int 0, .long 0])), (lp, .inr (0, [.int 0, .ref te, .int 0]))] := hD
  have hK : va_K (dC, dI) vwCl [] s := hK
  refine lv_aload_n hx hb dL_law_628 rfl (lv_at hl 3 rfl) ?_
  refine lv_aload_n hx hb dL_law_629 rfl (lv_at hl 1 rfl) ?_
  have hPc := hP.sub (ws' := [(qx, .inr (8, [.ref rp, .int 0, .ref rt, .ref rc, .int ((-1)), .ref r1, .ref r2, .ref r3, .ref r4, .null, .int 0]))]) [0] rfl
  have hDc := hD.sub (ws' := [(qx, .inr (8, [.ref rp, .int 0, .ref rt, .ref rc, .int ((-1)), .ref r1, .ref r2, .ref r3, .ref r4, .null, .int 0]))]) [0] (by decide) rfl
  have hKc := hK.sub (tys' := []) [] rfl
  have hFc := va_free (wc := [(qx, .inr (8, [.ref rp, .int 0, .ref rt, .ref rc, .int ((-1)), .ref r1, .ref r2, .ref r3, .ref r4, .null, .int 0]))]) hD hS hA [0] rfl
  refine vx_calli (vx_runSX (As := [.ref qx, .ref qo]) (rest := []) ⟨hx, hb, hml, hown, hts⟩ (c_L_pair l dC dI tp te H.size hlt qx rp rt rc r1 r2 r3 r4 qo) (vx_cwSW 2 hts g_law_140_L_pair rfl rfl rfl (by decide +kernel) ⟨Nat.le_of_ble_eq_true rfl, Nat.le_of_ble_eq_true rfl⟩) ⟨Pw.blind, Pw.mk hPc hKc hDc hG hS hFc⟩ rfl rfl hl.1 rfl (lv_room (Nat.le_of_ble_eq_true rfl)) dL_law_630 ⟨Nat.le_of_ble_eq_true rfl, Nat.le_of_ble_eq_true rfl⟩) hS (fun q _ h => hFc q h) hFc (fun q _ h => hFc q h) (fun E ce q9 u t9 H1 locs ht hvm hpx hBX hz1 hk1 hS hce hcv hcl => hpx.elim) (fun r u t9 H_1 locs ht hvm hw hB hz1 hk1 hS => ?_)
  have hw : r = 1 := hw
  subst hw
  obtain ⟨hP, hD⟩ := va_join (wr := [(qm, .inr (17, [.ref lp, .null, .null, .int 0, .int 0, .ref m1, .ref m2, .ref m3, .ref m4, .ref m5, .null, .null, .int 0, .ref m6, .int 0, .int 0, .int 0, .long 0, .null, .ref m7, .ref m8, .int 0, .int 0, .long 0])), (lp, .inr (0, [.int 0, .ref te, .int 0]))]) (w1 := []) hP hD [0] [1, 2] rfl rfl (by decide) (by decide) hk1 hFc va_P.nil va_D.nil
  have hK := hK.sub (tys' := []) [] rfl
  have hP : va_P (dC, dI) vwCl [(qm, .inr (17, [.ref lp, .null, .null, .int 0, .int 0, .ref m1, .ref m2, .ref m3, .ref m4, .ref m5, .null, .null, .int 0, .ref m6, .int 0, .int 0, .int 0, .long 0, .null, .ref m7, .ref m8, .int 0, .int 0, .long 0])), (lp, .inr (0, [.int 0, .ref te, .int 0]))] H_1 := hP
  have hD : va_D A [(qm, .inr (17, [.ref lp, .null, .null, .int 0, .int 0, .ref m1, .ref m2, .ref m3, .ref m4, .ref m5, .null, .null, .int 0, .ref m6, .int 0, .int 0, .int 0, .long 0, .null, .ref m7, .ref m8, .int 0, .int 0, .long 0])), (lp, .inr (0, [.int 0, .ref te, .int 0]))] := hD
  have hK : va_K (dC, dI) vwCl [] s := hK
  refine W.widen (k := 90) (n := 78009) (Nat.le_of_ble_eq_true rfl) (Nat.le_of_ble_eq_true rfl) ?_
  refine lv_istore (lv' := [(5, .int 1), (4, .int 0), (3, .ref qo), (2, .ref qm), (1, .ref qx), (0, .ref b)]) hx hb dL_law_633 hl (by decide) rfl (fun ls hl => ?_)
  refine lv_aload_n hx hb dL_law_635 rfl (lv_at hl 3 rfl) ?_
  have hPc := hP.sub (ws' := [(qm, .inr (17, [.ref lp, .null, .null, .int 0, .int 0, .ref m1, .ref m2, .ref m3, .ref m4, .ref m5, .null, .null, .int 0, .ref m6, .int 0, .int 0, .int 0, .long 0, .null, .ref m7, .ref m8, .int 0, .int 0, .long 0])), (lp, .inr (0, [.int 0, .ref te, .int 0]))]) [0, 1] rfl
  have hDc := hD.sub (ws' := [(qm, .inr (17, [.ref lp, .null, .null, .int 0, .int 0, .ref m1, .ref m2, .ref m3, .ref m4, .ref m5, .null, .null, .int 0, .ref m6, .int 0, .int 0, .int 0, .long 0, .null, .ref m7, .ref m8, .int 0, .int 0, .long 0])), (lp, .inr (0, [.int 0, .ref te, .int 0]))]) [0, 1] (by decide) rfl
  have hKc := hK.sub (tys' := []) [] rfl
  have hFc := va_free (wc := [(qm, .inr (17, [.ref lp, .null, .null, .int 0, .int 0, .ref m1, .ref m2, .ref m3, .ref m4, .ref m5, .null, .null, .int 0, .ref m6, .int 0, .int 0, .int 0, .long 0, .null, .ref m7, .ref m8, .int 0, .int 0, .long 0])), (lp, .inr (0, [.int 0, .ref te, .int 0]))]) hD hS hA [0, 1] rfl
  refine va_calli (va_runV (As := []) (rest := []) ⟨hx, hb, hml, hown, hts⟩ (c_M_pair l dC dI tp te H_1.size qm lp m1 m2 m3 m4 m5 m6 m7 m8) (cwV 0 hts g_law_142_M_pair rfl rfl rfl (by decide +kernel) ⟨Nat.le_of_ble_eq_true rfl, Nat.le_of_ble_eq_true rfl⟩) ⟨Pw.blind, va_recv hKc hPc (ci := 17) (q0 := 0) rfl rfl, Pw.mk hPc hKc hDc hG hS hFc⟩ rfl rfl hl.1 rfl (lv_room (Nat.le_of_ble_eq_true rfl)) dL_law_636 ⟨Nat.le_of_ble_eq_true rfl, Nat.le_of_ble_eq_true rfl⟩) hS (fun q _ h => hFc q h) hFc (fun r u t9 H_3 locs ht hvm hw hB hz1 hk1 hS => ?_)
  have hw : r = 0 := hw
  subst hw
  obtain ⟨hP1, hK1, hD1⟩ := hB
  rw [ht] at hP1
  have hK1 := va_K.moved hvm.symm hK1
  obtain ⟨hP, hD⟩ := va_join (wr := []) (w1 := [(qm, .inr (17, [.ref lp, .null, .null, .int 0, .int 1, .ref m1, .ref m2, .ref m3, .ref m4, .ref m5, .null, .null, .int 0, .ref m6, .int 0, .int 0, .int 0, .long 0, .null, .ref m7, .ref m8, .int 0, .int 0, .long 0]))]) hP hD [0, 1] [] rfl rfl (by decide) (by decide) hk1 hFc hP1 hD1
  have hK := (hK.sub (tys' := []) [] rfl).app hK1
  have hP : va_P (dC, dI) vwCl [(qm, .inr (17, [.ref lp, .null, .null, .int 0, .int 1, .ref m1, .ref m2, .ref m3, .ref m4, .ref m5, .null, .null, .int 0, .ref m6, .int 0, .int 0, .int 0, .long 0, .null, .ref m7, .ref m8, .int 0, .int 0, .long 0]))] H_3 := hP
  have hD : va_D A [(qm, .inr (17, [.ref lp, .null, .null, .int 0, .int 1, .ref m1, .ref m2, .ref m3, .ref m4, .ref m5, .null, .null, .int 0, .ref m6, .int 0, .int 0, .int 0, .long 0, .null, .ref m7, .ref m8, .int 0, .int 0, .long 0]))] := hD
  have hK : va_K (dC, dI) vwCl [] s := hK
  refine W.widen (k := 90) (n := 78009) (Nat.le_of_ble_eq_true rfl) (Nat.le_of_ble_eq_true rfl) ?_
  refine lv_istore (lv' := [(6, .int 0), (5, .int 1), (4, .int 0), (3, .ref qo), (2, .ref qm), (1, .ref qx), (0, .ref b)]) hx hb dL_law_639 hl (by decide) rfl (fun ls hl => ?_)
  refine lv_aload_n hx hb dL_law_641 rfl (lv_at hl 4 rfl) ?_
  have hPc := hP.sub (ws' := [(qm, .inr (17, [.ref lp, .null, .null, .int 0, .int 1, .ref m1, .ref m2, .ref m3, .ref m4, .ref m5, .null, .null, .int 0, .ref m6, .int 0, .int 0, .int 0, .long 0, .null, .ref m7, .ref m8, .int 0, .int 0, .long 0]))]) [0] rfl
  have hDc := hD.sub (ws' := [(qm, .inr (17, [.ref lp, .null, .null, .int 0, .int 1, .ref m1, .ref m2, .ref m3, .ref m4, .ref m5, .null, .null, .int 0, .ref m6, .int 0, .int 0, .int 0, .long 0, .null, .ref m7, .ref m8, .int 0, .int 0, .long 0]))]) [0] (by decide) rfl
  have hKc := hK.sub (tys' := []) [] rfl
  have hFc := va_free (wc := [(qm, .inr (17, [.ref lp, .null, .null, .int 0, .int 1, .ref m1, .ref m2, .ref m3, .ref m4, .ref m5, .null, .null, .int 0, .ref m6, .int 0, .int 0, .int 0, .long 0, .null, .ref m7, .ref m8, .int 0, .int 0, .long 0]))]) hD hS hA [0] rfl
  refine va_calli (va_runV (As := []) (rest := []) ⟨hx, hb, hml, hown, hts⟩ (c_thrown l dC dI tp te H_3.size qm lp m1 m2 m3 m4 m5 m6 m7 m8 1) (cwV 0 hts g_law_113_thrown rfl rfl rfl (by decide +kernel) ⟨Nat.le_of_ble_eq_true rfl, Nat.le_of_ble_eq_true rfl⟩) ⟨Pw.blind, va_recv hKc hPc (ci := 17) (q0 := 0) rfl rfl, Pw.mk hPc hKc hDc hG hS hFc⟩ rfl rfl hl.1 rfl (lv_room (Nat.le_of_ble_eq_true rfl)) dL_law_642 ⟨Nat.le_of_ble_eq_true rfl, Nat.le_of_ble_eq_true rfl⟩) hS (fun q _ h => hFc q h) hFc (fun r u t9 H_5 locs ht hvm hw hB hz1 hk1 hS => ?_)
  have hw : r = 1 := hw
  subst hw
  obtain ⟨hP1, hK1, hD1⟩ := hB
  rw [ht] at hP1
  have hK1 := va_K.moved hvm.symm hK1
  obtain ⟨hP, hD⟩ := va_join (wr := []) (w1 := [(qm, .inr (17, [.ref lp, .null, .null, .int 0, .int 1, .ref m1, .ref m2, .ref m3, .ref m4, .ref m5, .null, .null, .int 0, .ref m6, .int 0, .int 0, .int 0, .long 0, .null, .ref m7, .ref m8, .int 0, .int 0, .long 0]))]) hP hD [0] [] rfl rfl (by decide) (by decide) hk1 hFc hP1 hD1
  have hK := (hK.sub (tys' := []) [] rfl).app hK1
  have hP : va_P (dC, dI) vwCl [(qm, .inr (17, [.ref lp, .null, .null, .int 0, .int 1, .ref m1, .ref m2, .ref m3, .ref m4, .ref m5, .null, .null, .int 0, .ref m6, .int 0, .int 0, .int 0, .long 0, .null, .ref m7, .ref m8, .int 0, .int 0, .long 0]))] H_5 := hP
  have hD : va_D A [(qm, .inr (17, [.ref lp, .null, .null, .int 0, .int 1, .ref m1, .ref m2, .ref m3, .ref m4, .ref m5, .null, .null, .int 0, .ref m6, .int 0, .int 0, .int 0, .long 0, .null, .ref m7, .ref m8, .int 0, .int 0, .long 0]))] := hD
  have hK : va_K (dC, dI) vwCl [] s := hK
  refine W.widen (k := 90) (n := 78009) (Nat.le_of_ble_eq_true rfl) (Nat.le_of_ble_eq_true rfl) ?_
  refine lv_iload hx hb dL_law_645 (lv_at hl 1 rfl) ?_
  refine lv_icmp_eq (tgt := 652) hx hb dL_law_647 (by decide) (fun c9 => ?_) (fun c9 => absurd (by decide) c9)
  refine lv_iload hx hb dL_law_652 (lv_at hl 1 rfl) ?_
  refine lv_if_ne (tgt := 669) hx hb dL_law_654 (by decide) (fun c9 => ?_) (fun c9 => absurd c9 (by decide))
  refine lv_goto (tgt := 1569) hx hb dL_law_669 (by decide) ?_
  exact lc_next C0 hAA hS (lv_sub hl [6, 2] rfl) (Nat.le_of_ble_eq_true rfl) (Nat.le_of_ble_eq_true rfl)
set_option maxHeartbeats 4000000 in
set_option maxRecDepth 100000 in
theorem lc_half {p : Program} {l : Launch} {e : Env} {s : State} {m : MethodId} {below : List Frame} {meth : Method} {c : Code} (hlt : l.stackTraces = false) {b : Nat} {xs : Nat → Int32} (C0 : lw_At p s m meth c b 3 xs) {A : Nat → Prop} (hAA : A = fun q : Nat => s.heap.size ≤ q) {dC : Nat → ClassId} {dI : Nat → Nat → Nat} {tp te : Nat} (hG : gx tp te A s s.heap) {qx rp rt rc r1 r2 r3 r4 a1 a2 a3 a4 a5 a6 a7 t1 t2 t3 t4 t5 t6 t7 c1 c2 c3 c4 c5 c6 c7 qm lp m1 m2 m3 m4 m5 m6 m7 m8 qo : Nat} {k1 k2 k3 k4 k5 k6 k7 ko : ClassId} {H : Heap} {locs : List Loc} (hK : va_K (dC, dI) vwCl [(k1, .int), (k2, .int), (k3, .int), (k4, .long), (k5, .int), (k6, .int), (k7, .int), (ko, .long)] s) (hP : va_P (dC, dI) vwCl [(qx, .inr (8, [.ref rp, .int 0, .ref rt, .ref rc, .int ((-1)), .ref r1, .ref r2, .ref r3, .ref r4, .null, .int 0])), (rp, .inr (6, [.ref a1, .ref a2, .ref a3, .ref a4, .ref a5, .ref a6, .ref a7, .int 0])), (a1, .inl (k1, 1200, .inl (fun _ => 0))), (a2, .inl (k2, 1200, .inl (fun _ => 0))), (a3, .inl (k3, 1200, .inl (fun _ => 0))), (a4, .inl (k4, 1200, .inr (.inl (fun _ => 0)))), (a5, .inl (k5, 1200, .inl (fun _ => 0))), (a6, .inl (k6, 1200, .inl (fun _ => 0))), (a7, .inl (k7, 1200, .inl (fun _ => 0))), (rt, .inr (6, [.ref t1, .ref t2, .ref t3, .ref t4, .ref t5, .ref t6, .ref t7, .int 0])), (rc, .inr (6, [.ref c1, .ref c2, .ref c3, .ref c4, .ref c5, .ref c6, .ref c7, .int 0])), (qm, .inr (17, [.ref lp, .null, .null, .int 0, .int 0, .ref m1, .ref m2, .ref m3, .ref m4, .ref m5, .null, .null, .int 0, .ref m6, .int 0, .int 0, .int 0, .long 0, .null, .ref m7, .ref m8, .int 0, .int 0, .long 0])), (lp, .inr (0, [.int 0, .ref te, .int 0])), (qo, .inl (ko, 1, .inr (.inl (fun _ => 0))))] H) (hD : va_D A [(qx, .inr (8, [.ref rp, .int 0, .ref rt, .ref rc, .int ((-1)), .ref r1, .ref r2, .ref r3, .ref r4, .null, .int 0])), (rp, .inr (6, [.ref a1, .ref a2, .ref a3, .ref a4, .ref a5, .ref a6, .ref a7, .int 0])), (a1, .inl (k1, 1200, .inl (fun _ => 0))), (a2, .inl (k2, 1200, .inl (fun _ => 0))), (a3, .inl (k3, 1200, .inl (fun _ => 0))), (a4, .inl (k4, 1200, .inr (.inl (fun _ => 0)))), (a5, .inl (k5, 1200, .inl (fun _ => 0))), (a6, .inl (k6, 1200, .inl (fun _ => 0))), (a7, .inl (k7, 1200, .inl (fun _ => 0))), (rt, .inr (6, [.ref t1, .ref t2, .ref t3, .ref t4, .ref t5, .ref t6, .ref t7, .int 0])), (rc, .inr (6, [.ref c1, .ref c2, .ref c3, .ref c4, .ref c5, .ref c6, .ref c7, .int 0])), (qm, .inr (17, [.ref lp, .null, .null, .int 0, .int 0, .ref m1, .ref m2, .ref m3, .ref m4, .ref m5, .null, .null, .int 0, .ref m6, .int 0, .int 0, .int 0, .long 0, .null, .ref m7, .ref m8, .int 0, .int 0, .long 0])), (lp, .inr (0, [.int 0, .ref te, .int 0])), (qo, .inl (ko, 1, .inr (.inl (fun _ => 0))))]) (hS : va_S A s.heap H locs) {ls : Array Slot} (hl : lv_has ls 8 [(4, .int 0), (3, .ref qo), (2, .ref qm), (1, .ref qx), (0, .ref b)]) (p1 p2 : Int32) (e1 : xs (1 : Int32).toNatClampNeg = p1) (e2 : xs (2 : Int32).toNatClampNeg = p2)  : W p l e room_1 s m #[Value.ref b] below meth c H locs 89 78003 (lw_Z below #[Value.ref b] s) (F0 m 672 ls []) := by
  obtain ⟨hx, hb, hr, hml, hown, hts0, hX, hbl, hlocks, hgv⟩ := id C0
  have hts : ∀ w ∈ z_law, w.before #[Value.ref b] s = true := fun w h => hts0 w (z_law_in w h)
  have hown : s.vm.findClass RL = some m.cls := hown
  have hA : ∀ q : Nat, s.heap.size ≤ q → A q := fun q h => by rw [hAA]; exact h
  have hbA : ¬ A b := by rw [hAA]; exact Nat.not_le.mpr hbl
  have hP := hP.sub (ws' := [(qx, .inr (8, [.ref rp, .int 0, .ref rt, .ref rc, .int ((-1)), .ref r1, .ref r2, .ref r3, .ref r4, .null, .int 0])), (qm, .inr (17, [.ref lp, .null, .null, .int 0, .int 0, .ref m1, .ref m2, .ref m3, .ref m4, .ref m5, .null, .null, .int 0, .ref m6, .int 0, .int 0, .int 0, .long 0, .null, .ref m7, .ref m8, .int 0, .int 0, .long 0])), (lp, .inr (0, [.int 0, .ref te, .int 0]))]) [0, 11, 12] rfl
  have hD := hD.sub (ws' := [(qx, .inr (8, [.ref rp, .int 0, .ref rt, .ref rc, .int ((-1)), .ref r1, .ref r2, .ref r3, .ref r4, .null, .int 0])), (qm, .inr (17, [.ref lp, .null, .null, .int 0, .int 0, .ref m1, .ref m2, .ref m3, .ref m4, .ref m5, .null, .null, .int 0, .ref m6, .int 0, .int 0, .int 0, .long 0, .null, .ref m7, .ref m8, .int 0, .int 0, .long 0])), (lp, .inr (0, [.int 0, .ref te, .int 0]))]) [0, 11, 12] (by decide) rfl
  have hK := hK.sub (tys' := []) [] rfl
  have hP : va_P (dC, dI) vwCl [(qx, .inr (8, [.ref rp, .int 0, .ref rt, .ref rc, .int ((-1)), .ref r1, .ref r2, .ref r3, .ref r4, .null, .int 0])), (qm, .inr (17, [.ref lp, .null, .null, .int 0, .int 0, .ref m1, .ref m2, .ref m3, .ref m4, .ref m5, .null, .null, .int 0, .ref m6, .int 0, .int 0, .int 0, .long 0, .null, .ref m7, .ref m8, .int 0, .int 0, .long 0])), (lp, .inr (0, [.int 0, .ref te, .int 0]))] H := hP
  have hD : va_D A [(qx, .inr (8, [.ref rp, .int 0, .ref rt, .ref rc, .int ((-1)), .ref r1, .ref r2, .ref r3, .ref r4, .null, .int 0])), (qm, .inr (17, [.ref lp, .null, .null, .int 0, .int 0, .ref m1, .ref m2, .ref m3, .ref m4, .ref m5, .null, .null, .int 0, .ref m6, .int 0, .int 0, .int 0, .long 0, .null, .ref m7, .ref m8, .int 0, .int 0, .long 0])), (lp, .inr (0, [.int 0, .ref te, .int 0]))] := hD
  have hK : va_K (dC, dI) vwCl [] s := hK
  refine lv_aload_n hx hb dL_law_672 rfl (lv_at hl 3 rfl) ?_
  refine lv_aload_n hx hb dL_law_673 rfl (lv_at hl 4 rfl) ?_
  refine lv_iload hx hb dL_law_674 (lv_at hl 0 rfl) ?_
  refine lv_iconst (v := 1) hx hb dL_law_676 (by decide) ?_
  refine lv_iadd hx hb dL_law_677 ?_
  refine lv_topi (fun z_1 ez_1 => ?_)
  obtain rfl : z_1 = 1 := ez_1.trans (by decide)
  refine va_sld hx hb hX hbl hbA hS (by unfold vp_in; decide +kernel) dL_law_678 ?_
  refine lv_topi (fun z_2 ez_2 => ?_)
  obtain rfl : p1 = z_2 := (ez_2.trans e1).symm
  refine lv_if_eq (tgt := 686) hx hb dL_law_679 (by decide) (fun c_3 => ?_) (fun c_3 => ?_)
  · skip
    refine lv_iconst (v := 0) hx hb dL_law_686 (by decide) ?_
    refine lv_aload_n hx hb dL_law_687 rfl (lv_at hl 1 rfl) ?_
    have hPc := hP.sub (ws' := [(qx, .inr (8, [.ref rp, .int 0, .ref rt, .ref rc, .int ((-1)), .ref r1, .ref r2, .ref r3, .ref r4, .null, .int 0]))]) [0] rfl
    have hDc := hD.sub (ws' := [(qx, .inr (8, [.ref rp, .int 0, .ref rt, .ref rc, .int ((-1)), .ref r1, .ref r2, .ref r3, .ref r4, .null, .int 0]))]) [0] (by decide) rfl
    have hKc := hK.sub (tys' := []) [] rfl
    have hFc := va_free (wc := [(qx, .inr (8, [.ref rp, .int 0, .ref rt, .ref rc, .int ((-1)), .ref r1, .ref r2, .ref r3, .ref r4, .null, .int 0]))]) hD hS hA [0] rfl
    refine vx_calli (vx_runSX (As := [.ref qx, .int 0, .ref qo]) (rest := []) ⟨hx, hb, hml, hown, hts⟩ (c_L_half l dC dI tp te H.size hlt qx rp rt rc r1 r2 r3 r4 0 qo) (vx_cwSW 3 hts g_law_143_L_half rfl rfl rfl (by decide +kernel) ⟨Nat.le_of_ble_eq_true rfl, Nat.le_of_ble_eq_true rfl⟩) ⟨Pw.blind, Pw.mk hPc hKc hDc hG hS hFc⟩ rfl rfl hl.1 rfl (lv_room (Nat.le_of_ble_eq_true rfl)) dL_law_688 ⟨Nat.le_of_ble_eq_true rfl, Nat.le_of_ble_eq_true rfl⟩) hS (fun q _ h => hFc q h) hFc (fun q _ h => hFc q h) (fun E ce q9 u t9 H1 locs ht hvm hpx hBX hz1 hk1 hS hce hcv hcl => hpx.elim) (fun r u t9 H_4 locs ht hvm hw hB hz1 hk1 hS => ?_)
    have hw : r = 1 := hw
    subst hw
    obtain ⟨hP, hD⟩ := va_join (wr := [(qm, .inr (17, [.ref lp, .null, .null, .int 0, .int 0, .ref m1, .ref m2, .ref m3, .ref m4, .ref m5, .null, .null, .int 0, .ref m6, .int 0, .int 0, .int 0, .long 0, .null, .ref m7, .ref m8, .int 0, .int 0, .long 0])), (lp, .inr (0, [.int 0, .ref te, .int 0]))]) (w1 := []) hP hD [0] [1, 2] rfl rfl (by decide) (by decide) hk1 hFc va_P.nil va_D.nil
    have hK := hK.sub (tys' := []) [] rfl
    have hP : va_P (dC, dI) vwCl [(qm, .inr (17, [.ref lp, .null, .null, .int 0, .int 0, .ref m1, .ref m2, .ref m3, .ref m4, .ref m5, .null, .null, .int 0, .ref m6, .int 0, .int 0, .int 0, .long 0, .null, .ref m7, .ref m8, .int 0, .int 0, .long 0])), (lp, .inr (0, [.int 0, .ref te, .int 0]))] H_4 := hP
    have hD : va_D A [(qm, .inr (17, [.ref lp, .null, .null, .int 0, .int 0, .ref m1, .ref m2, .ref m3, .ref m4, .ref m5, .null, .null, .int 0, .ref m6, .int 0, .int 0, .int 0, .long 0, .null, .ref m7, .ref m8, .int 0, .int 0, .long 0])), (lp, .inr (0, [.int 0, .ref te, .int 0]))] := hD
    have hK : va_K (dC, dI) vwCl [] s := hK
    refine W.widen (k := 90) (n := 78009) (Nat.le_of_ble_eq_true rfl) (Nat.le_of_ble_eq_true rfl) ?_
    refine lv_istore (lv' := [(5, .int 1), (4, .int 0), (3, .ref qo), (2, .ref qm), (1, .ref qx), (0, .ref b)]) hx hb dL_law_691 hl (by decide) rfl (fun ls hl => ?_)
    refine lv_aload_n hx hb dL_law_693 rfl (lv_at hl 3 rfl) ?_
    refine lv_aload_n hx hb dL_law_694 rfl (lv_at hl 5 rfl) ?_
    refine lv_iload hx hb dL_law_695 (lv_at hl 1 rfl) ?_
    refine lv_iconst (v := 1) hx hb dL_law_697 (by decide) ?_
    refine lv_iadd hx hb dL_law_698 ?_
    refine lv_topi (fun z_6 ez_6 => ?_)
    obtain rfl : z_6 = 1 := ez_6.trans (by decide)
    refine va_sld hx hb hX hbl hbA hS (by unfold vp_in; decide +kernel) dL_law_699 ?_
    refine lv_topi (fun z_7 ez_7 => ?_)
    obtain rfl : p1 = z_7 := (ez_7.trans e1).symm
    refine lv_if_eq (tgt := 707) hx hb dL_law_700 (by decide) (fun c9 => ?_) (fun c9 => absurd c_3 c9)
    refine lv_iconst (v := 0) hx hb dL_law_707 (by decide) ?_
    have hPc := hP.sub (ws' := [(qm, .inr (17, [.ref lp, .null, .null, .int 0, .int 0, .ref m1, .ref m2, .ref m3, .ref m4, .ref m5, .null, .null, .int 0, .ref m6, .int 0, .int 0, .int 0, .long 0, .null, .ref m7, .ref m8, .int 0, .int 0, .long 0])), (lp, .inr (0, [.int 0, .ref te, .int 0]))]) [0, 1] rfl
    have hDc := hD.sub (ws' := [(qm, .inr (17, [.ref lp, .null, .null, .int 0, .int 0, .ref m1, .ref m2, .ref m3, .ref m4, .ref m5, .null, .null, .int 0, .ref m6, .int 0, .int 0, .int 0, .long 0, .null, .ref m7, .ref m8, .int 0, .int 0, .long 0])), (lp, .inr (0, [.int 0, .ref te, .int 0]))]) [0, 1] (by decide) rfl
    have hKc := hK.sub (tys' := []) [] rfl
    have hFc := va_free (wc := [(qm, .inr (17, [.ref lp, .null, .null, .int 0, .int 0, .ref m1, .ref m2, .ref m3, .ref m4, .ref m5, .null, .null, .int 0, .ref m6, .int 0, .int 0, .int 0, .long 0, .null, .ref m7, .ref m8, .int 0, .int 0, .long 0])), (lp, .inr (0, [.int 0, .ref te, .int 0]))]) hD hS hA [0, 1] rfl
    refine va_calli (va_runV (As := [.int 0]) (rest := []) ⟨hx, hb, hml, hown, hts⟩ (c_M_half l dC dI tp te H_4.size qm lp m1 m2 m3 m4 m5 m6 m7 m8 0) (cwV 1 hts g_law_146_M_half rfl rfl rfl (by decide +kernel) ⟨Nat.le_of_ble_eq_true rfl, Nat.le_of_ble_eq_true rfl⟩) ⟨Pw.blind, va_recv hKc hPc (ci := 17) (q0 := 0) rfl rfl, Pw.mk hPc hKc hDc hG hS hFc⟩ rfl rfl hl.1 rfl (lv_room (Nat.le_of_ble_eq_true rfl)) dL_law_708 ⟨Nat.le_of_ble_eq_true rfl, Nat.le_of_ble_eq_true rfl⟩) hS (fun q _ h => hFc q h) hFc (fun r u t9 H_8 locs ht hvm hw hB hz1 hk1 hS => ?_)
    have hw : r = 0 := hw
    subst hw
    obtain ⟨hP1, hK1, hD1⟩ := hB
    rw [ht] at hP1
    have hK1 := va_K.moved hvm.symm hK1
    obtain ⟨hP, hD⟩ := va_join (wr := []) (w1 := [(qm, .inr (17, [.ref lp, .null, .null, .int 0, .int 1, .ref m1, .ref m2, .ref m3, .ref m4, .ref m5, .null, .null, .int 0, .ref m6, .int 0, .int 0, .int 0, .long 0, .null, .ref m7, .ref m8, .int 0, .int 0, .long 0]))]) hP hD [0, 1] [] rfl rfl (by decide) (by decide) hk1 hFc hP1 hD1
    have hK := (hK.sub (tys' := []) [] rfl).app hK1
    have hP : va_P (dC, dI) vwCl [(qm, .inr (17, [.ref lp, .null, .null, .int 0, .int 1, .ref m1, .ref m2, .ref m3, .ref m4, .ref m5, .null, .null, .int 0, .ref m6, .int 0, .int 0, .int 0, .long 0, .null, .ref m7, .ref m8, .int 0, .int 0, .long 0]))] H_8 := hP
    have hD : va_D A [(qm, .inr (17, [.ref lp, .null, .null, .int 0, .int 1, .ref m1, .ref m2, .ref m3, .ref m4, .ref m5, .null, .null, .int 0, .ref m6, .int 0, .int 0, .int 0, .long 0, .null, .ref m7, .ref m8, .int 0, .int 0, .long 0]))] := hD
    have hK : va_K (dC, dI) vwCl [] s := hK
    refine W.widen (k := 90) (n := 78009) (Nat.le_of_ble_eq_true rfl) (Nat.le_of_ble_eq_true rfl) ?_
    refine lv_istore (lv' := [(6, .int 0), (5, .int 1), (4, .int 0), (3, .ref qo), (2, .ref qm), (1, .ref qx), (0, .ref b)]) hx hb dL_law_711 hl (by decide) rfl (fun ls hl => ?_)
    refine lv_aload_n hx hb dL_law_713 rfl (lv_at hl 4 rfl) ?_
    have hPc := hP.sub (ws' := [(qm, .inr (17, [.ref lp, .null, .null, .int 0, .int 1, .ref m1, .ref m2, .ref m3, .ref m4, .ref m5, .null, .null, .int 0, .ref m6, .int 0, .int 0, .int 0, .long 0, .null, .ref m7, .ref m8, .int 0, .int 0, .long 0]))]) [0] rfl
    have hDc := hD.sub (ws' := [(qm, .inr (17, [.ref lp, .null, .null, .int 0, .int 1, .ref m1, .ref m2, .ref m3, .ref m4, .ref m5, .null, .null, .int 0, .ref m6, .int 0, .int 0, .int 0, .long 0, .null, .ref m7, .ref m8, .int 0, .int 0, .long 0]))]) [0] (by decide) rfl
    have hKc := hK.sub (tys' := []) [] rfl
    have hFc := va_free (wc := [(qm, .inr (17, [.ref lp, .null, .null, .int 0, .int 1, .ref m1, .ref m2, .ref m3, .ref m4, .ref m5, .null, .null, .int 0, .ref m6, .int 0, .int 0, .int 0, .long 0, .null, .ref m7, .ref m8, .int 0, .int 0, .long 0]))]) hD hS hA [0] rfl
    refine va_calli (va_runV (As := []) (rest := []) ⟨hx, hb, hml, hown, hts⟩ (c_thrown l dC dI tp te H_8.size qm lp m1 m2 m3 m4 m5 m6 m7 m8 1) (cwV 0 hts g_law_113_thrown rfl rfl rfl (by decide +kernel) ⟨Nat.le_of_ble_eq_true rfl, Nat.le_of_ble_eq_true rfl⟩) ⟨Pw.blind, va_recv hKc hPc (ci := 17) (q0 := 0) rfl rfl, Pw.mk hPc hKc hDc hG hS hFc⟩ rfl rfl hl.1 rfl (lv_room (Nat.le_of_ble_eq_true rfl)) dL_law_714 ⟨Nat.le_of_ble_eq_true rfl, Nat.le_of_ble_eq_true rfl⟩) hS (fun q _ h => hFc q h) hFc (fun r u t9 H_10 locs ht hvm hw hB hz1 hk1 hS => ?_)
    have hw : r = 1 := hw
    subst hw
    obtain ⟨hP1, hK1, hD1⟩ := hB
    rw [ht] at hP1
    have hK1 := va_K.moved hvm.symm hK1
    obtain ⟨hP, hD⟩ := va_join (wr := []) (w1 := [(qm, .inr (17, [.ref lp, .null, .null, .int 0, .int 1, .ref m1, .ref m2, .ref m3, .ref m4, .ref m5, .null, .null, .int 0, .ref m6, .int 0, .int 0, .int 0, .long 0, .null, .ref m7, .ref m8, .int 0, .int 0, .long 0]))]) hP hD [0] [] rfl rfl (by decide) (by decide) hk1 hFc hP1 hD1
    have hK := (hK.sub (tys' := []) [] rfl).app hK1
    have hP : va_P (dC, dI) vwCl [(qm, .inr (17, [.ref lp, .null, .null, .int 0, .int 1, .ref m1, .ref m2, .ref m3, .ref m4, .ref m5, .null, .null, .int 0, .ref m6, .int 0, .int 0, .int 0, .long 0, .null, .ref m7, .ref m8, .int 0, .int 0, .long 0]))] H_10 := hP
    have hD : va_D A [(qm, .inr (17, [.ref lp, .null, .null, .int 0, .int 1, .ref m1, .ref m2, .ref m3, .ref m4, .ref m5, .null, .null, .int 0, .ref m6, .int 0, .int 0, .int 0, .long 0, .null, .ref m7, .ref m8, .int 0, .int 0, .long 0]))] := hD
    have hK : va_K (dC, dI) vwCl [] s := hK
    refine W.widen (k := 90) (n := 78009) (Nat.le_of_ble_eq_true rfl) (Nat.le_of_ble_eq_true rfl) ?_
    refine lv_iload hx hb dL_law_717 (lv_at hl 1 rfl) ?_
    refine lv_icmp_eq (tgt := 724) hx hb dL_law_719 (by decide) (fun c9 => ?_) (fun c9 => absurd (by decide) c9)
    refine lv_iload hx hb dL_law_724 (lv_at hl 1 rfl) ?_
    refine lv_if_ne (tgt := 741) hx hb dL_law_726 (by decide) (fun c9 => ?_) (fun c9 => absurd c9 (by decide))
    refine lv_goto (tgt := 1569) hx hb dL_law_741 (by decide) ?_
    exact lc_next C0 hAA hS (lv_sub hl [6, 2] rfl) (Nat.le_of_ble_eq_true rfl) (Nat.le_of_ble_eq_true rfl)
  · skip
    refine lv_iconst (v := 1) hx hb dL_law_682 (by decide) ?_
    refine lv_goto (tgt := 687) hx hb dL_law_683 (by decide) ?_
    refine lv_aload_n hx hb dL_law_687 rfl (lv_at hl 1 rfl) ?_
    have hPc := hP.sub (ws' := [(qx, .inr (8, [.ref rp, .int 0, .ref rt, .ref rc, .int ((-1)), .ref r1, .ref r2, .ref r3, .ref r4, .null, .int 0]))]) [0] rfl
    have hDc := hD.sub (ws' := [(qx, .inr (8, [.ref rp, .int 0, .ref rt, .ref rc, .int ((-1)), .ref r1, .ref r2, .ref r3, .ref r4, .null, .int 0]))]) [0] (by decide) rfl
    have hKc := hK.sub (tys' := []) [] rfl
    have hFc := va_free (wc := [(qx, .inr (8, [.ref rp, .int 0, .ref rt, .ref rc, .int ((-1)), .ref r1, .ref r2, .ref r3, .ref r4, .null, .int 0]))]) hD hS hA [0] rfl
    refine vx_calli (vx_runSX (As := [.ref qx, .int 1, .ref qo]) (rest := []) ⟨hx, hb, hml, hown, hts⟩ (c_L_half l dC dI tp te H.size hlt qx rp rt rc r1 r2 r3 r4 1 qo) (vx_cwSW 3 hts g_law_143_L_half rfl rfl rfl (by decide +kernel) ⟨Nat.le_of_ble_eq_true rfl, Nat.le_of_ble_eq_true rfl⟩) ⟨Pw.blind, Pw.mk hPc hKc hDc hG hS hFc⟩ rfl rfl hl.1 rfl (lv_room (Nat.le_of_ble_eq_true rfl)) dL_law_688 ⟨Nat.le_of_ble_eq_true rfl, Nat.le_of_ble_eq_true rfl⟩) hS (fun q _ h => hFc q h) hFc (fun q _ h => hFc q h) (fun E ce q9 u t9 H1 locs ht hvm hpx hBX hz1 hk1 hS hce hcv hcl => hpx.elim) (fun r u t9 H_12 locs ht hvm hw hB hz1 hk1 hS => ?_)
    have hw : r = 1 := hw
    subst hw
    obtain ⟨hP, hD⟩ := va_join (wr := [(qm, .inr (17, [.ref lp, .null, .null, .int 0, .int 0, .ref m1, .ref m2, .ref m3, .ref m4, .ref m5, .null, .null, .int 0, .ref m6, .int 0, .int 0, .int 0, .long 0, .null, .ref m7, .ref m8, .int 0, .int 0, .long 0])), (lp, .inr (0, [.int 0, .ref te, .int 0]))]) (w1 := []) hP hD [0] [1, 2] rfl rfl (by decide) (by decide) hk1 hFc va_P.nil va_D.nil
    have hK := hK.sub (tys' := []) [] rfl
    have hP : va_P (dC, dI) vwCl [(qm, .inr (17, [.ref lp, .null, .null, .int 0, .int 0, .ref m1, .ref m2, .ref m3, .ref m4, .ref m5, .null, .null, .int 0, .ref m6, .int 0, .int 0, .int 0, .long 0, .null, .ref m7, .ref m8, .int 0, .int 0, .long 0])), (lp, .inr (0, [.int 0, .ref te, .int 0]))] H_12 := hP
    have hD : va_D A [(qm, .inr (17, [.ref lp, .null, .null, .int 0, .int 0, .ref m1, .ref m2, .ref m3, .ref m4, .ref m5, .null, .null, .int 0, .ref m6, .int 0, .int 0, .int 0, .long 0, .null, .ref m7, .ref m8, .int 0, .int 0, .long 0])), (lp, .inr (0, [.int 0, .ref te, .int 0]))] := hD
    have hK : va_K (dC, dI) vwCl [] s := hK
    refine W.widen (k := 90) (n := 78009) (Nat.le_of_ble_eq_true rfl) (Nat.le_of_ble_eq_true rfl) ?_
    refine lv_istore (lv' := [(5, .int 1), (4, .int 0), (3, .ref qo), (2, .ref qm), (1, .ref qx), (0, .ref b)]) hx hb dL_law_691 hl (by decide) rfl (fun ls hl => ?_)
    refine lv_aload_n hx hb dL_law_693 rfl (lv_at hl 3 rfl) ?_
    refine lv_aload_n hx hb dL_law_694 rfl (lv_at hl 5 rfl) ?_
    refine lv_iload hx hb dL_law_695 (lv_at hl 1 rfl) ?_
    refine lv_iconst (v := 1) hx hb dL_law_697 (by decide) ?_
    refine lv_iadd hx hb dL_law_698 ?_
    refine lv_topi (fun z_14 ez_14 => ?_)
    obtain rfl : z_14 = 1 := ez_14.trans (by decide)
    refine va_sld hx hb hX hbl hbA hS (by unfold vp_in; decide +kernel) dL_law_699 ?_
    refine lv_topi (fun z_15 ez_15 => ?_)
    obtain rfl : p1 = z_15 := (ez_15.trans e1).symm
    refine lv_if_eq (tgt := 707) hx hb dL_law_700 (by decide) (fun c9 => absurd c9 c_3) (fun c9 => ?_)
    refine lv_iconst (v := 1) hx hb dL_law_703 (by decide) ?_
    refine lv_goto (tgt := 708) hx hb dL_law_704 (by decide) ?_
    have hPc := hP.sub (ws' := [(qm, .inr (17, [.ref lp, .null, .null, .int 0, .int 0, .ref m1, .ref m2, .ref m3, .ref m4, .ref m5, .null, .null, .int 0, .ref m6, .int 0, .int 0, .int 0, .long 0, .null, .ref m7, .ref m8, .int 0, .int 0, .long 0])), (lp, .inr (0, [.int 0, .ref te, .int 0]))]) [0, 1] rfl
    have hDc := hD.sub (ws' := [(qm, .inr (17, [.ref lp, .null, .null, .int 0, .int 0, .ref m1, .ref m2, .ref m3, .ref m4, .ref m5, .null, .null, .int 0, .ref m6, .int 0, .int 0, .int 0, .long 0, .null, .ref m7, .ref m8, .int 0, .int 0, .long 0])), (lp, .inr (0, [.int 0, .ref te, .int 0]))]) [0, 1] (by decide) rfl
    have hKc := hK.sub (tys' := []) [] rfl
    have hFc := va_free (wc := [(qm, .inr (17, [.ref lp, .null, .null, .int 0, .int 0, .ref m1, .ref m2, .ref m3, .ref m4, .ref m5, .null, .null, .int 0, .ref m6, .int 0, .int 0, .int 0, .long 0, .null, .ref m7, .ref m8, .int 0, .int 0, .long 0])), (lp, .inr (0, [.int 0, .ref te, .int 0]))]) hD hS hA [0, 1] rfl
    refine va_calli (va_runV (As := [.int 1]) (rest := []) ⟨hx, hb, hml, hown, hts⟩ (c_M_half l dC dI tp te H_12.size qm lp m1 m2 m3 m4 m5 m6 m7 m8 1) (cwV 1 hts g_law_146_M_half rfl rfl rfl (by decide +kernel) ⟨Nat.le_of_ble_eq_true rfl, Nat.le_of_ble_eq_true rfl⟩) ⟨Pw.blind, va_recv hKc hPc (ci := 17) (q0 := 0) rfl rfl, Pw.mk hPc hKc hDc hG hS hFc⟩ rfl rfl hl.1 rfl (lv_room (Nat.le_of_ble_eq_true rfl)) dL_law_708 ⟨Nat.le_of_ble_eq_true rfl, Nat.le_of_ble_eq_true rfl⟩) hS (fun q _ h => hFc q h) hFc (fun r u t9 H_16 locs ht hvm hw hB hz1 hk1 hS => ?_)
    have hw : r = 0 := hw
    subst hw
    obtain ⟨hP1, hK1, hD1⟩ := hB
    rw [ht] at hP1
    have hK1 := va_K.moved hvm.symm hK1
    obtain ⟨hP, hD⟩ := va_join (wr := []) (w1 := [(qm, .inr (17, [.ref lp, .null, .null, .int 0, .int 1, .ref m1, .ref m2, .ref m3, .ref m4, .ref m5, .null, .null, .int 0, .ref m6, .int 0, .int 0, .int 0, .long 0, .null, .ref m7, .ref m8, .int 0, .int 0, .long 0]))]) hP hD [0, 1] [] rfl rfl (by decide) (by decide) hk1 hFc hP1 hD1
    have hK := (hK.sub (tys' := []) [] rfl).app hK1
    have hP : va_P (dC, dI) vwCl [(qm, .inr (17, [.ref lp, .null, .null, .int 0, .int 1, .ref m1, .ref m2, .ref m3, .ref m4, .ref m5, .null, .null, .int 0, .ref m6, .int 0, .int 0, .int 0, .long 0, .null, .ref m7, .ref m8, .int 0, .int 0, .long 0]))] H_16 := hP
    have hD : va_D A [(qm, .inr (17, [.ref lp, .null, .null, .int 0, .int 1, .ref m1, .ref m2, .ref m3, .ref m4, .ref m5, .null, .null, .int 0, .ref m6, .int 0, .int 0, .int 0, .long 0, .null, .ref m7, .ref m8, .int 0, .int 0, .long 0]))] := hD
    have hK : va_K (dC, dI) vwCl [] s := hK
    refine W.widen (k := 90) (n := 78009) (Nat.le_of_ble_eq_true rfl) (Nat.le_of_ble_eq_true rfl) ?_
    refine lv_istore (lv' := [(6, .int 0), (5, .int 1), (4, .int 0), (3, .ref qo), (2, .ref qm), (1, .ref qx), (0, .ref b)]) hx hb dL_law_711 hl (by decide) rfl (fun ls hl => ?_)
    refine lv_aload_n hx hb dL_law_713 rfl (lv_at hl 4 rfl) ?_
    have hPc := hP.sub (ws' := [(qm, .inr (17, [.ref lp, .null, .null, .int 0, .int 1, .ref m1, .ref m2, .ref m3, .ref m4, .ref m5, .null, .null, .int 0, .ref m6, .int 0, .int 0, .int 0, .long 0, .null, .ref m7, .ref m8, .int 0, .int 0, .long 0]))]) [0] rfl
    have hDc := hD.sub (ws' := [(qm, .inr (17, [.ref lp, .null, .null, .int 0, .int 1, .ref m1, .ref m2, .ref m3, .ref m4, .ref m5, .null, .null, .int 0, .ref m6, .int 0, .int 0, .int 0, .long 0, .null, .ref m7, .ref m8, .int 0, .int 0, .long 0]))]) [0] (by decide) rfl
    have hKc := hK.sub (tys' := []) [] rfl
    have hFc := va_free (wc := [(qm, .inr (17, [.ref lp, .null, .null, .int 0, .int 1, .ref m1, .ref m2, .ref m3, .ref m4, .ref m5, .null, .null, .int 0, .ref m6, .int 0, .int 0, .int 0, .long 0, .null, .ref m7, .ref m8, .int 0, .int 0, .long 0]))]) hD hS hA [0] rfl
    refine va_calli (va_runV (As := []) (rest := []) ⟨hx, hb, hml, hown, hts⟩ (c_thrown l dC dI tp te H_16.size qm lp m1 m2 m3 m4 m5 m6 m7 m8 1) (cwV 0 hts g_law_113_thrown rfl rfl rfl (by decide +kernel) ⟨Nat.le_of_ble_eq_true rfl, Nat.le_of_ble_eq_true rfl⟩) ⟨Pw.blind, va_recv hKc hPc (ci := 17) (q0 := 0) rfl rfl, Pw.mk hPc hKc hDc hG hS hFc⟩ rfl rfl hl.1 rfl (lv_room (Nat.le_of_ble_eq_true rfl)) dL_law_714 ⟨Nat.le_of_ble_eq_true rfl, Nat.le_of_ble_eq_true rfl⟩) hS (fun q _ h => hFc q h) hFc (fun r u t9 H_18 locs ht hvm hw hB hz1 hk1 hS => ?_)
    have hw : r = 1 := hw
    subst hw
    obtain ⟨hP1, hK1, hD1⟩ := hB
    rw [ht] at hP1
    have hK1 := va_K.moved hvm.symm hK1
    obtain ⟨hP, hD⟩ := va_join (wr := []) (w1 := [(qm, .inr (17, [.ref lp, .null, .null, .int 0, .int 1, .ref m1, .ref m2, .ref m3, .ref m4, .ref m5, .null, .null, .int 0, .ref m6, .int 0, .int 0, .int 0, .long 0, .null, .ref m7, .ref m8, .int 0, .int 0, .long 0]))]) hP hD [0] [] rfl rfl (by decide) (by decide) hk1 hFc hP1 hD1
    have hK := (hK.sub (tys' := []) [] rfl).app hK1
    have hP : va_P (dC, dI) vwCl [(qm, .inr (17, [.ref lp, .null, .null, .int 0, .int 1, .ref m1, .ref m2, .ref m3, .ref m4, .ref m5, .null, .null, .int 0, .ref m6, .int 0, .int 0, .int 0, .long 0, .null, .ref m7, .ref m8, .int 0, .int 0, .long 0]))] H_18 := hP
    have hD : va_D A [(qm, .inr (17, [.ref lp, .null, .null, .int 0, .int 1, .ref m1, .ref m2, .ref m3, .ref m4, .ref m5, .null, .null, .int 0, .ref m6, .int 0, .int 0, .int 0, .long 0, .null, .ref m7, .ref m8, .int 0, .int 0, .long 0]))] := hD
    have hK : va_K (dC, dI) vwCl [] s := hK
    refine W.widen (k := 90) (n := 78009) (Nat.le_of_ble_eq_true rfl) (Nat.le_of_ble_eq_true rfl) ?_
    refine lv_iload hx hb dL_law_717 (lv_at hl 1 rfl) ?_
    refine lv_icmp_eq (tgt := 724) hx hb dL_law_719 (by decide) (fun c9 => ?_) (fun c9 => absurd (by decide) c9)
    refine lv_iload hx hb dL_law_724 (lv_at hl 1 rfl) ?_
    refine lv_if_ne (tgt := 741) hx hb dL_law_726 (by decide) (fun c9 => ?_) (fun c9 => absurd c9 (by decide))
    refine lv_goto (tgt := 1569) hx hb dL_law_741 (by decide) ?_
    exact lc_next C0 hAA hS (lv_sub hl [6, 2] rfl) (Nat.le_of_ble_eq_true rfl) (Nat.le_of_ble_eq_true rfl)
set_option maxHeartbeats 4000000 in
set_option maxRecDepth 100000 in
theorem lc_raise {p : Program} {l : Launch} {e : Env} {s : State} {m : MethodId} {below : List Frame} {meth : Method} {c : Code} (hlt : l.stackTraces = false) {b : Nat} {xs : Nat → Int32} (C0 : lw_At p s m meth c b 3 xs) {A : Nat → Prop} (hAA : A = fun q : Nat => s.heap.size ≤ q) {dC : Nat → ClassId} {dI : Nat → Nat → Nat} {tp te : Nat} (hG : gx tp te A s s.heap) {qx rp rt rc r1 r2 r3 r4 a1 a2 a3 a4 a5 a6 a7 t1 t2 t3 t4 t5 t6 t7 c1 c2 c3 c4 c5 c6 c7 qm lp m1 m2 m3 m4 m5 m6 m7 m8 qo : Nat} {k1 k2 k3 k4 k5 k6 k7 ko : ClassId} {H : Heap} {locs : List Loc} (hK : va_K (dC, dI) vwCl [(k1, .int), (k2, .int), (k3, .int), (k4, .long), (k5, .int), (k6, .int), (k7, .int), (ko, .long)] s) (hP : va_P (dC, dI) vwCl [(qx, .inr (8, [.ref rp, .int 0, .ref rt, .ref rc, .int ((-1)), .ref r1, .ref r2, .ref r3, .ref r4, .null, .int 0])), (rp, .inr (6, [.ref a1, .ref a2, .ref a3, .ref a4, .ref a5, .ref a6, .ref a7, .int 0])), (a1, .inl (k1, 1200, .inl (fun _ => 0))), (a2, .inl (k2, 1200, .inl (fun _ => 0))), (a3, .inl (k3, 1200, .inl (fun _ => 0))), (a4, .inl (k4, 1200, .inr (.inl (fun _ => 0)))), (a5, .inl (k5, 1200, .inl (fun _ => 0))), (a6, .inl (k6, 1200, .inl (fun _ => 0))), (a7, .inl (k7, 1200, .inl (fun _ => 0))), (rt, .inr (6, [.ref t1, .ref t2, .ref t3, .ref t4, .ref t5, .ref t6, .ref t7, .int 0])), (rc, .inr (6, [.ref c1, .ref c2, .ref c3, .ref c4, .ref c5, .ref c6, .ref c7, .int 0])), (qm, .inr (17, [.ref lp, .null, .null, .int 0, .int 0, .ref m1, .ref m2, .ref m3, .ref m4, .ref m5, .null, .null, .int 0, .ref m6, .int 0, .int 0, .int 0, .long 0, .null, .ref m7, .ref m8, .int 0, .int 0, .long 0])), (lp, .inr (0, [.int 0, .ref te, .int 0])), (qo, .inl (ko, 1, .inr (.inl (fun _ => 0))))] H) (hD : va_D A [(qx, .inr (8, [.ref rp, .int 0, .ref rt, .ref rc, .int ((-1)), .ref r1, .ref r2, .ref r3, .ref r4, .null, .int 0])), (rp, .inr (6, [.ref a1, .ref a2, .ref a3, .ref a4, .ref a5, .ref a6, .ref a7, .int 0])), (a1, .inl (k1, 1200, .inl (fun _ => 0))), (a2, .inl (k2, 1200, .inl (fun _ => 0))), (a3, .inl (k3, 1200, .inl (fun _ => 0))), (a4, .inl (k4, 1200, .inr (.inl (fun _ => 0)))), (a5, .inl (k5, 1200, .inl (fun _ => 0))), (a6, .inl (k6, 1200, .inl (fun _ => 0))), (a7, .inl (k7, 1200, .inl (fun _ => 0))), (rt, .inr (6, [.ref t1, .ref t2, .ref t3, .ref t4, .ref t5, .ref t6, .ref t7, .int 0])), (rc, .inr (6, [.ref c1, .ref c2, .ref c3, .ref c4, .ref c5, .ref c6, .ref c7, .int 0])), (qm, .inr (17, [.ref lp, .null, .null, .int 0, .int 0, .ref m1, .ref m2, .ref m3, .ref m4, .ref m5, .null, .null, .int 0, .ref m6, .int 0, .int 0, .int 0, .long 0, .null, .ref m7, .ref m8, .int 0, .int 0, .long 0])), (lp, .inr (0, [.int 0, .ref te, .int 0])), (qo, .inl (ko, 1, .inr (.inl (fun _ => 0))))]) (hS : va_S A s.heap H locs) {ls : Array Slot} (hl : lv_has ls 8 [(4, .int 0), (3, .ref qo), (2, .ref qm), (1, .ref qx), (0, .ref b)]) (p1 p2 : Int32) (e1 : xs (1 : Int32).toNatClampNeg = p1) (e2 : xs (2 : Int32).toNatClampNeg = p2)  : W p l e room_1 s m #[Value.ref b] below meth c H locs 89 78003 (lw_Z below #[Value.ref b] s) (F0 m 744 ls []) := by
  obtain ⟨hx, hb, hr, hml, hown, hts0, hX, hbl, hlocks, hgv⟩ := id C0
  have hts : ∀ w ∈ z_law, w.before #[Value.ref b] s = true := fun w h => hts0 w (z_law_in w h)
  have hown : s.vm.findClass RL = some m.cls := hown
  have hA : ∀ q : Nat, s.heap.size ≤ q → A q := fun q h => by rw [hAA]; exact h
  have hbA : ¬ A b := by rw [hAA]; exact Nat.not_le.mpr hbl
  have hP := hP.sub (ws' := [(qx, .inr (8, [.ref rp, .int 0, .ref rt, .ref rc, .int ((-1)), .ref r1, .ref r2, .ref r3, .ref r4, .null, .int 0])), (qm, .inr (17, [.ref lp, .null, .null, .int 0, .int 0, .ref m1, .ref m2, .ref m3, .ref m4, .ref m5, .null, .null, .int 0, .ref m6, .int 0, .int 0, .int 0, .long 0, .null, .ref m7, .ref m8, .int 0, .int 0, .long 0])), (lp, .inr (0, [.int 0, .ref te, .int 0]))]) [0, 11, 12] rfl
  have hD := hD.sub (ws' := [(qx, .inr (8, [.ref rp, .int 0, .ref rt, .ref rc, .int ((-1)), .ref r1, .ref r2, .ref r3, .ref r4, .null, .int 0])), (qm, .inr (17, [.ref lp, .null, .null, .int 0, .int 0, .ref m1, .ref m2, .ref m3, .ref m4, .ref m5, .null, .null, .int 0, .ref m6, .int 0, .int 0, .int 0, .long 0, .null, .ref m7, .ref m8, .int 0, .int 0, .long 0])), (lp, .inr (0, [.int 0, .ref te, .int 0]))]) [0, 11, 12] (by decide) rfl
  have hK := hK.sub (tys' := []) [] rfl
  have hP : va_P (dC, dI) vwCl [(qx, .inr (8, [.ref rp, .int 0, .ref rt, .ref rc, .int ((-1)), .ref r1, .ref r2, .ref r3, .ref r4, .null, .int 0])), (qm, .inr (17, [.ref lp, .null, .null, .int 0, .int 0, .ref m1, .ref m2, .ref m3, .ref m4, .ref m5, .null, .null, .int 0, .ref m6, .int 0, .int 0, .int 0, .long 0, .null, .ref m7, .ref m8, .int 0, .int 0, .long 0])), (lp, .inr (0, [.int 0, .ref te, .int 0]))] H := hP
  have hD : va_D A [(qx, .inr (8, [.ref rp, .int 0, .ref rt, .ref rc, .int ((-1)), .ref r1, .ref r2, .ref r3, .ref r4, .null, .int 0])), (qm, .inr (17, [.ref lp, .null, .null, .int 0, .int 0, .ref m1, .ref m2, .ref m3, .ref m4, .ref m5, .null, .null, .int 0, .ref m6, .int 0, .int 0, .int 0, .long 0, .null, .ref m7, .ref m8, .int 0, .int 0, .long 0])), (lp, .inr (0, [.int 0, .ref te, .int 0]))] := hD
  have hK : va_K (dC, dI) vwCl [] s := hK
  refine lv_aload_n hx hb dL_law_744 rfl (lv_at hl 3 rfl) ?_
  refine lv_aload_n hx hb dL_law_745 rfl (lv_at hl 1 rfl) ?_
  have hPc := hP.sub (ws' := [(qx, .inr (8, [.ref rp, .int 0, .ref rt, .ref rc, .int ((-1)), .ref r1, .ref r2, .ref r3, .ref r4, .null, .int 0]))]) [0] rfl
  have hDc := hD.sub (ws' := [(qx, .inr (8, [.ref rp, .int 0, .ref rt, .ref rc, .int ((-1)), .ref r1, .ref r2, .ref r3, .ref r4, .null, .int 0]))]) [0] (by decide) rfl
  have hKc := hK.sub (tys' := []) [] rfl
  have hFc := va_free (wc := [(qx, .inr (8, [.ref rp, .int 0, .ref rt, .ref rc, .int ((-1)), .ref r1, .ref r2, .ref r3, .ref r4, .null, .int 0]))]) hD hS hA [0] rfl
  refine vx_calli (vx_runSX (As := [.ref qx, .ref qo]) (rest := []) ⟨hx, hb, hml, hown, hts⟩ (c_L_raise l dC dI tp te H.size hlt qx rp rt rc r1 r2 r3 r4 qo) (vx_cwSW 2 hts g_law_147_L_raise rfl rfl rfl (by decide +kernel) ⟨Nat.le_of_ble_eq_true rfl, Nat.le_of_ble_eq_true rfl⟩) ⟨Pw.blind, Pw.mk hPc hKc hDc hG hS hFc⟩ rfl rfl hl.1 rfl (lv_room (Nat.le_of_ble_eq_true rfl)) dL_law_746 ⟨Nat.le_of_ble_eq_true rfl, Nat.le_of_ble_eq_true rfl⟩) hS (fun q _ h => hFc q h) hFc (fun q _ h => hFc q h) (fun E ce q9 u t9 H1 locs ht hvm hpx hBX hz1 hk1 hS hce hcv hcl => hpx.elim) (fun r u t9 H_1 locs ht hvm hw hB hz1 hk1 hS => ?_)
  have hw : r = 1 := hw
  subst hw
  obtain ⟨hP, hD⟩ := va_join (wr := [(qm, .inr (17, [.ref lp, .null, .null, .int 0, .int 0, .ref m1, .ref m2, .ref m3, .ref m4, .ref m5, .null, .null, .int 0, .ref m6, .int 0, .int 0, .int 0, .long 0, .null, .ref m7, .ref m8, .int 0, .int 0, .long 0])), (lp, .inr (0, [.int 0, .ref te, .int 0]))]) (w1 := []) hP hD [0] [1, 2] rfl rfl (by decide) (by decide) hk1 hFc va_P.nil va_D.nil
  have hK := hK.sub (tys' := []) [] rfl
  have hP : va_P (dC, dI) vwCl [(qm, .inr (17, [.ref lp, .null, .null, .int 0, .int 0, .ref m1, .ref m2, .ref m3, .ref m4, .ref m5, .null, .null, .int 0, .ref m6, .int 0, .int 0, .int 0, .long 0, .null, .ref m7, .ref m8, .int 0, .int 0, .long 0])), (lp, .inr (0, [.int 0, .ref te, .int 0]))] H_1 := hP
  have hD : va_D A [(qm, .inr (17, [.ref lp, .null, .null, .int 0, .int 0, .ref m1, .ref m2, .ref m3, .ref m4, .ref m5, .null, .null, .int 0, .ref m6, .int 0, .int 0, .int 0, .long 0, .null, .ref m7, .ref m8, .int 0, .int 0, .long 0])), (lp, .inr (0, [.int 0, .ref te, .int 0]))] := hD
  have hK : va_K (dC, dI) vwCl [] s := hK
  refine W.widen (k := 90) (n := 78009) (Nat.le_of_ble_eq_true rfl) (Nat.le_of_ble_eq_true rfl) ?_
  refine lv_istore (lv' := [(5, .int 1), (4, .int 0), (3, .ref qo), (2, .ref qm), (1, .ref qx), (0, .ref b)]) hx hb dL_law_749 hl (by decide) rfl (fun ls hl => ?_)
  refine lv_aload_n hx hb dL_law_751 rfl (lv_at hl 3 rfl) ?_
  have hPc := hP.sub (ws' := [(qm, .inr (17, [.ref lp, .null, .null, .int 0, .int 0, .ref m1, .ref m2, .ref m3, .ref m4, .ref m5, .null, .null, .int 0, .ref m6, .int 0, .int 0, .int 0, .long 0, .null, .ref m7, .ref m8, .int 0, .int 0, .long 0])), (lp, .inr (0, [.int 0, .ref te, .int 0]))]) [0, 1] rfl
  have hDc := hD.sub (ws' := [(qm, .inr (17, [.ref lp, .null, .null, .int 0, .int 0, .ref m1, .ref m2, .ref m3, .ref m4, .ref m5, .null, .null, .int 0, .ref m6, .int 0, .int 0, .int 0, .long 0, .null, .ref m7, .ref m8, .int 0, .int 0, .long 0])), (lp, .inr (0, [.int 0, .ref te, .int 0]))]) [0, 1] (by decide) rfl
  have hKc := hK.sub (tys' := []) [] rfl
  have hFc := va_free (wc := [(qm, .inr (17, [.ref lp, .null, .null, .int 0, .int 0, .ref m1, .ref m2, .ref m3, .ref m4, .ref m5, .null, .null, .int 0, .ref m6, .int 0, .int 0, .int 0, .long 0, .null, .ref m7, .ref m8, .int 0, .int 0, .long 0])), (lp, .inr (0, [.int 0, .ref te, .int 0]))]) hD hS hA [0, 1] rfl
  refine va_calli (va_runV (As := []) (rest := []) ⟨hx, hb, hml, hown, hts⟩ (c_M_raise l dC dI tp te H_1.size qm lp m1 m2 m3 m4 m5 m6 m7 m8) (cwV 0 hts g_law_149_M_raise rfl rfl rfl (by decide +kernel) ⟨Nat.le_of_ble_eq_true rfl, Nat.le_of_ble_eq_true rfl⟩) ⟨Pw.blind, va_recv hKc hPc (ci := 17) (q0 := 0) rfl rfl, Pw.mk hPc hKc hDc hG hS hFc⟩ rfl rfl hl.1 rfl (lv_room (Nat.le_of_ble_eq_true rfl)) dL_law_752 ⟨Nat.le_of_ble_eq_true rfl, Nat.le_of_ble_eq_true rfl⟩) hS (fun q _ h => hFc q h) hFc (fun r u t9 H_3 locs ht hvm hw hB hz1 hk1 hS => ?_)
  have hw : r = 0 := hw
  subst hw
  obtain ⟨hP1, hK1, hD1⟩ := hB
  rw [ht] at hP1
  have hK1 := va_K.moved hvm.symm hK1
  obtain ⟨hP, hD⟩ := va_join (wr := []) (w1 := [(qm, .inr (17, [.ref lp, .null, .null, .int 0, .int 1, .ref m1, .ref m2, .ref m3, .ref m4, .ref m5, .null, .null, .int 0, .ref m6, .int 0, .int 0, .int 0, .long 0, .null, .ref m7, .ref m8, .int 0, .int 0, .long 0]))]) hP hD [0, 1] [] rfl rfl (by decide) (by decide) hk1 hFc hP1 hD1
  have hK := (hK.sub (tys' := []) [] rfl).app hK1
  have hP : va_P (dC, dI) vwCl [(qm, .inr (17, [.ref lp, .null, .null, .int 0, .int 1, .ref m1, .ref m2, .ref m3, .ref m4, .ref m5, .null, .null, .int 0, .ref m6, .int 0, .int 0, .int 0, .long 0, .null, .ref m7, .ref m8, .int 0, .int 0, .long 0]))] H_3 := hP
  have hD : va_D A [(qm, .inr (17, [.ref lp, .null, .null, .int 0, .int 1, .ref m1, .ref m2, .ref m3, .ref m4, .ref m5, .null, .null, .int 0, .ref m6, .int 0, .int 0, .int 0, .long 0, .null, .ref m7, .ref m8, .int 0, .int 0, .long 0]))] := hD
  have hK : va_K (dC, dI) vwCl [] s := hK
  refine W.widen (k := 90) (n := 78009) (Nat.le_of_ble_eq_true rfl) (Nat.le_of_ble_eq_true rfl) ?_
  refine lv_istore (lv' := [(6, .int 0), (5, .int 1), (4, .int 0), (3, .ref qo), (2, .ref qm), (1, .ref qx), (0, .ref b)]) hx hb dL_law_755 hl (by decide) rfl (fun ls hl => ?_)
  refine lv_aload_n hx hb dL_law_757 rfl (lv_at hl 4 rfl) ?_
  have hPc := hP.sub (ws' := [(qm, .inr (17, [.ref lp, .null, .null, .int 0, .int 1, .ref m1, .ref m2, .ref m3, .ref m4, .ref m5, .null, .null, .int 0, .ref m6, .int 0, .int 0, .int 0, .long 0, .null, .ref m7, .ref m8, .int 0, .int 0, .long 0]))]) [0] rfl
  have hDc := hD.sub (ws' := [(qm, .inr (17, [.ref lp, .null, .null, .int 0, .int 1, .ref m1, .ref m2, .ref m3, .ref m4, .ref m5, .null, .null, .int 0, .ref m6, .int 0, .int 0, .int 0, .long 0, .null, .ref m7, .ref m8, .int 0, .int 0, .long 0]))]) [0] (by decide) rfl
  have hKc := hK.sub (tys' := []) [] rfl
  have hFc := va_free (wc := [(qm, .inr (17, [.ref lp, .null, .null, .int 0, .int 1, .ref m1, .ref m2, .ref m3, .ref m4, .ref m5, .null, .null, .int 0, .ref m6, .int 0, .int 0, .int 0, .long 0, .null, .ref m7, .ref m8, .int 0, .int 0, .long 0]))]) hD hS hA [0] rfl
  refine va_calli (va_runV (As := []) (rest := []) ⟨hx, hb, hml, hown, hts⟩ (c_thrown l dC dI tp te H_3.size qm lp m1 m2 m3 m4 m5 m6 m7 m8 1) (cwV 0 hts g_law_113_thrown rfl rfl rfl (by decide +kernel) ⟨Nat.le_of_ble_eq_true rfl, Nat.le_of_ble_eq_true rfl⟩) ⟨Pw.blind, va_recv hKc hPc (ci := 17) (q0 := 0) rfl rfl, Pw.mk hPc hKc hDc hG hS hFc⟩ rfl rfl hl.1 rfl (lv_room (Nat.le_of_ble_eq_true rfl)) dL_law_758 ⟨Nat.le_of_ble_eq_true rfl, Nat.le_of_ble_eq_true rfl⟩) hS (fun q _ h => hFc q h) hFc (fun r u t9 H_5 locs ht hvm hw hB hz1 hk1 hS => ?_)
  have hw : r = 1 := hw
  subst hw
  obtain ⟨hP1, hK1, hD1⟩ := hB
  rw [ht] at hP1
  have hK1 := va_K.moved hvm.symm hK1
  obtain ⟨hP, hD⟩ := va_join (wr := []) (w1 := [(qm, .inr (17, [.ref lp, .null, .null, .int 0, .int 1, .ref m1, .ref m2, .ref m3, .ref m4, .ref m5, .null, .null, .int 0, .ref m6, .int 0, .int 0, .int 0, .long 0, .null, .ref m7, .ref m8, .int 0, .int 0, .long 0]))]) hP hD [0] [] rfl rfl (by decide) (by decide) hk1 hFc hP1 hD1
  have hK := (hK.sub (tys' := []) [] rfl).app hK1
  have hP : va_P (dC, dI) vwCl [(qm, .inr (17, [.ref lp, .null, .null, .int 0, .int 1, .ref m1, .ref m2, .ref m3, .ref m4, .ref m5, .null, .null, .int 0, .ref m6, .int 0, .int 0, .int 0, .long 0, .null, .ref m7, .ref m8, .int 0, .int 0, .long 0]))] H_5 := hP
  have hD : va_D A [(qm, .inr (17, [.ref lp, .null, .null, .int 0, .int 1, .ref m1, .ref m2, .ref m3, .ref m4, .ref m5, .null, .null, .int 0, .ref m6, .int 0, .int 0, .int 0, .long 0, .null, .ref m7, .ref m8, .int 0, .int 0, .long 0]))] := hD
  have hK : va_K (dC, dI) vwCl [] s := hK
  refine W.widen (k := 90) (n := 78009) (Nat.le_of_ble_eq_true rfl) (Nat.le_of_ble_eq_true rfl) ?_
  refine lv_iload hx hb dL_law_761 (lv_at hl 1 rfl) ?_
  refine lv_icmp_eq (tgt := 768) hx hb dL_law_763 (by decide) (fun c9 => ?_) (fun c9 => absurd (by decide) c9)
  refine lv_iload hx hb dL_law_768 (lv_at hl 1 rfl) ?_
  refine lv_if_ne (tgt := 785) hx hb dL_law_770 (by decide) (fun c9 => ?_) (fun c9 => absurd c9 (by decide))
  refine lv_goto (tgt := 1569) hx hb dL_law_785 (by decide) ?_
  exact lc_next C0 hAA hS (lv_sub hl [6, 2] rfl) (Nat.le_of_ble_eq_true rfl) (Nat.le_of_ble_eq_true rfl)
set_option maxHeartbeats 4000000 in
set_option maxRecDepth 100000 in
theorem lc_handle_neg {p : Program} {l : Launch} {e : Env} {s : State} {m : MethodId} {below : List Frame} {meth : Method} {c : Code} (hlt : l.stackTraces = false) {b : Nat} {xs : Nat → Int32} (C0 : lw_At p s m meth c b 3 xs) {A : Nat → Prop} (hAA : A = fun q : Nat => s.heap.size ≤ q) {dC : Nat → ClassId} {dI : Nat → Nat → Nat} {tp te : Nat} (hG : gx tp te A s s.heap) {qx rp rt rc r1 r2 r3 r4 a1 a2 a3 a4 a5 a6 a7 t1 t2 t3 t4 t5 t6 t7 c1 c2 c3 c4 c5 c6 c7 qm lp m1 m2 m3 m4 m5 m6 m7 m8 qo : Nat} {k1 k2 k3 k4 k5 k6 k7 ko : ClassId} {H : Heap} {locs : List Loc} (hK : va_K (dC, dI) vwCl [(k1, .int), (k2, .int), (k3, .int), (k4, .long), (k5, .int), (k6, .int), (k7, .int), (ko, .long)] s) (hP : va_P (dC, dI) vwCl [(qx, .inr (8, [.ref rp, .int 0, .ref rt, .ref rc, .int ((-1)), .ref r1, .ref r2, .ref r3, .ref r4, .null, .int 0])), (rp, .inr (6, [.ref a1, .ref a2, .ref a3, .ref a4, .ref a5, .ref a6, .ref a7, .int 0])), (a1, .inl (k1, 1200, .inl (fun _ => 0))), (a2, .inl (k2, 1200, .inl (fun _ => 0))), (a3, .inl (k3, 1200, .inl (fun _ => 0))), (a4, .inl (k4, 1200, .inr (.inl (fun _ => 0)))), (a5, .inl (k5, 1200, .inl (fun _ => 0))), (a6, .inl (k6, 1200, .inl (fun _ => 0))), (a7, .inl (k7, 1200, .inl (fun _ => 0))), (rt, .inr (6, [.ref t1, .ref t2, .ref t3, .ref t4, .ref t5, .ref t6, .ref t7, .int 0])), (rc, .inr (6, [.ref c1, .ref c2, .ref c3, .ref c4, .ref c5, .ref c6, .ref c7, .int 0])), (qm, .inr (17, [.ref lp, .null, .null, .int 0, .int 0, .ref m1, .ref m2, .ref m3, .ref m4, .ref m5, .null, .null, .int 0, .ref m6, .int 0, .int 0, .int 0, .long 0, .null, .ref m7, .ref m8, .int 0, .int 0, .long 0])), (lp, .inr (0, [.int 0, .ref te, .int 0])), (qo, .inl (ko, 1, .inr (.inl (fun _ => 0))))] H) (hD : va_D A [(qx, .inr (8, [.ref rp, .int 0, .ref rt, .ref rc, .int ((-1)), .ref r1, .ref r2, .ref r3, .ref r4, .null, .int 0])), (rp, .inr (6, [.ref a1, .ref a2, .ref a3, .ref a4, .ref a5, .ref a6, .ref a7, .int 0])), (a1, .inl (k1, 1200, .inl (fun _ => 0))), (a2, .inl (k2, 1200, .inl (fun _ => 0))), (a3, .inl (k3, 1200, .inl (fun _ => 0))), (a4, .inl (k4, 1200, .inr (.inl (fun _ => 0)))), (a5, .inl (k5, 1200, .inl (fun _ => 0))), (a6, .inl (k6, 1200, .inl (fun _ => 0))), (a7, .inl (k7, 1200, .inl (fun _ => 0))), (rt, .inr (6, [.ref t1, .ref t2, .ref t3, .ref t4, .ref t5, .ref t6, .ref t7, .int 0])), (rc, .inr (6, [.ref c1, .ref c2, .ref c3, .ref c4, .ref c5, .ref c6, .ref c7, .int 0])), (qm, .inr (17, [.ref lp, .null, .null, .int 0, .int 0, .ref m1, .ref m2, .ref m3, .ref m4, .ref m5, .null, .null, .int 0, .ref m6, .int 0, .int 0, .int 0, .long 0, .null, .ref m7, .ref m8, .int 0, .int 0, .long 0])), (lp, .inr (0, [.int 0, .ref te, .int 0])), (qo, .inl (ko, 1, .inr (.inl (fun _ => 0))))]) (hS : va_S A s.heap H locs) {ls : Array Slot} (hl : lv_has ls 8 [(4, .int 0), (3, .ref qo), (2, .ref qm), (1, .ref qx), (0, .ref b)]) (p1 p2 : Int32) (e1 : xs (1 : Int32).toNatClampNeg = p1) (e2 : xs (2 : Int32).toNatClampNeg = p2) (hvn : p1 < 0) : W p l e room_1 s m #[Value.ref b] below meth c H locs 89 78003 (lw_Z below #[Value.ref b] s) (F0 m 788 ls []) := by
  obtain ⟨hx, hb, hr, hml, hown, hts0, hX, hbl, hlocks, hgv⟩ := id C0
  have hts : ∀ w ∈ z_law, w.before #[Value.ref b] s = true := fun w h => hts0 w (z_law_in w h)
  have hown : s.vm.findClass RL = some m.cls := hown
  have hA : ∀ q : Nat, s.heap.size ≤ q → A q := fun q h => by rw [hAA]; exact h
  have hbA : ¬ A b := by rw [hAA]; exact Nat.not_le.mpr hbl
  have hP := hP.sub (ws' := [(qx, .inr (8, [.ref rp, .int 0, .ref rt, .ref rc, .int ((-1)), .ref r1, .ref r2, .ref r3, .ref r4, .null, .int 0])), (qm, .inr (17, [.ref lp, .null, .null, .int 0, .int 0, .ref m1, .ref m2, .ref m3, .ref m4, .ref m5, .null, .null, .int 0, .ref m6, .int 0, .int 0, .int 0, .long 0, .null, .ref m7, .ref m8, .int 0, .int 0, .long 0])), (lp, .inr (0, [.int 0, .ref te, .int 0]))]) [0, 11, 12] rfl
  have hD := hD.sub (ws' := [(qx, .inr (8, [.ref rp, .int 0, .ref rt, .ref rc, .int ((-1)), .ref r1, .ref r2, .ref r3, .ref r4, .null, .int 0])), (qm, .inr (17, [.ref lp, .null, .null, .int 0, .int 0, .ref m1, .ref m2, .ref m3, .ref m4, .ref m5, .null, .null, .int 0, .ref m6, .int 0, .int 0, .int 0, .long 0, .null, .ref m7, .ref m8, .int 0, .int 0, .long 0])), (lp, .inr (0, [.int 0, .ref te, .int 0]))]) [0, 11, 12] (by decide) rfl
  have hK := hK.sub (tys' := []) [] rfl
  have hP : va_P (dC, dI) vwCl [(qx, .inr (8, [.ref rp, .int 0, .ref rt, .ref rc, .int ((-1)), .ref r1, .ref r2, .ref r3, .ref r4, .null, .int 0])), (qm, .inr (17, [.ref lp, .null, .null, .int 0, .int 0, .ref m1, .ref m2, .ref m3, .ref m4, .ref m5, .null, .null, .int 0, .ref m6, .int 0, .int 0, .int 0, .long 0, .null, .ref m7, .ref m8, .int 0, .int 0, .long 0])), (lp, .inr (0, [.int 0, .ref te, .int 0]))] H := hP
  have hD : va_D A [(qx, .inr (8, [.ref rp, .int 0, .ref rt, .ref rc, .int ((-1)), .ref r1, .ref r2, .ref r3, .ref r4, .null, .int 0])), (qm, .inr (17, [.ref lp, .null, .null, .int 0, .int 0, .ref m1, .ref m2, .ref m3, .ref m4, .ref m5, .null, .null, .int 0, .ref m6, .int 0, .int 0, .int 0, .long 0, .null, .ref m7, .ref m8, .int 0, .int 0, .long 0])), (lp, .inr (0, [.int 0, .ref te, .int 0]))] := hD
  have hK : va_K (dC, dI) vwCl [] s := hK
  refine lv_aload_n hx hb dL_law_788 rfl (lv_at hl 3 rfl) ?_
  refine lv_aload_n hx hb dL_law_789 rfl (lv_at hl 4 rfl) ?_
  refine lv_iload hx hb dL_law_790 (lv_at hl 0 rfl) ?_
  refine lv_iconst (v := 1) hx hb dL_law_792 (by decide) ?_
  refine lv_iadd hx hb dL_law_793 ?_
  refine lv_topi (fun z_1 ez_1 => ?_)
  obtain rfl : z_1 = 1 := ez_1.trans (by decide)
  refine va_sld hx hb hX hbl hbA hS (by unfold vp_in; decide +kernel) dL_law_794 ?_
  refine lv_topi (fun z_2 ez_2 => ?_)
  obtain rfl : p1 = z_2 := (ez_2.trans e1).symm
  refine lv_aload_n hx hb dL_law_795 rfl (lv_at hl 1 rfl) ?_
  have hPc := hP.sub (ws' := [(qx, .inr (8, [.ref rp, .int 0, .ref rt, .ref rc, .int ((-1)), .ref r1, .ref r2, .ref r3, .ref r4, .null, .int 0]))]) [0] rfl
  have hDc := hD.sub (ws' := [(qx, .inr (8, [.ref rp, .int 0, .ref rt, .ref rc, .int ((-1)), .ref r1, .ref r2, .ref r3, .ref r4, .null, .int 0]))]) [0] (by decide) rfl
  have hKc := hK.sub (tys' := []) [] rfl
  have hFc := va_free (wc := [(qx, .inr (8, [.ref rp, .int 0, .ref rt, .ref rc, .int ((-1)), .ref r1, .ref r2, .ref r3, .ref r4, .null, .int 0]))]) hD hS hA [0] rfl
  refine vx_calli (vx_runSX (As := [.ref qx, .int p1, .ref qo]) (rest := []) ⟨hx, hb, hml, hown, hts⟩ (c_L_handle_neg l dC dI tp te H.size hlt qx rp rt rc r1 r2 r3 r4 p1 qo hvn) (vx_cwSW 3 hts g_law_150_L_handle_neg rfl rfl rfl (by decide +kernel) ⟨Nat.le_of_ble_eq_true rfl, Nat.le_of_ble_eq_true rfl⟩) ⟨Pw.blind, Pw.mk hPc hKc hDc hG hS hFc⟩ rfl rfl hl.1 rfl (lv_room (Nat.le_of_ble_eq_true rfl)) dL_law_796 ⟨Nat.le_of_ble_eq_true rfl, Nat.le_of_ble_eq_true rfl⟩) hS (fun q _ h => hFc q h) hFc (fun q _ h => hFc q h) (fun E ce q9 u t9 H1 locs ht hvm hpx hBX hz1 hk1 hS hce hcv hcl => hpx.elim) (fun r u t9 H_3 locs ht hvm hw hB hz1 hk1 hS => ?_)
  have hw : r = 1 := hw
  subst hw
  obtain ⟨hP, hD⟩ := va_join (wr := [(qm, .inr (17, [.ref lp, .null, .null, .int 0, .int 0, .ref m1, .ref m2, .ref m3, .ref m4, .ref m5, .null, .null, .int 0, .ref m6, .int 0, .int 0, .int 0, .long 0, .null, .ref m7, .ref m8, .int 0, .int 0, .long 0])), (lp, .inr (0, [.int 0, .ref te, .int 0]))]) (w1 := []) hP hD [0] [1, 2] rfl rfl (by decide) (by decide) hk1 hFc va_P.nil va_D.nil
  have hK := hK.sub (tys' := []) [] rfl
  have hP : va_P (dC, dI) vwCl [(qm, .inr (17, [.ref lp, .null, .null, .int 0, .int 0, .ref m1, .ref m2, .ref m3, .ref m4, .ref m5, .null, .null, .int 0, .ref m6, .int 0, .int 0, .int 0, .long 0, .null, .ref m7, .ref m8, .int 0, .int 0, .long 0])), (lp, .inr (0, [.int 0, .ref te, .int 0]))] H_3 := hP
  have hD : va_D A [(qm, .inr (17, [.ref lp, .null, .null, .int 0, .int 0, .ref m1, .ref m2, .ref m3, .ref m4, .ref m5, .null, .null, .int 0, .ref m6, .int 0, .int 0, .int 0, .long 0, .null, .ref m7, .ref m8, .int 0, .int 0, .long 0])), (lp, .inr (0, [.int 0, .ref te, .int 0]))] := hD
  have hK : va_K (dC, dI) vwCl [] s := hK
  refine W.widen (k := 90) (n := 78009) (Nat.le_of_ble_eq_true rfl) (Nat.le_of_ble_eq_true rfl) ?_
  refine lv_istore (lv' := [(5, .int 1), (4, .int 0), (3, .ref qo), (2, .ref qm), (1, .ref qx), (0, .ref b)]) hx hb dL_law_799 hl (by decide) rfl (fun ls hl => ?_)
  refine lv_aload_n hx hb dL_law_801 rfl (lv_at hl 3 rfl) ?_
  refine lv_aload_n hx hb dL_law_802 rfl (lv_at hl 5 rfl) ?_
  refine lv_iload hx hb dL_law_803 (lv_at hl 1 rfl) ?_
  refine lv_iconst (v := 1) hx hb dL_law_805 (by decide) ?_
  refine lv_iadd hx hb dL_law_806 ?_
  refine lv_topi (fun z_5 ez_5 => ?_)
  obtain rfl : z_5 = 1 := ez_5.trans (by decide)
  refine va_sld hx hb hX hbl hbA hS (by unfold vp_in; decide +kernel) dL_law_807 ?_
  refine lv_topi (fun z_6 ez_6 => ?_)
  obtain rfl : p1 = z_6 := (ez_6.trans e1).symm
  have hPc := hP.sub (ws' := [(qm, .inr (17, [.ref lp, .null, .null, .int 0, .int 0, .ref m1, .ref m2, .ref m3, .ref m4, .ref m5, .null, .null, .int 0, .ref m6, .int 0, .int 0, .int 0, .long 0, .null, .ref m7, .ref m8, .int 0, .int 0, .long 0])), (lp, .inr (0, [.int 0, .ref te, .int 0]))]) [0, 1] rfl
  have hDc := hD.sub (ws' := [(qm, .inr (17, [.ref lp, .null, .null, .int 0, .int 0, .ref m1, .ref m2, .ref m3, .ref m4, .ref m5, .null, .null, .int 0, .ref m6, .int 0, .int 0, .int 0, .long 0, .null, .ref m7, .ref m8, .int 0, .int 0, .long 0])), (lp, .inr (0, [.int 0, .ref te, .int 0]))]) [0, 1] (by decide) rfl
  have hKc := hK.sub (tys' := []) [] rfl
  have hFc := va_free (wc := [(qm, .inr (17, [.ref lp, .null, .null, .int 0, .int 0, .ref m1, .ref m2, .ref m3, .ref m4, .ref m5, .null, .null, .int 0, .ref m6, .int 0, .int 0, .int 0, .long 0, .null, .ref m7, .ref m8, .int 0, .int 0, .long 0])), (lp, .inr (0, [.int 0, .ref te, .int 0]))]) hD hS hA [0, 1] rfl
  refine va_calli (va_runV (As := [.int p1]) (rest := []) ⟨hx, hb, hml, hown, hts⟩ (c_M_handle_neg l dC dI tp te H_3.size qm lp m1 m2 m3 m4 m5 m6 m7 m8 p1 hvn) (cwV 1 hts g_law_152_M_handle_neg rfl rfl rfl (by decide +kernel) ⟨Nat.le_of_ble_eq_true rfl, Nat.le_of_ble_eq_true rfl⟩) ⟨Pw.blind, va_recv hKc hPc (ci := 17) (q0 := 0) rfl rfl, Pw.mk hPc hKc hDc hG hS hFc⟩ rfl rfl hl.1 rfl (lv_room (Nat.le_of_ble_eq_true rfl)) dL_law_808 ⟨Nat.le_of_ble_eq_true rfl, Nat.le_of_ble_eq_true rfl⟩) hS (fun q _ h => hFc q h) hFc (fun r u t9 H_7 locs ht hvm hw hB hz1 hk1 hS => ?_)
  have hw : r = 0 := hw
  subst hw
  obtain ⟨hP1, hK1, hD1⟩ := hB
  rw [ht] at hP1
  have hK1 := va_K.moved hvm.symm hK1
  obtain ⟨hP, hD⟩ := va_join (wr := []) (w1 := [(qm, .inr (17, [.ref lp, .null, .null, .int 0, .int 1, .ref m1, .ref m2, .ref m3, .ref m4, .ref m5, .null, .null, .int 0, .ref m6, .int 0, .int 0, .int 0, .long 0, .null, .ref m7, .ref m8, .int 0, .int 0, .long 0]))]) hP hD [0, 1] [] rfl rfl (by decide) (by decide) hk1 hFc hP1 hD1
  have hK := (hK.sub (tys' := []) [] rfl).app hK1
  have hP : va_P (dC, dI) vwCl [(qm, .inr (17, [.ref lp, .null, .null, .int 0, .int 1, .ref m1, .ref m2, .ref m3, .ref m4, .ref m5, .null, .null, .int 0, .ref m6, .int 0, .int 0, .int 0, .long 0, .null, .ref m7, .ref m8, .int 0, .int 0, .long 0]))] H_7 := hP
  have hD : va_D A [(qm, .inr (17, [.ref lp, .null, .null, .int 0, .int 1, .ref m1, .ref m2, .ref m3, .ref m4, .ref m5, .null, .null, .int 0, .ref m6, .int 0, .int 0, .int 0, .long 0, .null, .ref m7, .ref m8, .int 0, .int 0, .long 0]))] := hD
  have hK : va_K (dC, dI) vwCl [] s := hK
  refine W.widen (k := 90) (n := 78009) (Nat.le_of_ble_eq_true rfl) (Nat.le_of_ble_eq_true rfl) ?_
  refine lv_istore (lv' := [(6, .int 0), (5, .int 1), (4, .int 0), (3, .ref qo), (2, .ref qm), (1, .ref qx), (0, .ref b)]) hx hb dL_law_811 hl (by decide) rfl (fun ls hl => ?_)
  refine lv_aload_n hx hb dL_law_813 rfl (lv_at hl 4 rfl) ?_
  have hPc := hP.sub (ws' := [(qm, .inr (17, [.ref lp, .null, .null, .int 0, .int 1, .ref m1, .ref m2, .ref m3, .ref m4, .ref m5, .null, .null, .int 0, .ref m6, .int 0, .int 0, .int 0, .long 0, .null, .ref m7, .ref m8, .int 0, .int 0, .long 0]))]) [0] rfl
  have hDc := hD.sub (ws' := [(qm, .inr (17, [.ref lp, .null, .null, .int 0, .int 1, .ref m1, .ref m2, .ref m3, .ref m4, .ref m5, .null, .null, .int 0, .ref m6, .int 0, .int 0, .int 0, .long 0, .null, .ref m7, .ref m8, .int 0, .int 0, .long 0]))]) [0] (by decide) rfl
  have hKc := hK.sub (tys' := []) [] rfl
  have hFc := va_free (wc := [(qm, .inr (17, [.ref lp, .null, .null, .int 0, .int 1, .ref m1, .ref m2, .ref m3, .ref m4, .ref m5, .null, .null, .int 0, .ref m6, .int 0, .int 0, .int 0, .long 0, .null, .ref m7, .ref m8, .int 0, .int 0, .long 0]))]) hD hS hA [0] rfl
  refine va_calli (va_runV (As := []) (rest := []) ⟨hx, hb, hml, hown, hts⟩ (c_thrown l dC dI tp te H_7.size qm lp m1 m2 m3 m4 m5 m6 m7 m8 1) (cwV 0 hts g_law_113_thrown rfl rfl rfl (by decide +kernel) ⟨Nat.le_of_ble_eq_true rfl, Nat.le_of_ble_eq_true rfl⟩) ⟨Pw.blind, va_recv hKc hPc (ci := 17) (q0 := 0) rfl rfl, Pw.mk hPc hKc hDc hG hS hFc⟩ rfl rfl hl.1 rfl (lv_room (Nat.le_of_ble_eq_true rfl)) dL_law_814 ⟨Nat.le_of_ble_eq_true rfl, Nat.le_of_ble_eq_true rfl⟩) hS (fun q _ h => hFc q h) hFc (fun r u t9 H_9 locs ht hvm hw hB hz1 hk1 hS => ?_)
  have hw : r = 1 := hw
  subst hw
  obtain ⟨hP1, hK1, hD1⟩ := hB
  rw [ht] at hP1
  have hK1 := va_K.moved hvm.symm hK1
  obtain ⟨hP, hD⟩ := va_join (wr := []) (w1 := [(qm, .inr (17, [.ref lp, .null, .null, .int 0, .int 1, .ref m1, .ref m2, .ref m3, .ref m4, .ref m5, .null, .null, .int 0, .ref m6, .int 0, .int 0, .int 0, .long 0, .null, .ref m7, .ref m8, .int 0, .int 0, .long 0]))]) hP hD [0] [] rfl rfl (by decide) (by decide) hk1 hFc hP1 hD1
  have hK := (hK.sub (tys' := []) [] rfl).app hK1
  have hP : va_P (dC, dI) vwCl [(qm, .inr (17, [.ref lp, .null, .null, .int 0, .int 1, .ref m1, .ref m2, .ref m3, .ref m4, .ref m5, .null, .null, .int 0, .ref m6, .int 0, .int 0, .int 0, .long 0, .null, .ref m7, .ref m8, .int 0, .int 0, .long 0]))] H_9 := hP
  have hD : va_D A [(qm, .inr (17, [.ref lp, .null, .null, .int 0, .int 1, .ref m1, .ref m2, .ref m3, .ref m4, .ref m5, .null, .null, .int 0, .ref m6, .int 0, .int 0, .int 0, .long 0, .null, .ref m7, .ref m8, .int 0, .int 0, .long 0]))] := hD
  have hK : va_K (dC, dI) vwCl [] s := hK
  refine W.widen (k := 90) (n := 78009) (Nat.le_of_ble_eq_true rfl) (Nat.le_of_ble_eq_true rfl) ?_
  refine lv_iload hx hb dL_law_817 (lv_at hl 1 rfl) ?_
  refine lv_icmp_eq (tgt := 824) hx hb dL_law_819 (by decide) (fun c9 => ?_) (fun c9 => absurd (by decide) c9)
  refine lv_iload hx hb dL_law_824 (lv_at hl 1 rfl) ?_
  refine lv_if_ne (tgt := 841) hx hb dL_law_826 (by decide) (fun c9 => ?_) (fun c9 => absurd c9 (by decide))
  refine lv_goto (tgt := 1569) hx hb dL_law_841 (by decide) ?_
  exact lc_next C0 hAA hS (lv_sub hl [6, 2] rfl) (Nat.le_of_ble_eq_true rfl) (Nat.le_of_ble_eq_true rfl)
set_option maxHeartbeats 4000000 in
set_option maxRecDepth 100000 in
theorem lc_handle_big {p : Program} {l : Launch} {e : Env} {s : State} {m : MethodId} {below : List Frame} {meth : Method} {c : Code} (hlt : l.stackTraces = false) {b : Nat} {xs : Nat → Int32} (C0 : lw_At p s m meth c b 3 xs) {A : Nat → Prop} (hAA : A = fun q : Nat => s.heap.size ≤ q) {dC : Nat → ClassId} {dI : Nat → Nat → Nat} {tp te : Nat} (hG : gx tp te A s s.heap) {qx rp rt rc r1 r2 r3 r4 a1 a2 a3 a4 a5 a6 a7 t1 t2 t3 t4 t5 t6 t7 c1 c2 c3 c4 c5 c6 c7 qm lp m1 m2 m3 m4 m5 m6 m7 m8 qo : Nat} {k1 k2 k3 k4 k5 k6 k7 ko : ClassId} {H : Heap} {locs : List Loc} (hK : va_K (dC, dI) vwCl [(k1, .int), (k2, .int), (k3, .int), (k4, .long), (k5, .int), (k6, .int), (k7, .int), (ko, .long)] s) (hP : va_P (dC, dI) vwCl [(qx, .inr (8, [.ref rp, .int 0, .ref rt, .ref rc, .int ((-1)), .ref r1, .ref r2, .ref r3, .ref r4, .null, .int 0])), (rp, .inr (6, [.ref a1, .ref a2, .ref a3, .ref a4, .ref a5, .ref a6, .ref a7, .int 0])), (a1, .inl (k1, 1200, .inl (fun _ => 0))), (a2, .inl (k2, 1200, .inl (fun _ => 0))), (a3, .inl (k3, 1200, .inl (fun _ => 0))), (a4, .inl (k4, 1200, .inr (.inl (fun _ => 0)))), (a5, .inl (k5, 1200, .inl (fun _ => 0))), (a6, .inl (k6, 1200, .inl (fun _ => 0))), (a7, .inl (k7, 1200, .inl (fun _ => 0))), (rt, .inr (6, [.ref t1, .ref t2, .ref t3, .ref t4, .ref t5, .ref t6, .ref t7, .int 0])), (rc, .inr (6, [.ref c1, .ref c2, .ref c3, .ref c4, .ref c5, .ref c6, .ref c7, .int 0])), (qm, .inr (17, [.ref lp, .null, .null, .int 0, .int 0, .ref m1, .ref m2, .ref m3, .ref m4, .ref m5, .null, .null, .int 0, .ref m6, .int 0, .int 0, .int 0, .long 0, .null, .ref m7, .ref m8, .int 0, .int 0, .long 0])), (lp, .inr (0, [.int 0, .ref te, .int 0])), (qo, .inl (ko, 1, .inr (.inl (fun _ => 0))))] H) (hD : va_D A [(qx, .inr (8, [.ref rp, .int 0, .ref rt, .ref rc, .int ((-1)), .ref r1, .ref r2, .ref r3, .ref r4, .null, .int 0])), (rp, .inr (6, [.ref a1, .ref a2, .ref a3, .ref a4, .ref a5, .ref a6, .ref a7, .int 0])), (a1, .inl (k1, 1200, .inl (fun _ => 0))), (a2, .inl (k2, 1200, .inl (fun _ => 0))), (a3, .inl (k3, 1200, .inl (fun _ => 0))), (a4, .inl (k4, 1200, .inr (.inl (fun _ => 0)))), (a5, .inl (k5, 1200, .inl (fun _ => 0))), (a6, .inl (k6, 1200, .inl (fun _ => 0))), (a7, .inl (k7, 1200, .inl (fun _ => 0))), (rt, .inr (6, [.ref t1, .ref t2, .ref t3, .ref t4, .ref t5, .ref t6, .ref t7, .int 0])), (rc, .inr (6, [.ref c1, .ref c2, .ref c3, .ref c4, .ref c5, .ref c6, .ref c7, .int 0])), (qm, .inr (17, [.ref lp, .null, .null, .int 0, .int 0, .ref m1, .ref m2, .ref m3, .ref m4, .ref m5, .null, .null, .int 0, .ref m6, .int 0, .int 0, .int 0, .long 0, .null, .ref m7, .ref m8, .int 0, .int 0, .long 0])), (lp, .inr (0, [.int 0, .ref te, .int 0])), (qo, .inl (ko, 1, .inr (.inl (fun _ => 0))))]) (hS : va_S A s.heap H locs) {ls : Array Slot} (hl : lv_has ls 8 [(4, .int 0), (3, .ref qo), (2, .ref qm), (1, .ref qx), (0, .ref b)]) (p1 p2 : Int32) (e1 : xs (1 : Int32).toNatClampNeg = p1) (e2 : xs (2 : Int32).toNatClampNeg = p2) (hvn : ¬ p1 < 0) (hvb : ¬ p1 < 10) (hvc : 10 ≤ p1) : W p l e room_1 s m #[Value.ref b] below meth c H locs 89 78003 (lw_Z below #[Value.ref b] s) (F0 m 788 ls []) := by
  obtain ⟨hx, hb, hr, hml, hown, hts0, hX, hbl, hlocks, hgv⟩ := id C0
  have hts : ∀ w ∈ z_law, w.before #[Value.ref b] s = true := fun w h => hts0 w (z_law_in w h)
  have hown : s.vm.findClass RL = some m.cls := hown
  have hA : ∀ q : Nat, s.heap.size ≤ q → A q := fun q h => by rw [hAA]; exact h
  have hbA : ¬ A b := by rw [hAA]; exact Nat.not_le.mpr hbl
  have hP := hP.sub (ws' := [(qx, .inr (8, [.ref rp, .int 0, .ref rt, .ref rc, .int ((-1)), .ref r1, .ref r2, .ref r3, .ref r4, .null, .int 0])), (qm, .inr (17, [.ref lp, .null, .null, .int 0, .int 0, .ref m1, .ref m2, .ref m3, .ref m4, .ref m5, .null, .null, .int 0, .ref m6, .int 0, .int 0, .int 0, .long 0, .null, .ref m7, .ref m8, .int 0, .int 0, .long 0])), (lp, .inr (0, [.int 0, .ref te, .int 0]))]) [0, 11, 12] rfl
  have hD := hD.sub (ws' := [(qx, .inr (8, [.ref rp, .int 0, .ref rt, .ref rc, .int ((-1)), .ref r1, .ref r2, .ref r3, .ref r4, .null, .int 0])), (qm, .inr (17, [.ref lp, .null, .null, .int 0, .int 0, .ref m1, .ref m2, .ref m3, .ref m4, .ref m5, .null, .null, .int 0, .ref m6, .int 0, .int 0, .int 0, .long 0, .null, .ref m7, .ref m8, .int 0, .int 0, .long 0])), (lp, .inr (0, [.int 0, .ref te, .int 0]))]) [0, 11, 12] (by decide) rfl
  have hK := hK.sub (tys' := []) [] rfl
  have hP : va_P (dC, dI) vwCl [(qx, .inr (8, [.ref rp, .int 0, .ref rt, .ref rc, .int ((-1)), .ref r1, .ref r2, .ref r3, .ref r4, .null, .int 0])), (qm, .inr (17, [.ref lp, .null, .null, .int 0, .int 0, .ref m1, .ref m2, .ref m3, .ref m4, .ref m5, .null, .null, .int 0, .ref m6, .int 0, .int 0, .int 0, .long 0, .null, .ref m7, .ref m8, .int 0, .int 0, .long 0])), (lp, .inr (0, [.int 0, .ref te, .int 0]))] H := hP
  have hD : va_D A [(qx, .inr (8, [.ref rp, .int 0, .ref rt, .ref rc, .int ((-1)), .ref r1, .ref r2, .ref r3, .ref r4, .null, .int 0])), (qm, .inr (17, [.ref lp, .null, .null, .int 0, .int 0, .ref m1, .ref m2, .ref m3, .ref m4, .ref m5, .null, .null, .int 0, .ref m6, .int 0, .int 0, .int 0, .long 0, .null, .ref m7, .ref m8, .int 0, .int 0, .long 0])), (lp, .inr (0, [.int 0, .ref te, .int 0]))] := hD
  have hK : va_K (dC, dI) vwCl [] s := hK
  refine lv_aload_n hx hb dL_law_788 rfl (lv_at hl 3 rfl) ?_
  refine lv_aload_n hx hb dL_law_789 rfl (lv_at hl 4 rfl) ?_
  refine lv_iload hx hb dL_law_790 (lv_at hl 0 rfl) ?_
  refine lv_iconst (v := 1) hx hb dL_law_792 (by decide) ?_
  refine lv_iadd hx hb dL_law_793 ?_
  refine lv_topi (fun z_1 ez_1 => ?_)
  obtain rfl : z_1 = 1 := ez_1.trans (by decide)
  refine va_sld hx hb hX hbl hbA hS (by unfold vp_in; decide +kernel) dL_law_794 ?_
  refine lv_topi (fun z_2 ez_2 => ?_)
  obtain rfl : p1 = z_2 := (ez_2.trans e1).symm
  refine lv_aload_n hx hb dL_law_795 rfl (lv_at hl 1 rfl) ?_
  have hPc := hP.sub (ws' := [(qx, .inr (8, [.ref rp, .int 0, .ref rt, .ref rc, .int ((-1)), .ref r1, .ref r2, .ref r3, .ref r4, .null, .int 0]))]) [0] rfl
  have hDc := hD.sub (ws' := [(qx, .inr (8, [.ref rp, .int 0, .ref rt, .ref rc, .int ((-1)), .ref r1, .ref r2, .ref r3, .ref r4, .null, .int 0]))]) [0] (by decide) rfl
  have hKc := hK.sub (tys' := []) [] rfl
  have hFc := va_free (wc := [(qx, .inr (8, [.ref rp, .int 0, .ref rt, .ref rc, .int ((-1)), .ref r1, .ref r2, .ref r3, .ref r4, .null, .int 0]))]) hD hS hA [0] rfl
  refine vx_calli (vx_runSX (As := [.ref qx, .int p1, .ref qo]) (rest := []) ⟨hx, hb, hml, hown, hts⟩ (c_L_handle_big l dC dI tp te H.size hlt qx rp rt rc r1 r2 r3 r4 p1 qo hvn hvb hvc) (vx_cwSW 3 hts g_law_150_L_handle_big rfl rfl rfl (by decide +kernel) ⟨Nat.le_of_ble_eq_true rfl, Nat.le_of_ble_eq_true rfl⟩) ⟨Pw.blind, Pw.mk hPc hKc hDc hG hS hFc⟩ rfl rfl hl.1 rfl (lv_room (Nat.le_of_ble_eq_true rfl)) dL_law_796 ⟨Nat.le_of_ble_eq_true rfl, Nat.le_of_ble_eq_true rfl⟩) hS (fun q _ h => hFc q h) hFc (fun q _ h => hFc q h) (fun E ce q9 u t9 H1 locs ht hvm hpx hBX hz1 hk1 hS hce hcv hcl => hpx.elim) (fun r u t9 H_3 locs ht hvm hw hB hz1 hk1 hS => ?_)
  have hw : r = 1 := hw
  subst hw
  obtain ⟨hP, hD⟩ := va_join (wr := [(qm, .inr (17, [.ref lp, .null, .null, .int 0, .int 0, .ref m1, .ref m2, .ref m3, .ref m4, .ref m5, .null, .null, .int 0, .ref m6, .int 0, .int 0, .int 0, .long 0, .null, .ref m7, .ref m8, .int 0, .int 0, .long 0])), (lp, .inr (0, [.int 0, .ref te, .int 0]))]) (w1 := []) hP hD [0] [1, 2] rfl rfl (by decide) (by decide) hk1 hFc va_P.nil va_D.nil
  have hK := hK.sub (tys' := []) [] rfl
  have hP : va_P (dC, dI) vwCl [(qm, .inr (17, [.ref lp, .null, .null, .int 0, .int 0, .ref m1, .ref m2, .ref m3, .ref m4, .ref m5, .null, .null, .int 0, .ref m6, .int 0, .int 0, .int 0, .long 0, .null, .ref m7, .ref m8, .int 0, .int 0, .long 0])), (lp, .inr (0, [.int 0, .ref te, .int 0]))] H_3 := hP
  have hD : va_D A [(qm, .inr (17, [.ref lp, .null, .null, .int 0, .int 0, .ref m1, .ref m2, .ref m3, .ref m4, .ref m5, .null, .null, .int 0, .ref m6, .int 0, .int 0, .int 0, .long 0, .null, .ref m7, .ref m8, .int 0, .int 0, .long 0])), (lp, .inr (0, [.int 0, .ref te, .int 0]))] := hD
  have hK : va_K (dC, dI) vwCl [] s := hK
  refine W.widen (k := 90) (n := 78009) (Nat.le_of_ble_eq_true rfl) (Nat.le_of_ble_eq_true rfl) ?_
  refine lv_istore (lv' := [(5, .int 1), (4, .int 0), (3, .ref qo), (2, .ref qm), (1, .ref qx), (0, .ref b)]) hx hb dL_law_799 hl (by decide) rfl (fun ls hl => ?_)
  refine lv_aload_n hx hb dL_law_801 rfl (lv_at hl 3 rfl) ?_
  refine lv_aload_n hx hb dL_law_802 rfl (lv_at hl 5 rfl) ?_
  refine lv_iload hx hb dL_law_803 (lv_at hl 1 rfl) ?_
  refine lv_iconst (v := 1) hx hb dL_law_805 (by decide) ?_
  refine lv_iadd hx hb dL_law_806 ?_
  refine lv_topi (fun z_5 ez_5 => ?_)
  obtain rfl : z_5 = 1 := ez_5.trans (by decide)
  refine va_sld hx hb hX hbl hbA hS (by unfold vp_in; decide +kernel) dL_law_807 ?_
  refine lv_topi (fun z_6 ez_6 => ?_)
  obtain rfl : p1 = z_6 := (ez_6.trans e1).symm
  have hPc := hP.sub (ws' := [(qm, .inr (17, [.ref lp, .null, .null, .int 0, .int 0, .ref m1, .ref m2, .ref m3, .ref m4, .ref m5, .null, .null, .int 0, .ref m6, .int 0, .int 0, .int 0, .long 0, .null, .ref m7, .ref m8, .int 0, .int 0, .long 0])), (lp, .inr (0, [.int 0, .ref te, .int 0]))]) [0, 1] rfl
  have hDc := hD.sub (ws' := [(qm, .inr (17, [.ref lp, .null, .null, .int 0, .int 0, .ref m1, .ref m2, .ref m3, .ref m4, .ref m5, .null, .null, .int 0, .ref m6, .int 0, .int 0, .int 0, .long 0, .null, .ref m7, .ref m8, .int 0, .int 0, .long 0])), (lp, .inr (0, [.int 0, .ref te, .int 0]))]) [0, 1] (by decide) rfl
  have hKc := hK.sub (tys' := []) [] rfl
  have hFc := va_free (wc := [(qm, .inr (17, [.ref lp, .null, .null, .int 0, .int 0, .ref m1, .ref m2, .ref m3, .ref m4, .ref m5, .null, .null, .int 0, .ref m6, .int 0, .int 0, .int 0, .long 0, .null, .ref m7, .ref m8, .int 0, .int 0, .long 0])), (lp, .inr (0, [.int 0, .ref te, .int 0]))]) hD hS hA [0, 1] rfl
  refine va_calli (va_runV (As := [.int p1]) (rest := []) ⟨hx, hb, hml, hown, hts⟩ (c_M_handle_big l dC dI tp te H_3.size qm lp m1 m2 m3 m4 m5 m6 m7 m8 p1 hvn hvb hvc) (cwV 1 hts g_law_152_M_handle_big rfl rfl rfl (by decide +kernel) ⟨Nat.le_of_ble_eq_true rfl, Nat.le_of_ble_eq_true rfl⟩) ⟨Pw.blind, va_recv hKc hPc (ci := 17) (q0 := 0) rfl rfl, Pw.mk hPc hKc hDc hG hS hFc⟩ rfl rfl hl.1 rfl (lv_room (Nat.le_of_ble_eq_true rfl)) dL_law_808 ⟨Nat.le_of_ble_eq_true rfl, Nat.le_of_ble_eq_true rfl⟩) hS (fun q _ h => hFc q h) hFc (fun r u t9 H_7 locs ht hvm hw hB hz1 hk1 hS => ?_)
  have hw : r = 0 := hw
  subst hw
  obtain ⟨hP1, hK1, hD1⟩ := hB
  rw [ht] at hP1
  have hK1 := va_K.moved hvm.symm hK1
  obtain ⟨hP, hD⟩ := va_join (wr := []) (w1 := [(qm, .inr (17, [.ref lp, .null, .null, .int 0, .int 1, .ref m1, .ref m2, .ref m3, .ref m4, .ref m5, .null, .null, .int 0, .ref m6, .int 0, .int 0, .int 0, .long 0, .null, .ref m7, .ref m8, .int 0, .int 0, .long 0]))]) hP hD [0, 1] [] rfl rfl (by decide) (by decide) hk1 hFc hP1 hD1
  have hK := (hK.sub (tys' := []) [] rfl).app hK1
  have hP : va_P (dC, dI) vwCl [(qm, .inr (17, [.ref lp, .null, .null, .int 0, .int 1, .ref m1, .ref m2, .ref m3, .ref m4, .ref m5, .null, .null, .int 0, .ref m6, .int 0, .int 0, .int 0, .long 0, .null, .ref m7, .ref m8, .int 0, .int 0, .long 0]))] H_7 := hP
  have hD : va_D A [(qm, .inr (17, [.ref lp, .null, .null, .int 0, .int 1, .ref m1, .ref m2, .ref m3, .ref m4, .ref m5, .null, .null, .int 0, .ref m6, .int 0, .int 0, .int 0, .long 0, .null, .ref m7, .ref m8, .int 0, .int 0, .long 0]))] := hD
  have hK : va_K (dC, dI) vwCl [] s := hK
  refine W.widen (k := 90) (n := 78009) (Nat.le_of_ble_eq_true rfl) (Nat.le_of_ble_eq_true rfl) ?_
  refine lv_istore (lv' := [(6, .int 0), (5, .int 1), (4, .int 0), (3, .ref qo), (2, .ref qm), (1, .ref qx), (0, .ref b)]) hx hb dL_law_811 hl (by decide) rfl (fun ls hl => ?_)
  refine lv_aload_n hx hb dL_law_813 rfl (lv_at hl 4 rfl) ?_
  have hPc := hP.sub (ws' := [(qm, .inr (17, [.ref lp, .null, .null, .int 0, .int 1, .ref m1, .ref m2, .ref m3, .ref m4, .ref m5, .null, .null, .int 0, .ref m6, .int 0, .int 0, .int 0, .long 0, .null, .ref m7, .ref m8, .int 0, .int 0, .long 0]))]) [0] rfl
  have hDc := hD.sub (ws' := [(qm, .inr (17, [.ref lp, .null, .null, .int 0, .int 1, .ref m1, .ref m2, .ref m3, .ref m4, .ref m5, .null, .null, .int 0, .ref m6, .int 0, .int 0, .int 0, .long 0, .null, .ref m7, .ref m8, .int 0, .int 0, .long 0]))]) [0] (by decide) rfl
  have hKc := hK.sub (tys' := []) [] rfl
  have hFc := va_free (wc := [(qm, .inr (17, [.ref lp, .null, .null, .int 0, .int 1, .ref m1, .ref m2, .ref m3, .ref m4, .ref m5, .null, .null, .int 0, .ref m6, .int 0, .int 0, .int 0, .long 0, .null, .ref m7, .ref m8, .int 0, .int 0, .long 0]))]) hD hS hA [0] rfl
  refine va_calli (va_runV (As := []) (rest := []) ⟨hx, hb, hml, hown, hts⟩ (c_thrown l dC dI tp te H_7.size qm lp m1 m2 m3 m4 m5 m6 m7 m8 1) (cwV 0 hts g_law_113_thrown rfl rfl rfl (by decide +kernel) ⟨Nat.le_of_ble_eq_true rfl, Nat.le_of_ble_eq_true rfl⟩) ⟨Pw.blind, va_recv hKc hPc (ci := 17) (q0 := 0) rfl rfl, Pw.mk hPc hKc hDc hG hS hFc⟩ rfl rfl hl.1 rfl (lv_room (Nat.le_of_ble_eq_true rfl)) dL_law_814 ⟨Nat.le_of_ble_eq_true rfl, Nat.le_of_ble_eq_true rfl⟩) hS (fun q _ h => hFc q h) hFc (fun r u t9 H_9 locs ht hvm hw hB hz1 hk1 hS => ?_)
  have hw : r = 1 := hw
  subst hw
  obtain ⟨hP1, hK1, hD1⟩ := hB
  rw [ht] at hP1
  have hK1 := va_K.moved hvm.symm hK1
  obtain ⟨hP, hD⟩ := va_join (wr := []) (w1 := [(qm, .inr (17, [.ref lp, .null, .null, .int 0, .int 1, .ref m1, .ref m2, .ref m3, .ref m4, .ref m5, .null, .null, .int 0, .ref m6, .int 0, .int 0, .int 0, .long 0, .null, .ref m7, .ref m8, .int 0, .int 0, .long 0]))]) hP hD [0] [] rfl rfl (by decide) (by decide) hk1 hFc hP1 hD1
  have hK := (hK.sub (tys' := []) [] rfl).app hK1
  have hP : va_P (dC, dI) vwCl [(qm, .inr (17, [.ref lp, .null, .null, .int 0, .int 1, .ref m1, .ref m2, .ref m3, .ref m4, .ref m5, .null, .null, .int 0, .ref m6, .int 0, .int 0, .int 0, .long 0, .null, .ref m7, .ref m8, .int 0, .int 0, .long 0]))] H_9 := hP
  have hD : va_D A [(qm, .inr (17, [.ref lp, .null, .null, .int 0, .int 1, .ref m1, .ref m2, .ref m3, .ref m4, .ref m5, .null, .null, .int 0, .ref m6, .int 0, .int 0, .int 0, .long 0, .null, .ref m7, .ref m8, .int 0, .int 0, .long 0]))] := hD
  have hK : va_K (dC, dI) vwCl [] s := hK
  refine W.widen (k := 90) (n := 78009) (Nat.le_of_ble_eq_true rfl) (Nat.le_of_ble_eq_true rfl) ?_
  refine lv_iload hx hb dL_law_817 (lv_at hl 1 rfl) ?_
  refine lv_icmp_eq (tgt := 824) hx hb dL_law_819 (by decide) (fun c9 => ?_) (fun c9 => absurd (by decide) c9)
  refine lv_iload hx hb dL_law_824 (lv_at hl 1 rfl) ?_
  refine lv_if_ne (tgt := 841) hx hb dL_law_826 (by decide) (fun c9 => ?_) (fun c9 => absurd c9 (by decide))
  refine lv_goto (tgt := 1569) hx hb dL_law_841 (by decide) ?_
  exact lc_next C0 hAA hS (lv_sub hl [6, 2] rfl) (Nat.le_of_ble_eq_true rfl) (Nat.le_of_ble_eq_true rfl)
set_option maxHeartbeats 4000000 in
set_option maxRecDepth 100000 in
theorem lc_handle_ok {p : Program} {l : Launch} {e : Env} {s : State} {m : MethodId} {below : List Frame} {meth : Method} {c : Code} (hlt : l.stackTraces = false) {b : Nat} {xs : Nat → Int32} (C0 : lw_At p s m meth c b 3 xs) {A : Nat → Prop} (hAA : A = fun q : Nat => s.heap.size ≤ q) {dC : Nat → ClassId} {dI : Nat → Nat → Nat} {tp te : Nat} (hG : gx tp te A s s.heap) {qx rp rt rc r1 r2 r3 r4 a1 a2 a3 a4 a5 a6 a7 t1 t2 t3 t4 t5 t6 t7 c1 c2 c3 c4 c5 c6 c7 qm lp m1 m2 m3 m4 m5 m6 m7 m8 qo : Nat} {k1 k2 k3 k4 k5 k6 k7 ko : ClassId} {H : Heap} {locs : List Loc} (hK : va_K (dC, dI) vwCl [(k1, .int), (k2, .int), (k3, .int), (k4, .long), (k5, .int), (k6, .int), (k7, .int), (ko, .long)] s) (hP : va_P (dC, dI) vwCl [(qx, .inr (8, [.ref rp, .int 0, .ref rt, .ref rc, .int ((-1)), .ref r1, .ref r2, .ref r3, .ref r4, .null, .int 0])), (rp, .inr (6, [.ref a1, .ref a2, .ref a3, .ref a4, .ref a5, .ref a6, .ref a7, .int 0])), (a1, .inl (k1, 1200, .inl (fun _ => 0))), (a2, .inl (k2, 1200, .inl (fun _ => 0))), (a3, .inl (k3, 1200, .inl (fun _ => 0))), (a4, .inl (k4, 1200, .inr (.inl (fun _ => 0)))), (a5, .inl (k5, 1200, .inl (fun _ => 0))), (a6, .inl (k6, 1200, .inl (fun _ => 0))), (a7, .inl (k7, 1200, .inl (fun _ => 0))), (rt, .inr (6, [.ref t1, .ref t2, .ref t3, .ref t4, .ref t5, .ref t6, .ref t7, .int 0])), (rc, .inr (6, [.ref c1, .ref c2, .ref c3, .ref c4, .ref c5, .ref c6, .ref c7, .int 0])), (qm, .inr (17, [.ref lp, .null, .null, .int 0, .int 0, .ref m1, .ref m2, .ref m3, .ref m4, .ref m5, .null, .null, .int 0, .ref m6, .int 0, .int 0, .int 0, .long 0, .null, .ref m7, .ref m8, .int 0, .int 0, .long 0])), (lp, .inr (0, [.int 0, .ref te, .int 0])), (qo, .inl (ko, 1, .inr (.inl (fun _ => 0))))] H) (hD : va_D A [(qx, .inr (8, [.ref rp, .int 0, .ref rt, .ref rc, .int ((-1)), .ref r1, .ref r2, .ref r3, .ref r4, .null, .int 0])), (rp, .inr (6, [.ref a1, .ref a2, .ref a3, .ref a4, .ref a5, .ref a6, .ref a7, .int 0])), (a1, .inl (k1, 1200, .inl (fun _ => 0))), (a2, .inl (k2, 1200, .inl (fun _ => 0))), (a3, .inl (k3, 1200, .inl (fun _ => 0))), (a4, .inl (k4, 1200, .inr (.inl (fun _ => 0)))), (a5, .inl (k5, 1200, .inl (fun _ => 0))), (a6, .inl (k6, 1200, .inl (fun _ => 0))), (a7, .inl (k7, 1200, .inl (fun _ => 0))), (rt, .inr (6, [.ref t1, .ref t2, .ref t3, .ref t4, .ref t5, .ref t6, .ref t7, .int 0])), (rc, .inr (6, [.ref c1, .ref c2, .ref c3, .ref c4, .ref c5, .ref c6, .ref c7, .int 0])), (qm, .inr (17, [.ref lp, .null, .null, .int 0, .int 0, .ref m1, .ref m2, .ref m3, .ref m4, .ref m5, .null, .null, .int 0, .ref m6, .int 0, .int 0, .int 0, .long 0, .null, .ref m7, .ref m8, .int 0, .int 0, .long 0])), (lp, .inr (0, [.int 0, .ref te, .int 0])), (qo, .inl (ko, 1, .inr (.inl (fun _ => 0))))]) (hS : va_S A s.heap H locs) {ls : Array Slot} (hl : lv_has ls 8 [(4, .int 0), (3, .ref qo), (2, .ref qm), (1, .ref qx), (0, .ref b)]) (p1 p2 : Int32) (e1 : xs (1 : Int32).toNatClampNeg = p1) (e2 : xs (2 : Int32).toNatClampNeg = p2) (hvn : ¬ p1 < 0) (hvb : p1 < 10) (hvc : ¬ 10 ≤ p1) : W p l e room_1 s m #[Value.ref b] below meth c H locs 89 78003 (lw_Z below #[Value.ref b] s) (F0 m 788 ls []) := by
  obtain ⟨hx, hb, hr, hml, hown, hts0, hX, hbl, hlocks, hgv⟩ := id C0
  have hts : ∀ w ∈ z_law, w.before #[Value.ref b] s = true := fun w h => hts0 w (z_law_in w h)
  have hown : s.vm.findClass RL = some m.cls := hown
  have hA : ∀ q : Nat, s.heap.size ≤ q → A q := fun q h => by rw [hAA]; exact h
  have hbA : ¬ A b := by rw [hAA]; exact Nat.not_le.mpr hbl
  have hP := hP.sub (ws' := [(qx, .inr (8, [.ref rp, .int 0, .ref rt, .ref rc, .int ((-1)), .ref r1, .ref r2, .ref r3, .ref r4, .null, .int 0])), (qm, .inr (17, [.ref lp, .null, .null, .int 0, .int 0, .ref m1, .ref m2, .ref m3, .ref m4, .ref m5, .null, .null, .int 0, .ref m6, .int 0, .int 0, .int 0, .long 0, .null, .ref m7, .ref m8, .int 0, .int 0, .long 0])), (lp, .inr (0, [.int 0, .ref te, .int 0]))]) [0, 11, 12] rfl
  have hD := hD.sub (ws' := [(qx, .inr (8, [.ref rp, .int 0, .ref rt, .ref rc, .int ((-1)), .ref r1, .ref r2, .ref r3, .ref r4, .null, .int 0])), (qm, .inr (17, [.ref lp, .null, .null, .int 0, .int 0, .ref m1, .ref m2, .ref m3, .ref m4, .ref m5, .null, .null, .int 0, .ref m6, .int 0, .int 0, .int 0, .long 0, .null, .ref m7, .ref m8, .int 0, .int 0, .long 0])), (lp, .inr (0, [.int 0, .ref te, .int 0]))]) [0, 11, 12] (by decide) rfl
  have hK := hK.sub (tys' := []) [] rfl
  have hP : va_P (dC, dI) vwCl [(qx, .inr (8, [.ref rp, .int 0, .ref rt, .ref rc, .int ((-1)), .ref r1, .ref r2, .ref r3, .ref r4, .null, .int 0])), (qm, .inr (17, [.ref lp, .null, .null, .int 0, .int 0, .ref m1, .ref m2, .ref m3, .ref m4, .ref m5, .null, .null, .int 0, .ref m6, .int 0, .int 0, .int 0, .long 0, .null, .ref m7, .ref m8, .int 0, .int 0, .long 0])), (lp, .inr (0, [.int 0, .ref te, .int 0]))] H := hP
  have hD : va_D A [(qx, .inr (8, [.ref rp, .int 0, .ref rt, .ref rc, .int ((-1)), .ref r1, .ref r2, .ref r3, .ref r4, .null, .int 0])), (qm, .inr (17, [.ref lp, .null, .null, .int 0, .int 0, .ref m1, .ref m2, .ref m3, .ref m4, .ref m5, .null, .null, .int 0, .ref m6, .int 0, .int 0, .int 0, .long 0, .null, .ref m7, .ref m8, .int 0, .int 0, .long 0])), (lp, .inr (0, [.int 0, .ref te, .int 0]))] := hD
  have hK : va_K (dC, dI) vwCl [] s := hK
  refine lv_aload_n hx hb dL_law_788 rfl (lv_at hl 3 rfl) ?_
  refine lv_aload_n hx hb dL_law_789 rfl (lv_at hl 4 rfl) ?_
  refine lv_iload hx hb dL_law_790 (lv_at hl 0 rfl) ?_
  refine lv_iconst (v := 1) hx hb dL_law_792 (by decide) ?_
  refine lv_iadd hx hb dL_law_793 ?_
  refine lv_topi (fun z_1 ez_1 => ?_)
  obtain rfl : z_1 = 1 := ez_1.trans (by decide)
  refine va_sld hx hb hX hbl hbA hS (by unfold vp_in; decide +kernel) dL_law_794 ?_
  refine lv_topi (fun z_2 ez_2 => ?_)
  obtain rfl : p1 = z_2 := (ez_2.trans e1).symm
  refine lv_aload_n hx hb dL_law_795 rfl (lv_at hl 1 rfl) ?_
  have hPc := hP.sub (ws' := [(qx, .inr (8, [.ref rp, .int 0, .ref rt, .ref rc, .int ((-1)), .ref r1, .ref r2, .ref r3, .ref r4, .null, .int 0]))]) [0] rfl
  have hDc := hD.sub (ws' := [(qx, .inr (8, [.ref rp, .int 0, .ref rt, .ref rc, .int ((-1)), .ref r1, .ref r2, .ref r3, .ref r4, .null, .int 0]))]) [0] (by decide) rfl
  have hKc := hK.sub (tys' := []) [] rfl
  have hFc := va_free (wc := [(qx, .inr (8, [.ref rp, .int 0, .ref rt, .ref rc, .int ((-1)), .ref r1, .ref r2, .ref r3, .ref r4, .null, .int 0]))]) hD hS hA [0] rfl
  refine vx_calli (vx_runSX (As := [.ref qx, .int p1, .ref qo]) (rest := []) ⟨hx, hb, hml, hown, hts⟩ (c_L_handle_ok l dC dI tp te H.size hlt qx rp rt rc r1 r2 r3 r4 p1 qo hvn hvb hvc) (vx_cwSW 3 hts g_law_150_L_handle_ok rfl rfl rfl (by decide +kernel) ⟨Nat.le_of_ble_eq_true rfl, Nat.le_of_ble_eq_true rfl⟩) ⟨Pw.blind, Pw.mk hPc hKc hDc hG hS hFc⟩ rfl rfl hl.1 rfl (lv_room (Nat.le_of_ble_eq_true rfl)) dL_law_796 ⟨Nat.le_of_ble_eq_true rfl, Nat.le_of_ble_eq_true rfl⟩) hS (fun q _ h => hFc q h) hFc (fun q _ h => hFc q h) (fun E ce q9 u t9 H1 locs ht hvm hpx hBX hz1 hk1 hS hce hcv hcl => hpx.elim) (fun r u t9 H_3 locs ht hvm hw hB hz1 hk1 hS => ?_)
  have hw : r = 2 := hw
  subst hw
  obtain ⟨hP, hD⟩ := va_join (wr := [(qm, .inr (17, [.ref lp, .null, .null, .int 0, .int 0, .ref m1, .ref m2, .ref m3, .ref m4, .ref m5, .null, .null, .int 0, .ref m6, .int 0, .int 0, .int 0, .long 0, .null, .ref m7, .ref m8, .int 0, .int 0, .long 0])), (lp, .inr (0, [.int 0, .ref te, .int 0]))]) (w1 := []) hP hD [0] [1, 2] rfl rfl (by decide) (by decide) hk1 hFc va_P.nil va_D.nil
  have hK := hK.sub (tys' := []) [] rfl
  have hP : va_P (dC, dI) vwCl [(qm, .inr (17, [.ref lp, .null, .null, .int 0, .int 0, .ref m1, .ref m2, .ref m3, .ref m4, .ref m5, .null, .null, .int 0, .ref m6, .int 0, .int 0, .int 0, .long 0, .null, .ref m7, .ref m8, .int 0, .int 0, .long 0])), (lp, .inr (0, [.int 0, .ref te, .int 0]))] H_3 := hP
  have hD : va_D A [(qm, .inr (17, [.ref lp, .null, .null, .int 0, .int 0, .ref m1, .ref m2, .ref m3, .ref m4, .ref m5, .null, .null, .int 0, .ref m6, .int 0, .int 0, .int 0, .long 0, .null, .ref m7, .ref m8, .int 0, .int 0, .long 0])), (lp, .inr (0, [.int 0, .ref te, .int 0]))] := hD
  have hK : va_K (dC, dI) vwCl [] s := hK
  refine W.widen (k := 90) (n := 78009) (Nat.le_of_ble_eq_true rfl) (Nat.le_of_ble_eq_true rfl) ?_
  refine lv_istore (lv' := [(5, .int 2), (4, .int 0), (3, .ref qo), (2, .ref qm), (1, .ref qx), (0, .ref b)]) hx hb dL_law_799 hl (by decide) rfl (fun ls hl => ?_)
  refine lv_aload_n hx hb dL_law_801 rfl (lv_at hl 3 rfl) ?_
  refine lv_aload_n hx hb dL_law_802 rfl (lv_at hl 5 rfl) ?_
  refine lv_iload hx hb dL_law_803 (lv_at hl 1 rfl) ?_
  refine lv_iconst (v := 1) hx hb dL_law_805 (by decide) ?_
  refine lv_iadd hx hb dL_law_806 ?_
  refine lv_topi (fun z_5 ez_5 => ?_)
  obtain rfl : z_5 = 1 := ez_5.trans (by decide)
  refine va_sld hx hb hX hbl hbA hS (by unfold vp_in; decide +kernel) dL_law_807 ?_
  refine lv_topi (fun z_6 ez_6 => ?_)
  obtain rfl : p1 = z_6 := (ez_6.trans e1).symm
  have hPc := hP.sub (ws' := [(qm, .inr (17, [.ref lp, .null, .null, .int 0, .int 0, .ref m1, .ref m2, .ref m3, .ref m4, .ref m5, .null, .null, .int 0, .ref m6, .int 0, .int 0, .int 0, .long 0, .null, .ref m7, .ref m8, .int 0, .int 0, .long 0])), (lp, .inr (0, [.int 0, .ref te, .int 0]))]) [0, 1] rfl
  have hDc := hD.sub (ws' := [(qm, .inr (17, [.ref lp, .null, .null, .int 0, .int 0, .ref m1, .ref m2, .ref m3, .ref m4, .ref m5, .null, .null, .int 0, .ref m6, .int 0, .int 0, .int 0, .long 0, .null, .ref m7, .ref m8, .int 0, .int 0, .long 0])), (lp, .inr (0, [.int 0, .ref te, .int 0]))]) [0, 1] (by decide) rfl
  have hKc := hK.sub (tys' := []) [] rfl
  have hFc := va_free (wc := [(qm, .inr (17, [.ref lp, .null, .null, .int 0, .int 0, .ref m1, .ref m2, .ref m3, .ref m4, .ref m5, .null, .null, .int 0, .ref m6, .int 0, .int 0, .int 0, .long 0, .null, .ref m7, .ref m8, .int 0, .int 0, .long 0])), (lp, .inr (0, [.int 0, .ref te, .int 0]))]) hD hS hA [0, 1] rfl
  refine va_calli (va_runV (As := [.int p1]) (rest := []) ⟨hx, hb, hml, hown, hts⟩ (c_M_handle_ok l dC dI tp te H_3.size qm lp m1 m2 m3 m4 m5 m6 m7 m8 p1 hvn hvb hvc) (cwV 1 hts g_law_152_M_handle_ok rfl rfl rfl (by decide +kernel) ⟨Nat.le_of_ble_eq_true rfl, Nat.le_of_ble_eq_true rfl⟩) ⟨Pw.blind, va_recv hKc hPc (ci := 17) (q0 := 0) rfl rfl, Pw.mk hPc hKc hDc hG hS hFc⟩ rfl rfl hl.1 rfl (lv_room (Nat.le_of_ble_eq_true rfl)) dL_law_808 ⟨Nat.le_of_ble_eq_true rfl, Nat.le_of_ble_eq_true rfl⟩) hS (fun q _ h => hFc q h) hFc (fun r u t9 H_7 locs ht hvm hw hB hz1 hk1 hS => ?_)
  have hw : r = 0 := hw
  subst hw
  obtain ⟨hP1, hK1, hD1⟩ := hB
  rw [ht] at hP1
  have hK1 := va_K.moved hvm.symm hK1
  obtain ⟨hP, hD⟩ := va_join (wr := []) (w1 := [(qm, .inr (17, [.ref lp, .null, .null, .int 0, .int 2, .ref m1, .ref m2, .ref m3, .ref m4, .ref m5, .null, .null, .int 0, .ref m6, .int 0, .int 0, .int 0, .long 0, .null, .ref m7, .ref m8, .int 0, .int 0, .long 0]))]) hP hD [0, 1] [] rfl rfl (by decide) (by decide) hk1 hFc hP1 hD1
  have hK := (hK.sub (tys' := []) [] rfl).app hK1
  have hP : va_P (dC, dI) vwCl [(qm, .inr (17, [.ref lp, .null, .null, .int 0, .int 2, .ref m1, .ref m2, .ref m3, .ref m4, .ref m5, .null, .null, .int 0, .ref m6, .int 0, .int 0, .int 0, .long 0, .null, .ref m7, .ref m8, .int 0, .int 0, .long 0]))] H_7 := hP
  have hD : va_D A [(qm, .inr (17, [.ref lp, .null, .null, .int 0, .int 2, .ref m1, .ref m2, .ref m3, .ref m4, .ref m5, .null, .null, .int 0, .ref m6, .int 0, .int 0, .int 0, .long 0, .null, .ref m7, .ref m8, .int 0, .int 0, .long 0]))] := hD
  have hK : va_K (dC, dI) vwCl [] s := hK
  refine W.widen (k := 90) (n := 78009) (Nat.le_of_ble_eq_true rfl) (Nat.le_of_ble_eq_true rfl) ?_
  refine lv_istore (lv' := [(6, .int 0), (5, .int 2), (4, .int 0), (3, .ref qo), (2, .ref qm), (1, .ref qx), (0, .ref b)]) hx hb dL_law_811 hl (by decide) rfl (fun ls hl => ?_)
  refine lv_aload_n hx hb dL_law_813 rfl (lv_at hl 4 rfl) ?_
  have hPc := hP.sub (ws' := [(qm, .inr (17, [.ref lp, .null, .null, .int 0, .int 2, .ref m1, .ref m2, .ref m3, .ref m4, .ref m5, .null, .null, .int 0, .ref m6, .int 0, .int 0, .int 0, .long 0, .null, .ref m7, .ref m8, .int 0, .int 0, .long 0]))]) [0] rfl
  have hDc := hD.sub (ws' := [(qm, .inr (17, [.ref lp, .null, .null, .int 0, .int 2, .ref m1, .ref m2, .ref m3, .ref m4, .ref m5, .null, .null, .int 0, .ref m6, .int 0, .int 0, .int 0, .long 0, .null, .ref m7, .ref m8, .int 0, .int 0, .long 0]))]) [0] (by decide) rfl
  have hKc := hK.sub (tys' := []) [] rfl
  have hFc := va_free (wc := [(qm, .inr (17, [.ref lp, .null, .null, .int 0, .int 2, .ref m1, .ref m2, .ref m3, .ref m4, .ref m5, .null, .null, .int 0, .ref m6, .int 0, .int 0, .int 0, .long 0, .null, .ref m7, .ref m8, .int 0, .int 0, .long 0]))]) hD hS hA [0] rfl
  refine va_calli (va_runV (As := []) (rest := []) ⟨hx, hb, hml, hown, hts⟩ (c_thrown l dC dI tp te H_7.size qm lp m1 m2 m3 m4 m5 m6 m7 m8 2) (cwV 0 hts g_law_113_thrown rfl rfl rfl (by decide +kernel) ⟨Nat.le_of_ble_eq_true rfl, Nat.le_of_ble_eq_true rfl⟩) ⟨Pw.blind, va_recv hKc hPc (ci := 17) (q0 := 0) rfl rfl, Pw.mk hPc hKc hDc hG hS hFc⟩ rfl rfl hl.1 rfl (lv_room (Nat.le_of_ble_eq_true rfl)) dL_law_814 ⟨Nat.le_of_ble_eq_true rfl, Nat.le_of_ble_eq_true rfl⟩) hS (fun q _ h => hFc q h) hFc (fun r u t9 H_9 locs ht hvm hw hB hz1 hk1 hS => ?_)
  have hw : r = 2 := hw
  subst hw
  obtain ⟨hP1, hK1, hD1⟩ := hB
  rw [ht] at hP1
  have hK1 := va_K.moved hvm.symm hK1
  obtain ⟨hP, hD⟩ := va_join (wr := []) (w1 := [(qm, .inr (17, [.ref lp, .null, .null, .int 0, .int 2, .ref m1, .ref m2, .ref m3, .ref m4, .ref m5, .null, .null, .int 0, .ref m6, .int 0, .int 0, .int 0, .long 0, .null, .ref m7, .ref m8, .int 0, .int 0, .long 0]))]) hP hD [0] [] rfl rfl (by decide) (by decide) hk1 hFc hP1 hD1
  have hK := (hK.sub (tys' := []) [] rfl).app hK1
  have hP : va_P (dC, dI) vwCl [(qm, .inr (17, [.ref lp, .null, .null, .int 0, .int 2, .ref m1, .ref m2, .ref m3, .ref m4, .ref m5, .null, .null, .int 0, .ref m6, .int 0, .int 0, .int 0, .long 0, .null, .ref m7, .ref m8, .int 0, .int 0, .long 0]))] H_9 := hP
  have hD : va_D A [(qm, .inr (17, [.ref lp, .null, .null, .int 0, .int 2, .ref m1, .ref m2, .ref m3, .ref m4, .ref m5, .null, .null, .int 0, .ref m6, .int 0, .int 0, .int 0, .long 0, .null, .ref m7, .ref m8, .int 0, .int 0, .long 0]))] := hD
  have hK : va_K (dC, dI) vwCl [] s := hK
  refine W.widen (k := 90) (n := 78009) (Nat.le_of_ble_eq_true rfl) (Nat.le_of_ble_eq_true rfl) ?_
  refine lv_iload hx hb dL_law_817 (lv_at hl 1 rfl) ?_
  refine lv_icmp_eq (tgt := 824) hx hb dL_law_819 (by decide) (fun c9 => ?_) (fun c9 => absurd (by decide) c9)
  refine lv_iload hx hb dL_law_824 (lv_at hl 1 rfl) ?_
  refine lv_if_ne (tgt := 841) hx hb dL_law_826 (by decide) (fun c9 => ?_) (fun c9 => absurd c9 (by decide))
  refine lv_goto (tgt := 1569) hx hb dL_law_841 (by decide) ?_
  exact lc_next C0 hAA hS (lv_sub hl [6, 2] rfl) (Nat.le_of_ble_eq_true rfl) (Nat.le_of_ble_eq_true rfl)
set_option maxHeartbeats 4000000 in
set_option maxRecDepth 100000 in
theorem lc_program {p : Program} {l : Launch} {e : Env} {s : State} {m : MethodId} {below : List Frame} {meth : Method} {c : Code} (hlt : l.stackTraces = false) {b : Nat} {xs : Nat → Int32} (C0 : lw_At p s m meth c b 3 xs) {A : Nat → Prop} (hAA : A = fun q : Nat => s.heap.size ≤ q) {dC : Nat → ClassId} {dI : Nat → Nat → Nat} {tp te : Nat} (hG : gx tp te A s s.heap) {qx rp rt rc r1 r2 r3 r4 a1 a2 a3 a4 a5 a6 a7 t1 t2 t3 t4 t5 t6 t7 c1 c2 c3 c4 c5 c6 c7 qm lp m1 m2 m3 m4 m5 m6 m7 m8 qo : Nat} {k1 k2 k3 k4 k5 k6 k7 ko : ClassId} {H : Heap} {locs : List Loc} (hK : va_K (dC, dI) vwCl [(k1, .int), (k2, .int), (k3, .int), (k4, .long), (k5, .int), (k6, .int), (k7, .int), (ko, .long)] s) (hP : va_P (dC, dI) vwCl [(qx, .inr (8, [.ref rp, .int 0, .ref rt, .ref rc, .int ((-1)), .ref r1, .ref r2, .ref r3, .ref r4, .null, .int 0])), (rp, .inr (6, [.ref a1, .ref a2, .ref a3, .ref a4, .ref a5, .ref a6, .ref a7, .int 0])), (a1, .inl (k1, 1200, .inl (fun _ => 0))), (a2, .inl (k2, 1200, .inl (fun _ => 0))), (a3, .inl (k3, 1200, .inl (fun _ => 0))), (a4, .inl (k4, 1200, .inr (.inl (fun _ => 0)))), (a5, .inl (k5, 1200, .inl (fun _ => 0))), (a6, .inl (k6, 1200, .inl (fun _ => 0))), (a7, .inl (k7, 1200, .inl (fun _ => 0))), (rt, .inr (6, [.ref t1, .ref t2, .ref t3, .ref t4, .ref t5, .ref t6, .ref t7, .int 0])), (rc, .inr (6, [.ref c1, .ref c2, .ref c3, .ref c4, .ref c5, .ref c6, .ref c7, .int 0])), (qm, .inr (17, [.ref lp, .null, .null, .int 0, .int 0, .ref m1, .ref m2, .ref m3, .ref m4, .ref m5, .null, .null, .int 0, .ref m6, .int 0, .int 0, .int 0, .long 0, .null, .ref m7, .ref m8, .int 0, .int 0, .long 0])), (lp, .inr (0, [.int 0, .ref te, .int 0])), (qo, .inl (ko, 1, .inr (.inl (fun _ => 0))))] H) (hD : va_D A [(qx, .inr (8, [.ref rp, .int 0, .ref rt, .ref rc, .int ((-1)), .ref r1, .ref r2, .ref r3, .ref r4, .null, .int 0])), (rp, .inr (6, [.ref a1, .ref a2, .ref a3, .ref a4, .ref a5, .ref a6, .ref a7, .int 0])), (a1, .inl (k1, 1200, .inl (fun _ => 0))), (a2, .inl (k2, 1200, .inl (fun _ => 0))), (a3, .inl (k3, 1200, .inl (fun _ => 0))), (a4, .inl (k4, 1200, .inr (.inl (fun _ => 0)))), (a5, .inl (k5, 1200, .inl (fun _ => 0))), (a6, .inl (k6, 1200, .inl (fun _ => 0))), (a7, .inl (k7, 1200, .inl (fun _ => 0))), (rt, .inr (6, [.ref t1, .ref t2, .ref t3, .ref t4, .ref t5, .ref t6, .ref t7, .int 0])), (rc, .inr (6, [.ref c1, .ref c2, .ref c3, .ref c4, .ref c5, .ref c6, .ref c7, .int 0])), (qm, .inr (17, [.ref lp, .null, .null, .int 0, .int 0, .ref m1, .ref m2, .ref m3, .ref m4, .ref m5, .null, .null, .int 0, .ref m6, .int 0, .int 0, .int 0, .long 0, .null, .ref m7, .ref m8, .int 0, .int 0, .long 0])), (lp, .inr (0, [.int 0, .ref te, .int 0])), (qo, .inl (ko, 1, .inr (.inl (fun _ => 0))))]) (hS : va_S A s.heap H locs) {ls : Array Slot} (hl : lv_has ls 8 [(4, .int 0), (3, .ref qo), (2, .ref qm), (1, .ref qx), (0, .ref b)]) (p1 p2 : Int32) (e1 : xs (1 : Int32).toNatClampNeg = p1) (e2 : xs (2 : Int32).toNatClampNeg = p2)  : W p l e room_1 s m #[Value.ref b] below meth c H locs 89 78003 (lw_Z below #[Value.ref b] s) (F0 m 844 ls []) := by
  obtain ⟨hx, hb, hr, hml, hown, hts0, hX, hbl, hlocks, hgv⟩ := id C0
  have hts : ∀ w ∈ z_law, w.before #[Value.ref b] s = true := fun w h => hts0 w (z_law_in w h)
  have hown : s.vm.findClass RL = some m.cls := hown
  have hA : ∀ q : Nat, s.heap.size ≤ q → A q := fun q h => by rw [hAA]; exact h
  have hbA : ¬ A b := by rw [hAA]; exact Nat.not_le.mpr hbl
  have hP := hP.sub (ws' := [(qx, .inr (8, [.ref rp, .int 0, .ref rt, .ref rc, .int ((-1)), .ref r1, .ref r2, .ref r3, .ref r4, .null, .int 0])), (qm, .inr (17, [.ref lp, .null, .null, .int 0, .int 0, .ref m1, .ref m2, .ref m3, .ref m4, .ref m5, .null, .null, .int 0, .ref m6, .int 0, .int 0, .int 0, .long 0, .null, .ref m7, .ref m8, .int 0, .int 0, .long 0])), (lp, .inr (0, [.int 0, .ref te, .int 0]))]) [0, 11, 12] rfl
  have hD := hD.sub (ws' := [(qx, .inr (8, [.ref rp, .int 0, .ref rt, .ref rc, .int ((-1)), .ref r1, .ref r2, .ref r3, .ref r4, .null, .int 0])), (qm, .inr (17, [.ref lp, .null, .null, .int 0, .int 0, .ref m1, .ref m2, .ref m3, .ref m4, .ref m5, .null, .null, .int 0, .ref m6, .int 0, .int 0, .int 0, .long 0, .null, .ref m7, .ref m8, .int 0, .int 0, .long 0])), (lp, .inr (0, [.int 0, .ref te, .int 0]))]) [0, 11, 12] (by decide) rfl
  have hK := hK.sub (tys' := []) [] rfl
  have hP : va_P (dC, dI) vwCl [(qx, .inr (8, [.ref rp, .int 0, .ref rt, .ref rc, .int ((-1)), .ref r1, .ref r2, .ref r3, .ref r4, .null, .int 0])), (qm, .inr (17, [.ref lp, .null, .null, .int 0, .int 0, .ref m1, .ref m2, .ref m3, .ref m4, .ref m5, .null, .null, .int 0, .ref m6, .int 0, .int 0, .int 0, .long 0, .null, .ref m7, .ref m8, .int 0, .int 0, .long 0])), (lp, .inr (0, [.int 0, .ref te, .int 0]))] H := hP
  have hD : va_D A [(qx, .inr (8, [.ref rp, .int 0, .ref rt, .ref rc, .int ((-1)), .ref r1, .ref r2, .ref r3, .ref r4, .null, .int 0])), (qm, .inr (17, [.ref lp, .null, .null, .int 0, .int 0, .ref m1, .ref m2, .ref m3, .ref m4, .ref m5, .null, .null, .int 0, .ref m6, .int 0, .int 0, .int 0, .long 0, .null, .ref m7, .ref m8, .int 0, .int 0, .long 0])), (lp, .inr (0, [.int 0, .ref te, .int 0]))] := hD
  have hK : va_K (dC, dI) vwCl [] s := hK
  refine lv_aload_n hx hb dL_law_844 rfl (lv_at hl 3 rfl) ?_
  refine lv_aload_n hx hb dL_law_845 rfl (lv_at hl 1 rfl) ?_
  have hPc := hP.sub (ws' := [(qx, .inr (8, [.ref rp, .int 0, .ref rt, .ref rc, .int ((-1)), .ref r1, .ref r2, .ref r3, .ref r4, .null, .int 0]))]) [0] rfl
  have hDc := hD.sub (ws' := [(qx, .inr (8, [.ref rp, .int 0, .ref rt, .ref rc, .int ((-1)), .ref r1, .ref r2, .ref r3, .ref r4, .null, .int 0]))]) [0] (by decide) rfl
  have hKc := hK.sub (tys' := []) [] rfl
  have hFc := va_free (wc := [(qx, .inr (8, [.ref rp, .int 0, .ref rt, .ref rc, .int ((-1)), .ref r1, .ref r2, .ref r3, .ref r4, .null, .int 0]))]) hD hS hA [0] rfl
  refine vx_calli (vx_runSX (As := [.ref qx, .ref qo]) (rest := []) ⟨hx, hb, hml, hown, hts⟩ (c_L_program l dC dI tp te H.size hlt qx rp rt rc r1 r2 r3 r4 qo) (vx_cwSW 2 hts g_law_153_L_program rfl rfl rfl (by decide +kernel) ⟨Nat.le_of_ble_eq_true rfl, Nat.le_of_ble_eq_true rfl⟩) ⟨Pw.blind, Pw.mk hPc hKc hDc hG hS hFc⟩ rfl rfl hl.1 rfl (lv_room (Nat.le_of_ble_eq_true rfl)) dL_law_846 ⟨Nat.le_of_ble_eq_true rfl, Nat.le_of_ble_eq_true rfl⟩) hS (fun q _ h => hFc q h) hFc (fun q _ h => hFc q h) (fun E ce q9 u t9 H1 locs ht hvm hpx hBX hz1 hk1 hS hce hcv hcl => hpx.elim) (fun r u t9 H_1 locs ht hvm hw hB hz1 hk1 hS => ?_)
  have hw : r = 1 := hw
  subst hw
  obtain ⟨hP, hD⟩ := va_join (wr := [(qm, .inr (17, [.ref lp, .null, .null, .int 0, .int 0, .ref m1, .ref m2, .ref m3, .ref m4, .ref m5, .null, .null, .int 0, .ref m6, .int 0, .int 0, .int 0, .long 0, .null, .ref m7, .ref m8, .int 0, .int 0, .long 0])), (lp, .inr (0, [.int 0, .ref te, .int 0]))]) (w1 := []) hP hD [0] [1, 2] rfl rfl (by decide) (by decide) hk1 hFc va_P.nil va_D.nil
  have hK := hK.sub (tys' := []) [] rfl
  have hP : va_P (dC, dI) vwCl [(qm, .inr (17, [.ref lp, .null, .null, .int 0, .int 0, .ref m1, .ref m2, .ref m3, .ref m4, .ref m5, .null, .null, .int 0, .ref m6, .int 0, .int 0, .int 0, .long 0, .null, .ref m7, .ref m8, .int 0, .int 0, .long 0])), (lp, .inr (0, [.int 0, .ref te, .int 0]))] H_1 := hP
  have hD : va_D A [(qm, .inr (17, [.ref lp, .null, .null, .int 0, .int 0, .ref m1, .ref m2, .ref m3, .ref m4, .ref m5, .null, .null, .int 0, .ref m6, .int 0, .int 0, .int 0, .long 0, .null, .ref m7, .ref m8, .int 0, .int 0, .long 0])), (lp, .inr (0, [.int 0, .ref te, .int 0]))] := hD
  have hK : va_K (dC, dI) vwCl [] s := hK
  refine W.widen (k := 90) (n := 78009) (Nat.le_of_ble_eq_true rfl) (Nat.le_of_ble_eq_true rfl) ?_
  refine lv_istore (lv' := [(5, .int 1), (4, .int 0), (3, .ref qo), (2, .ref qm), (1, .ref qx), (0, .ref b)]) hx hb dL_law_849 hl (by decide) rfl (fun ls hl => ?_)
  refine lv_aload_n hx hb dL_law_851 rfl (lv_at hl 3 rfl) ?_
  have hPc := hP.sub (ws' := [(qm, .inr (17, [.ref lp, .null, .null, .int 0, .int 0, .ref m1, .ref m2, .ref m3, .ref m4, .ref m5, .null, .null, .int 0, .ref m6, .int 0, .int 0, .int 0, .long 0, .null, .ref m7, .ref m8, .int 0, .int 0, .long 0])), (lp, .inr (0, [.int 0, .ref te, .int 0]))]) [0, 1] rfl
  have hDc := hD.sub (ws' := [(qm, .inr (17, [.ref lp, .null, .null, .int 0, .int 0, .ref m1, .ref m2, .ref m3, .ref m4, .ref m5, .null, .null, .int 0, .ref m6, .int 0, .int 0, .int 0, .long 0, .null, .ref m7, .ref m8, .int 0, .int 0, .long 0])), (lp, .inr (0, [.int 0, .ref te, .int 0]))]) [0, 1] (by decide) rfl
  have hKc := hK.sub (tys' := []) [] rfl
  have hFc := va_free (wc := [(qm, .inr (17, [.ref lp, .null, .null, .int 0, .int 0, .ref m1, .ref m2, .ref m3, .ref m4, .ref m5, .null, .null, .int 0, .ref m6, .int 0, .int 0, .int 0, .long 0, .null, .ref m7, .ref m8, .int 0, .int 0, .long 0])), (lp, .inr (0, [.int 0, .ref te, .int 0]))]) hD hS hA [0, 1] rfl
  refine va_calli (va_runV (As := []) (rest := []) ⟨hx, hb, hml, hown, hts⟩ (c_M_program l dC dI tp te H_1.size qm lp m1 m2 m3 m4 m5 m6 m7 m8) (cwV 0 hts g_law_155_M_program rfl rfl rfl (by decide +kernel) ⟨Nat.le_of_ble_eq_true rfl, Nat.le_of_ble_eq_true rfl⟩) ⟨Pw.blind, va_recv hKc hPc (ci := 17) (q0 := 0) rfl rfl, Pw.mk hPc hKc hDc hG hS hFc⟩ rfl rfl hl.1 rfl (lv_room (Nat.le_of_ble_eq_true rfl)) dL_law_852 ⟨Nat.le_of_ble_eq_true rfl, Nat.le_of_ble_eq_true rfl⟩) hS (fun q _ h => hFc q h) hFc (fun r u t9 H_3 locs ht hvm hw hB hz1 hk1 hS => ?_)
  have hw : r = 0 := hw
  subst hw
  obtain ⟨hP1, hK1, hD1⟩ := hB
  rw [ht] at hP1
  have hK1 := va_K.moved hvm.symm hK1
  obtain ⟨hP, hD⟩ := va_join (wr := []) (w1 := [(qm, .inr (17, [.ref lp, .null, .null, .int 0, .int 1, .ref m1, .ref m2, .ref m3, .ref m4, .ref m5, .null, .null, .int 0, .ref m6, .int 0, .int 0, .int 0, .long 0, .null, .ref m7, .ref m8, .int 0, .int 0, .long 0]))]) hP hD [0, 1] [] rfl rfl (by decide) (by decide) hk1 hFc hP1 hD1
  have hK := (hK.sub (tys' := []) [] rfl).app hK1
  have hP : va_P (dC, dI) vwCl [(qm, .inr (17, [.ref lp, .null, .null, .int 0, .int 1, .ref m1, .ref m2, .ref m3, .ref m4, .ref m5, .null, .null, .int 0, .ref m6, .int 0, .int 0, .int 0, .long 0, .null, .ref m7, .ref m8, .int 0, .int 0, .long 0]))] H_3 := hP
  have hD : va_D A [(qm, .inr (17, [.ref lp, .null, .null, .int 0, .int 1, .ref m1, .ref m2, .ref m3, .ref m4, .ref m5, .null, .null, .int 0, .ref m6, .int 0, .int 0, .int 0, .long 0, .null, .ref m7, .ref m8, .int 0, .int 0, .long 0]))] := hD
  have hK : va_K (dC, dI) vwCl [] s := hK
  refine W.widen (k := 90) (n := 78009) (Nat.le_of_ble_eq_true rfl) (Nat.le_of_ble_eq_true rfl) ?_
  refine lv_istore (lv' := [(6, .int 0), (5, .int 1), (4, .int 0), (3, .ref qo), (2, .ref qm), (1, .ref qx), (0, .ref b)]) hx hb dL_law_855 hl (by decide) rfl (fun ls hl => ?_)
  refine lv_aload_n hx hb dL_law_857 rfl (lv_at hl 4 rfl) ?_
  have hPc := hP.sub (ws' := [(qm, .inr (17, [.ref lp, .null, .null, .int 0, .int 1, .ref m1, .ref m2, .ref m3, .ref m4, .ref m5, .null, .null, .int 0, .ref m6, .int 0, .int 0, .int 0, .long 0, .null, .ref m7, .ref m8, .int 0, .int 0, .long 0]))]) [0] rfl
  have hDc := hD.sub (ws' := [(qm, .inr (17, [.ref lp, .null, .null, .int 0, .int 1, .ref m1, .ref m2, .ref m3, .ref m4, .ref m5, .null, .null, .int 0, .ref m6, .int 0, .int 0, .int 0, .long 0, .null, .ref m7, .ref m8, .int 0, .int 0, .long 0]))]) [0] (by decide) rfl
  have hKc := hK.sub (tys' := []) [] rfl
  have hFc := va_free (wc := [(qm, .inr (17, [.ref lp, .null, .null, .int 0, .int 1, .ref m1, .ref m2, .ref m3, .ref m4, .ref m5, .null, .null, .int 0, .ref m6, .int 0, .int 0, .int 0, .long 0, .null, .ref m7, .ref m8, .int 0, .int 0, .long 0]))]) hD hS hA [0] rfl
  refine va_calli (va_runV (As := []) (rest := []) ⟨hx, hb, hml, hown, hts⟩ (c_thrown l dC dI tp te H_3.size qm lp m1 m2 m3 m4 m5 m6 m7 m8 1) (cwV 0 hts g_law_113_thrown rfl rfl rfl (by decide +kernel) ⟨Nat.le_of_ble_eq_true rfl, Nat.le_of_ble_eq_true rfl⟩) ⟨Pw.blind, va_recv hKc hPc (ci := 17) (q0 := 0) rfl rfl, Pw.mk hPc hKc hDc hG hS hFc⟩ rfl rfl hl.1 rfl (lv_room (Nat.le_of_ble_eq_true rfl)) dL_law_858 ⟨Nat.le_of_ble_eq_true rfl, Nat.le_of_ble_eq_true rfl⟩) hS (fun q _ h => hFc q h) hFc (fun r u t9 H_5 locs ht hvm hw hB hz1 hk1 hS => ?_)
  have hw : r = 1 := hw
  subst hw
  obtain ⟨hP1, hK1, hD1⟩ := hB
  rw [ht] at hP1
  have hK1 := va_K.moved hvm.symm hK1
  obtain ⟨hP, hD⟩ := va_join (wr := []) (w1 := [(qm, .inr (17, [.ref lp, .null, .null, .int 0, .int 1, .ref m1, .ref m2, .ref m3, .ref m4, .ref m5, .null, .null, .int 0, .ref m6, .int 0, .int 0, .int 0, .long 0, .null, .ref m7, .ref m8, .int 0, .int 0, .long 0]))]) hP hD [0] [] rfl rfl (by decide) (by decide) hk1 hFc hP1 hD1
  have hK := (hK.sub (tys' := []) [] rfl).app hK1
  have hP : va_P (dC, dI) vwCl [(qm, .inr (17, [.ref lp, .null, .null, .int 0, .int 1, .ref m1, .ref m2, .ref m3, .ref m4, .ref m5, .null, .null, .int 0, .ref m6, .int 0, .int 0, .int 0, .long 0, .null, .ref m7, .ref m8, .int 0, .int 0, .long 0]))] H_5 := hP
  have hD : va_D A [(qm, .inr (17, [.ref lp, .null, .null, .int 0, .int 1, .ref m1, .ref m2, .ref m3, .ref m4, .ref m5, .null, .null, .int 0, .ref m6, .int 0, .int 0, .int 0, .long 0, .null, .ref m7, .ref m8, .int 0, .int 0, .long 0]))] := hD
  have hK : va_K (dC, dI) vwCl [] s := hK
  refine W.widen (k := 90) (n := 78009) (Nat.le_of_ble_eq_true rfl) (Nat.le_of_ble_eq_true rfl) ?_
  refine lv_iload hx hb dL_law_861 (lv_at hl 1 rfl) ?_
  refine lv_icmp_eq (tgt := 868) hx hb dL_law_863 (by decide) (fun c9 => ?_) (fun c9 => absurd (by decide) c9)
  refine lv_iload hx hb dL_law_868 (lv_at hl 1 rfl) ?_
  refine lv_if_ne (tgt := 885) hx hb dL_law_870 (by decide) (fun c9 => ?_) (fun c9 => absurd c9 (by decide))
  refine lv_goto (tgt := 1569) hx hb dL_law_885 (by decide) ?_
  exact lc_next C0 hAA hS (lv_sub hl [6, 2] rfl) (Nat.le_of_ble_eq_true rfl) (Nat.le_of_ble_eq_true rfl)
set_option maxHeartbeats 4000000 in
set_option maxRecDepth 100000 in
theorem lc_fault {p : Program} {l : Launch} {e : Env} {s : State} {m : MethodId} {below : List Frame} {meth : Method} {c : Code} (hlt : l.stackTraces = false) {b : Nat} {xs : Nat → Int32} (C0 : lw_At p s m meth c b 3 xs) {A : Nat → Prop} (hAA : A = fun q : Nat => s.heap.size ≤ q) {dC : Nat → ClassId} {dI : Nat → Nat → Nat} {tp te : Nat} (hG : gx tp te A s s.heap) {qx rp rt rc r1 r2 r3 r4 a1 a2 a3 a4 a5 a6 a7 t1 t2 t3 t4 t5 t6 t7 c1 c2 c3 c4 c5 c6 c7 qm lp m1 m2 m3 m4 m5 m6 m7 m8 qo : Nat} {k1 k2 k3 k4 k5 k6 k7 ko : ClassId} {H : Heap} {locs : List Loc} (hK : va_K (dC, dI) vwCl [(k1, .int), (k2, .int), (k3, .int), (k4, .long), (k5, .int), (k6, .int), (k7, .int), (ko, .long)] s) (hP : va_P (dC, dI) vwCl [(qx, .inr (8, [.ref rp, .int 0, .ref rt, .ref rc, .int ((-1)), .ref r1, .ref r2, .ref r3, .ref r4, .null, .int 0])), (rp, .inr (6, [.ref a1, .ref a2, .ref a3, .ref a4, .ref a5, .ref a6, .ref a7, .int 0])), (a1, .inl (k1, 1200, .inl (fun _ => 0))), (a2, .inl (k2, 1200, .inl (fun _ => 0))), (a3, .inl (k3, 1200, .inl (fun _ => 0))), (a4, .inl (k4, 1200, .inr (.inl (fun _ => 0)))), (a5, .inl (k5, 1200, .inl (fun _ => 0))), (a6, .inl (k6, 1200, .inl (fun _ => 0))), (a7, .inl (k7, 1200, .inl (fun _ => 0))), (rt, .inr (6, [.ref t1, .ref t2, .ref t3, .ref t4, .ref t5, .ref t6, .ref t7, .int 0])), (rc, .inr (6, [.ref c1, .ref c2, .ref c3, .ref c4, .ref c5, .ref c6, .ref c7, .int 0])), (qm, .inr (17, [.ref lp, .null, .null, .int 0, .int 0, .ref m1, .ref m2, .ref m3, .ref m4, .ref m5, .null, .null, .int 0, .ref m6, .int 0, .int 0, .int 0, .long 0, .null, .ref m7, .ref m8, .int 0, .int 0, .long 0])), (lp, .inr (0, [.int 0, .ref te, .int 0])), (qo, .inl (ko, 1, .inr (.inl (fun _ => 0))))] H) (hD : va_D A [(qx, .inr (8, [.ref rp, .int 0, .ref rt, .ref rc, .int ((-1)), .ref r1, .ref r2, .ref r3, .ref r4, .null, .int 0])), (rp, .inr (6, [.ref a1, .ref a2, .ref a3, .ref a4, .ref a5, .ref a6, .ref a7, .int 0])), (a1, .inl (k1, 1200, .inl (fun _ => 0))), (a2, .inl (k2, 1200, .inl (fun _ => 0))), (a3, .inl (k3, 1200, .inl (fun _ => 0))), (a4, .inl (k4, 1200, .inr (.inl (fun _ => 0)))), (a5, .inl (k5, 1200, .inl (fun _ => 0))), (a6, .inl (k6, 1200, .inl (fun _ => 0))), (a7, .inl (k7, 1200, .inl (fun _ => 0))), (rt, .inr (6, [.ref t1, .ref t2, .ref t3, .ref t4, .ref t5, .ref t6, .ref t7, .int 0])), (rc, .inr (6, [.ref c1, .ref c2, .ref c3, .ref c4, .ref c5, .ref c6, .ref c7, .int 0])), (qm, .inr (17, [.ref lp, .null, .null, .int 0, .int 0, .ref m1, .ref m2, .ref m3, .ref m4, .ref m5, .null, .null, .int 0, .ref m6, .int 0, .int 0, .int 0, .long 0, .null, .ref m7, .ref m8, .int 0, .int 0, .long 0])), (lp, .inr (0, [.int 0, .ref te, .int 0])), (qo, .inl (ko, 1, .inr (.inl (fun _ => 0))))]) (hS : va_S A s.heap H locs) {ls : Array Slot} (hl : lv_has ls 8 [(4, .int 0), (3, .ref qo), (2, .ref qm), (1, .ref qx), (0, .ref b)]) (p1 p2 : Int32) (e1 : xs (1 : Int32).toNatClampNeg = p1) (e2 : xs (2 : Int32).toNatClampNeg = p2)  : W p l e room_1 s m #[Value.ref b] below meth c H locs 89 78003 (lw_Z below #[Value.ref b] s) (F0 m 888 ls []) := by
  obtain ⟨hx, hb, hr, hml, hown, hts0, hX, hbl, hlocks, hgv⟩ := id C0
  have hts : ∀ w ∈ z_law, w.before #[Value.ref b] s = true := fun w h => hts0 w (z_law_in w h)
  have hown : s.vm.findClass RL = some m.cls := hown
  have hA : ∀ q : Nat, s.heap.size ≤ q → A q := fun q h => by rw [hAA]; exact h
  have hbA : ¬ A b := by rw [hAA]; exact Nat.not_le.mpr hbl
  have hP := hP.sub (ws' := [(qx, .inr (8, [.ref rp, .int 0, .ref rt, .ref rc, .int ((-1)), .ref r1, .ref r2, .ref r3, .ref r4, .null, .int 0])), (qm, .inr (17, [.ref lp, .null, .null, .int 0, .int 0, .ref m1, .ref m2, .ref m3, .ref m4, .ref m5, .null, .null, .int 0, .ref m6, .int 0, .int 0, .int 0, .long 0, .null, .ref m7, .ref m8, .int 0, .int 0, .long 0])), (lp, .inr (0, [.int 0, .ref te, .int 0]))]) [0, 11, 12] rfl
  have hD := hD.sub (ws' := [(qx, .inr (8, [.ref rp, .int 0, .ref rt, .ref rc, .int ((-1)), .ref r1, .ref r2, .ref r3, .ref r4, .null, .int 0])), (qm, .inr (17, [.ref lp, .null, .null, .int 0, .int 0, .ref m1, .ref m2, .ref m3, .ref m4, .ref m5, .null, .null, .int 0, .ref m6, .int 0, .int 0, .int 0, .long 0, .null, .ref m7, .ref m8, .int 0, .int 0, .long 0])), (lp, .inr (0, [.int 0, .ref te, .int 0]))]) [0, 11, 12] (by decide) rfl
  have hK := hK.sub (tys' := []) [] rfl
  have hP : va_P (dC, dI) vwCl [(qx, .inr (8, [.ref rp, .int 0, .ref rt, .ref rc, .int ((-1)), .ref r1, .ref r2, .ref r3, .ref r4, .null, .int 0])), (qm, .inr (17, [.ref lp, .null, .null, .int 0, .int 0, .ref m1, .ref m2, .ref m3, .ref m4, .ref m5, .null, .null, .int 0, .ref m6, .int 0, .int 0, .int 0, .long 0, .null, .ref m7, .ref m8, .int 0, .int 0, .long 0])), (lp, .inr (0, [.int 0, .ref te, .int 0]))] H := hP
  have hD : va_D A [(qx, .inr (8, [.ref rp, .int 0, .ref rt, .ref rc, .int ((-1)), .ref r1, .ref r2, .ref r3, .ref r4, .null, .int 0])), (qm, .inr (17, [.ref lp, .null, .null, .int 0, .int 0, .ref m1, .ref m2, .ref m3, .ref m4, .ref m5, .null, .null, .int 0, .ref m6, .int 0, .int 0, .int 0, .long 0, .null, .ref m7, .ref m8, .int 0, .int 0, .long 0])), (lp, .inr (0, [.int 0, .ref te, .int 0]))] := hD
  have hK : va_K (dC, dI) vwCl [] s := hK
  refine lv_aload_n hx hb dL_law_888 rfl (lv_at hl 3 rfl) ?_
  refine lv_aload_n hx hb dL_law_889 rfl (lv_at hl 1 rfl) ?_
  have hPc := hP.sub (ws' := [(qx, .inr (8, [.ref rp, .int 0, .ref rt, .ref rc, .int ((-1)), .ref r1, .ref r2, .ref r3, .ref r4, .null, .int 0]))]) [0] rfl
  have hDc := hD.sub (ws' := [(qx, .inr (8, [.ref rp, .int 0, .ref rt, .ref rc, .int ((-1)), .ref r1, .ref r2, .ref r3, .ref r4, .null, .int 0]))]) [0] (by decide) rfl
  have hKc := hK.sub (tys' := []) [] rfl
  have hFc := va_free (wc := [(qx, .inr (8, [.ref rp, .int 0, .ref rt, .ref rc, .int ((-1)), .ref r1, .ref r2, .ref r3, .ref r4, .null, .int 0]))]) hD hS hA [0] rfl
  refine vx_calli (vx_runSX (As := [.ref qx, .ref qo]) (rest := []) ⟨hx, hb, hml, hown, hts⟩ (c_L_fault l dC dI tp te H.size hlt qx rp rt rc r1 r2 r3 r4 qo) (vx_cwSW 2 hts g_law_156_L_fault rfl rfl rfl (by decide +kernel) ⟨Nat.le_of_ble_eq_true rfl, Nat.le_of_ble_eq_true rfl⟩) ⟨Pw.blind, Pw.mk hPc hKc hDc hG hS hFc⟩ rfl rfl hl.1 rfl (lv_room (Nat.le_of_ble_eq_true rfl)) dL_law_890 ⟨Nat.le_of_ble_eq_true rfl, Nat.le_of_ble_eq_true rfl⟩) hS (fun q _ h => hFc q h) hFc (fun q _ h => hFc q h) (fun E ce q9 u t9 H1 locs ht hvm hpx hBX hz1 hk1 hS hce hcv hcl => hpx.elim) (fun r u t9 H_1 locs ht hvm hw hB hz1 hk1 hS => ?_)
  have hw : r = 1 := hw
  subst hw
  obtain ⟨hP, hD⟩ := va_join (wr := [(qm, .inr (17, [.ref lp, .null, .null, .int 0, .int 0, .ref m1, .ref m2, .ref m3, .ref m4, .ref m5, .null, .null, .int 0, .ref m6, .int 0, .int 0, .int 0, .long 0, .null, .ref m7, .ref m8, .int 0, .int 0, .long 0])), (lp, .inr (0, [.int 0, .ref te, .int 0]))]) (w1 := []) hP hD [0] [1, 2] rfl rfl (by decide) (by decide) hk1 hFc va_P.nil va_D.nil
  have hK := hK.sub (tys' := []) [] rfl
  have hP : va_P (dC, dI) vwCl [(qm, .inr (17, [.ref lp, .null, .null, .int 0, .int 0, .ref m1, .ref m2, .ref m3, .ref m4, .ref m5, .null, .null, .int 0, .ref m6, .int 0, .int 0, .int 0, .long 0, .null, .ref m7, .ref m8, .int 0, .int 0, .long 0])), (lp, .inr (0, [.int 0, .ref te, .int 0]))] H_1 := hP
  have hD : va_D A [(qm, .inr (17, [.ref lp, .null, .null, .int 0, .int 0, .ref m1, .ref m2, .ref m3, .ref m4, .ref m5, .null, .null, .int 0, .ref m6, .int 0, .int 0, .int 0, .long 0, .null, .ref m7, .ref m8, .int 0, .int 0, .long 0])), (lp, .inr (0, [.int 0, .ref te, .int 0]))] := hD
  have hK : va_K (dC, dI) vwCl [] s := hK
  refine W.widen (k := 90) (n := 78009) (Nat.le_of_ble_eq_true rfl) (Nat.le_of_ble_eq_true rfl) ?_
  refine lv_istore (lv' := [(5, .int 1), (4, .int 0), (3, .ref qo), (2, .ref qm), (1, .ref qx), (0, .ref b)]) hx hb dL_law_893 hl (by decide) rfl (fun ls hl => ?_)
  refine lv_aload_n hx hb dL_law_895 rfl (lv_at hl 3 rfl) ?_
  have hPc := hP.sub (ws' := [(qm, .inr (17, [.ref lp, .null, .null, .int 0, .int 0, .ref m1, .ref m2, .ref m3, .ref m4, .ref m5, .null, .null, .int 0, .ref m6, .int 0, .int 0, .int 0, .long 0, .null, .ref m7, .ref m8, .int 0, .int 0, .long 0])), (lp, .inr (0, [.int 0, .ref te, .int 0]))]) [0, 1] rfl
  have hDc := hD.sub (ws' := [(qm, .inr (17, [.ref lp, .null, .null, .int 0, .int 0, .ref m1, .ref m2, .ref m3, .ref m4, .ref m5, .null, .null, .int 0, .ref m6, .int 0, .int 0, .int 0, .long 0, .null, .ref m7, .ref m8, .int 0, .int 0, .long 0])), (lp, .inr (0, [.int 0, .ref te, .int 0]))]) [0, 1] (by decide) rfl
  have hKc := hK.sub (tys' := []) [] rfl
  have hFc := va_free (wc := [(qm, .inr (17, [.ref lp, .null, .null, .int 0, .int 0, .ref m1, .ref m2, .ref m3, .ref m4, .ref m5, .null, .null, .int 0, .ref m6, .int 0, .int 0, .int 0, .long 0, .null, .ref m7, .ref m8, .int 0, .int 0, .long 0])), (lp, .inr (0, [.int 0, .ref te, .int 0]))]) hD hS hA [0, 1] rfl
  refine va_calli (va_runV (As := []) (rest := []) ⟨hx, hb, hml, hown, hts⟩ (c_M_fault l dC dI tp te H_1.size qm lp m1 m2 m3 m4 m5 m6 m7 m8) (cwV 0 hts g_law_158_M_fault rfl rfl rfl (by decide +kernel) ⟨Nat.le_of_ble_eq_true rfl, Nat.le_of_ble_eq_true rfl⟩) ⟨Pw.blind, va_recv hKc hPc (ci := 17) (q0 := 0) rfl rfl, Pw.mk hPc hKc hDc hG hS hFc⟩ rfl rfl hl.1 rfl (lv_room (Nat.le_of_ble_eq_true rfl)) dL_law_896 ⟨Nat.le_of_ble_eq_true rfl, Nat.le_of_ble_eq_true rfl⟩) hS (fun q _ h => hFc q h) hFc (fun r u t9 H_3 locs ht hvm hw hB hz1 hk1 hS => ?_)
  have hw : r = 0 := hw
  subst hw
  obtain ⟨hP1, hK1, hD1⟩ := hB
  rw [ht] at hP1
  have hK1 := va_K.moved hvm.symm hK1
  obtain ⟨hP, hD⟩ := va_join (wr := []) (w1 := [(qm, .inr (17, [.ref lp, .null, .null, .int 0, .int 1, .ref m1, .ref m2, .ref m3, .ref m4, .ref m5, .null, .null, .int 0, .ref m6, .int 0, .int 0, .int 0, .long 0, .null, .ref m7, .ref m8, .int 0, .int 0, .long 0]))]) hP hD [0, 1] [] rfl rfl (by decide) (by decide) hk1 hFc hP1 hD1
  have hK := (hK.sub (tys' := []) [] rfl).app hK1
  have hP : va_P (dC, dI) vwCl [(qm, .inr (17, [.ref lp, .null, .null, .int 0, .int 1, .ref m1, .ref m2, .ref m3, .ref m4, .ref m5, .null, .null, .int 0, .ref m6, .int 0, .int 0, .int 0, .long 0, .null, .ref m7, .ref m8, .int 0, .int 0, .long 0]))] H_3 := hP
  have hD : va_D A [(qm, .inr (17, [.ref lp, .null, .null, .int 0, .int 1, .ref m1, .ref m2, .ref m3, .ref m4, .ref m5, .null, .null, .int 0, .ref m6, .int 0, .int 0, .int 0, .long 0, .null, .ref m7, .ref m8, .int 0, .int 0, .long 0]))] := hD
  have hK : va_K (dC, dI) vwCl [] s := hK
  refine W.widen (k := 90) (n := 78009) (Nat.le_of_ble_eq_true rfl) (Nat.le_of_ble_eq_true rfl) ?_
  refine lv_istore (lv' := [(6, .int 0), (5, .int 1), (4, .int 0), (3, .ref qo), (2, .ref qm), (1, .ref qx), (0, .ref b)]) hx hb dL_law_899 hl (by decide) rfl (fun ls hl => ?_)
  refine lv_aload_n hx hb dL_law_901 rfl (lv_at hl 4 rfl) ?_
  have hPc := hP.sub (ws' := [(qm, .inr (17, [.ref lp, .null, .null, .int 0, .int 1, .ref m1, .ref m2, .ref m3, .ref m4, .ref m5, .null, .null, .int 0, .ref m6, .int 0, .int 0, .int 0, .long 0, .null, .ref m7, .ref m8, .int 0, .int 0, .long 0]))]) [0] rfl
  have hDc := hD.sub (ws' := [(qm, .inr (17, [.ref lp, .null, .null, .int 0, .int 1, .ref m1, .ref m2, .ref m3, .ref m4, .ref m5, .null, .null, .int 0, .ref m6, .int 0, .int 0, .int 0, .long 0, .null, .ref m7, .ref m8, .int 0, .int 0, .long 0]))]) [0] (by decide) rfl
  have hKc := hK.sub (tys' := []) [] rfl
  have hFc := va_free (wc := [(qm, .inr (17, [.ref lp, .null, .null, .int 0, .int 1, .ref m1, .ref m2, .ref m3, .ref m4, .ref m5, .null, .null, .int 0, .ref m6, .int 0, .int 0, .int 0, .long 0, .null, .ref m7, .ref m8, .int 0, .int 0, .long 0]))]) hD hS hA [0] rfl
  refine va_calli (va_runV (As := []) (rest := []) ⟨hx, hb, hml, hown, hts⟩ (c_thrown l dC dI tp te H_3.size qm lp m1 m2 m3 m4 m5 m6 m7 m8 1) (cwV 0 hts g_law_113_thrown rfl rfl rfl (by decide +kernel) ⟨Nat.le_of_ble_eq_true rfl, Nat.le_of_ble_eq_true rfl⟩) ⟨Pw.blind, va_recv hKc hPc (ci := 17) (q0 := 0) rfl rfl, Pw.mk hPc hKc hDc hG hS hFc⟩ rfl rfl hl.1 rfl (lv_room (Nat.le_of_ble_eq_true rfl)) dL_law_902 ⟨Nat.le_of_ble_eq_true rfl, Nat.le_of_ble_eq_true rfl⟩) hS (fun q _ h => hFc q h) hFc (fun r u t9 H_5 locs ht hvm hw hB hz1 hk1 hS => ?_)
  have hw : r = 1 := hw
  subst hw
  obtain ⟨hP1, hK1, hD1⟩ := hB
  rw [ht] at hP1
  have hK1 := va_K.moved hvm.symm hK1
  obtain ⟨hP, hD⟩ := va_join (wr := []) (w1 := [(qm, .inr (17, [.ref lp, .null, .null, .int 0, .int 1, .ref m1, .ref m2, .ref m3, .ref m4, .ref m5, .null, .null, .int 0, .ref m6, .int 0, .int 0, .int 0, .long 0, .null, .ref m7, .ref m8, .int 0, .int 0, .long 0]))]) hP hD [0] [] rfl rfl (by decide) (by decide) hk1 hFc hP1 hD1
  have hK := (hK.sub (tys' := []) [] rfl).app hK1
  have hP : va_P (dC, dI) vwCl [(qm, .inr (17, [.ref lp, .null, .null, .int 0, .int 1, .ref m1, .ref m2, .ref m3, .ref m4, .ref m5, .null, .null, .int 0, .ref m6, .int 0, .int 0, .int 0, .long 0, .null, .ref m7, .ref m8, .int 0, .int 0, .long 0]))] H_5 := hP
  have hD : va_D A [(qm, .inr (17, [.ref lp, .null, .null, .int 0, .int 1, .ref m1, .ref m2, .ref m3, .ref m4, .ref m5, .null, .null, .int 0, .ref m6, .int 0, .int 0, .int 0, .long 0, .null, .ref m7, .ref m8, .int 0, .int 0, .long 0]))] := hD
  have hK : va_K (dC, dI) vwCl [] s := hK
  refine W.widen (k := 90) (n := 78009) (Nat.le_of_ble_eq_true rfl) (Nat.le_of_ble_eq_true rfl) ?_
  refine lv_iload hx hb dL_law_905 (lv_at hl 1 rfl) ?_
  refine lv_icmp_eq (tgt := 912) hx hb dL_law_907 (by decide) (fun c9 => ?_) (fun c9 => absurd (by decide) c9)
  refine lv_iload hx hb dL_law_912 (lv_at hl 1 rfl) ?_
  refine lv_if_ne (tgt := 929) hx hb dL_law_914 (by decide) (fun c9 => ?_) (fun c9 => absurd c9 (by decide))
  refine lv_goto (tgt := 1569) hx hb dL_law_929 (by decide) ?_
  exact lc_next C0 hAA hS (lv_sub hl [6, 2] rfl) (Nat.le_of_ble_eq_true rfl) (Nat.le_of_ble_eq_true rfl)
set_option maxHeartbeats 4000000 in
set_option maxRecDepth 100000 in
theorem lc_type_neg {p : Program} {l : Launch} {e : Env} {s : State} {m : MethodId} {below : List Frame} {meth : Method} {c : Code} (hlt : l.stackTraces = false) {b : Nat} {xs : Nat → Int32} (C0 : lw_At p s m meth c b 3 xs) {A : Nat → Prop} (hAA : A = fun q : Nat => s.heap.size ≤ q) {dC : Nat → ClassId} {dI : Nat → Nat → Nat} {tp te : Nat} (hG : gx tp te A s s.heap) {qx rp rt rc r1 r2 r3 r4 a1 a2 a3 a4 a5 a6 a7 t1 t2 t3 t4 t5 t6 t7 c1 c2 c3 c4 c5 c6 c7 qm lp m1 m2 m3 m4 m5 m6 m7 m8 qo : Nat} {k1 k2 k3 k4 k5 k6 k7 ko : ClassId} {H : Heap} {locs : List Loc} (hK : va_K (dC, dI) vwCl [(k1, .int), (k2, .int), (k3, .int), (k4, .long), (k5, .int), (k6, .int), (k7, .int), (ko, .long)] s) (hP : va_P (dC, dI) vwCl [(qx, .inr (8, [.ref rp, .int 0, .ref rt, .ref rc, .int ((-1)), .ref r1, .ref r2, .ref r3, .ref r4, .null, .int 0])), (rp, .inr (6, [.ref a1, .ref a2, .ref a3, .ref a4, .ref a5, .ref a6, .ref a7, .int 0])), (a1, .inl (k1, 1200, .inl (fun _ => 0))), (a2, .inl (k2, 1200, .inl (fun _ => 0))), (a3, .inl (k3, 1200, .inl (fun _ => 0))), (a4, .inl (k4, 1200, .inr (.inl (fun _ => 0)))), (a5, .inl (k5, 1200, .inl (fun _ => 0))), (a6, .inl (k6, 1200, .inl (fun _ => 0))), (a7, .inl (k7, 1200, .inl (fun _ => 0))), (rt, .inr (6, [.ref t1, .ref t2, .ref t3, .ref t4, .ref t5, .ref t6, .ref t7, .int 0])), (rc, .inr (6, [.ref c1, .ref c2, .ref c3, .ref c4, .ref c5, .ref c6, .ref c7, .int 0])), (qm, .inr (17, [.ref lp, .null, .null, .int 0, .int 0, .ref m1, .ref m2, .ref m3, .ref m4, .ref m5, .null, .null, .int 0, .ref m6, .int 0, .int 0, .int 0, .long 0, .null, .ref m7, .ref m8, .int 0, .int 0, .long 0])), (lp, .inr (0, [.int 0, .ref te, .int 0])), (qo, .inl (ko, 1, .inr (.inl (fun _ => 0))))] H) (hD : va_D A [(qx, .inr (8, [.ref rp, .int 0, .ref rt, .ref rc, .int ((-1)), .ref r1, .ref r2, .ref r3, .ref r4, .null, .int 0])), (rp, .inr (6, [.ref a1, .ref a2, .ref a3, .ref a4, .ref a5, .ref a6, .ref a7, .int 0])), (a1, .inl (k1, 1200, .inl (fun _ => 0))), (a2, .inl (k2, 1200, .inl (fun _ => 0))), (a3, .inl (k3, 1200, .inl (fun _ => 0))), (a4, .inl (k4, 1200, .inr (.inl (fun _ => 0)))), (a5, .inl (k5, 1200, .inl (fun _ => 0))), (a6, .inl (k6, 1200, .inl (fun _ => 0))), (a7, .inl (k7, 1200, .inl (fun _ => 0))), (rt, .inr (6, [.ref t1, .ref t2, .ref t3, .ref t4, .ref t5, .ref t6, .ref t7, .int 0])), (rc, .inr (6, [.ref c1, .ref c2, .ref c3, .ref c4, .ref c5, .ref c6, .ref c7, .int 0])), (qm, .inr (17, [.ref lp, .null, .null, .int 0, .int 0, .ref m1, .ref m2, .ref m3, .ref m4, .ref m5, .null, .null, .int 0, .ref m6, .int 0, .int 0, .int 0, .long 0, .null, .ref m7, .ref m8, .int 0, .int 0, .long 0])), (lp, .inr (0, [.int 0, .ref te, .int 0])), (qo, .inl (ko, 1, .inr (.inl (fun _ => 0))))]) (hS : va_S A s.heap H locs) {ls : Array Slot} (hl : lv_has ls 8 [(4, .int 0), (3, .ref qo), (2, .ref qm), (1, .ref qx), (0, .ref b)]) (p1 p2 : Int32) (e1 : xs (1 : Int32).toNatClampNeg = p1) (e2 : xs (2 : Int32).toNatClampNeg = p2) (hv0 : ¬ 0 ≤ p1) : W p l e room_1 s m #[Value.ref b] below meth c H locs 89 78003 (lw_Z below #[Value.ref b] s) (F0 m 932 ls []) := by
  obtain ⟨hx, hb, hr, hml, hown, hts0, hX, hbl, hlocks, hgv⟩ := id C0
  have hts : ∀ w ∈ z_law, w.before #[Value.ref b] s = true := fun w h => hts0 w (z_law_in w h)
  have hown : s.vm.findClass RL = some m.cls := hown
  have hA : ∀ q : Nat, s.heap.size ≤ q → A q := fun q h => by rw [hAA]; exact h
  have hbA : ¬ A b := by rw [hAA]; exact Nat.not_le.mpr hbl
  have hP := hP.sub (ws' := [(qx, .inr (8, [.ref rp, .int 0, .ref rt, .ref rc, .int ((-1)), .ref r1, .ref r2, .ref r3, .ref r4, .null, .int 0])), (qm, .inr (17, [.ref lp, .null, .null, .int 0, .int 0, .ref m1, .ref m2, .ref m3, .ref m4, .ref m5, .null, .null, .int 0, .ref m6, .int 0, .int 0, .int 0, .long 0, .null, .ref m7, .ref m8, .int 0, .int 0, .long 0])), (lp, .inr (0, [.int 0, .ref te, .int 0]))]) [0, 11, 12] rfl
  have hD := hD.sub (ws' := [(qx, .inr (8, [.ref rp, .int 0, .ref rt, .ref rc, .int ((-1)), .ref r1, .ref r2, .ref r3, .ref r4, .null, .int 0])), (qm, .inr (17, [.ref lp, .null, .null, .int 0, .int 0, .ref m1, .ref m2, .ref m3, .ref m4, .ref m5, .null, .null, .int 0, .ref m6, .int 0, .int 0, .int 0, .long 0, .null, .ref m7, .ref m8, .int 0, .int 0, .long 0])), (lp, .inr (0, [.int 0, .ref te, .int 0]))]) [0, 11, 12] (by decide) rfl
  have hK := hK.sub (tys' := []) [] rfl
  have hP : va_P (dC, dI) vwCl [(qx, .inr (8, [.ref rp, .int 0, .ref rt, .ref rc, .int ((-1)), .ref r1, .ref r2, .ref r3, .ref r4, .null, .int 0])), (qm, .inr (17, [.ref lp, .null, .null, .int 0, .int 0, .ref m1, .ref m2, .ref m3, .ref m4, .ref m5, .null, .null, .int 0, .ref m6, .int 0, .int 0, .int 0, .long 0, .null, .ref m7, .ref m8, .int 0, .int 0, .long 0])), (lp, .inr (0, [.int 0, .ref te, .int 0]))] H := hP
  have hD : va_D A [(qx, .inr (8, [.ref rp, .int 0, .ref rt, .ref rc, .int ((-1)), .ref r1, .ref r2, .ref r3, .ref r4, .null, .int 0])), (qm, .inr (17, [.ref lp, .null, .null, .int 0, .int 0, .ref m1, .ref m2, .ref m3, .ref m4, .ref m5, .null, .null, .int 0, .ref m6, .int 0, .int 0, .int 0, .long 0, .null, .ref m7, .ref m8, .int 0, .int 0, .long 0])), (lp, .inr (0, [.int 0, .ref te, .int 0]))] := hD
  have hK : va_K (dC, dI) vwCl [] s := hK
  refine lv_aload_n hx hb dL_law_932 rfl (lv_at hl 3 rfl) ?_
  refine lv_aload_n hx hb dL_law_933 rfl (lv_at hl 4 rfl) ?_
  refine lv_iload hx hb dL_law_934 (lv_at hl 0 rfl) ?_
  refine lv_iconst (v := 1) hx hb dL_law_936 (by decide) ?_
  refine lv_iadd hx hb dL_law_937 ?_
  refine lv_topi (fun z_1 ez_1 => ?_)
  obtain rfl : z_1 = 1 := ez_1.trans (by decide)
  refine va_sld hx hb hX hbl hbA hS (by unfold vp_in; decide +kernel) dL_law_938 ?_
  refine lv_topi (fun z_2 ez_2 => ?_)
  obtain rfl : p1 = z_2 := (ez_2.trans e1).symm
  refine lv_aload_n hx hb dL_law_939 rfl (lv_at hl 1 rfl) ?_
  have hPc := hP.sub (ws' := [(qx, .inr (8, [.ref rp, .int 0, .ref rt, .ref rc, .int ((-1)), .ref r1, .ref r2, .ref r3, .ref r4, .null, .int 0]))]) [0] rfl
  have hDc := hD.sub (ws' := [(qx, .inr (8, [.ref rp, .int 0, .ref rt, .ref rc, .int ((-1)), .ref r1, .ref r2, .ref r3, .ref r4, .null, .int 0]))]) [0] (by decide) rfl
  have hKc := hK.sub (tys' := []) [] rfl
  have hFc := va_free (wc := [(qx, .inr (8, [.ref rp, .int 0, .ref rt, .ref rc, .int ((-1)), .ref r1, .ref r2, .ref r3, .ref r4, .null, .int 0]))]) hD hS hA [0] rfl
  refine vx_calli (vx_runSX (As := [.ref qx, .int p1, .ref qo]) (rest := []) ⟨hx, hb, hml, hown, hts⟩ (c_L_type_neg l dC dI tp te H.size hlt qx rp rt rc r1 r2 r3 r4 p1 qo hv0) (vx_cwSW 3 hts g_law_159_L_type_neg rfl rfl rfl (by decide +kernel) ⟨Nat.le_of_ble_eq_true rfl, Nat.le_of_ble_eq_true rfl⟩) ⟨Pw.blind, Pw.mk hPc hKc hDc hG hS hFc⟩ rfl rfl hl.1 rfl (lv_room (Nat.le_of_ble_eq_true rfl)) dL_law_940 ⟨Nat.le_of_ble_eq_true rfl, Nat.le_of_ble_eq_true rfl⟩) hS (fun q _ h => hFc q h) hFc (fun q _ h => hFc q h) (fun E ce q9 u t9 H1 locs ht hvm hpx hBX hz1 hk1 hS hce hcv hcl => hpx.elim) (fun r u t9 H_3 locs ht hvm hw hB hz1 hk1 hS => ?_)
  have hw : r = 1 := hw
  subst hw
  obtain ⟨hP, hD⟩ := va_join (wr := [(qm, .inr (17, [.ref lp, .null, .null, .int 0, .int 0, .ref m1, .ref m2, .ref m3, .ref m4, .ref m5, .null, .null, .int 0, .ref m6, .int 0, .int 0, .int 0, .long 0, .null, .ref m7, .ref m8, .int 0, .int 0, .long 0])), (lp, .inr (0, [.int 0, .ref te, .int 0]))]) (w1 := []) hP hD [0] [1, 2] rfl rfl (by decide) (by decide) hk1 hFc va_P.nil va_D.nil
  have hK := hK.sub (tys' := []) [] rfl
  have hP : va_P (dC, dI) vwCl [(qm, .inr (17, [.ref lp, .null, .null, .int 0, .int 0, .ref m1, .ref m2, .ref m3, .ref m4, .ref m5, .null, .null, .int 0, .ref m6, .int 0, .int 0, .int 0, .long 0, .null, .ref m7, .ref m8, .int 0, .int 0, .long 0])), (lp, .inr (0, [.int 0, .ref te, .int 0]))] H_3 := hP
  have hD : va_D A [(qm, .inr (17, [.ref lp, .null, .null, .int 0, .int 0, .ref m1, .ref m2, .ref m3, .ref m4, .ref m5, .null, .null, .int 0, .ref m6, .int 0, .int 0, .int 0, .long 0, .null, .ref m7, .ref m8, .int 0, .int 0, .long 0])), (lp, .inr (0, [.int 0, .ref te, .int 0]))] := hD
  have hK : va_K (dC, dI) vwCl [] s := hK
  refine W.widen (k := 90) (n := 78009) (Nat.le_of_ble_eq_true rfl) (Nat.le_of_ble_eq_true rfl) ?_
  refine lv_istore (lv' := [(5, .int 1), (4, .int 0), (3, .ref qo), (2, .ref qm), (1, .ref qx), (0, .ref b)]) hx hb dL_law_943 hl (by decide) rfl (fun ls hl => ?_)
  refine lv_aload_n hx hb dL_law_945 rfl (lv_at hl 3 rfl) ?_
  refine lv_aload_n hx hb dL_law_946 rfl (lv_at hl 5 rfl) ?_
  refine lv_iload hx hb dL_law_947 (lv_at hl 1 rfl) ?_
  refine lv_iconst (v := 1) hx hb dL_law_949 (by decide) ?_
  refine lv_iadd hx hb dL_law_950 ?_
  refine lv_topi (fun z_5 ez_5 => ?_)
  obtain rfl : z_5 = 1 := ez_5.trans (by decide)
  refine va_sld hx hb hX hbl hbA hS (by unfold vp_in; decide +kernel) dL_law_951 ?_
  refine lv_topi (fun z_6 ez_6 => ?_)
  obtain rfl : p1 = z_6 := (ez_6.trans e1).symm
  have hPc := hP.sub (ws' := [(qm, .inr (17, [.ref lp, .null, .null, .int 0, .int 0, .ref m1, .ref m2, .ref m3, .ref m4, .ref m5, .null, .null, .int 0, .ref m6, .int 0, .int 0, .int 0, .long 0, .null, .ref m7, .ref m8, .int 0, .int 0, .long 0])), (lp, .inr (0, [.int 0, .ref te, .int 0]))]) [0, 1] rfl
  have hDc := hD.sub (ws' := [(qm, .inr (17, [.ref lp, .null, .null, .int 0, .int 0, .ref m1, .ref m2, .ref m3, .ref m4, .ref m5, .null, .null, .int 0, .ref m6, .int 0, .int 0, .int 0, .long 0, .null, .ref m7, .ref m8, .int 0, .int 0, .long 0])), (lp, .inr (0, [.int 0, .ref te, .int 0]))]) [0, 1] (by decide) rfl
  have hKc := hK.sub (tys' := []) [] rfl
  have hFc := va_free (wc := [(qm, .inr (17, [.ref lp, .null, .null, .int 0, .int 0, .ref m1, .ref m2, .ref m3, .ref m4, .ref m5, .null, .null, .int 0, .ref m6, .int 0, .int 0, .int 0, .long 0, .null, .ref m7, .ref m8, .int 0, .int 0, .long 0])), (lp, .inr (0, [.int 0, .ref te, .int 0]))]) hD hS hA [0, 1] rfl
  refine va_calli (va_runV (As := [.int p1]) (rest := []) ⟨hx, hb, hml, hown, hts⟩ (c_M_type_neg l dC dI tp te H_3.size qm lp m1 m2 m3 m4 m5 m6 m7 m8 p1 hv0) (cwV 1 hts g_law_161_M_type_neg rfl rfl rfl (by decide +kernel) ⟨Nat.le_of_ble_eq_true rfl, Nat.le_of_ble_eq_true rfl⟩) ⟨Pw.blind, va_recv hKc hPc (ci := 17) (q0 := 0) rfl rfl, Pw.mk hPc hKc hDc hG hS hFc⟩ rfl rfl hl.1 rfl (lv_room (Nat.le_of_ble_eq_true rfl)) dL_law_952 ⟨Nat.le_of_ble_eq_true rfl, Nat.le_of_ble_eq_true rfl⟩) hS (fun q _ h => hFc q h) hFc (fun r u t9 H_7 locs ht hvm hw hB hz1 hk1 hS => ?_)
  have hw : r = 0 := hw
  subst hw
  obtain ⟨hP1, hK1, hD1⟩ := hB
  rw [ht] at hP1
  have hK1 := va_K.moved hvm.symm hK1
  obtain ⟨hP, hD⟩ := va_join (wr := []) (w1 := [(qm, .inr (17, [.ref lp, .null, .null, .int 0, .int 1, .ref m1, .ref m2, .ref m3, .ref m4, .ref m5, .null, .null, .int 0, .ref m6, .int 0, .int 0, .int 0, .long 0, .null, .ref m7, .ref m8, .int 0, .int 0, .long 0]))]) hP hD [0, 1] [] rfl rfl (by decide) (by decide) hk1 hFc hP1 hD1
  have hK := (hK.sub (tys' := []) [] rfl).app hK1
  have hP : va_P (dC, dI) vwCl [(qm, .inr (17, [.ref lp, .null, .null, .int 0, .int 1, .ref m1, .ref m2, .ref m3, .ref m4, .ref m5, .null, .null, .int 0, .ref m6, .int 0, .int 0, .int 0, .long 0, .null, .ref m7, .ref m8, .int 0, .int 0, .long 0]))] H_7 := hP
  have hD : va_D A [(qm, .inr (17, [.ref lp, .null, .null, .int 0, .int 1, .ref m1, .ref m2, .ref m3, .ref m4, .ref m5, .null, .null, .int 0, .ref m6, .int 0, .int 0, .int 0, .long 0, .null, .ref m7, .ref m8, .int 0, .int 0, .long 0]))] := hD
  have hK : va_K (dC, dI) vwCl [] s := hK
  refine W.widen (k := 90) (n := 78009) (Nat.le_of_ble_eq_true rfl) (Nat.le_of_ble_eq_true rfl) ?_
  refine lv_istore (lv' := [(6, .int 0), (5, .int 1), (4, .int 0), (3, .ref qo), (2, .ref qm), (1, .ref qx), (0, .ref b)]) hx hb dL_law_955 hl (by decide) rfl (fun ls hl => ?_)
  refine lv_aload_n hx hb dL_law_957 rfl (lv_at hl 4 rfl) ?_
  have hPc := hP.sub (ws' := [(qm, .inr (17, [.ref lp, .null, .null, .int 0, .int 1, .ref m1, .ref m2, .ref m3, .ref m4, .ref m5, .null, .null, .int 0, .ref m6, .int 0, .int 0, .int 0, .long 0, .null, .ref m7, .ref m8, .int 0, .int 0, .long 0]))]) [0] rfl
  have hDc := hD.sub (ws' := [(qm, .inr (17, [.ref lp, .null, .null, .int 0, .int 1, .ref m1, .ref m2, .ref m3, .ref m4, .ref m5, .null, .null, .int 0, .ref m6, .int 0, .int 0, .int 0, .long 0, .null, .ref m7, .ref m8, .int 0, .int 0, .long 0]))]) [0] (by decide) rfl
  have hKc := hK.sub (tys' := []) [] rfl
  have hFc := va_free (wc := [(qm, .inr (17, [.ref lp, .null, .null, .int 0, .int 1, .ref m1, .ref m2, .ref m3, .ref m4, .ref m5, .null, .null, .int 0, .ref m6, .int 0, .int 0, .int 0, .long 0, .null, .ref m7, .ref m8, .int 0, .int 0, .long 0]))]) hD hS hA [0] rfl
  refine va_calli (va_runV (As := []) (rest := []) ⟨hx, hb, hml, hown, hts⟩ (c_thrown l dC dI tp te H_7.size qm lp m1 m2 m3 m4 m5 m6 m7 m8 1) (cwV 0 hts g_law_113_thrown rfl rfl rfl (by decide +kernel) ⟨Nat.le_of_ble_eq_true rfl, Nat.le_of_ble_eq_true rfl⟩) ⟨Pw.blind, va_recv hKc hPc (ci := 17) (q0 := 0) rfl rfl, Pw.mk hPc hKc hDc hG hS hFc⟩ rfl rfl hl.1 rfl (lv_room (Nat.le_of_ble_eq_true rfl)) dL_law_958 ⟨Nat.le_of_ble_eq_true rfl, Nat.le_of_ble_eq_true rfl⟩) hS (fun q _ h => hFc q h) hFc (fun r u t9 H_9 locs ht hvm hw hB hz1 hk1 hS => ?_)
  have hw : r = 1 := hw
  subst hw
  obtain ⟨hP1, hK1, hD1⟩ := hB
  rw [ht] at hP1
  have hK1 := va_K.moved hvm.symm hK1
  obtain ⟨hP, hD⟩ := va_join (wr := []) (w1 := [(qm, .inr (17, [.ref lp, .null, .null, .int 0, .int 1, .ref m1, .ref m2, .ref m3, .ref m4, .ref m5, .null, .null, .int 0, .ref m6, .int 0, .int 0, .int 0, .long 0, .null, .ref m7, .ref m8, .int 0, .int 0, .long 0]))]) hP hD [0] [] rfl rfl (by decide) (by decide) hk1 hFc hP1 hD1
  have hK := (hK.sub (tys' := []) [] rfl).app hK1
  have hP : va_P (dC, dI) vwCl [(qm, .inr (17, [.ref lp, .null, .null, .int 0, .int 1, .ref m1, .ref m2, .ref m3, .ref m4, .ref m5, .null, .null, .int 0, .ref m6, .int 0, .int 0, .int 0, .long 0, .null, .ref m7, .ref m8, .int 0, .int 0, .long 0]))] H_9 := hP
  have hD : va_D A [(qm, .inr (17, [.ref lp, .null, .null, .int 0, .int 1, .ref m1, .ref m2, .ref m3, .ref m4, .ref m5, .null, .null, .int 0, .ref m6, .int 0, .int 0, .int 0, .long 0, .null, .ref m7, .ref m8, .int 0, .int 0, .long 0]))] := hD
  have hK : va_K (dC, dI) vwCl [] s := hK
  refine W.widen (k := 90) (n := 78009) (Nat.le_of_ble_eq_true rfl) (Nat.le_of_ble_eq_true rfl) ?_
  refine lv_iload hx hb dL_law_961 (lv_at hl 1 rfl) ?_
  refine lv_icmp_eq (tgt := 968) hx hb dL_law_963 (by decide) (fun c9 => ?_) (fun c9 => absurd (by decide) c9)
  refine lv_iload hx hb dL_law_968 (lv_at hl 1 rfl) ?_
  refine lv_if_ne (tgt := 985) hx hb dL_law_970 (by decide) (fun c9 => ?_) (fun c9 => absurd c9 (by decide))
  refine lv_goto (tgt := 1569) hx hb dL_law_985 (by decide) ?_
  exact lc_next C0 hAA hS (lv_sub hl [6, 2] rfl) (Nat.le_of_ble_eq_true rfl) (Nat.le_of_ble_eq_true rfl)
set_option maxHeartbeats 4000000 in
set_option maxRecDepth 100000 in
theorem lc_type_ok {p : Program} {l : Launch} {e : Env} {s : State} {m : MethodId} {below : List Frame} {meth : Method} {c : Code} (hlt : l.stackTraces = false) {b : Nat} {xs : Nat → Int32} (C0 : lw_At p s m meth c b 3 xs) {A : Nat → Prop} (hAA : A = fun q : Nat => s.heap.size ≤ q) {dC : Nat → ClassId} {dI : Nat → Nat → Nat} {tp te : Nat} (hG : gx tp te A s s.heap) {qx rp rt rc r1 r2 r3 r4 a1 a2 a3 a4 a5 a6 a7 t1 t2 t3 t4 t5 t6 t7 c1 c2 c3 c4 c5 c6 c7 qm lp m1 m2 m3 m4 m5 m6 m7 m8 qo : Nat} {k1 k2 k3 k4 k5 k6 k7 ko : ClassId} {H : Heap} {locs : List Loc} (hK : va_K (dC, dI) vwCl [(k1, .int), (k2, .int), (k3, .int), (k4, .long), (k5, .int), (k6, .int), (k7, .int), (ko, .long)] s) (hP : va_P (dC, dI) vwCl [(qx, .inr (8, [.ref rp, .int 0, .ref rt, .ref rc, .int ((-1)), .ref r1, .ref r2, .ref r3, .ref r4, .null, .int 0])), (rp, .inr (6, [.ref a1, .ref a2, .ref a3, .ref a4, .ref a5, .ref a6, .ref a7, .int 0])), (a1, .inl (k1, 1200, .inl (fun _ => 0))), (a2, .inl (k2, 1200, .inl (fun _ => 0))), (a3, .inl (k3, 1200, .inl (fun _ => 0))), (a4, .inl (k4, 1200, .inr (.inl (fun _ => 0)))), (a5, .inl (k5, 1200, .inl (fun _ => 0))), (a6, .inl (k6, 1200, .inl (fun _ => 0))), (a7, .inl (k7, 1200, .inl (fun _ => 0))), (rt, .inr (6, [.ref t1, .ref t2, .ref t3, .ref t4, .ref t5, .ref t6, .ref t7, .int 0])), (rc, .inr (6, [.ref c1, .ref c2, .ref c3, .ref c4, .ref c5, .ref c6, .ref c7, .int 0])), (qm, .inr (17, [.ref lp, .null, .null, .int 0, .int 0, .ref m1, .ref m2, .ref m3, .ref m4, .ref m5, .null, .null, .int 0, .ref m6, .int 0, .int 0, .int 0, .long 0, .null, .ref m7, .ref m8, .int 0, .int 0, .long 0])), (lp, .inr (0, [.int 0, .ref te, .int 0])), (qo, .inl (ko, 1, .inr (.inl (fun _ => 0))))] H) (hD : va_D A [(qx, .inr (8, [.ref rp, .int 0, .ref rt, .ref rc, .int ((-1)), .ref r1, .ref r2, .ref r3, .ref r4, .null, .int 0])), (rp, .inr (6, [.ref a1, .ref a2, .ref a3, .ref a4, .ref a5, .ref a6, .ref a7, .int 0])), (a1, .inl (k1, 1200, .inl (fun _ => 0))), (a2, .inl (k2, 1200, .inl (fun _ => 0))), (a3, .inl (k3, 1200, .inl (fun _ => 0))), (a4, .inl (k4, 1200, .inr (.inl (fun _ => 0)))), (a5, .inl (k5, 1200, .inl (fun _ => 0))), (a6, .inl (k6, 1200, .inl (fun _ => 0))), (a7, .inl (k7, 1200, .inl (fun _ => 0))), (rt, .inr (6, [.ref t1, .ref t2, .ref t3, .ref t4, .ref t5, .ref t6, .ref t7, .int 0])), (rc, .inr (6, [.ref c1, .ref c2, .ref c3, .ref c4, .ref c5, .ref c6, .ref c7, .int 0])), (qm, .inr (17, [.ref lp, .null, .null, .int 0, .int 0, .ref m1, .ref m2, .ref m3, .ref m4, .ref m5, .null, .null, .int 0, .ref m6, .int 0, .int 0, .int 0, .long 0, .null, .ref m7, .ref m8, .int 0, .int 0, .long 0])), (lp, .inr (0, [.int 0, .ref te, .int 0])), (qo, .inl (ko, 1, .inr (.inl (fun _ => 0))))]) (hS : va_S A s.heap H locs) {ls : Array Slot} (hl : lv_has ls 8 [(4, .int 0), (3, .ref qo), (2, .ref qm), (1, .ref qx), (0, .ref b)]) (p1 p2 : Int32) (e1 : xs (1 : Int32).toNatClampNeg = p1) (e2 : xs (2 : Int32).toNatClampNeg = p2) (hv0 : 0 ≤ p1) : W p l e room_1 s m #[Value.ref b] below meth c H locs 89 78003 (lw_Z below #[Value.ref b] s) (F0 m 932 ls []) := by
  obtain ⟨hx, hb, hr, hml, hown, hts0, hX, hbl, hlocks, hgv⟩ := id C0
  have hts : ∀ w ∈ z_law, w.before #[Value.ref b] s = true := fun w h => hts0 w (z_law_in w h)
  have hown : s.vm.findClass RL = some m.cls := hown
  have hA : ∀ q : Nat, s.heap.size ≤ q → A q := fun q h => by rw [hAA]; exact h
  have hbA : ¬ A b := by rw [hAA]; exact Nat.not_le.mpr hbl
  have hP := hP.sub (ws' := [(qx, .inr (8, [.ref rp, .int 0, .ref rt, .ref rc, .int ((-1)), .ref r1, .ref r2, .ref r3, .ref r4, .null, .int 0])), (qm, .inr (17, [.ref lp, .null, .null, .int 0, .int 0, .ref m1, .ref m2, .ref m3, .ref m4, .ref m5, .null, .null, .int 0, .ref m6, .int 0, .int 0, .int 0, .long 0, .null, .ref m7, .ref m8, .int 0, .int 0, .long 0])), (lp, .inr (0, [.int 0, .ref te, .int 0]))]) [0, 11, 12] rfl
  have hD := hD.sub (ws' := [(qx, .inr (8, [.ref rp, .int 0, .ref rt, .ref rc, .int ((-1)), .ref r1, .ref r2, .ref r3, .ref r4, .null, .int 0])), (qm, .inr (17, [.ref lp, .null, .null, .int 0, .int 0, .ref m1, .ref m2, .ref m3, .ref m4, .ref m5, .null, .null, .int 0, .ref m6, .int 0, .int 0, .int 0, .long 0, .null, .ref m7, .ref m8, .int 0, .int 0, .long 0])), (lp, .inr (0, [.int 0, .ref te, .int 0]))]) [0, 11, 12] (by decide) rfl
  have hK := hK.sub (tys' := []) [] rfl
  have hP : va_P (dC, dI) vwCl [(qx, .inr (8, [.ref rp, .int 0, .ref rt, .ref rc, .int ((-1)), .ref r1, .ref r2, .ref r3, .ref r4, .null, .int 0])), (qm, .inr (17, [.ref lp, .null, .null, .int 0, .int 0, .ref m1, .ref m2, .ref m3, .ref m4, .ref m5, .null, .null, .int 0, .ref m6, .int 0, .int 0, .int 0, .long 0, .null, .ref m7, .ref m8, .int 0, .int 0, .long 0])), (lp, .inr (0, [.int 0, .ref te, .int 0]))] H := hP
  have hD : va_D A [(qx, .inr (8, [.ref rp, .int 0, .ref rt, .ref rc, .int ((-1)), .ref r1, .ref r2, .ref r3, .ref r4, .null, .int 0])), (qm, .inr (17, [.ref lp, .null, .null, .int 0, .int 0, .ref m1, .ref m2, .ref m3, .ref m4, .ref m5, .null, .null, .int 0, .ref m6, .int 0, .int 0, .int 0, .long 0, .null, .ref m7, .ref m8, .int 0, .int 0, .long 0])), (lp, .inr (0, [.int 0, .ref te, .int 0]))] := hD
  have hK : va_K (dC, dI) vwCl [] s := hK
  refine lv_aload_n hx hb dL_law_932 rfl (lv_at hl 3 rfl) ?_
  refine lv_aload_n hx hb dL_law_933 rfl (lv_at hl 4 rfl) ?_
  refine lv_iload hx hb dL_law_934 (lv_at hl 0 rfl) ?_
  refine lv_iconst (v := 1) hx hb dL_law_936 (by decide) ?_
  refine lv_iadd hx hb dL_law_937 ?_
  refine lv_topi (fun z_1 ez_1 => ?_)
  obtain rfl : z_1 = 1 := ez_1.trans (by decide)
  refine va_sld hx hb hX hbl hbA hS (by unfold vp_in; decide +kernel) dL_law_938 ?_
  refine lv_topi (fun z_2 ez_2 => ?_)
  obtain rfl : p1 = z_2 := (ez_2.trans e1).symm
  refine lv_aload_n hx hb dL_law_939 rfl (lv_at hl 1 rfl) ?_
  have hPc := hP.sub (ws' := [(qx, .inr (8, [.ref rp, .int 0, .ref rt, .ref rc, .int ((-1)), .ref r1, .ref r2, .ref r3, .ref r4, .null, .int 0]))]) [0] rfl
  have hDc := hD.sub (ws' := [(qx, .inr (8, [.ref rp, .int 0, .ref rt, .ref rc, .int ((-1)), .ref r1, .ref r2, .ref r3, .ref r4, .null, .int 0]))]) [0] (by decide) rfl
  have hKc := hK.sub (tys' := []) [] rfl
  have hFc := va_free (wc := [(qx, .inr (8, [.ref rp, .int 0, .ref rt, .ref rc, .int ((-1)), .ref r1, .ref r2, .ref r3, .ref r4, .null, .int 0]))]) hD hS hA [0] rfl
  refine vx_calli (vx_runSX (As := [.ref qx, .int p1, .ref qo]) (rest := []) ⟨hx, hb, hml, hown, hts⟩ (c_L_type_ok l dC dI tp te H.size hlt qx rp rt rc r1 r2 r3 r4 p1 qo hv0) (vx_cwSW 3 hts g_law_159_L_type_ok rfl rfl rfl (by decide +kernel) ⟨Nat.le_of_ble_eq_true rfl, Nat.le_of_ble_eq_true rfl⟩) ⟨Pw.blind, Pw.mk hPc hKc hDc hG hS hFc⟩ rfl rfl hl.1 rfl (lv_room (Nat.le_of_ble_eq_true rfl)) dL_law_940 ⟨Nat.le_of_ble_eq_true rfl, Nat.le_of_ble_eq_true rfl⟩) hS (fun q _ h => hFc q h) hFc (fun q _ h => hFc q h) (fun E ce q9 u t9 H1 locs ht hvm hpx hBX hz1 hk1 hS hce hcv hcl => hpx.elim) (fun r u t9 H_3 locs ht hvm hw hB hz1 hk1 hS => ?_)
  have hw : r = 2 := hw
  subst hw
  obtain ⟨hP, hD⟩ := va_join (wr := [(qm, .inr (17, [.ref lp, .null, .null, .int 0, .int 0, .ref m1, .ref m2, .ref m3, .ref m4, .ref m5, .null, .null, .int 0, .ref m6, .int 0, .int 0, .int 0, .long 0, .null, .ref m7, .ref m8, .int 0, .int 0, .long 0])), (lp, .inr (0, [.int 0, .ref te, .int 0]))]) (w1 := []) hP hD [0] [1, 2] rfl rfl (by decide) (by decide) hk1 hFc va_P.nil va_D.nil
  have hK := hK.sub (tys' := []) [] rfl
  have hP : va_P (dC, dI) vwCl [(qm, .inr (17, [.ref lp, .null, .null, .int 0, .int 0, .ref m1, .ref m2, .ref m3, .ref m4, .ref m5, .null, .null, .int 0, .ref m6, .int 0, .int 0, .int 0, .long 0, .null, .ref m7, .ref m8, .int 0, .int 0, .long 0])), (lp, .inr (0, [.int 0, .ref te, .int 0]))] H_3 := hP
  have hD : va_D A [(qm, .inr (17, [.ref lp, .null, .null, .int 0, .int 0, .ref m1, .ref m2, .ref m3, .ref m4, .ref m5, .null, .null, .int 0, .ref m6, .int 0, .int 0, .int 0, .long 0, .null, .ref m7, .ref m8, .int 0, .int 0, .long 0])), (lp, .inr (0, [.int 0, .ref te, .int 0]))] := hD
  have hK : va_K (dC, dI) vwCl [] s := hK
  refine W.widen (k := 90) (n := 78009) (Nat.le_of_ble_eq_true rfl) (Nat.le_of_ble_eq_true rfl) ?_
  refine lv_istore (lv' := [(5, .int 2), (4, .int 0), (3, .ref qo), (2, .ref qm), (1, .ref qx), (0, .ref b)]) hx hb dL_law_943 hl (by decide) rfl (fun ls hl => ?_)
  refine lv_aload_n hx hb dL_law_945 rfl (lv_at hl 3 rfl) ?_
  refine lv_aload_n hx hb dL_law_946 rfl (lv_at hl 5 rfl) ?_
  refine lv_iload hx hb dL_law_947 (lv_at hl 1 rfl) ?_
  refine lv_iconst (v := 1) hx hb dL_law_949 (by decide) ?_
  refine lv_iadd hx hb dL_law_950 ?_
  refine lv_topi (fun z_5 ez_5 => ?_)
  obtain rfl : z_5 = 1 := ez_5.trans (by decide)
  refine va_sld hx hb hX hbl hbA hS (by unfold vp_in; decide +kernel) dL_law_951 ?_
  refine lv_topi (fun z_6 ez_6 => ?_)
  obtain rfl : p1 = z_6 := (ez_6.trans e1).symm
  have hPc := hP.sub (ws' := [(qm, .inr (17, [.ref lp, .null, .null, .int 0, .int 0, .ref m1, .ref m2, .ref m3, .ref m4, .ref m5, .null, .null, .int 0, .ref m6, .int 0, .int 0, .int 0, .long 0, .null, .ref m7, .ref m8, .int 0, .int 0, .long 0])), (lp, .inr (0, [.int 0, .ref te, .int 0]))]) [0, 1] rfl
  have hDc := hD.sub (ws' := [(qm, .inr (17, [.ref lp, .null, .null, .int 0, .int 0, .ref m1, .ref m2, .ref m3, .ref m4, .ref m5, .null, .null, .int 0, .ref m6, .int 0, .int 0, .int 0, .long 0, .null, .ref m7, .ref m8, .int 0, .int 0, .long 0])), (lp, .inr (0, [.int 0, .ref te, .int 0]))]) [0, 1] (by decide) rfl
  have hKc := hK.sub (tys' := []) [] rfl
  have hFc := va_free (wc := [(qm, .inr (17, [.ref lp, .null, .null, .int 0, .int 0, .ref m1, .ref m2, .ref m3, .ref m4, .ref m5, .null, .null, .int 0, .ref m6, .int 0, .int 0, .int 0, .long 0, .null, .ref m7, .ref m8, .int 0, .int 0, .long 0])), (lp, .inr (0, [.int 0, .ref te, .int 0]))]) hD hS hA [0, 1] rfl
  refine va_calli (va_runV (As := [.int p1]) (rest := []) ⟨hx, hb, hml, hown, hts⟩ (c_M_type_ok l dC dI tp te H_3.size qm lp m1 m2 m3 m4 m5 m6 m7 m8 p1 hv0) (cwV 1 hts g_law_161_M_type_ok rfl rfl rfl (by decide +kernel) ⟨Nat.le_of_ble_eq_true rfl, Nat.le_of_ble_eq_true rfl⟩) ⟨Pw.blind, va_recv hKc hPc (ci := 17) (q0 := 0) rfl rfl, Pw.mk hPc hKc hDc hG hS hFc⟩ rfl rfl hl.1 rfl (lv_room (Nat.le_of_ble_eq_true rfl)) dL_law_952 ⟨Nat.le_of_ble_eq_true rfl, Nat.le_of_ble_eq_true rfl⟩) hS (fun q _ h => hFc q h) hFc (fun r u t9 H_7 locs ht hvm hw hB hz1 hk1 hS => ?_)
  have hw : r = 0 := hw
  subst hw
  obtain ⟨hP1, hK1, hD1⟩ := hB
  rw [ht] at hP1
  have hK1 := va_K.moved hvm.symm hK1
  obtain ⟨hP, hD⟩ := va_join (wr := []) (w1 := [(qm, .inr (17, [.ref lp, .null, .null, .int 0, .int 2, .ref m1, .ref m2, .ref m3, .ref m4, .ref m5, .null, .null, .int 0, .ref m6, .int 0, .int 0, .int 0, .long 0, .null, .ref m7, .ref m8, .int 0, .int 0, .long 0]))]) hP hD [0, 1] [] rfl rfl (by decide) (by decide) hk1 hFc hP1 hD1
  have hK := (hK.sub (tys' := []) [] rfl).app hK1
  have hP : va_P (dC, dI) vwCl [(qm, .inr (17, [.ref lp, .null, .null, .int 0, .int 2, .ref m1, .ref m2, .ref m3, .ref m4, .ref m5, .null, .null, .int 0, .ref m6, .int 0, .int 0, .int 0, .long 0, .null, .ref m7, .ref m8, .int 0, .int 0, .long 0]))] H_7 := hP
  have hD : va_D A [(qm, .inr (17, [.ref lp, .null, .null, .int 0, .int 2, .ref m1, .ref m2, .ref m3, .ref m4, .ref m5, .null, .null, .int 0, .ref m6, .int 0, .int 0, .int 0, .long 0, .null, .ref m7, .ref m8, .int 0, .int 0, .long 0]))] := hD
  have hK : va_K (dC, dI) vwCl [] s := hK
  refine W.widen (k := 90) (n := 78009) (Nat.le_of_ble_eq_true rfl) (Nat.le_of_ble_eq_true rfl) ?_
  refine lv_istore (lv' := [(6, .int 0), (5, .int 2), (4, .int 0), (3, .ref qo), (2, .ref qm), (1, .ref qx), (0, .ref b)]) hx hb dL_law_955 hl (by decide) rfl (fun ls hl => ?_)
  refine lv_aload_n hx hb dL_law_957 rfl (lv_at hl 4 rfl) ?_
  have hPc := hP.sub (ws' := [(qm, .inr (17, [.ref lp, .null, .null, .int 0, .int 2, .ref m1, .ref m2, .ref m3, .ref m4, .ref m5, .null, .null, .int 0, .ref m6, .int 0, .int 0, .int 0, .long 0, .null, .ref m7, .ref m8, .int 0, .int 0, .long 0]))]) [0] rfl
  have hDc := hD.sub (ws' := [(qm, .inr (17, [.ref lp, .null, .null, .int 0, .int 2, .ref m1, .ref m2, .ref m3, .ref m4, .ref m5, .null, .null, .int 0, .ref m6, .int 0, .int 0, .int 0, .long 0, .null, .ref m7, .ref m8, .int 0, .int 0, .long 0]))]) [0] (by decide) rfl
  have hKc := hK.sub (tys' := []) [] rfl
  have hFc := va_free (wc := [(qm, .inr (17, [.ref lp, .null, .null, .int 0, .int 2, .ref m1, .ref m2, .ref m3, .ref m4, .ref m5, .null, .null, .int 0, .ref m6, .int 0, .int 0, .int 0, .long 0, .null, .ref m7, .ref m8, .int 0, .int 0, .long 0]))]) hD hS hA [0] rfl
  refine va_calli (va_runV (As := []) (rest := []) ⟨hx, hb, hml, hown, hts⟩ (c_thrown l dC dI tp te H_7.size qm lp m1 m2 m3 m4 m5 m6 m7 m8 2) (cwV 0 hts g_law_113_thrown rfl rfl rfl (by decide +kernel) ⟨Nat.le_of_ble_eq_true rfl, Nat.le_of_ble_eq_true rfl⟩) ⟨Pw.blind, va_recv hKc hPc (ci := 17) (q0 := 0) rfl rfl, Pw.mk hPc hKc hDc hG hS hFc⟩ rfl rfl hl.1 rfl (lv_room (Nat.le_of_ble_eq_true rfl)) dL_law_958 ⟨Nat.le_of_ble_eq_true rfl, Nat.le_of_ble_eq_true rfl⟩) hS (fun q _ h => hFc q h) hFc (fun r u t9 H_9 locs ht hvm hw hB hz1 hk1 hS => ?_)
  have hw : r = 2 := hw
  subst hw
  obtain ⟨hP1, hK1, hD1⟩ := hB
  rw [ht] at hP1
  have hK1 := va_K.moved hvm.symm hK1
  obtain ⟨hP, hD⟩ := va_join (wr := []) (w1 := [(qm, .inr (17, [.ref lp, .null, .null, .int 0, .int 2, .ref m1, .ref m2, .ref m3, .ref m4, .ref m5, .null, .null, .int 0, .ref m6, .int 0, .int 0, .int 0, .long 0, .null, .ref m7, .ref m8, .int 0, .int 0, .long 0]))]) hP hD [0] [] rfl rfl (by decide) (by decide) hk1 hFc hP1 hD1
  have hK := (hK.sub (tys' := []) [] rfl).app hK1
  have hP : va_P (dC, dI) vwCl [(qm, .inr (17, [.ref lp, .null, .null, .int 0, .int 2, .ref m1, .ref m2, .ref m3, .ref m4, .ref m5, .null, .null, .int 0, .ref m6, .int 0, .int 0, .int 0, .long 0, .null, .ref m7, .ref m8, .int 0, .int 0, .long 0]))] H_9 := hP
  have hD : va_D A [(qm, .inr (17, [.ref lp, .null, .null, .int 0, .int 2, .ref m1, .ref m2, .ref m3, .ref m4, .ref m5, .null, .null, .int 0, .ref m6, .int 0, .int 0, .int 0, .long 0, .null, .ref m7, .ref m8, .int 0, .int 0, .long 0]))] := hD
  have hK : va_K (dC, dI) vwCl [] s := hK
  refine W.widen (k := 90) (n := 78009) (Nat.le_of_ble_eq_true rfl) (Nat.le_of_ble_eq_true rfl) ?_
  refine lv_iload hx hb dL_law_961 (lv_at hl 1 rfl) ?_
  refine lv_icmp_eq (tgt := 968) hx hb dL_law_963 (by decide) (fun c9 => ?_) (fun c9 => absurd (by decide) c9)
  refine lv_iload hx hb dL_law_968 (lv_at hl 1 rfl) ?_
  refine lv_if_ne (tgt := 985) hx hb dL_law_970 (by decide) (fun c9 => ?_) (fun c9 => absurd c9 (by decide))
  refine lv_goto (tgt := 1569) hx hb dL_law_985 (by decide) ?_
  exact lc_next C0 hAA hS (lv_sub hl [6, 2] rfl) (Nat.le_of_ble_eq_true rfl) (Nat.le_of_ble_eq_true rfl)
