/-! the law's instructions, part 9 -/
theorem d_L_law_3557 : decode y_L_law.2.1 3557 = .ok (.iload 4, 2) := by decide +kernel
theorem d_L_law_3559 : decode y_L_law.2.1 3559 = .ok (.iconst 1, 1) := by decide +kernel
theorem d_L_law_3560 : decode y_L_law.2.1 3560 = .ok (.iadd, 1) := by decide +kernel
theorem d_L_law_3561 : decode y_L_law.2.1 3561 = .ok (.iaload, 1) := by decide +kernel
theorem d_L_law_3562 : decode y_L_law.2.1 3562 = .ok (.aload_n 0, 1) := by decide +kernel
theorem d_L_law_3563 : decode y_L_law.2.1 3563 = .ok (.iload 4, 2) := by decide +kernel
theorem d_L_law_3565 : decode y_L_law.2.1 3565 = .ok (.iconst 2, 1) := by decide +kernel
theorem d_L_law_3566 : decode y_L_law.2.1 3566 = .ok (.iadd, 1) := by decide +kernel
theorem d_L_law_3567 : decode y_L_law.2.1 3567 = .ok (.iaload, 1) := by decide +kernel
theorem d_L_law_3568 : decode y_L_law.2.1 3568 = .ok (.aload_n 0, 1) := by decide +kernel
theorem d_L_law_3569 : decode y_L_law.2.1 3569 = .ok (.iload 4, 2) := by decide +kernel
theorem d_L_law_3571 : decode y_L_law.2.1 3571 = .ok (.iconst 3, 1) := by decide +kernel
theorem d_L_law_3572 : decode y_L_law.2.1 3572 = .ok (.iadd, 1) := by decide +kernel
theorem d_L_law_3573 : decode y_L_law.2.1 3573 = .ok (.iaload, 1) := by decide +kernel
theorem d_L_law_3574 : decode y_L_law.2.1 3574 = .ok (.invokestatic 285, 3) := by decide +kernel
theorem d_L_law_3577 : decode y_L_law.2.1 3577 = .ok (.istore 5, 2) := by decide +kernel
theorem d_L_law_3579 : decode y_L_law.2.1 3579 = .ok (.aload_n 2, 1) := by decide +kernel
theorem d_L_law_3580 : decode y_L_law.2.1 3580 = .ok (.aload_n 0, 1) := by decide +kernel
theorem d_L_law_3581 : decode y_L_law.2.1 3581 = .ok (.iload 4, 2) := by decide +kernel
theorem d_L_law_3583 : decode y_L_law.2.1 3583 = .ok (.iconst 1, 1) := by decide +kernel
theorem d_L_law_3584 : decode y_L_law.2.1 3584 = .ok (.iadd, 1) := by decide +kernel
theorem d_L_law_3585 : decode y_L_law.2.1 3585 = .ok (.iaload, 1) := by decide +kernel
theorem d_L_law_3586 : decode y_L_law.2.1 3586 = .ok (.aload_n 0, 1) := by decide +kernel
theorem d_L_law_3587 : decode y_L_law.2.1 3587 = .ok (.iload 4, 2) := by decide +kernel
theorem d_L_law_3589 : decode y_L_law.2.1 3589 = .ok (.iconst 2, 1) := by decide +kernel
theorem d_L_law_3590 : decode y_L_law.2.1 3590 = .ok (.iadd, 1) := by decide +kernel
theorem d_L_law_3591 : decode y_L_law.2.1 3591 = .ok (.iaload, 1) := by decide +kernel
theorem d_L_law_3592 : decode y_L_law.2.1 3592 = .ok (.aload_n 0, 1) := by decide +kernel
theorem d_L_law_3593 : decode y_L_law.2.1 3593 = .ok (.iload 4, 2) := by decide +kernel
theorem d_L_law_3595 : decode y_L_law.2.1 3595 = .ok (.iconst 3, 1) := by decide +kernel
theorem d_L_law_3596 : decode y_L_law.2.1 3596 = .ok (.iadd, 1) := by decide +kernel
theorem d_L_law_3597 : decode y_L_law.2.1 3597 = .ok (.iaload, 1) := by decide +kernel
theorem d_L_law_3598 : decode y_L_law.2.1 3598 = .ok (.invokevirtual 287, 3) := by decide +kernel
theorem d_L_law_3601 : decode y_L_law.2.1 3601 = .ok (.aload_n 2, 1) := by decide +kernel
theorem d_L_law_3602 : decode y_L_law.2.1 3602 = .ok (.invokevirtual 156, 3) := by decide +kernel
theorem d_L_law_3605 : decode y_L_law.2.1 3605 = .ok (.iload 5, 2) := by decide +kernel
theorem d_L_law_3607 : decode y_L_law.2.1 3607 = .ok (.if_icmp .eq 5, 3) := by decide +kernel
theorem d_L_law_3610 : decode y_L_law.2.1 3610 = .ok (.iconst 0, 1) := by decide +kernel
theorem d_L_law_3611 : decode y_L_law.2.1 3611 = .ok (.ireturn, 1) := by decide +kernel
theorem d_L_law_3612 : decode y_L_law.2.1 3612 = .ok (.goto 257, 3) := by decide +kernel
theorem d_L_law_3615 : decode y_L_law.2.1 3615 = .ok (.aload_n 1, 1) := by decide +kernel
theorem d_L_law_3616 : decode y_L_law.2.1 3616 = .ok (.aload_n 0, 1) := by decide +kernel
theorem d_L_law_3617 : decode y_L_law.2.1 3617 = .ok (.iload 4, 2) := by decide +kernel
theorem d_L_law_3619 : decode y_L_law.2.1 3619 = .ok (.iconst 1, 1) := by decide +kernel
theorem d_L_law_3620 : decode y_L_law.2.1 3620 = .ok (.iadd, 1) := by decide +kernel
theorem d_L_law_3621 : decode y_L_law.2.1 3621 = .ok (.iaload, 1) := by decide +kernel
theorem d_L_law_3622 : decode y_L_law.2.1 3622 = .ok (.aload_n 0, 1) := by decide +kernel
theorem d_L_law_3623 : decode y_L_law.2.1 3623 = .ok (.iload 4, 2) := by decide +kernel
theorem d_L_law_3625 : decode y_L_law.2.1 3625 = .ok (.iconst 2, 1) := by decide +kernel
theorem d_L_law_3626 : decode y_L_law.2.1 3626 = .ok (.iadd, 1) := by decide +kernel
theorem d_L_law_3627 : decode y_L_law.2.1 3627 = .ok (.iaload, 1) := by decide +kernel
theorem d_L_law_3628 : decode y_L_law.2.1 3628 = .ok (.aload_n 0, 1) := by decide +kernel
theorem d_L_law_3629 : decode y_L_law.2.1 3629 = .ok (.iload 4, 2) := by decide +kernel
theorem d_L_law_3631 : decode y_L_law.2.1 3631 = .ok (.iconst 3, 1) := by decide +kernel
theorem d_L_law_3632 : decode y_L_law.2.1 3632 = .ok (.iadd, 1) := by decide +kernel
theorem d_L_law_3633 : decode y_L_law.2.1 3633 = .ok (.iaload, 1) := by decide +kernel
theorem d_L_law_3634 : decode y_L_law.2.1 3634 = .ok (.i2l, 1) := by decide +kernel
theorem d_L_law_3635 : decode y_L_law.2.1 3635 = .ok (.bipush 32, 2) := by decide +kernel
theorem d_L_law_3637 : decode y_L_law.2.1 3637 = .ok (.lshl, 1) := by decide +kernel
theorem d_L_law_3638 : decode y_L_law.2.1 3638 = .ok (.aload_n 0, 1) := by decide +kernel
theorem d_L_law_3639 : decode y_L_law.2.1 3639 = .ok (.iload 4, 2) := by decide +kernel
theorem d_L_law_3641 : decode y_L_law.2.1 3641 = .ok (.iconst 4, 1) := by decide +kernel
theorem d_L_law_3642 : decode y_L_law.2.1 3642 = .ok (.iadd, 1) := by decide +kernel
theorem d_L_law_3643 : decode y_L_law.2.1 3643 = .ok (.iaload, 1) := by decide +kernel
theorem d_L_law_3644 : decode y_L_law.2.1 3644 = .ok (.i2l, 1) := by decide +kernel
theorem d_L_law_3645 : decode y_L_law.2.1 3645 = .ok (.ldc2_w 288, 3) := by decide +kernel
theorem d_L_law_3648 : decode y_L_law.2.1 3648 = .ok (.land, 1) := by decide +kernel
theorem d_L_law_3649 : decode y_L_law.2.1 3649 = .ok (.lor, 1) := by decide +kernel
theorem d_L_law_3650 : decode y_L_law.2.1 3650 = .ok (.aload_n 3, 1) := by decide +kernel
theorem d_L_law_3651 : decode y_L_law.2.1 3651 = .ok (.invokestatic 290, 3) := by decide +kernel
theorem d_L_law_3654 : decode y_L_law.2.1 3654 = .ok (.istore 5, 2) := by decide +kernel
theorem d_L_law_3656 : decode y_L_law.2.1 3656 = .ok (.aload_n 2, 1) := by decide +kernel
theorem d_L_law_3657 : decode y_L_law.2.1 3657 = .ok (.aload_n 0, 1) := by decide +kernel
theorem d_L_law_3658 : decode y_L_law.2.1 3658 = .ok (.iload 4, 2) := by decide +kernel
theorem d_L_law_3660 : decode y_L_law.2.1 3660 = .ok (.iconst 1, 1) := by decide +kernel
theorem d_L_law_3661 : decode y_L_law.2.1 3661 = .ok (.iadd, 1) := by decide +kernel
theorem d_L_law_3662 : decode y_L_law.2.1 3662 = .ok (.iaload, 1) := by decide +kernel
theorem d_L_law_3663 : decode y_L_law.2.1 3663 = .ok (.aload_n 0, 1) := by decide +kernel
theorem d_L_law_3664 : decode y_L_law.2.1 3664 = .ok (.iload 4, 2) := by decide +kernel
theorem d_L_law_3666 : decode y_L_law.2.1 3666 = .ok (.iconst 2, 1) := by decide +kernel
theorem d_L_law_3667 : decode y_L_law.2.1 3667 = .ok (.iadd, 1) := by decide +kernel
theorem d_L_law_3668 : decode y_L_law.2.1 3668 = .ok (.iaload, 1) := by decide +kernel
theorem d_L_law_3669 : decode y_L_law.2.1 3669 = .ok (.aload_n 0, 1) := by decide +kernel
theorem d_L_law_3670 : decode y_L_law.2.1 3670 = .ok (.iload 4, 2) := by decide +kernel
theorem d_L_law_3672 : decode y_L_law.2.1 3672 = .ok (.iconst 3, 1) := by decide +kernel
theorem d_L_law_3673 : decode y_L_law.2.1 3673 = .ok (.iadd, 1) := by decide +kernel
theorem d_L_law_3674 : decode y_L_law.2.1 3674 = .ok (.iaload, 1) := by decide +kernel
theorem d_L_law_3675 : decode y_L_law.2.1 3675 = .ok (.i2l, 1) := by decide +kernel
theorem d_L_law_3676 : decode y_L_law.2.1 3676 = .ok (.bipush 32, 2) := by decide +kernel
theorem d_L_law_3678 : decode y_L_law.2.1 3678 = .ok (.lshl, 1) := by decide +kernel
theorem d_L_law_3679 : decode y_L_law.2.1 3679 = .ok (.aload_n 0, 1) := by decide +kernel
theorem d_L_law_3680 : decode y_L_law.2.1 3680 = .ok (.iload 4, 2) := by decide +kernel
theorem d_L_law_3682 : decode y_L_law.2.1 3682 = .ok (.iconst 4, 1) := by decide +kernel
theorem d_L_law_3683 : decode y_L_law.2.1 3683 = .ok (.iadd, 1) := by decide +kernel
theorem d_L_law_3684 : decode y_L_law.2.1 3684 = .ok (.iaload, 1) := by decide +kernel
theorem d_L_law_3685 : decode y_L_law.2.1 3685 = .ok (.i2l, 1) := by decide +kernel
theorem d_L_law_3686 : decode y_L_law.2.1 3686 = .ok (.ldc2_w 288, 3) := by decide +kernel
theorem d_L_law_3689 : decode y_L_law.2.1 3689 = .ok (.land, 1) := by decide +kernel
theorem d_L_law_3690 : decode y_L_law.2.1 3690 = .ok (.lor, 1) := by decide +kernel
theorem d_L_law_3691 : decode y_L_law.2.1 3691 = .ok (.invokevirtual 293, 3) := by decide +kernel
theorem d_L_law_3694 : decode y_L_law.2.1 3694 = .ok (.lstore 6, 2) := by decide +kernel
theorem d_L_law_3696 : decode y_L_law.2.1 3696 = .ok (.aload_n 2, 1) := by decide +kernel
theorem d_L_law_3697 : decode y_L_law.2.1 3697 = .ok (.invokevirtual 156, 3) := by decide +kernel
theorem d_L_law_3700 : decode y_L_law.2.1 3700 = .ok (.iload 5, 2) := by decide +kernel
theorem d_L_law_3702 : decode y_L_law.2.1 3702 = .ok (.if_icmp .eq 5, 3) := by decide +kernel
theorem d_L_law_3705 : decode y_L_law.2.1 3705 = .ok (.iconst 0, 1) := by decide +kernel
theorem d_L_law_3706 : decode y_L_law.2.1 3706 = .ok (.ireturn, 1) := by decide +kernel
theorem d_L_law_3707 : decode y_L_law.2.1 3707 = .ok (.iload 5, 2) := by decide +kernel
theorem d_L_law_3709 : decode y_L_law.2.1 3709 = .ok (.ifCond .ne 14, 3) := by decide +kernel
theorem d_L_law_3712 : decode y_L_law.2.1 3712 = .ok (.aload_n 3, 1) := by decide +kernel
theorem d_L_law_3713 : decode y_L_law.2.1 3713 = .ok (.iconst 0, 1) := by decide +kernel
theorem d_L_law_3714 : decode y_L_law.2.1 3714 = .ok (.laload, 1) := by decide +kernel
theorem d_L_law_3715 : decode y_L_law.2.1 3715 = .ok (.lload 6, 2) := by decide +kernel
theorem d_L_law_3717 : decode y_L_law.2.1 3717 = .ok (.lcmp, 1) := by decide +kernel
theorem d_L_law_3718 : decode y_L_law.2.1 3718 = .ok (.ifCond .eq 5, 3) := by decide +kernel
theorem d_L_law_3721 : decode y_L_law.2.1 3721 = .ok (.iconst 0, 1) := by decide +kernel
theorem d_L_law_3722 : decode y_L_law.2.1 3722 = .ok (.ireturn, 1) := by decide +kernel
theorem d_L_law_3723 : decode y_L_law.2.1 3723 = .ok (.goto 146, 3) := by decide +kernel
theorem d_L_law_3726 : decode y_L_law.2.1 3726 = .ok (.aload_n 1, 1) := by decide +kernel
theorem d_L_law_3727 : decode y_L_law.2.1 3727 = .ok (.aload_n 0, 1) := by decide +kernel
theorem d_L_law_3728 : decode y_L_law.2.1 3728 = .ok (.iload 4, 2) := by decide +kernel
theorem d_L_law_3730 : decode y_L_law.2.1 3730 = .ok (.iconst 1, 1) := by decide +kernel
theorem d_L_law_3731 : decode y_L_law.2.1 3731 = .ok (.iadd, 1) := by decide +kernel
theorem d_L_law_3732 : decode y_L_law.2.1 3732 = .ok (.iaload, 1) := by decide +kernel
theorem d_L_law_3733 : decode y_L_law.2.1 3733 = .ok (.aload_n 0, 1) := by decide +kernel
theorem d_L_law_3734 : decode y_L_law.2.1 3734 = .ok (.iload 4, 2) := by decide +kernel
theorem d_L_law_3736 : decode y_L_law.2.1 3736 = .ok (.iconst 2, 1) := by decide +kernel
theorem d_L_law_3737 : decode y_L_law.2.1 3737 = .ok (.iadd, 1) := by decide +kernel
theorem d_L_law_3738 : decode y_L_law.2.1 3738 = .ok (.iaload, 1) := by decide +kernel
theorem d_L_law_3739 : decode y_L_law.2.1 3739 = .ok (.aload_n 0, 1) := by decide +kernel
theorem d_L_law_3740 : decode y_L_law.2.1 3740 = .ok (.iload 4, 2) := by decide +kernel
theorem d_L_law_3742 : decode y_L_law.2.1 3742 = .ok (.iconst 3, 1) := by decide +kernel
theorem d_L_law_3743 : decode y_L_law.2.1 3743 = .ok (.iadd, 1) := by decide +kernel
theorem d_L_law_3744 : decode y_L_law.2.1 3744 = .ok (.iaload, 1) := by decide +kernel
theorem d_L_law_3745 : decode y_L_law.2.1 3745 = .ok (.aload_n 0, 1) := by decide +kernel
theorem d_L_law_3746 : decode y_L_law.2.1 3746 = .ok (.iload 4, 2) := by decide +kernel
theorem d_L_law_3748 : decode y_L_law.2.1 3748 = .ok (.iconst 4, 1) := by decide +kernel
theorem d_L_law_3749 : decode y_L_law.2.1 3749 = .ok (.iadd, 1) := by decide +kernel
theorem d_L_law_3750 : decode y_L_law.2.1 3750 = .ok (.iaload, 1) := by decide +kernel
theorem d_L_law_3751 : decode y_L_law.2.1 3751 = .ok (.aload_n 0, 1) := by decide +kernel
theorem d_L_law_3752 : decode y_L_law.2.1 3752 = .ok (.iload 4, 2) := by decide +kernel
theorem d_L_law_3754 : decode y_L_law.2.1 3754 = .ok (.iconst 5, 1) := by decide +kernel
theorem d_L_law_3755 : decode y_L_law.2.1 3755 = .ok (.iadd, 1) := by decide +kernel
theorem d_L_law_3756 : decode y_L_law.2.1 3756 = .ok (.iaload, 1) := by decide +kernel
theorem d_L_law_3757 : decode y_L_law.2.1 3757 = .ok (.aload_n 0, 1) := by decide +kernel
theorem d_L_law_3758 : decode y_L_law.2.1 3758 = .ok (.iload 4, 2) := by decide +kernel
theorem d_L_law_3760 : decode y_L_law.2.1 3760 = .ok (.bipush 6, 2) := by decide +kernel
theorem d_L_law_3762 : decode y_L_law.2.1 3762 = .ok (.iadd, 1) := by decide +kernel
theorem d_L_law_3763 : decode y_L_law.2.1 3763 = .ok (.iaload, 1) := by decide +kernel
theorem d_L_law_3764 : decode y_L_law.2.1 3764 = .ok (.aload_n 3, 1) := by decide +kernel
theorem d_L_law_3765 : decode y_L_law.2.1 3765 = .ok (.invokestatic 294, 3) := by decide +kernel
theorem d_L_law_3768 : decode y_L_law.2.1 3768 = .ok (.istore 5, 2) := by decide +kernel
theorem d_L_law_3770 : decode y_L_law.2.1 3770 = .ok (.aload_n 2, 1) := by decide +kernel
theorem d_L_law_3771 : decode y_L_law.2.1 3771 = .ok (.aload_n 0, 1) := by decide +kernel
theorem d_L_law_3772 : decode y_L_law.2.1 3772 = .ok (.iload 4, 2) := by decide +kernel
theorem d_L_law_3774 : decode y_L_law.2.1 3774 = .ok (.iconst 1, 1) := by decide +kernel
theorem d_L_law_3775 : decode y_L_law.2.1 3775 = .ok (.iadd, 1) := by decide +kernel
theorem d_L_law_3776 : decode y_L_law.2.1 3776 = .ok (.iaload, 1) := by decide +kernel
theorem d_L_law_3777 : decode y_L_law.2.1 3777 = .ok (.aload_n 0, 1) := by decide +kernel
theorem d_L_law_3778 : decode y_L_law.2.1 3778 = .ok (.iload 4, 2) := by decide +kernel
theorem d_L_law_3780 : decode y_L_law.2.1 3780 = .ok (.iconst 2, 1) := by decide +kernel
theorem d_L_law_3781 : decode y_L_law.2.1 3781 = .ok (.iadd, 1) := by decide +kernel
theorem d_L_law_3782 : decode y_L_law.2.1 3782 = .ok (.iaload, 1) := by decide +kernel
theorem d_L_law_3783 : decode y_L_law.2.1 3783 = .ok (.aload_n 0, 1) := by decide +kernel
theorem d_L_law_3784 : decode y_L_law.2.1 3784 = .ok (.iload 4, 2) := by decide +kernel
theorem d_L_law_3786 : decode y_L_law.2.1 3786 = .ok (.iconst 3, 1) := by decide +kernel
theorem d_L_law_3787 : decode y_L_law.2.1 3787 = .ok (.iadd, 1) := by decide +kernel
theorem d_L_law_3788 : decode y_L_law.2.1 3788 = .ok (.iaload, 1) := by decide +kernel
theorem d_L_law_3789 : decode y_L_law.2.1 3789 = .ok (.aload_n 0, 1) := by decide +kernel
theorem d_L_law_3790 : decode y_L_law.2.1 3790 = .ok (.iload 4, 2) := by decide +kernel
theorem d_L_law_3792 : decode y_L_law.2.1 3792 = .ok (.iconst 4, 1) := by decide +kernel
theorem d_L_law_3793 : decode y_L_law.2.1 3793 = .ok (.iadd, 1) := by decide +kernel
theorem d_L_law_3794 : decode y_L_law.2.1 3794 = .ok (.iaload, 1) := by decide +kernel
theorem d_L_law_3795 : decode y_L_law.2.1 3795 = .ok (.aload_n 0, 1) := by decide +kernel
theorem d_L_law_3796 : decode y_L_law.2.1 3796 = .ok (.iload 4, 2) := by decide +kernel
theorem d_L_law_3798 : decode y_L_law.2.1 3798 = .ok (.iconst 5, 1) := by decide +kernel
theorem d_L_law_3799 : decode y_L_law.2.1 3799 = .ok (.iadd, 1) := by decide +kernel
theorem d_L_law_3800 : decode y_L_law.2.1 3800 = .ok (.iaload, 1) := by decide +kernel
theorem d_L_law_3801 : decode y_L_law.2.1 3801 = .ok (.aload_n 0, 1) := by decide +kernel
theorem d_L_law_3802 : decode y_L_law.2.1 3802 = .ok (.iload 4, 2) := by decide +kernel
theorem d_L_law_3804 : decode y_L_law.2.1 3804 = .ok (.bipush 6, 2) := by decide +kernel
theorem d_L_law_3806 : decode y_L_law.2.1 3806 = .ok (.iadd, 1) := by decide +kernel
theorem d_L_law_3807 : decode y_L_law.2.1 3807 = .ok (.iaload, 1) := by decide +kernel
theorem d_L_law_3808 : decode y_L_law.2.1 3808 = .ok (.invokevirtual 296, 3) := by decide +kernel
theorem d_L_law_3811 : decode y_L_law.2.1 3811 = .ok (.istore 6, 2) := by decide +kernel
theorem d_L_law_3813 : decode y_L_law.2.1 3813 = .ok (.aload_n 2, 1) := by decide +kernel
theorem d_L_law_3814 : decode y_L_law.2.1 3814 = .ok (.invokevirtual 156, 3) := by decide +kernel
theorem d_L_law_3817 : decode y_L_law.2.1 3817 = .ok (.iload 5, 2) := by decide +kernel
theorem d_L_law_3819 : decode y_L_law.2.1 3819 = .ok (.if_icmp .eq 5, 3) := by decide +kernel
theorem d_L_law_3822 : decode y_L_law.2.1 3822 = .ok (.iconst 0, 1) := by decide +kernel
theorem d_L_law_3823 : decode y_L_law.2.1 3823 = .ok (.ireturn, 1) := by decide +kernel
theorem d_L_law_3824 : decode y_L_law.2.1 3824 = .ok (.iload 5, 2) := by decide +kernel
theorem d_L_law_3826 : decode y_L_law.2.1 3826 = .ok (.ifCond .ne 15, 3) := by decide +kernel
theorem d_L_law_3829 : decode y_L_law.2.1 3829 = .ok (.aload_n 3, 1) := by decide +kernel
theorem d_L_law_3830 : decode y_L_law.2.1 3830 = .ok (.iconst 0, 1) := by decide +kernel
theorem d_L_law_3831 : decode y_L_law.2.1 3831 = .ok (.laload, 1) := by decide +kernel
theorem d_L_law_3832 : decode y_L_law.2.1 3832 = .ok (.iload 6, 2) := by decide +kernel
theorem d_L_law_3834 : decode y_L_law.2.1 3834 = .ok (.i2l, 1) := by decide +kernel
theorem d_L_law_3835 : decode y_L_law.2.1 3835 = .ok (.lcmp, 1) := by decide +kernel
theorem d_L_law_3836 : decode y_L_law.2.1 3836 = .ok (.ifCond .eq 5, 3) := by decide +kernel
theorem d_L_law_3839 : decode y_L_law.2.1 3839 = .ok (.iconst 0, 1) := by decide +kernel
theorem d_L_law_3840 : decode y_L_law.2.1 3840 = .ok (.ireturn, 1) := by decide +kernel
theorem d_L_law_3841 : decode y_L_law.2.1 3841 = .ok (.goto 28, 3) := by decide +kernel
theorem d_L_law_3844 : decode y_L_law.2.1 3844 = .ok (.aload_n 1, 1) := by decide +kernel
theorem d_L_law_3845 : decode y_L_law.2.1 3845 = .ok (.aload_n 0, 1) := by decide +kernel
theorem d_L_law_3846 : decode y_L_law.2.1 3846 = .ok (.iload 4, 2) := by decide +kernel
theorem d_L_law_3848 : decode y_L_law.2.1 3848 = .ok (.iconst 1, 1) := by decide +kernel
theorem d_L_law_3849 : decode y_L_law.2.1 3849 = .ok (.iadd, 1) := by decide +kernel
theorem d_L_law_3850 : decode y_L_law.2.1 3850 = .ok (.iaload, 1) := by decide +kernel
theorem d_L_law_3851 : decode y_L_law.2.1 3851 = .ok (.invokevirtual 297, 3) := by decide +kernel
theorem d_L_law_3854 : decode y_L_law.2.1 3854 = .ok (.aload_n 2, 1) := by decide +kernel
theorem d_L_law_3855 : decode y_L_law.2.1 3855 = .ok (.aload_n 0, 1) := by decide +kernel
theorem d_L_law_3856 : decode y_L_law.2.1 3856 = .ok (.iload 4, 2) := by decide +kernel
theorem d_L_law_3858 : decode y_L_law.2.1 3858 = .ok (.iconst 1, 1) := by decide +kernel
theorem d_L_law_3859 : decode y_L_law.2.1 3859 = .ok (.iadd, 1) := by decide +kernel
theorem d_L_law_3860 : decode y_L_law.2.1 3860 = .ok (.iaload, 1) := by decide +kernel
theorem d_L_law_3861 : decode y_L_law.2.1 3861 = .ok (.invokevirtual 300, 3) := by decide +kernel
theorem d_L_law_3864 : decode y_L_law.2.1 3864 = .ok (.if_icmp .eq 5, 3) := by decide +kernel
theorem d_L_law_3867 : decode y_L_law.2.1 3867 = .ok (.iconst 0, 1) := by decide +kernel
theorem d_L_law_3868 : decode y_L_law.2.1 3868 = .ok (.ireturn, 1) := by decide +kernel
theorem d_L_law_3869 : decode y_L_law.2.1 3869 = .ok (.iinc 4 8, 3) := by decide +kernel
theorem d_L_law_3872 : decode y_L_law.2.1 3872 = .ok (.goto (-3849), 3) := by decide +kernel
theorem d_L_law_3875 : decode y_L_law.2.1 3875 = .ok (.iconst 1, 1) := by decide +kernel
theorem d_L_law_3876 : decode y_L_law.2.1 3876 = .ok (.ireturn, 1) := by decide +kernel
