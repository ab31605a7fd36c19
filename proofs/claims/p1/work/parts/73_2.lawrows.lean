theorem dL_law_3617 : decode cL_law 3617 = .ok (.getfield 13, 3) := dz_180 (kBL_113 3617 rfl rfl) (kBL_113 3618 rfl rfl) (kBL_113 3619 rfl rfl) rfl
theorem dL_law_3620 : decode cL_law 3620 = .ok (.iload 6, 2) := dz_21 (kBL_113 3620 rfl rfl) (kBL_113 3621 rfl rfl)
theorem dL_law_3622 : decode cL_law 3622 = .ok (.ifCond .eq 7, 3) := dz_153 (kBL_113 3622 rfl rfl) (kBL_113 3623 rfl rfl) (kBL_113 3624 rfl rfl) rfl
theorem dL_law_3625 : decode cL_law 3625 = .ok (.lconst 1, 1) := dz_10 (kBL_113 3625 rfl rfl)
theorem dL_law_3626 : decode cL_law 3626 = .ok (.goto 4, 3) := dz_167 (kBL_113 3626 rfl rfl) (kBL_113 3627 rfl rfl) (kBL_113 3628 rfl rfl) rfl
theorem dL_law_3629 : decode cL_law 3629 = .ok (.lconst 0, 1) := dz_9 (kBL_113 3629 rfl rfl)
theorem dL_law_3630 : decode cL_law 3630 = .ok (.lcmp, 1) := dz_148 (kBL_113 3630 rfl rfl)
theorem dL_law_3631 : decode cL_law 3631 = .ok (.ifCond .eq 5, 3) := dz_153 (kBL_113 3631 rfl rfl) (kBL_113 3632 rfl rfl) (kBL_113 3633 rfl rfl) rfl
theorem dL_law_3634 : decode cL_law 3634 = .ok (.iconst 0, 1) := dz_3 (kBL_113 3634 rfl rfl)
theorem dL_law_3635 : decode cL_law 3635 = .ok (.ireturn, 1) := dz_172 (kBL_113 3635 rfl rfl)
theorem dL_law_3636 : decode cL_law 3636 = .ok (.goto 849, 3) := dz_167 (kBL_113 3636 rfl rfl) (kBL_113 3637 rfl rfl) (kBL_113 3638 rfl rfl) rfl
theorem dL_law_3639 : decode cL_law 3639 = .ok (.aload_n 1, 1) := dz_43 (kBL_113 3639 rfl rfl)
theorem dL_law_3640 : decode cL_law 3640 = .ok (.aload_n 0, 1) := dz_42 (kBL_113 3640 rfl rfl)
theorem dL_law_3641 : decode cL_law 3641 = .ok (.iload 4, 2) := dz_21 (kBL_113 3641 rfl rfl) (kBL_113 3642 rfl rfl)
theorem dL_law_3643 : decode cL_law 3643 = .ok (.iconst 1, 1) := dz_4 (kBL_113 3643 rfl rfl)
theorem dL_law_3644 : decode cL_law 3644 = .ok (.iadd, 1) := dz_96 (kBL_113 3644 rfl rfl)
theorem dL_law_3645 : decode cL_law 3645 = .ok (.iaload, 1) := dz_46 (kBL_113 3645 rfl rfl)
theorem dL_law_3646 : decode cL_law 3646 = .ok (.aload_n 0, 1) := dz_42 (kBL_113 3646 rfl rfl)
theorem dL_law_3647 : decode cL_law 3647 = .ok (.iload 4, 2) := dz_21 (kBL_113 3647 rfl rfl) (kBL_114 3648 rfl rfl)
theorem dL_law_3649 : decode cL_law 3649 = .ok (.iconst 2, 1) := dz_5 (kBL_114 3649 rfl rfl)
theorem dL_law_3650 : decode cL_law 3650 = .ok (.iadd, 1) := dz_96 (kBL_114 3650 rfl rfl)
theorem dL_law_3651 : decode cL_law 3651 = .ok (.iaload, 1) := dz_46 (kBL_114 3651 rfl rfl)
theorem dL_law_3652 : decode cL_law 3652 = .ok (.aload_n 0, 1) := dz_42 (kBL_114 3652 rfl rfl)
theorem dL_law_3653 : decode cL_law 3653 = .ok (.iload 4, 2) := dz_21 (kBL_114 3653 rfl rfl) (kBL_114 3654 rfl rfl)
theorem dL_law_3655 : decode cL_law 3655 = .ok (.iconst 3, 1) := dz_6 (kBL_114 3655 rfl rfl)
theorem dL_law_3656 : decode cL_law 3656 = .ok (.iadd, 1) := dz_96 (kBL_114 3656 rfl rfl)
theorem dL_law_3657 : decode cL_law 3657 = .ok (.iaload, 1) := dz_46 (kBL_114 3657 rfl rfl)
theorem dL_law_3658 : decode cL_law 3658 = .ok (.aload_n 0, 1) := dz_42 (kBL_114 3658 rfl rfl)
theorem dL_law_3659 : decode cL_law 3659 = .ok (.iload 4, 2) := dz_21 (kBL_114 3659 rfl rfl) (kBL_114 3660 rfl rfl)
theorem dL_law_3661 : decode cL_law 3661 = .ok (.iconst 4, 1) := dz_7 (kBL_114 3661 rfl rfl)
theorem dL_law_3662 : decode cL_law 3662 = .ok (.iadd, 1) := dz_96 (kBL_114 3662 rfl rfl)
theorem dL_law_3663 : decode cL_law 3663 = .ok (.iaload, 1) := dz_46 (kBL_114 3663 rfl rfl)
theorem dL_law_3664 : decode cL_law 3664 = .ok (.ifCond .eq 7, 3) := dz_153 (kBL_114 3664 rfl rfl) (kBL_114 3665 rfl rfl) (kBL_114 3666 rfl rfl) rfl
theorem dL_law_3667 : decode cL_law 3667 = .ok (.iconst 1, 1) := dz_4 (kBL_114 3667 rfl rfl)
theorem dL_law_3668 : decode cL_law 3668 = .ok (.goto 4, 3) := dz_167 (kBL_114 3668 rfl rfl) (kBL_114 3669 rfl rfl) (kBL_114 3670 rfl rfl) rfl
theorem dL_law_3671 : decode cL_law 3671 = .ok (.iconst 0, 1) := dz_3 (kBL_114 3671 rfl rfl)
theorem dL_law_3672 : decode cL_law 3672 = .ok (.aload_n 3, 1) := dz_45 (kBL_114 3672 rfl rfl)
theorem dL_law_3673 : decode cL_law 3673 = .ok (.invokestatic 331, 3) := dz_184 (kBL_114 3673 rfl rfl) (kBL_114 3674 rfl rfl) (kBL_114 3675 rfl rfl) rfl
theorem dL_law_3676 : decode cL_law 3676 = .ok (.istore 5, 2) := dz_54 (kBL_114 3676 rfl rfl) (kBL_114 3677 rfl rfl)
theorem dL_law_3678 : decode cL_law 3678 = .ok (.aload_n 2, 1) := dz_44 (kBL_114 3678 rfl rfl)
theorem dL_law_3679 : decode cL_law 3679 = .ok (.aload_n 0, 1) := dz_42 (kBL_114 3679 rfl rfl)
theorem dL_law_3680 : decode cL_law 3680 = .ok (.iload 4, 2) := dz_21 (kBL_115 3680 rfl rfl) (kBL_115 3681 rfl rfl)
theorem dL_law_3682 : decode cL_law 3682 = .ok (.iconst 1, 1) := dz_4 (kBL_115 3682 rfl rfl)
theorem dL_law_3683 : decode cL_law 3683 = .ok (.iadd, 1) := dz_96 (kBL_115 3683 rfl rfl)
theorem dL_law_3684 : decode cL_law 3684 = .ok (.iaload, 1) := dz_46 (kBL_115 3684 rfl rfl)
theorem dL_law_3685 : decode cL_law 3685 = .ok (.aload_n 0, 1) := dz_42 (kBL_115 3685 rfl rfl)
theorem dL_law_3686 : decode cL_law 3686 = .ok (.iload 4, 2) := dz_21 (kBL_115 3686 rfl rfl) (kBL_115 3687 rfl rfl)
theorem dL_law_3688 : decode cL_law 3688 = .ok (.iconst 2, 1) := dz_5 (kBL_115 3688 rfl rfl)
theorem dL_law_3689 : decode cL_law 3689 = .ok (.iadd, 1) := dz_96 (kBL_115 3689 rfl rfl)
theorem dL_law_3690 : decode cL_law 3690 = .ok (.iaload, 1) := dz_46 (kBL_115 3690 rfl rfl)
theorem dL_law_3691 : decode cL_law 3691 = .ok (.aload_n 0, 1) := dz_42 (kBL_115 3691 rfl rfl)
theorem dL_law_3692 : decode cL_law 3692 = .ok (.iload 4, 2) := dz_21 (kBL_115 3692 rfl rfl) (kBL_115 3693 rfl rfl)
theorem dL_law_3694 : decode cL_law 3694 = .ok (.iconst 3, 1) := dz_6 (kBL_115 3694 rfl rfl)
theorem dL_law_3695 : decode cL_law 3695 = .ok (.iadd, 1) := dz_96 (kBL_115 3695 rfl rfl)
theorem dL_law_3696 : decode cL_law 3696 = .ok (.iaload, 1) := dz_46 (kBL_115 3696 rfl rfl)
theorem dL_law_3697 : decode cL_law 3697 = .ok (.aload_n 0, 1) := dz_42 (kBL_115 3697 rfl rfl)
theorem dL_law_3698 : decode cL_law 3698 = .ok (.iload 4, 2) := dz_21 (kBL_115 3698 rfl rfl) (kBL_115 3699 rfl rfl)
theorem dL_law_3700 : decode cL_law 3700 = .ok (.iconst 4, 1) := dz_7 (kBL_115 3700 rfl rfl)
theorem dL_law_3701 : decode cL_law 3701 = .ok (.iadd, 1) := dz_96 (kBL_115 3701 rfl rfl)
theorem dL_law_3702 : decode cL_law 3702 = .ok (.iaload, 1) := dz_46 (kBL_115 3702 rfl rfl)
theorem dL_law_3703 : decode cL_law 3703 = .ok (.ifCond .eq 7, 3) := dz_153 (kBL_115 3703 rfl rfl) (kBL_115 3704 rfl rfl) (kBL_115 3705 rfl rfl) rfl
theorem dL_law_3706 : decode cL_law 3706 = .ok (.iconst 1, 1) := dz_4 (kBL_115 3706 rfl rfl)
theorem dL_law_3707 : decode cL_law 3707 = .ok (.goto 4, 3) := dz_167 (kBL_115 3707 rfl rfl) (kBL_115 3708 rfl rfl) (kBL_115 3709 rfl rfl) rfl
theorem dL_law_3710 : decode cL_law 3710 = .ok (.iconst 0, 1) := dz_3 (kBL_115 3710 rfl rfl)
theorem dL_law_3711 : decode cL_law 3711 = .ok (.invokevirtual 333, 3) := dz_182 (kBL_115 3711 rfl rfl) (kBL_116 3712 rfl rfl) (kBL_116 3713 rfl rfl) rfl
theorem dL_law_3714 : decode cL_law 3714 = .ok (.astore 6, 2) := dz_58 (kBL_116 3714 rfl rfl) (kBL_116 3715 rfl rfl)
theorem dL_law_3716 : decode cL_law 3716 = .ok (.aload_n 2, 1) := dz_44 (kBL_116 3716 rfl rfl)
theorem dL_law_3717 : decode cL_law 3717 = .ok (.invokevirtual 195, 3) := dz_182 (kBL_116 3717 rfl rfl) (kBL_116 3718 rfl rfl) (kBL_116 3719 rfl rfl) rfl
theorem dL_law_3720 : decode cL_law 3720 = .ok (.iload 5, 2) := dz_21 (kBL_116 3720 rfl rfl) (kBL_116 3721 rfl rfl)
theorem dL_law_3722 : decode cL_law 3722 = .ok (.if_icmp .eq 5, 3) := dz_159 (kBL_116 3722 rfl rfl) (kBL_116 3723 rfl rfl) (kBL_116 3724 rfl rfl) rfl
theorem dL_law_3725 : decode cL_law 3725 = .ok (.iconst 0, 1) := dz_3 (kBL_116 3725 rfl rfl)
theorem dL_law_3726 : decode cL_law 3726 = .ok (.ireturn, 1) := dz_172 (kBL_116 3726 rfl rfl)
theorem dL_law_3727 : decode cL_law 3727 = .ok (.iload 5, 2) := dz_21 (kBL_116 3727 rfl rfl) (kBL_116 3728 rfl rfl)
theorem dL_law_3729 : decode cL_law 3729 = .ok (.ifCond .ne 17, 3) := dz_154 (kBL_116 3729 rfl rfl) (kBL_116 3730 rfl rfl) (kBL_116 3731 rfl rfl) rfl
theorem dL_law_3732 : decode cL_law 3732 = .ok (.aload_n 3, 1) := dz_45 (kBL_116 3732 rfl rfl)
theorem dL_law_3733 : decode cL_law 3733 = .ok (.getfield 121, 3) := dz_180 (kBL_116 3733 rfl rfl) (kBL_116 3734 rfl rfl) (kBL_116 3735 rfl rfl) rfl
theorem dL_law_3736 : decode cL_law 3736 = .ok (.aload 6, 2) := dz_25 (kBL_116 3736 rfl rfl) (kBL_116 3737 rfl rfl)
theorem dL_law_3738 : decode cL_law 3738 = .ok (.invokevirtual 297, 3) := dz_182 (kBL_116 3738 rfl rfl) (kBL_116 3739 rfl rfl) (kBL_116 3740 rfl rfl) rfl
theorem dL_law_3741 : decode cL_law 3741 = .ok (.ifCond .ne 5, 3) := dz_154 (kBL_116 3741 rfl rfl) (kBL_116 3742 rfl rfl) (kBL_116 3743 rfl rfl) rfl
theorem dL_law_3744 : decode cL_law 3744 = .ok (.iconst 0, 1) := dz_3 (kBL_117 3744 rfl rfl)
theorem dL_law_3745 : decode cL_law 3745 = .ok (.ireturn, 1) := dz_172 (kBL_117 3745 rfl rfl)
theorem dL_law_3746 : decode cL_law 3746 = .ok (.goto 739, 3) := dz_167 (kBL_117 3746 rfl rfl) (kBL_117 3747 rfl rfl) (kBL_117 3748 rfl rfl) rfl
theorem dL_law_3749 : decode cL_law 3749 = .ok (.aload_n 1, 1) := dz_43 (kBL_117 3749 rfl rfl)
theorem dL_law_3750 : decode cL_law 3750 = .ok (.aload_n 0, 1) := dz_42 (kBL_117 3750 rfl rfl)
theorem dL_law_3751 : decode cL_law 3751 = .ok (.iload 4, 2) := dz_21 (kBL_117 3751 rfl rfl) (kBL_117 3752 rfl rfl)
theorem dL_law_3753 : decode cL_law 3753 = .ok (.iconst 1, 1) := dz_4 (kBL_117 3753 rfl rfl)
theorem dL_law_3754 : decode cL_law 3754 = .ok (.iadd, 1) := dz_96 (kBL_117 3754 rfl rfl)
theorem dL_law_3755 : decode cL_law 3755 = .ok (.iaload, 1) := dz_46 (kBL_117 3755 rfl rfl)
theorem dL_law_3756 : decode cL_law 3756 = .ok (.aload_n 0, 1) := dz_42 (kBL_117 3756 rfl rfl)
theorem dL_law_3757 : decode cL_law 3757 = .ok (.iload 4, 2) := dz_21 (kBL_117 3757 rfl rfl) (kBL_117 3758 rfl rfl)
theorem dL_law_3759 : decode cL_law 3759 = .ok (.iconst 2, 1) := dz_5 (kBL_117 3759 rfl rfl)
theorem dL_law_3760 : decode cL_law 3760 = .ok (.iadd, 1) := dz_96 (kBL_117 3760 rfl rfl)
theorem dL_law_3761 : decode cL_law 3761 = .ok (.iaload, 1) := dz_46 (kBL_117 3761 rfl rfl)
theorem dL_law_3762 : decode cL_law 3762 = .ok (.aload_n 3, 1) := dz_45 (kBL_117 3762 rfl rfl)
theorem dL_law_3763 : decode cL_law 3763 = .ok (.invokestatic 334, 3) := dz_184 (kBL_117 3763 rfl rfl) (kBL_117 3764 rfl rfl) (kBL_117 3765 rfl rfl) rfl
theorem dL_law_3766 : decode cL_law 3766 = .ok (.istore 5, 2) := dz_54 (kBL_117 3766 rfl rfl) (kBL_117 3767 rfl rfl)
theorem dL_law_3768 : decode cL_law 3768 = .ok (.aload_n 2, 1) := dz_44 (kBL_117 3768 rfl rfl)
theorem dL_law_3769 : decode cL_law 3769 = .ok (.aload_n 0, 1) := dz_42 (kBL_117 3769 rfl rfl)
theorem dL_law_3770 : decode cL_law 3770 = .ok (.iload 4, 2) := dz_21 (kBL_117 3770 rfl rfl) (kBL_117 3771 rfl rfl)
theorem dL_law_3772 : decode cL_law 3772 = .ok (.iconst 1, 1) := dz_4 (kBL_117 3772 rfl rfl)
theorem dL_law_3773 : decode cL_law 3773 = .ok (.iadd, 1) := dz_96 (kBL_117 3773 rfl rfl)
theorem dL_law_3774 : decode cL_law 3774 = .ok (.iaload, 1) := dz_46 (kBL_117 3774 rfl rfl)
theorem dL_law_3775 : decode cL_law 3775 = .ok (.aload_n 0, 1) := dz_42 (kBL_117 3775 rfl rfl)
theorem dL_law_3776 : decode cL_law 3776 = .ok (.iload 4, 2) := dz_21 (kBL_118 3776 rfl rfl) (kBL_118 3777 rfl rfl)
theorem dL_law_3778 : decode cL_law 3778 = .ok (.iconst 2, 1) := dz_5 (kBL_118 3778 rfl rfl)
theorem dL_law_3779 : decode cL_law 3779 = .ok (.iadd, 1) := dz_96 (kBL_118 3779 rfl rfl)
theorem dL_law_3780 : decode cL_law 3780 = .ok (.iaload, 1) := dz_46 (kBL_118 3780 rfl rfl)
theorem dL_law_3781 : decode cL_law 3781 = .ok (.invokevirtual 336, 3) := dz_182 (kBL_118 3781 rfl rfl) (kBL_118 3782 rfl rfl) (kBL_118 3783 rfl rfl) rfl
theorem dL_law_3784 : decode cL_law 3784 = .ok (.istore 6, 2) := dz_54 (kBL_118 3784 rfl rfl) (kBL_118 3785 rfl rfl)
theorem dL_law_3786 : decode cL_law 3786 = .ok (.aload_n 2, 1) := dz_44 (kBL_118 3786 rfl rfl)
theorem dL_law_3787 : decode cL_law 3787 = .ok (.invokevirtual 195, 3) := dz_182 (kBL_118 3787 rfl rfl) (kBL_118 3788 rfl rfl) (kBL_118 3789 rfl rfl) rfl
theorem dL_law_3790 : decode cL_law 3790 = .ok (.iload 5, 2) := dz_21 (kBL_118 3790 rfl rfl) (kBL_118 3791 rfl rfl)
theorem dL_law_3792 : decode cL_law 3792 = .ok (.if_icmp .eq 5, 3) := dz_159 (kBL_118 3792 rfl rfl) (kBL_118 3793 rfl rfl) (kBL_118 3794 rfl rfl) rfl
theorem dL_law_3795 : decode cL_law 3795 = .ok (.iconst 0, 1) := dz_3 (kBL_118 3795 rfl rfl)
theorem dL_law_3796 : decode cL_law 3796 = .ok (.ireturn, 1) := dz_172 (kBL_118 3796 rfl rfl)
theorem dL_law_3797 : decode cL_law 3797 = .ok (.iload 5, 2) := dz_21 (kBL_118 3797 rfl rfl) (kBL_118 3798 rfl rfl)
theorem dL_law_3799 : decode cL_law 3799 = .ok (.ifCond .ne 16, 3) := dz_154 (kBL_118 3799 rfl rfl) (kBL_118 3800 rfl rfl) (kBL_118 3801 rfl rfl) rfl
theorem dL_law_3802 : decode cL_law 3802 = .ok (.aload_n 3, 1) := dz_45 (kBL_118 3802 rfl rfl)
theorem dL_law_3803 : decode cL_law 3803 = .ok (.getfield 13, 3) := dz_180 (kBL_118 3803 rfl rfl) (kBL_118 3804 rfl rfl) (kBL_118 3805 rfl rfl) rfl
theorem dL_law_3806 : decode cL_law 3806 = .ok (.iload 6, 2) := dz_21 (kBL_118 3806 rfl rfl) (kBL_118 3807 rfl rfl)
theorem dL_law_3808 : decode cL_law 3808 = .ok (.i2l, 1) := dz_133 (kBL_119 3808 rfl rfl)
theorem dL_law_3809 : decode cL_law 3809 = .ok (.lcmp, 1) := dz_148 (kBL_119 3809 rfl rfl)
theorem dL_law_3810 : decode cL_law 3810 = .ok (.ifCond .eq 5, 3) := dz_153 (kBL_119 3810 rfl rfl) (kBL_119 3811 rfl rfl) (kBL_119 3812 rfl rfl) rfl
theorem dL_law_3813 : decode cL_law 3813 = .ok (.iconst 0, 1) := dz_3 (kBL_119 3813 rfl rfl)
theorem dL_law_3814 : decode cL_law 3814 = .ok (.ireturn, 1) := dz_172 (kBL_119 3814 rfl rfl)
theorem dL_law_3815 : decode cL_law 3815 = .ok (.goto 670, 3) := dz_167 (kBL_119 3815 rfl rfl) (kBL_119 3816 rfl rfl) (kBL_119 3817 rfl rfl) rfl
theorem dL_law_3818 : decode cL_law 3818 = .ok (.aload_n 1, 1) := dz_43 (kBL_119 3818 rfl rfl)
theorem dL_law_3819 : decode cL_law 3819 = .ok (.aload_n 0, 1) := dz_42 (kBL_119 3819 rfl rfl)
theorem dL_law_3820 : decode cL_law 3820 = .ok (.iload 4, 2) := dz_21 (kBL_119 3820 rfl rfl) (kBL_119 3821 rfl rfl)
theorem dL_law_3822 : decode cL_law 3822 = .ok (.iconst 1, 1) := dz_4 (kBL_119 3822 rfl rfl)
theorem dL_law_3823 : decode cL_law 3823 = .ok (.iadd, 1) := dz_96 (kBL_119 3823 rfl rfl)
theorem dL_law_3824 : decode cL_law 3824 = .ok (.iaload, 1) := dz_46 (kBL_119 3824 rfl rfl)
theorem dL_law_3825 : decode cL_law 3825 = .ok (.aload_n 0, 1) := dz_42 (kBL_119 3825 rfl rfl)
theorem dL_law_3826 : decode cL_law 3826 = .ok (.iload 4, 2) := dz_21 (kBL_119 3826 rfl rfl) (kBL_119 3827 rfl rfl)
theorem dL_law_3828 : decode cL_law 3828 = .ok (.iconst 2, 1) := dz_5 (kBL_119 3828 rfl rfl)
theorem dL_law_3829 : decode cL_law 3829 = .ok (.iadd, 1) := dz_96 (kBL_119 3829 rfl rfl)
theorem dL_law_3830 : decode cL_law 3830 = .ok (.iaload, 1) := dz_46 (kBL_119 3830 rfl rfl)
theorem dL_law_3831 : decode cL_law 3831 = .ok (.aload_n 3, 1) := dz_45 (kBL_119 3831 rfl rfl)
theorem dL_law_3832 : decode cL_law 3832 = .ok (.invokestatic 337, 3) := dz_184 (kBL_119 3832 rfl rfl) (kBL_119 3833 rfl rfl) (kBL_119 3834 rfl rfl) rfl
theorem dL_law_3835 : decode cL_law 3835 = .ok (.istore 5, 2) := dz_54 (kBL_119 3835 rfl rfl) (kBL_119 3836 rfl rfl)
theorem dL_law_3837 : decode cL_law 3837 = .ok (.aload_n 2, 1) := dz_44 (kBL_119 3837 rfl rfl)
theorem dL_law_3838 : decode cL_law 3838 = .ok (.aload_n 0, 1) := dz_42 (kBL_119 3838 rfl rfl)
theorem dL_law_3839 : decode cL_law 3839 = .ok (.iload 4, 2) := dz_21 (kBL_119 3839 rfl rfl) (kBL_120 3840 rfl rfl)
theorem dL_law_3841 : decode cL_law 3841 = .ok (.iconst 1, 1) := dz_4 (kBL_120 3841 rfl rfl)
theorem dL_law_3842 : decode cL_law 3842 = .ok (.iadd, 1) := dz_96 (kBL_120 3842 rfl rfl)
theorem dL_law_3843 : decode cL_law 3843 = .ok (.iaload, 1) := dz_46 (kBL_120 3843 rfl rfl)
theorem dL_law_3844 : decode cL_law 3844 = .ok (.aload_n 0, 1) := dz_42 (kBL_120 3844 rfl rfl)
theorem dL_law_3845 : decode cL_law 3845 = .ok (.iload 4, 2) := dz_21 (kBL_120 3845 rfl rfl) (kBL_120 3846 rfl rfl)
theorem dL_law_3847 : decode cL_law 3847 = .ok (.iconst 2, 1) := dz_5 (kBL_120 3847 rfl rfl)
theorem dL_law_3848 : decode cL_law 3848 = .ok (.iadd, 1) := dz_96 (kBL_120 3848 rfl rfl)
theorem dL_law_3849 : decode cL_law 3849 = .ok (.iaload, 1) := dz_46 (kBL_120 3849 rfl rfl)
theorem dL_law_3850 : decode cL_law 3850 = .ok (.invokevirtual 339, 3) := dz_182 (kBL_120 3850 rfl rfl) (kBL_120 3851 rfl rfl) (kBL_120 3852 rfl rfl) rfl
theorem dL_law_3853 : decode cL_law 3853 = .ok (.istore 6, 2) := dz_54 (kBL_120 3853 rfl rfl) (kBL_120 3854 rfl rfl)
theorem dL_law_3855 : decode cL_law 3855 = .ok (.aload_n 2, 1) := dz_44 (kBL_120 3855 rfl rfl)
theorem dL_law_3856 : decode cL_law 3856 = .ok (.invokevirtual 195, 3) := dz_182 (kBL_120 3856 rfl rfl) (kBL_120 3857 rfl rfl) (kBL_120 3858 rfl rfl) rfl
theorem dL_law_3859 : decode cL_law 3859 = .ok (.iload 5, 2) := dz_21 (kBL_120 3859 rfl rfl) (kBL_120 3860 rfl rfl)
theorem dL_law_3861 : decode cL_law 3861 = .ok (.if_icmp .eq 5, 3) := dz_159 (kBL_120 3861 rfl rfl) (kBL_120 3862 rfl rfl) (kBL_120 3863 rfl rfl) rfl
theorem dL_law_3864 : decode cL_law 3864 = .ok (.iconst 0, 1) := dz_3 (kBL_120 3864 rfl rfl)
theorem dL_law_3865 : decode cL_law 3865 = .ok (.ireturn, 1) := dz_172 (kBL_120 3865 rfl rfl)
theorem dL_law_3866 : decode cL_law 3866 = .ok (.iload 5, 2) := dz_21 (kBL_120 3866 rfl rfl) (kBL_120 3867 rfl rfl)
theorem dL_law_3868 : decode cL_law 3868 = .ok (.ifCond .ne 23, 3) := dz_154 (kBL_120 3868 rfl rfl) (kBL_120 3869 rfl rfl) (kBL_120 3870 rfl rfl) rfl
theorem dL_law_3871 : decode cL_law 3871 = .ok (.aload_n 3, 1) := dz_45 (kBL_120 3871 rfl rfl)
theorem dL_law_3872 : decode cL_law 3872 = .ok (.getfield 13, 3) := dz_180 (kBL_121 3872 rfl rfl) (kBL_121 3873 rfl rfl) (kBL_121 3874 rfl rfl) rfl
theorem dL_law_3875 : decode cL_law 3875 = .ok (.iload 6, 2) := dz_21 (kBL_121 3875 rfl rfl) (kBL_121 3876 rfl rfl)
theorem dL_law_3877 : decode cL_law 3877 = .ok (.ifCond .eq 7, 3) := dz_153 (kBL_121 3877 rfl rfl) (kBL_121 3878 rfl rfl) (kBL_121 3879 rfl rfl) rfl
theorem dL_law_3880 : decode cL_law 3880 = .ok (.lconst 1, 1) := dz_10 (kBL_121 3880 rfl rfl)
theorem dL_law_3881 : decode cL_law 3881 = .ok (.goto 4, 3) := dz_167 (kBL_121 3881 rfl rfl) (kBL_121 3882 rfl rfl) (kBL_121 3883 rfl rfl) rfl
theorem dL_law_3884 : decode cL_law 3884 = .ok (.lconst 0, 1) := dz_9 (kBL_121 3884 rfl rfl)
theorem dL_law_3885 : decode cL_law 3885 = .ok (.lcmp, 1) := dz_148 (kBL_121 3885 rfl rfl)
theorem dL_law_3886 : decode cL_law 3886 = .ok (.ifCond .eq 5, 3) := dz_153 (kBL_121 3886 rfl rfl) (kBL_121 3887 rfl rfl) (kBL_121 3888 rfl rfl) rfl
theorem dL_law_3889 : decode cL_law 3889 = .ok (.iconst 0, 1) := dz_3 (kBL_121 3889 rfl rfl)
theorem dL_law_3890 : decode cL_law 3890 = .ok (.ireturn, 1) := dz_172 (kBL_121 3890 rfl rfl)
theorem dL_law_3891 : decode cL_law 3891 = .ok (.goto 594, 3) := dz_167 (kBL_121 3891 rfl rfl) (kBL_121 3892 rfl rfl) (kBL_121 3893 rfl rfl) rfl
theorem dL_law_3894 : decode cL_law 3894 = .ok (.aload_n 1, 1) := dz_43 (kBL_121 3894 rfl rfl)
theorem dL_law_3895 : decode cL_law 3895 = .ok (.aload_n 0, 1) := dz_42 (kBL_121 3895 rfl rfl)
theorem dL_law_3896 : decode cL_law 3896 = .ok (.iload 4, 2) := dz_21 (kBL_121 3896 rfl rfl) (kBL_121 3897 rfl rfl)
theorem dL_law_3898 : decode cL_law 3898 = .ok (.iconst 1, 1) := dz_4 (kBL_121 3898 rfl rfl)
theorem dL_law_3899 : decode cL_law 3899 = .ok (.iadd, 1) := dz_96 (kBL_121 3899 rfl rfl)
theorem dL_law_3900 : decode cL_law 3900 = .ok (.iaload, 1) := dz_46 (kBL_121 3900 rfl rfl)
theorem dL_law_3901 : decode cL_law 3901 = .ok (.aload_n 0, 1) := dz_42 (kBL_121 3901 rfl rfl)
theorem dL_law_3902 : decode cL_law 3902 = .ok (.iload 4, 2) := dz_21 (kBL_121 3902 rfl rfl) (kBL_121 3903 rfl rfl)
theorem dL_law_3904 : decode cL_law 3904 = .ok (.iconst 2, 1) := dz_5 (kBL_122 3904 rfl rfl)
theorem dL_law_3905 : decode cL_law 3905 = .ok (.iadd, 1) := dz_96 (kBL_122 3905 rfl rfl)
theorem dL_law_3906 : decode cL_law 3906 = .ok (.iaload, 1) := dz_46 (kBL_122 3906 rfl rfl)
theorem dL_law_3907 : decode cL_law 3907 = .ok (.aload_n 0, 1) := dz_42 (kBL_122 3907 rfl rfl)
theorem dL_law_3908 : decode cL_law 3908 = .ok (.iload 4, 2) := dz_21 (kBL_122 3908 rfl rfl) (kBL_122 3909 rfl rfl)
theorem dL_law_3910 : decode cL_law 3910 = .ok (.iconst 3, 1) := dz_6 (kBL_122 3910 rfl rfl)
theorem dL_law_3911 : decode cL_law 3911 = .ok (.iadd, 1) := dz_96 (kBL_122 3911 rfl rfl)
theorem dL_law_3912 : decode cL_law 3912 = .ok (.iaload, 1) := dz_46 (kBL_122 3912 rfl rfl)
theorem dL_law_3913 : decode cL_law 3913 = .ok (.aload_n 3, 1) := dz_45 (kBL_122 3913 rfl rfl)
theorem dL_law_3914 : decode cL_law 3914 = .ok (.invokestatic 340, 3) := dz_184 (kBL_122 3914 rfl rfl) (kBL_122 3915 rfl rfl) (kBL_122 3916 rfl rfl) rfl
theorem dL_law_3917 : decode cL_law 3917 = .ok (.istore 5, 2) := dz_54 (kBL_122 3917 rfl rfl) (kBL_122 3918 rfl rfl)
theorem dL_law_3919 : decode cL_law 3919 = .ok (.aload_n 2, 1) := dz_44 (kBL_122 3919 rfl rfl)
theorem dL_law_3920 : decode cL_law 3920 = .ok (.aload_n 0, 1) := dz_42 (kBL_122 3920 rfl rfl)
theorem dL_law_3921 : decode cL_law 3921 = .ok (.iload 4, 2) := dz_21 (kBL_122 3921 rfl rfl) (kBL_122 3922 rfl rfl)
theorem dL_law_3923 : decode cL_law 3923 = .ok (.iconst 1, 1) := dz_4 (kBL_122 3923 rfl rfl)
theorem dL_law_3924 : decode cL_law 3924 = .ok (.iadd, 1) := dz_96 (kBL_122 3924 rfl rfl)
theorem dL_law_3925 : decode cL_law 3925 = .ok (.iaload, 1) := dz_46 (kBL_122 3925 rfl rfl)
theorem dL_law_3926 : decode cL_law 3926 = .ok (.aload_n 0, 1) := dz_42 (kBL_122 3926 rfl rfl)
theorem dL_law_3927 : decode cL_law 3927 = .ok (.iload 4, 2) := dz_21 (kBL_122 3927 rfl rfl) (kBL_122 3928 rfl rfl)
theorem dL_law_3929 : decode cL_law 3929 = .ok (.iconst 2, 1) := dz_5 (kBL_122 3929 rfl rfl)
theorem dL_law_3930 : decode cL_law 3930 = .ok (.iadd, 1) := dz_96 (kBL_122 3930 rfl rfl)
theorem dL_law_3931 : decode cL_law 3931 = .ok (.iaload, 1) := dz_46 (kBL_122 3931 rfl rfl)
theorem dL_law_3932 : decode cL_law 3932 = .ok (.aload_n 0, 1) := dz_42 (kBL_122 3932 rfl rfl)
theorem dL_law_3933 : decode cL_law 3933 = .ok (.iload 4, 2) := dz_21 (kBL_122 3933 rfl rfl) (kBL_122 3934 rfl rfl)
theorem dL_law_3935 : decode cL_law 3935 = .ok (.iconst 3, 1) := dz_6 (kBL_122 3935 rfl rfl)
theorem dL_law_3936 : decode cL_law 3936 = .ok (.iadd, 1) := dz_96 (kBL_123 3936 rfl rfl)
theorem dL_law_3937 : decode cL_law 3937 = .ok (.iaload, 1) := dz_46 (kBL_123 3937 rfl rfl)
theorem dL_law_3938 : decode cL_law 3938 = .ok (.invokevirtual 342, 3) := dz_182 (kBL_123 3938 rfl rfl) (kBL_123 3939 rfl rfl) (kBL_123 3940 rfl rfl) rfl
theorem dL_law_3941 : decode cL_law 3941 = .ok (.istore 6, 2) := dz_54 (kBL_123 3941 rfl rfl) (kBL_123 3942 rfl rfl)
theorem dL_law_3943 : decode cL_law 3943 = .ok (.aload_n 2, 1) := dz_44 (kBL_123 3943 rfl rfl)
theorem dL_law_3944 : decode cL_law 3944 = .ok (.invokevirtual 195, 3) := dz_182 (kBL_123 3944 rfl rfl) (kBL_123 3945 rfl rfl) (kBL_123 3946 rfl rfl) rfl
theorem dL_law_3947 : decode cL_law 3947 = .ok (.iload 5, 2) := dz_21 (kBL_123 3947 rfl rfl) (kBL_123 3948 rfl rfl)
theorem dL_law_3949 : decode cL_law 3949 = .ok (.if_icmp .eq 5, 3) := dz_159 (kBL_123 3949 rfl rfl) (kBL_123 3950 rfl rfl) (kBL_123 3951 rfl rfl) rfl
theorem dL_law_3952 : decode cL_law 3952 = .ok (.iconst 0, 1) := dz_3 (kBL_123 3952 rfl rfl)
theorem dL_law_3953 : decode cL_law 3953 = .ok (.ireturn, 1) := dz_172 (kBL_123 3953 rfl rfl)
theorem dL_law_3954 : decode cL_law 3954 = .ok (.iload 5, 2) := dz_21 (kBL_123 3954 rfl rfl) (kBL_123 3955 rfl rfl)
theorem dL_law_3956 : decode cL_law 3956 = .ok (.ifCond .ne 16, 3) := dz_154 (kBL_123 3956 rfl rfl) (kBL_123 3957 rfl rfl) (kBL_123 3958 rfl rfl) rfl
theorem dL_law_3959 : decode cL_law 3959 = .ok (.aload_n 3, 1) := dz_45 (kBL_123 3959 rfl rfl)
theorem dL_law_3960 : decode cL_law 3960 = .ok (.getfield 13, 3) := dz_180 (kBL_123 3960 rfl rfl) (kBL_123 3961 rfl rfl) (kBL_123 3962 rfl rfl) rfl
theorem dL_law_3963 : decode cL_law 3963 = .ok (.iload 6, 2) := dz_21 (kBL_123 3963 rfl rfl) (kBL_123 3964 rfl rfl)
theorem dL_law_3965 : decode cL_law 3965 = .ok (.i2l, 1) := dz_133 (kBL_123 3965 rfl rfl)
theorem dL_law_3966 : decode cL_law 3966 = .ok (.lcmp, 1) := dz_148 (kBL_123 3966 rfl rfl)
theorem dL_law_3967 : decode cL_law 3967 = .ok (.ifCond .eq 5, 3) := dz_153 (kBL_123 3967 rfl rfl) (kBL_124 3968 rfl rfl) (kBL_124 3969 rfl rfl) rfl
theorem dL_law_3970 : decode cL_law 3970 = .ok (.iconst 0, 1) := dz_3 (kBL_124 3970 rfl rfl)
theorem dL_law_3971 : decode cL_law 3971 = .ok (.ireturn, 1) := dz_172 (kBL_124 3971 rfl rfl)
theorem dL_law_3972 : decode cL_law 3972 = .ok (.goto 513, 3) := dz_167 (kBL_124 3972 rfl rfl) (kBL_124 3973 rfl rfl) (kBL_124 3974 rfl rfl) rfl
theorem dL_law_3975 : decode cL_law 3975 = .ok (.aload_n 1, 1) := dz_43 (kBL_124 3975 rfl rfl)
theorem dL_law_3976 : decode cL_law 3976 = .ok (.aload_n 0, 1) := dz_42 (kBL_124 3976 rfl rfl)
theorem dL_law_3977 : decode cL_law 3977 = .ok (.iload 4, 2) := dz_21 (kBL_124 3977 rfl rfl) (kBL_124 3978 rfl rfl)
theorem dL_law_3979 : decode cL_law 3979 = .ok (.iconst 1, 1) := dz_4 (kBL_124 3979 rfl rfl)
theorem dL_law_3980 : decode cL_law 3980 = .ok (.iadd, 1) := dz_96 (kBL_124 3980 rfl rfl)
theorem dL_law_3981 : decode cL_law 3981 = .ok (.iaload, 1) := dz_46 (kBL_124 3981 rfl rfl)
theorem dL_law_3982 : decode cL_law 3982 = .ok (.aload_n 0, 1) := dz_42 (kBL_124 3982 rfl rfl)
theorem dL_law_3983 : decode cL_law 3983 = .ok (.iload 4, 2) := dz_21 (kBL_124 3983 rfl rfl) (kBL_124 3984 rfl rfl)
theorem dL_law_3985 : decode cL_law 3985 = .ok (.iconst 2, 1) := dz_5 (kBL_124 3985 rfl rfl)
theorem dL_law_3986 : decode cL_law 3986 = .ok (.iadd, 1) := dz_96 (kBL_124 3986 rfl rfl)
theorem dL_law_3987 : decode cL_law 3987 = .ok (.iaload, 1) := dz_46 (kBL_124 3987 rfl rfl)
theorem dL_law_3988 : decode cL_law 3988 = .ok (.aload_n 0, 1) := dz_42 (kBL_124 3988 rfl rfl)
theorem dL_law_3989 : decode cL_law 3989 = .ok (.iload 4, 2) := dz_21 (kBL_124 3989 rfl rfl) (kBL_124 3990 rfl rfl)
theorem dL_law_3991 : decode cL_law 3991 = .ok (.iconst 3, 1) := dz_6 (kBL_124 3991 rfl rfl)
theorem dL_law_3992 : decode cL_law 3992 = .ok (.iadd, 1) := dz_96 (kBL_124 3992 rfl rfl)
theorem dL_law_3993 : decode cL_law 3993 = .ok (.iaload, 1) := dz_46 (kBL_124 3993 rfl rfl)
theorem dL_law_3994 : decode cL_law 3994 = .ok (.aload_n 3, 1) := dz_45 (kBL_124 3994 rfl rfl)
theorem dL_law_3995 : decode cL_law 3995 = .ok (.invokestatic 343, 3) := dz_184 (kBL_124 3995 rfl rfl) (kBL_124 3996 rfl rfl) (kBL_124 3997 rfl rfl) rfl
theorem dL_law_3998 : decode cL_law 3998 = .ok (.istore 5, 2) := dz_54 (kBL_124 3998 rfl rfl) (kBL_124 3999 rfl rfl)
theorem dL_law_4000 : decode cL_law 4000 = .ok (.aload_n 2, 1) := dz_44 (kBL_125 4000 rfl rfl)
theorem dL_law_4001 : decode cL_law 4001 = .ok (.aload_n 0, 1) := dz_42 (kBL_125 4001 rfl rfl)
theorem dL_law_4002 : decode cL_law 4002 = .ok (.iload 4, 2) := dz_21 (kBL_125 4002 rfl rfl) (kBL_125 4003 rfl rfl)
theorem dL_law_4004 : decode cL_law 4004 = .ok (.iconst 1, 1) := dz_4 (kBL_125 4004 rfl rfl)
theorem dL_law_4005 : decode cL_law 4005 = .ok (.iadd, 1) := dz_96 (kBL_125 4005 rfl rfl)
theorem dL_law_4006 : decode cL_law 4006 = .ok (.iaload, 1) := dz_46 (kBL_125 4006 rfl rfl)
theorem dL_law_4007 : decode cL_law 4007 = .ok (.aload_n 0, 1) := dz_42 (kBL_125 4007 rfl rfl)
theorem dL_law_4008 : decode cL_law 4008 = .ok (.iload 4, 2) := dz_21 (kBL_125 4008 rfl rfl) (kBL_125 4009 rfl rfl)
theorem dL_law_4010 : decode cL_law 4010 = .ok (.iconst 2, 1) := dz_5 (kBL_125 4010 rfl rfl)
theorem dL_law_4011 : decode cL_law 4011 = .ok (.iadd, 1) := dz_96 (kBL_125 4011 rfl rfl)
theorem dL_law_4012 : decode cL_law 4012 = .ok (.iaload, 1) := dz_46 (kBL_125 4012 rfl rfl)
theorem dL_law_4013 : decode cL_law 4013 = .ok (.aload_n 0, 1) := dz_42 (kBL_125 4013 rfl rfl)
theorem dL_law_4014 : decode cL_law 4014 = .ok (.iload 4, 2) := dz_21 (kBL_125 4014 rfl rfl) (kBL_125 4015 rfl rfl)
theorem dL_law_4016 : decode cL_law 4016 = .ok (.iconst 3, 1) := dz_6 (kBL_125 4016 rfl rfl)
theorem dL_law_4017 : decode cL_law 4017 = .ok (.iadd, 1) := dz_96 (kBL_125 4017 rfl rfl)
theorem dL_law_4018 : decode cL_law 4018 = .ok (.iaload, 1) := dz_46 (kBL_125 4018 rfl rfl)
theorem dL_law_4019 : decode cL_law 4019 = .ok (.invokevirtual 345, 3) := dz_182 (kBL_125 4019 rfl rfl) (kBL_125 4020 rfl rfl) (kBL_125 4021 rfl rfl) rfl
theorem dL_law_4022 : decode cL_law 4022 = .ok (.istore 6, 2) := dz_54 (kBL_125 4022 rfl rfl) (kBL_125 4023 rfl rfl)
theorem dL_law_4024 : decode cL_law 4024 = .ok (.aload_n 2, 1) := dz_44 (kBL_125 4024 rfl rfl)
theorem dL_law_4025 : decode cL_law 4025 = .ok (.invokevirtual 195, 3) := dz_182 (kBL_125 4025 rfl rfl) (kBL_125 4026 rfl rfl) (kBL_125 4027 rfl rfl) rfl
theorem dL_law_4028 : decode cL_law 4028 = .ok (.iload 5, 2) := dz_21 (kBL_125 4028 rfl rfl) (kBL_125 4029 rfl rfl)
theorem dL_law_4030 : decode cL_law 4030 = .ok (.if_icmp .eq 5, 3) := dz_159 (kBL_125 4030 rfl rfl) (kBL_125 4031 rfl rfl) (kBL_126 4032 rfl rfl) rfl
theorem dL_law_4033 : decode cL_law 4033 = .ok (.iconst 0, 1) := dz_3 (kBL_126 4033 rfl rfl)
theorem dL_law_4034 : decode cL_law 4034 = .ok (.ireturn, 1) := dz_172 (kBL_126 4034 rfl rfl)
theorem dL_law_4035 : decode cL_law 4035 = .ok (.iload 5, 2) := dz_21 (kBL_126 4035 rfl rfl) (kBL_126 4036 rfl rfl)
theorem dL_law_4037 : decode cL_law 4037 = .ok (.ifCond .ne 23, 3) := dz_154 (kBL_126 4037 rfl rfl) (kBL_126 4038 rfl rfl) (kBL_126 4039 rfl rfl) rfl
theorem dL_law_4040 : decode cL_law 4040 = .ok (.aload_n 3, 1) := dz_45 (kBL_126 4040 rfl rfl)
theorem dL_law_4041 : decode cL_law 4041 = .ok (.getfield 13, 3) := dz_180 (kBL_126 4041 rfl rfl) (kBL_126 4042 rfl rfl) (kBL_126 4043 rfl rfl) rfl
theorem dL_law_4044 : decode cL_law 4044 = .ok (.iload 6, 2) := dz_21 (kBL_126 4044 rfl rfl) (kBL_126 4045 rfl rfl)
theorem dL_law_4046 : decode cL_law 4046 = .ok (.ifCond .eq 7, 3) := dz_153 (kBL_126 4046 rfl rfl) (kBL_126 4047 rfl rfl) (kBL_126 4048 rfl rfl) rfl
theorem dL_law_4049 : decode cL_law 4049 = .ok (.lconst 1, 1) := dz_10 (kBL_126 4049 rfl rfl)
theorem dL_law_4050 : decode cL_law 4050 = .ok (.goto 4, 3) := dz_167 (kBL_126 4050 rfl rfl) (kBL_126 4051 rfl rfl) (kBL_126 4052 rfl rfl) rfl
theorem dL_law_4053 : decode cL_law 4053 = .ok (.lconst 0, 1) := dz_9 (kBL_126 4053 rfl rfl)
theorem dL_law_4054 : decode cL_law 4054 = .ok (.lcmp, 1) := dz_148 (kBL_126 4054 rfl rfl)
theorem dL_law_4055 : decode cL_law 4055 = .ok (.ifCond .eq 5, 3) := dz_153 (kBL_126 4055 rfl rfl) (kBL_126 4056 rfl rfl) (kBL_126 4057 rfl rfl) rfl
theorem dL_law_4058 : decode cL_law 4058 = .ok (.iconst 0, 1) := dz_3 (kBL_126 4058 rfl rfl)
theorem dL_law_4059 : decode cL_law 4059 = .ok (.ireturn, 1) := dz_172 (kBL_126 4059 rfl rfl)
theorem dL_law_4060 : decode cL_law 4060 = .ok (.goto 425, 3) := dz_167 (kBL_126 4060 rfl rfl) (kBL_126 4061 rfl rfl) (kBL_126 4062 rfl rfl) rfl
theorem dL_law_4063 : decode cL_law 4063 = .ok (.aload_n 1, 1) := dz_43 (kBL_126 4063 rfl rfl)
theorem dL_law_4064 : decode cL_law 4064 = .ok (.aload_n 0, 1) := dz_42 (kBL_127 4064 rfl rfl)
theorem dL_law_4065 : decode cL_law 4065 = .ok (.iload 4, 2) := dz_21 (kBL_127 4065 rfl rfl) (kBL_127 4066 rfl rfl)
theorem dL_law_4067 : decode cL_law 4067 = .ok (.iconst 1, 1) := dz_4 (kBL_127 4067 rfl rfl)
theorem dL_law_4068 : decode cL_law 4068 = .ok (.iadd, 1) := dz_96 (kBL_127 4068 rfl rfl)
theorem dL_law_4069 : decode cL_law 4069 = .ok (.iaload, 1) := dz_46 (kBL_127 4069 rfl rfl)
theorem dL_law_4070 : decode cL_law 4070 = .ok (.aload_n 0, 1) := dz_42 (kBL_127 4070 rfl rfl)
theorem dL_law_4071 : decode cL_law 4071 = .ok (.iload 4, 2) := dz_21 (kBL_127 4071 rfl rfl) (kBL_127 4072 rfl rfl)
theorem dL_law_4073 : decode cL_law 4073 = .ok (.iconst 2, 1) := dz_5 (kBL_127 4073 rfl rfl)
theorem dL_law_4074 : decode cL_law 4074 = .ok (.iadd, 1) := dz_96 (kBL_127 4074 rfl rfl)
theorem dL_law_4075 : decode cL_law 4075 = .ok (.iaload, 1) := dz_46 (kBL_127 4075 rfl rfl)
theorem dL_law_4076 : decode cL_law 4076 = .ok (.aload_n 3, 1) := dz_45 (kBL_127 4076 rfl rfl)
theorem dL_law_4077 : decode cL_law 4077 = .ok (.invokestatic 346, 3) := dz_184 (kBL_127 4077 rfl rfl) (kBL_127 4078 rfl rfl) (kBL_127 4079 rfl rfl) rfl
theorem dL_law_4080 : decode cL_law 4080 = .ok (.istore 5, 2) := dz_54 (kBL_127 4080 rfl rfl) (kBL_127 4081 rfl rfl)
theorem dL_law_4082 : decode cL_law 4082 = .ok (.aload_n 2, 1) := dz_44 (kBL_127 4082 rfl rfl)
theorem dL_law_4083 : decode cL_law 4083 = .ok (.aload_n 0, 1) := dz_42 (kBL_127 4083 rfl rfl)
theorem dL_law_4084 : decode cL_law 4084 = .ok (.iload 4, 2) := dz_21 (kBL_127 4084 rfl rfl) (kBL_127 4085 rfl rfl)
theorem dL_law_4086 : decode cL_law 4086 = .ok (.iconst 1, 1) := dz_4 (kBL_127 4086 rfl rfl)
theorem dL_law_4087 : decode cL_law 4087 = .ok (.iadd, 1) := dz_96 (kBL_127 4087 rfl rfl)
theorem dL_law_4088 : decode cL_law 4088 = .ok (.iaload, 1) := dz_46 (kBL_127 4088 rfl rfl)
theorem dL_law_4089 : decode cL_law 4089 = .ok (.aload_n 0, 1) := dz_42 (kBL_127 4089 rfl rfl)
theorem dL_law_4090 : decode cL_law 4090 = .ok (.iload 4, 2) := dz_21 (kBL_127 4090 rfl rfl) (kBL_127 4091 rfl rfl)
theorem dL_law_4092 : decode cL_law 4092 = .ok (.iconst 2, 1) := dz_5 (kBL_127 4092 rfl rfl)
theorem dL_law_4093 : decode cL_law 4093 = .ok (.iadd, 1) := dz_96 (kBL_127 4093 rfl rfl)
theorem dL_law_4094 : decode cL_law 4094 = .ok (.iaload, 1) := dz_46 (kBL_127 4094 rfl rfl)
theorem dL_law_4095 : decode cL_law 4095 = .ok (.invokevirtual 348, 3) := dz_182 (kBL_127 4095 rfl rfl) (kBL_128 4096 rfl rfl) (kBL_128 4097 rfl rfl) rfl
theorem dL_law_4098 : decode cL_law 4098 = .ok (.istore 6, 2) := dz_54 (kBL_128 4098 rfl rfl) (kBL_128 4099 rfl rfl)
theorem dL_law_4100 : decode cL_law 4100 = .ok (.aload_n 2, 1) := dz_44 (kBL_128 4100 rfl rfl)
theorem dL_law_4101 : decode cL_law 4101 = .ok (.invokevirtual 195, 3) := dz_182 (kBL_128 4101 rfl rfl) (kBL_128 4102 rfl rfl) (kBL_128 4103 rfl rfl) rfl
theorem dL_law_4104 : decode cL_law 4104 = .ok (.iload 5, 2) := dz_21 (kBL_128 4104 rfl rfl) (kBL_128 4105 rfl rfl)
theorem dL_law_4106 : decode cL_law 4106 = .ok (.if_icmp .eq 5, 3) := dz_159 (kBL_128 4106 rfl rfl) (kBL_128 4107 rfl rfl) (kBL_128 4108 rfl rfl) rfl
theorem dL_law_4109 : decode cL_law 4109 = .ok (.iconst 0, 1) := dz_3 (kBL_128 4109 rfl rfl)
theorem dL_law_4110 : decode cL_law 4110 = .ok (.ireturn, 1) := dz_172 (kBL_128 4110 rfl rfl)
theorem dL_law_4111 : decode cL_law 4111 = .ok (.iload 5, 2) := dz_21 (kBL_128 4111 rfl rfl) (kBL_128 4112 rfl rfl)
theorem dL_law_4113 : decode cL_law 4113 = .ok (.ifCond .ne 16, 3) := dz_154 (kBL_128 4113 rfl rfl) (kBL_128 4114 rfl rfl) (kBL_128 4115 rfl rfl) rfl
theorem dL_law_4116 : decode cL_law 4116 = .ok (.aload_n 3, 1) := dz_45 (kBL_128 4116 rfl rfl)
theorem dL_law_4117 : decode cL_law 4117 = .ok (.getfield 13, 3) := dz_180 (kBL_128 4117 rfl rfl) (kBL_128 4118 rfl rfl) (kBL_128 4119 rfl rfl) rfl
theorem dL_law_4120 : decode cL_law 4120 = .ok (.iload 6, 2) := dz_21 (kBL_128 4120 rfl rfl) (kBL_128 4121 rfl rfl)
theorem dL_law_4122 : decode cL_law 4122 = .ok (.i2l, 1) := dz_133 (kBL_128 4122 rfl rfl)
theorem dL_law_4123 : decode cL_law 4123 = .ok (.lcmp, 1) := dz_148 (kBL_128 4123 rfl rfl)
theorem dL_law_4124 : decode cL_law 4124 = .ok (.ifCond .eq 5, 3) := dz_153 (kBL_128 4124 rfl rfl) (kBL_128 4125 rfl rfl) (kBL_128 4126 rfl rfl) rfl
theorem dL_law_4127 : decode cL_law 4127 = .ok (.iconst 0, 1) := dz_3 (kBL_128 4127 rfl rfl)
theorem dL_law_4128 : decode cL_law 4128 = .ok (.ireturn, 1) := dz_172 (kBL_129 4128 rfl rfl)
theorem dL_law_4129 : decode cL_law 4129 = .ok (.goto 356, 3) := dz_167 (kBL_129 4129 rfl rfl) (kBL_129 4130 rfl rfl) (kBL_129 4131 rfl rfl) rfl
theorem dL_law_4132 : decode cL_law 4132 = .ok (.aload_n 1, 1) := dz_43 (kBL_129 4132 rfl rfl)
theorem dL_law_4133 : decode cL_law 4133 = .ok (.aload_n 0, 1) := dz_42 (kBL_129 4133 rfl rfl)
theorem dL_law_4134 : decode cL_law 4134 = .ok (.iload 4, 2) := dz_21 (kBL_129 4134 rfl rfl) (kBL_129 4135 rfl rfl)
theorem dL_law_4136 : decode cL_law 4136 = .ok (.iconst 1, 1) := dz_4 (kBL_129 4136 rfl rfl)
theorem dL_law_4137 : decode cL_law 4137 = .ok (.iadd, 1) := dz_96 (kBL_129 4137 rfl rfl)
theorem dL_law_4138 : decode cL_law 4138 = .ok (.iaload, 1) := dz_46 (kBL_129 4138 rfl rfl)
theorem dL_law_4139 : decode cL_law 4139 = .ok (.aload_n 3, 1) := dz_45 (kBL_129 4139 rfl rfl)
theorem dL_law_4140 : decode cL_law 4140 = .ok (.invokestatic 349, 3) := dz_184 (kBL_129 4140 rfl rfl) (kBL_129 4141 rfl rfl) (kBL_129 4142 rfl rfl) rfl
theorem dL_law_4143 : decode cL_law 4143 = .ok (.istore 5, 2) := dz_54 (kBL_129 4143 rfl rfl) (kBL_129 4144 rfl rfl)
theorem dL_law_4145 : decode cL_law 4145 = .ok (.aload_n 2, 1) := dz_44 (kBL_129 4145 rfl rfl)
theorem dL_law_4146 : decode cL_law 4146 = .ok (.aload_n 0, 1) := dz_42 (kBL_129 4146 rfl rfl)
theorem dL_law_4147 : decode cL_law 4147 = .ok (.iload 4, 2) := dz_21 (kBL_129 4147 rfl rfl) (kBL_129 4148 rfl rfl)
theorem dL_law_4149 : decode cL_law 4149 = .ok (.iconst 1, 1) := dz_4 (kBL_129 4149 rfl rfl)
theorem dL_law_4150 : decode cL_law 4150 = .ok (.iadd, 1) := dz_96 (kBL_129 4150 rfl rfl)
theorem dL_law_4151 : decode cL_law 4151 = .ok (.iaload, 1) := dz_46 (kBL_129 4151 rfl rfl)
theorem dL_law_4152 : decode cL_law 4152 = .ok (.invokevirtual 351, 3) := dz_182 (kBL_129 4152 rfl rfl) (kBL_129 4153 rfl rfl) (kBL_129 4154 rfl rfl) rfl
theorem dL_law_4155 : decode cL_law 4155 = .ok (.astore 6, 2) := dz_58 (kBL_129 4155 rfl rfl) (kBL_129 4156 rfl rfl)
theorem dL_law_4157 : decode cL_law 4157 = .ok (.aload_n 2, 1) := dz_44 (kBL_129 4157 rfl rfl)
theorem dL_law_4158 : decode cL_law 4158 = .ok (.invokevirtual 195, 3) := dz_182 (kBL_129 4158 rfl rfl) (kBL_129 4159 rfl rfl) (kBL_130 4160 rfl rfl) rfl
theorem dL_law_4161 : decode cL_law 4161 = .ok (.iload 5, 2) := dz_21 (kBL_130 4161 rfl rfl) (kBL_130 4162 rfl rfl)
theorem dL_law_4163 : decode cL_law 4163 = .ok (.if_icmp .eq 5, 3) := dz_159 (kBL_130 4163 rfl rfl) (kBL_130 4164 rfl rfl) (kBL_130 4165 rfl rfl) rfl
theorem dL_law_4166 : decode cL_law 4166 = .ok (.iconst 0, 1) := dz_3 (kBL_130 4166 rfl rfl)
theorem dL_law_4167 : decode cL_law 4167 = .ok (.ireturn, 1) := dz_172 (kBL_130 4167 rfl rfl)
theorem dL_law_4168 : decode cL_law 4168 = .ok (.iload 5, 2) := dz_21 (kBL_130 4168 rfl rfl) (kBL_130 4169 rfl rfl)
theorem dL_law_4170 : decode cL_law 4170 = .ok (.ifCond .ne 17, 3) := dz_154 (kBL_130 4170 rfl rfl) (kBL_130 4171 rfl rfl) (kBL_130 4172 rfl rfl) rfl
theorem dL_law_4173 : decode cL_law 4173 = .ok (.aload_n 3, 1) := dz_45 (kBL_130 4173 rfl rfl)
theorem dL_law_4174 : decode cL_law 4174 = .ok (.getfield 121, 3) := dz_180 (kBL_130 4174 rfl rfl) (kBL_130 4175 rfl rfl) (kBL_130 4176 rfl rfl) rfl
theorem dL_law_4177 : decode cL_law 4177 = .ok (.aload 6, 2) := dz_25 (kBL_130 4177 rfl rfl) (kBL_130 4178 rfl rfl)
theorem dL_law_4179 : decode cL_law 4179 = .ok (.invokevirtual 297, 3) := dz_182 (kBL_130 4179 rfl rfl) (kBL_130 4180 rfl rfl) (kBL_130 4181 rfl rfl) rfl
theorem dL_law_4182 : decode cL_law 4182 = .ok (.ifCond .ne 5, 3) := dz_154 (kBL_130 4182 rfl rfl) (kBL_130 4183 rfl rfl) (kBL_130 4184 rfl rfl) rfl
theorem dL_law_4185 : decode cL_law 4185 = .ok (.iconst 0, 1) := dz_3 (kBL_130 4185 rfl rfl)
theorem dL_law_4186 : decode cL_law 4186 = .ok (.ireturn, 1) := dz_172 (kBL_130 4186 rfl rfl)
theorem dL_law_4187 : decode cL_law 4187 = .ok (.goto 298, 3) := dz_167 (kBL_130 4187 rfl rfl) (kBL_130 4188 rfl rfl) (kBL_130 4189 rfl rfl) rfl
theorem dL_law_4190 : decode cL_law 4190 = .ok (.aload_n 1, 1) := dz_43 (kBL_130 4190 rfl rfl)
theorem dL_law_4191 : decode cL_law 4191 = .ok (.aload_n 0, 1) := dz_42 (kBL_130 4191 rfl rfl)
theorem dL_law_4192 : decode cL_law 4192 = .ok (.iload 4, 2) := dz_21 (kBL_131 4192 rfl rfl) (kBL_131 4193 rfl rfl)
theorem dL_law_4194 : decode cL_law 4194 = .ok (.iconst 1, 1) := dz_4 (kBL_131 4194 rfl rfl)
theorem dL_law_4195 : decode cL_law 4195 = .ok (.iadd, 1) := dz_96 (kBL_131 4195 rfl rfl)
theorem dL_law_4196 : decode cL_law 4196 = .ok (.iaload, 1) := dz_46 (kBL_131 4196 rfl rfl)
theorem dL_law_4197 : decode cL_law 4197 = .ok (.aload_n 0, 1) := dz_42 (kBL_131 4197 rfl rfl)
theorem dL_law_4198 : decode cL_law 4198 = .ok (.iload 4, 2) := dz_21 (kBL_131 4198 rfl rfl) (kBL_131 4199 rfl rfl)
theorem dL_law_4200 : decode cL_law 4200 = .ok (.iconst 2, 1) := dz_5 (kBL_131 4200 rfl rfl)
theorem dL_law_4201 : decode cL_law 4201 = .ok (.iadd, 1) := dz_96 (kBL_131 4201 rfl rfl)
theorem dL_law_4202 : decode cL_law 4202 = .ok (.iaload, 1) := dz_46 (kBL_131 4202 rfl rfl)
theorem dL_law_4203 : decode cL_law 4203 = .ok (.aload_n 0, 1) := dz_42 (kBL_131 4203 rfl rfl)
theorem dL_law_4204 : decode cL_law 4204 = .ok (.iload 4, 2) := dz_21 (kBL_131 4204 rfl rfl) (kBL_131 4205 rfl rfl)
theorem dL_law_4206 : decode cL_law 4206 = .ok (.iconst 3, 1) := dz_6 (kBL_131 4206 rfl rfl)
theorem dL_law_4207 : decode cL_law 4207 = .ok (.iadd, 1) := dz_96 (kBL_131 4207 rfl rfl)
theorem dL_law_4208 : decode cL_law 4208 = .ok (.iaload, 1) := dz_46 (kBL_131 4208 rfl rfl)
theorem dL_law_4209 : decode cL_law 4209 = .ok (.aload_n 3, 1) := dz_45 (kBL_131 4209 rfl rfl)
theorem dL_law_4210 : decode cL_law 4210 = .ok (.invokestatic 352, 3) := dz_184 (kBL_131 4210 rfl rfl) (kBL_131 4211 rfl rfl) (kBL_131 4212 rfl rfl) rfl
theorem dL_law_4213 : decode cL_law 4213 = .ok (.istore 5, 2) := dz_54 (kBL_131 4213 rfl rfl) (kBL_131 4214 rfl rfl)
theorem dL_law_4215 : decode cL_law 4215 = .ok (.aload_n 2, 1) := dz_44 (kBL_131 4215 rfl rfl)
theorem dL_law_4216 : decode cL_law 4216 = .ok (.aload_n 0, 1) := dz_42 (kBL_131 4216 rfl rfl)
theorem dL_law_4217 : decode cL_law 4217 = .ok (.iload 4, 2) := dz_21 (kBL_131 4217 rfl rfl) (kBL_131 4218 rfl rfl)
theorem dL_law_4219 : decode cL_law 4219 = .ok (.iconst 1, 1) := dz_4 (kBL_131 4219 rfl rfl)
theorem dL_law_4220 : decode cL_law 4220 = .ok (.iadd, 1) := dz_96 (kBL_131 4220 rfl rfl)
theorem dL_law_4221 : decode cL_law 4221 = .ok (.iaload, 1) := dz_46 (kBL_131 4221 rfl rfl)
theorem dL_law_4222 : decode cL_law 4222 = .ok (.aload_n 0, 1) := dz_42 (kBL_131 4222 rfl rfl)
theorem dL_law_4223 : decode cL_law 4223 = .ok (.iload 4, 2) := dz_21 (kBL_131 4223 rfl rfl) (kBL_132 4224 rfl rfl)
theorem dL_law_4225 : decode cL_law 4225 = .ok (.iconst 2, 1) := dz_5 (kBL_132 4225 rfl rfl)
theorem dL_law_4226 : decode cL_law 4226 = .ok (.iadd, 1) := dz_96 (kBL_132 4226 rfl rfl)
theorem dL_law_4227 : decode cL_law 4227 = .ok (.iaload, 1) := dz_46 (kBL_132 4227 rfl rfl)
theorem dL_law_4228 : decode cL_law 4228 = .ok (.aload_n 0, 1) := dz_42 (kBL_132 4228 rfl rfl)
theorem dL_law_4229 : decode cL_law 4229 = .ok (.iload 4, 2) := dz_21 (kBL_132 4229 rfl rfl) (kBL_132 4230 rfl rfl)
theorem dL_law_4231 : decode cL_law 4231 = .ok (.iconst 3, 1) := dz_6 (kBL_132 4231 rfl rfl)
theorem dL_law_4232 : decode cL_law 4232 = .ok (.iadd, 1) := dz_96 (kBL_132 4232 rfl rfl)
theorem dL_law_4233 : decode cL_law 4233 = .ok (.iaload, 1) := dz_46 (kBL_132 4233 rfl rfl)
theorem dL_law_4234 : decode cL_law 4234 = .ok (.invokevirtual 354, 3) := dz_182 (kBL_132 4234 rfl rfl) (kBL_132 4235 rfl rfl) (kBL_132 4236 rfl rfl) rfl
theorem dL_law_4237 : decode cL_law 4237 = .ok (.istore 6, 2) := dz_54 (kBL_132 4237 rfl rfl) (kBL_132 4238 rfl rfl)
theorem dL_law_4239 : decode cL_law 4239 = .ok (.aload_n 2, 1) := dz_44 (kBL_132 4239 rfl rfl)
theorem dL_law_4240 : decode cL_law 4240 = .ok (.invokevirtual 195, 3) := dz_182 (kBL_132 4240 rfl rfl) (kBL_132 4241 rfl rfl) (kBL_132 4242 rfl rfl) rfl
theorem dL_law_4243 : decode cL_law 4243 = .ok (.iload 5, 2) := dz_21 (kBL_132 4243 rfl rfl) (kBL_132 4244 rfl rfl)
theorem dL_law_4245 : decode cL_law 4245 = .ok (.if_icmp .eq 5, 3) := dz_159 (kBL_132 4245 rfl rfl) (kBL_132 4246 rfl rfl) (kBL_132 4247 rfl rfl) rfl
theorem dL_law_4248 : decode cL_law 4248 = .ok (.iconst 0, 1) := dz_3 (kBL_132 4248 rfl rfl)
theorem dL_law_4249 : decode cL_law 4249 = .ok (.ireturn, 1) := dz_172 (kBL_132 4249 rfl rfl)
theorem dL_law_4250 : decode cL_law 4250 = .ok (.iload 5, 2) := dz_21 (kBL_132 4250 rfl rfl) (kBL_132 4251 rfl rfl)
theorem dL_law_4252 : decode cL_law 4252 = .ok (.ifCond .ne 16, 3) := dz_154 (kBL_132 4252 rfl rfl) (kBL_132 4253 rfl rfl) (kBL_132 4254 rfl rfl) rfl
theorem dL_law_4255 : decode cL_law 4255 = .ok (.aload_n 3, 1) := dz_45 (kBL_132 4255 rfl rfl)
theorem dL_law_4256 : decode cL_law 4256 = .ok (.getfield 13, 3) := dz_180 (kBL_133 4256 rfl rfl) (kBL_133 4257 rfl rfl) (kBL_133 4258 rfl rfl) rfl
theorem dL_law_4259 : decode cL_law 4259 = .ok (.iload 6, 2) := dz_21 (kBL_133 4259 rfl rfl) (kBL_133 4260 rfl rfl)
theorem dL_law_4261 : decode cL_law 4261 = .ok (.i2l, 1) := dz_133 (kBL_133 4261 rfl rfl)
theorem dL_law_4262 : decode cL_law 4262 = .ok (.lcmp, 1) := dz_148 (kBL_133 4262 rfl rfl)
theorem dL_law_4263 : decode cL_law 4263 = .ok (.ifCond .eq 5, 3) := dz_153 (kBL_133 4263 rfl rfl) (kBL_133 4264 rfl rfl) (kBL_133 4265 rfl rfl) rfl
theorem dL_law_4266 : decode cL_law 4266 = .ok (.iconst 0, 1) := dz_3 (kBL_133 4266 rfl rfl)
theorem dL_law_4267 : decode cL_law 4267 = .ok (.ireturn, 1) := dz_172 (kBL_133 4267 rfl rfl)
theorem dL_law_4268 : decode cL_law 4268 = .ok (.goto 217, 3) := dz_167 (kBL_133 4268 rfl rfl) (kBL_133 4269 rfl rfl) (kBL_133 4270 rfl rfl) rfl
theorem dL_law_4271 : decode cL_law 4271 = .ok (.aload_n 1, 1) := dz_43 (kBL_133 4271 rfl rfl)
theorem dL_law_4272 : decode cL_law 4272 = .ok (.aload_n 0, 1) := dz_42 (kBL_133 4272 rfl rfl)
theorem dL_law_4273 : decode cL_law 4273 = .ok (.iload 4, 2) := dz_21 (kBL_133 4273 rfl rfl) (kBL_133 4274 rfl rfl)
theorem dL_law_4275 : decode cL_law 4275 = .ok (.iconst 1, 1) := dz_4 (kBL_133 4275 rfl rfl)
theorem dL_law_4276 : decode cL_law 4276 = .ok (.iadd, 1) := dz_96 (kBL_133 4276 rfl rfl)
theorem dL_law_4277 : decode cL_law 4277 = .ok (.iaload, 1) := dz_46 (kBL_133 4277 rfl rfl)
theorem dL_law_4278 : decode cL_law 4278 = .ok (.aload_n 0, 1) := dz_42 (kBL_133 4278 rfl rfl)
theorem dL_law_4279 : decode cL_law 4279 = .ok (.iload 4, 2) := dz_21 (kBL_133 4279 rfl rfl) (kBL_133 4280 rfl rfl)
theorem dL_law_4281 : decode cL_law 4281 = .ok (.iconst 2, 1) := dz_5 (kBL_133 4281 rfl rfl)
theorem dL_law_4282 : decode cL_law 4282 = .ok (.iadd, 1) := dz_96 (kBL_133 4282 rfl rfl)
theorem dL_law_4283 : decode cL_law 4283 = .ok (.iaload, 1) := dz_46 (kBL_133 4283 rfl rfl)
theorem dL_law_4284 : decode cL_law 4284 = .ok (.aload_n 3, 1) := dz_45 (kBL_133 4284 rfl rfl)
theorem dL_law_4285 : decode cL_law 4285 = .ok (.invokestatic 355, 3) := dz_184 (kBL_133 4285 rfl rfl) (kBL_133 4286 rfl rfl) (kBL_133 4287 rfl rfl) rfl
theorem dL_law_4288 : decode cL_law 4288 = .ok (.istore 5, 2) := dz_54 (kBL_134 4288 rfl rfl) (kBL_134 4289 rfl rfl)
theorem dL_law_4290 : decode cL_law 4290 = .ok (.aload_n 2, 1) := dz_44 (kBL_134 4290 rfl rfl)
theorem dL_law_4291 : decode cL_law 4291 = .ok (.aload_n 0, 1) := dz_42 (kBL_134 4291 rfl rfl)
theorem dL_law_4292 : decode cL_law 4292 = .ok (.iload 4, 2) := dz_21 (kBL_134 4292 rfl rfl) (kBL_134 4293 rfl rfl)
theorem dL_law_4294 : decode cL_law 4294 = .ok (.iconst 1, 1) := dz_4 (kBL_134 4294 rfl rfl)
theorem dL_law_4295 : decode cL_law 4295 = .ok (.iadd, 1) := dz_96 (kBL_134 4295 rfl rfl)
theorem dL_law_4296 : decode cL_law 4296 = .ok (.iaload, 1) := dz_46 (kBL_134 4296 rfl rfl)
theorem dL_law_4297 : decode cL_law 4297 = .ok (.aload_n 0, 1) := dz_42 (kBL_134 4297 rfl rfl)
theorem dL_law_4298 : decode cL_law 4298 = .ok (.iload 4, 2) := dz_21 (kBL_134 4298 rfl rfl) (kBL_134 4299 rfl rfl)
theorem dL_law_4300 : decode cL_law 4300 = .ok (.iconst 2, 1) := dz_5 (kBL_134 4300 rfl rfl)
theorem dL_law_4301 : decode cL_law 4301 = .ok (.iadd, 1) := dz_96 (kBL_134 4301 rfl rfl)
theorem dL_law_4302 : decode cL_law 4302 = .ok (.iaload, 1) := dz_46 (kBL_134 4302 rfl rfl)
theorem dL_law_4303 : decode cL_law 4303 = .ok (.invokevirtual 357, 3) := dz_182 (kBL_134 4303 rfl rfl) (kBL_134 4304 rfl rfl) (kBL_134 4305 rfl rfl) rfl
theorem dL_law_4306 : decode cL_law 4306 = .ok (.istore 6, 2) := dz_54 (kBL_134 4306 rfl rfl) (kBL_134 4307 rfl rfl)
theorem dL_law_4308 : decode cL_law 4308 = .ok (.aload_n 2, 1) := dz_44 (kBL_134 4308 rfl rfl)
theorem dL_law_4309 : decode cL_law 4309 = .ok (.invokevirtual 195, 3) := dz_182 (kBL_134 4309 rfl rfl) (kBL_134 4310 rfl rfl) (kBL_134 4311 rfl rfl) rfl
theorem dL_law_4312 : decode cL_law 4312 = .ok (.iload 5, 2) := dz_21 (kBL_134 4312 rfl rfl) (kBL_134 4313 rfl rfl)
theorem dL_law_4314 : decode cL_law 4314 = .ok (.if_icmp .eq 5, 3) := dz_159 (kBL_134 4314 rfl rfl) (kBL_134 4315 rfl rfl) (kBL_134 4316 rfl rfl) rfl
theorem dL_law_4317 : decode cL_law 4317 = .ok (.iconst 0, 1) := dz_3 (kBL_134 4317 rfl rfl)
theorem dL_law_4318 : decode cL_law 4318 = .ok (.ireturn, 1) := dz_172 (kBL_134 4318 rfl rfl)
theorem dL_law_4319 : decode cL_law 4319 = .ok (.iload 5, 2) := dz_21 (kBL_134 4319 rfl rfl) (kBL_135 4320 rfl rfl)
theorem dL_law_4321 : decode cL_law 4321 = .ok (.ifCond .ne 23, 3) := dz_154 (kBL_135 4321 rfl rfl) (kBL_135 4322 rfl rfl) (kBL_135 4323 rfl rfl) rfl
theorem dL_law_4324 : decode cL_law 4324 = .ok (.aload_n 3, 1) := dz_45 (kBL_135 4324 rfl rfl)
theorem dL_law_4325 : decode cL_law 4325 = .ok (.getfield 13, 3) := dz_180 (kBL_135 4325 rfl rfl) (kBL_135 4326 rfl rfl) (kBL_135 4327 rfl rfl) rfl
theorem dL_law_4328 : decode cL_law 4328 = .ok (.iload 6, 2) := dz_21 (kBL_135 4328 rfl rfl) (kBL_135 4329 rfl rfl)
theorem dL_law_4330 : decode cL_law 4330 = .ok (.ifCond .eq 7, 3) := dz_153 (kBL_135 4330 rfl rfl) (kBL_135 4331 rfl rfl) (kBL_135 4332 rfl rfl) rfl
theorem dL_law_4333 : decode cL_law 4333 = .ok (.lconst 1, 1) := dz_10 (kBL_135 4333 rfl rfl)
theorem dL_law_4334 : decode cL_law 4334 = .ok (.goto 4, 3) := dz_167 (kBL_135 4334 rfl rfl) (kBL_135 4335 rfl rfl) (kBL_135 4336 rfl rfl) rfl
theorem dL_law_4337 : decode cL_law 4337 = .ok (.lconst 0, 1) := dz_9 (kBL_135 4337 rfl rfl)
theorem dL_law_4338 : decode cL_law 4338 = .ok (.lcmp, 1) := dz_148 (kBL_135 4338 rfl rfl)
theorem dL_law_4339 : decode cL_law 4339 = .ok (.ifCond .eq 5, 3) := dz_153 (kBL_135 4339 rfl rfl) (kBL_135 4340 rfl rfl) (kBL_135 4341 rfl rfl) rfl
theorem dL_law_4342 : decode cL_law 4342 = .ok (.iconst 0, 1) := dz_3 (kBL_135 4342 rfl rfl)
theorem dL_law_4343 : decode cL_law 4343 = .ok (.ireturn, 1) := dz_172 (kBL_135 4343 rfl rfl)
theorem dL_law_4344 : decode cL_law 4344 = .ok (.goto 141, 3) := dz_167 (kBL_135 4344 rfl rfl) (kBL_135 4345 rfl rfl) (kBL_135 4346 rfl rfl) rfl
theorem dL_law_4347 : decode cL_law 4347 = .ok (.aload_n 1, 1) := dz_43 (kBL_135 4347 rfl rfl)
theorem dL_law_4348 : decode cL_law 4348 = .ok (.aload_n 0, 1) := dz_42 (kBL_135 4348 rfl rfl)
theorem dL_law_4349 : decode cL_law 4349 = .ok (.iload 4, 2) := dz_21 (kBL_135 4349 rfl rfl) (kBL_135 4350 rfl rfl)
theorem dL_law_4351 : decode cL_law 4351 = .ok (.iconst 1, 1) := dz_4 (kBL_135 4351 rfl rfl)
theorem dL_law_4352 : decode cL_law 4352 = .ok (.iadd, 1) := dz_96 (kBL_136 4352 rfl rfl)
theorem dL_law_4353 : decode cL_law 4353 = .ok (.iaload, 1) := dz_46 (kBL_136 4353 rfl rfl)
theorem dL_law_4354 : decode cL_law 4354 = .ok (.ifCond .eq 7, 3) := dz_153 (kBL_136 4354 rfl rfl) (kBL_136 4355 rfl rfl) (kBL_136 4356 rfl rfl) rfl
theorem dL_law_4357 : decode cL_law 4357 = .ok (.iconst 1, 1) := dz_4 (kBL_136 4357 rfl rfl)
theorem dL_law_4358 : decode cL_law 4358 = .ok (.goto 4, 3) := dz_167 (kBL_136 4358 rfl rfl) (kBL_136 4359 rfl rfl) (kBL_136 4360 rfl rfl) rfl
theorem dL_law_4361 : decode cL_law 4361 = .ok (.iconst 0, 1) := dz_3 (kBL_136 4361 rfl rfl)
theorem dL_law_4362 : decode cL_law 4362 = .ok (.invokevirtual 358, 3) := dz_182 (kBL_136 4362 rfl rfl) (kBL_136 4363 rfl rfl) (kBL_136 4364 rfl rfl) rfl
theorem dL_law_4365 : decode cL_law 4365 = .ok (.aload_n 2, 1) := dz_44 (kBL_136 4365 rfl rfl)
theorem dL_law_4366 : decode cL_law 4366 = .ok (.aload_n 0, 1) := dz_42 (kBL_136 4366 rfl rfl)
theorem dL_law_4367 : decode cL_law 4367 = .ok (.iload 4, 2) := dz_21 (kBL_136 4367 rfl rfl) (kBL_136 4368 rfl rfl)
theorem dL_law_4369 : decode cL_law 4369 = .ok (.iconst 1, 1) := dz_4 (kBL_136 4369 rfl rfl)
theorem dL_law_4370 : decode cL_law 4370 = .ok (.iadd, 1) := dz_96 (kBL_136 4370 rfl rfl)
theorem dL_law_4371 : decode cL_law 4371 = .ok (.iaload, 1) := dz_46 (kBL_136 4371 rfl rfl)
theorem dL_law_4372 : decode cL_law 4372 = .ok (.ifCond .eq 7, 3) := dz_153 (kBL_136 4372 rfl rfl) (kBL_136 4373 rfl rfl) (kBL_136 4374 rfl rfl) rfl
theorem dL_law_4375 : decode cL_law 4375 = .ok (.iconst 1, 1) := dz_4 (kBL_136 4375 rfl rfl)
theorem dL_law_4376 : decode cL_law 4376 = .ok (.goto 4, 3) := dz_167 (kBL_136 4376 rfl rfl) (kBL_136 4377 rfl rfl) (kBL_136 4378 rfl rfl) rfl
theorem dL_law_4379 : decode cL_law 4379 = .ok (.iconst 0, 1) := dz_3 (kBL_136 4379 rfl rfl)
theorem dL_law_4380 : decode cL_law 4380 = .ok (.invokevirtual 362, 3) := dz_182 (kBL_136 4380 rfl rfl) (kBL_136 4381 rfl rfl) (kBL_136 4382 rfl rfl) rfl
theorem dL_law_4383 : decode cL_law 4383 = .ok (.if_icmp .eq 102, 3) := dz_159 (kBL_136 4383 rfl rfl) (kBL_137 4384 rfl rfl) (kBL_137 4385 rfl rfl) rfl
theorem dL_law_4386 : decode cL_law 4386 = .ok (.iconst 0, 1) := dz_3 (kBL_137 4386 rfl rfl)
theorem dL_law_4387 : decode cL_law 4387 = .ok (.ireturn, 1) := dz_172 (kBL_137 4387 rfl rfl)
theorem dL_law_4388 : decode cL_law 4388 = .ok (.aload_n 1, 1) := dz_43 (kBL_137 4388 rfl rfl)
theorem dL_law_4389 : decode cL_law 4389 = .ok (.invokevirtual 363, 3) := dz_182 (kBL_137 4389 rfl rfl) (kBL_137 4390 rfl rfl) (kBL_137 4391 rfl rfl) rfl
theorem dL_law_4392 : decode cL_law 4392 = .ok (.aload_n 2, 1) := dz_44 (kBL_137 4392 rfl rfl)
theorem dL_law_4393 : decode cL_law 4393 = .ok (.invokevirtual 366, 3) := dz_182 (kBL_137 4393 rfl rfl) (kBL_137 4394 rfl rfl) (kBL_137 4395 rfl rfl) rfl
theorem dL_law_4396 : decode cL_law 4396 = .ok (.if_icmp .eq 89, 3) := dz_159 (kBL_137 4396 rfl rfl) (kBL_137 4397 rfl rfl) (kBL_137 4398 rfl rfl) rfl
theorem dL_law_4399 : decode cL_law 4399 = .ok (.iconst 0, 1) := dz_3 (kBL_137 4399 rfl rfl)
theorem dL_law_4400 : decode cL_law 4400 = .ok (.ireturn, 1) := dz_172 (kBL_137 4400 rfl rfl)
theorem dL_law_4401 : decode cL_law 4401 = .ok (.aload_n 1, 1) := dz_43 (kBL_137 4401 rfl rfl)
theorem dL_law_4402 : decode cL_law 4402 = .ok (.aload_n 0, 1) := dz_42 (kBL_137 4402 rfl rfl)
theorem dL_law_4403 : decode cL_law 4403 = .ok (.iload 4, 2) := dz_21 (kBL_137 4403 rfl rfl) (kBL_137 4404 rfl rfl)
theorem dL_law_4405 : decode cL_law 4405 = .ok (.iconst 1, 1) := dz_4 (kBL_137 4405 rfl rfl)
theorem dL_law_4406 : decode cL_law 4406 = .ok (.iadd, 1) := dz_96 (kBL_137 4406 rfl rfl)
theorem dL_law_4407 : decode cL_law 4407 = .ok (.iaload, 1) := dz_46 (kBL_137 4407 rfl rfl)
theorem dL_law_4408 : decode cL_law 4408 = .ok (.aload_n 3, 1) := dz_45 (kBL_137 4408 rfl rfl)
theorem dL_law_4409 : decode cL_law 4409 = .ok (.invokestatic 367, 3) := dz_184 (kBL_137 4409 rfl rfl) (kBL_137 4410 rfl rfl) (kBL_137 4411 rfl rfl) rfl
theorem dL_law_4412 : decode cL_law 4412 = .ok (.istore 5, 2) := dz_54 (kBL_137 4412 rfl rfl) (kBL_137 4413 rfl rfl)
theorem dL_law_4414 : decode cL_law 4414 = .ok (.aload_n 2, 1) := dz_44 (kBL_137 4414 rfl rfl)
theorem dL_law_4415 : decode cL_law 4415 = .ok (.aload_n 0, 1) := dz_42 (kBL_137 4415 rfl rfl)
theorem dL_law_4416 : decode cL_law 4416 = .ok (.iload 4, 2) := dz_21 (kBL_138 4416 rfl rfl) (kBL_138 4417 rfl rfl)
theorem dL_law_4418 : decode cL_law 4418 = .ok (.iconst 1, 1) := dz_4 (kBL_138 4418 rfl rfl)
theorem dL_law_4419 : decode cL_law 4419 = .ok (.iadd, 1) := dz_96 (kBL_138 4419 rfl rfl)
theorem dL_law_4420 : decode cL_law 4420 = .ok (.iaload, 1) := dz_46 (kBL_138 4420 rfl rfl)
theorem dL_law_4421 : decode cL_law 4421 = .ok (.invokevirtual 369, 3) := dz_182 (kBL_138 4421 rfl rfl) (kBL_138 4422 rfl rfl) (kBL_138 4423 rfl rfl) rfl
theorem dL_law_4424 : decode cL_law 4424 = .ok (.istore 6, 2) := dz_54 (kBL_138 4424 rfl rfl) (kBL_138 4425 rfl rfl)
theorem dL_law_4426 : decode cL_law 4426 = .ok (.aload_n 2, 1) := dz_44 (kBL_138 4426 rfl rfl)
theorem dL_law_4427 : decode cL_law 4427 = .ok (.invokevirtual 195, 3) := dz_182 (kBL_138 4427 rfl rfl) (kBL_138 4428 rfl rfl) (kBL_138 4429 rfl rfl) rfl
theorem dL_law_4430 : decode cL_law 4430 = .ok (.iload 5, 2) := dz_21 (kBL_138 4430 rfl rfl) (kBL_138 4431 rfl rfl)
theorem dL_law_4432 : decode cL_law 4432 = .ok (.if_icmp .eq 5, 3) := dz_159 (kBL_138 4432 rfl rfl) (kBL_138 4433 rfl rfl) (kBL_138 4434 rfl rfl) rfl
theorem dL_law_4435 : decode cL_law 4435 = .ok (.iconst 0, 1) := dz_3 (kBL_138 4435 rfl rfl)
theorem dL_law_4436 : decode cL_law 4436 = .ok (.ireturn, 1) := dz_172 (kBL_138 4436 rfl rfl)
theorem dL_law_4437 : decode cL_law 4437 = .ok (.iload 5, 2) := dz_21 (kBL_138 4437 rfl rfl) (kBL_138 4438 rfl rfl)
theorem dL_law_4439 : decode cL_law 4439 = .ok (.ifCond .ne 16, 3) := dz_154 (kBL_138 4439 rfl rfl) (kBL_138 4440 rfl rfl) (kBL_138 4441 rfl rfl) rfl
theorem dL_law_4442 : decode cL_law 4442 = .ok (.aload_n 3, 1) := dz_45 (kBL_138 4442 rfl rfl)
theorem dL_law_4443 : decode cL_law 4443 = .ok (.getfield 13, 3) := dz_180 (kBL_138 4443 rfl rfl) (kBL_138 4444 rfl rfl) (kBL_138 4445 rfl rfl) rfl
theorem dL_law_4446 : decode cL_law 4446 = .ok (.iload 6, 2) := dz_21 (kBL_138 4446 rfl rfl) (kBL_138 4447 rfl rfl)
theorem dL_law_4448 : decode cL_law 4448 = .ok (.i2l, 1) := dz_133 (kBL_139 4448 rfl rfl)
theorem dL_law_4449 : decode cL_law 4449 = .ok (.lcmp, 1) := dz_148 (kBL_139 4449 rfl rfl)
theorem dL_law_4450 : decode cL_law 4450 = .ok (.ifCond .eq 5, 3) := dz_153 (kBL_139 4450 rfl rfl) (kBL_139 4451 rfl rfl) (kBL_139 4452 rfl rfl) rfl
theorem dL_law_4453 : decode cL_law 4453 = .ok (.iconst 0, 1) := dz_3 (kBL_139 4453 rfl rfl)
theorem dL_law_4454 : decode cL_law 4454 = .ok (.ireturn, 1) := dz_172 (kBL_139 4454 rfl rfl)
theorem dL_law_4455 : decode cL_law 4455 = .ok (.goto 30, 3) := dz_167 (kBL_139 4455 rfl rfl) (kBL_139 4456 rfl rfl) (kBL_139 4457 rfl rfl) rfl
theorem dL_law_4458 : decode cL_law 4458 = .ok (.aload_n 1, 1) := dz_43 (kBL_139 4458 rfl rfl)
theorem dL_law_4459 : decode cL_law 4459 = .ok (.invokevirtual 370, 3) := dz_182 (kBL_139 4459 rfl rfl) (kBL_139 4460 rfl rfl) (kBL_139 4461 rfl rfl) rfl
theorem dL_law_4462 : decode cL_law 4462 = .ok (.aload_n 2, 1) := dz_44 (kBL_139 4462 rfl rfl)
theorem dL_law_4463 : decode cL_law 4463 = .ok (.invokevirtual 374, 3) := dz_182 (kBL_139 4463 rfl rfl) (kBL_139 4464 rfl rfl) (kBL_139 4465 rfl rfl) rfl
theorem dL_law_4466 : decode cL_law 4466 = .ok (.if_icmp .eq 19, 3) := dz_159 (kBL_139 4466 rfl rfl) (kBL_139 4467 rfl rfl) (kBL_139 4468 rfl rfl) rfl
theorem dL_law_4469 : decode cL_law 4469 = .ok (.iconst 0, 1) := dz_3 (kBL_139 4469 rfl rfl)
theorem dL_law_4470 : decode cL_law 4470 = .ok (.ireturn, 1) := dz_172 (kBL_139 4470 rfl rfl)
theorem dL_law_4471 : decode cL_law 4471 = .ok (.aload_n 1, 1) := dz_43 (kBL_139 4471 rfl rfl)
theorem dL_law_4472 : decode cL_law 4472 = .ok (.invokevirtual 375, 3) := dz_182 (kBL_139 4472 rfl rfl) (kBL_139 4473 rfl rfl) (kBL_139 4474 rfl rfl) rfl
theorem dL_law_4475 : decode cL_law 4475 = .ok (.aload_n 2, 1) := dz_44 (kBL_139 4475 rfl rfl)
theorem dL_law_4476 : decode cL_law 4476 = .ok (.invokevirtual 379, 3) := dz_182 (kBL_139 4476 rfl rfl) (kBL_139 4477 rfl rfl) (kBL_139 4478 rfl rfl) rfl
theorem dL_law_4479 : decode cL_law 4479 = .ok (.lcmp, 1) := dz_148 (kBL_139 4479 rfl rfl)
theorem dL_law_4480 : decode cL_law 4480 = .ok (.ifCond .eq 5, 3) := dz_153 (kBL_140 4480 rfl rfl) (kBL_140 4481 rfl rfl) (kBL_140 4482 rfl rfl) rfl
theorem dL_law_4483 : decode cL_law 4483 = .ok (.iconst 0, 1) := dz_3 (kBL_140 4483 rfl rfl)
theorem dL_law_4484 : decode cL_law 4484 = .ok (.ireturn, 1) := dz_172 (kBL_140 4484 rfl rfl)
theorem dL_law_4485 : decode cL_law 4485 = .ok (.iinc 4 5, 3) := dz_132 (kBL_140 4485 rfl rfl) (kBL_140 4486 rfl rfl) (kBL_140 4487 rfl rfl) rfl
theorem dL_law_4488 : decode cL_law 4488 = .ok (.goto (-4461), 3) := dz_167 (kBL_140 4488 rfl rfl) (kBL_140 4489 rfl rfl) (kBL_140 4490 rfl rfl) rfl
theorem dL_law_4491 : decode cL_law 4491 = .ok (.iconst 1, 1) := dz_4 (kBL_140 4491 rfl rfl)
theorem dL_law_4492 : decode cL_law 4492 = .ok (.ireturn, 1) := dz_172 (kBL_140 4492 rfl rfl)
