/-! the law's instructions, part 7 -/
theorem d_L_law_2792 : decode y_L_law.2.1 2792 = .ok (.iaload, 1) := by decide +kernel
theorem d_L_law_2793 : decode y_L_law.2.1 2793 = .ok (.aload_n 3, 1) := by decide +kernel
theorem d_L_law_2794 : decode y_L_law.2.1 2794 = .ok (.invokestatic 246, 3) := by decide +kernel
theorem d_L_law_2797 : decode y_L_law.2.1 2797 = .ok (.istore 5, 2) := by decide +kernel
theorem d_L_law_2799 : decode y_L_law.2.1 2799 = .ok (.aload_n 2, 1) := by decide +kernel
theorem d_L_law_2800 : decode y_L_law.2.1 2800 = .ok (.aload_n 0, 1) := by decide +kernel
theorem d_L_law_2801 : decode y_L_law.2.1 2801 = .ok (.iload 4, 2) := by decide +kernel
theorem d_L_law_2803 : decode y_L_law.2.1 2803 = .ok (.iconst 1, 1) := by decide +kernel
theorem d_L_law_2804 : decode y_L_law.2.1 2804 = .ok (.iadd, 1) := by decide +kernel
theorem d_L_law_2805 : decode y_L_law.2.1 2805 = .ok (.iaload, 1) := by decide +kernel
theorem d_L_law_2806 : decode y_L_law.2.1 2806 = .ok (.aload_n 0, 1) := by decide +kernel
theorem d_L_law_2807 : decode y_L_law.2.1 2807 = .ok (.iload 4, 2) := by decide +kernel
theorem d_L_law_2809 : decode y_L_law.2.1 2809 = .ok (.iconst 2, 1) := by decide +kernel
theorem d_L_law_2810 : decode y_L_law.2.1 2810 = .ok (.iadd, 1) := by decide +kernel
theorem d_L_law_2811 : decode y_L_law.2.1 2811 = .ok (.iaload, 1) := by decide +kernel
theorem d_L_law_2812 : decode y_L_law.2.1 2812 = .ok (.aload_n 0, 1) := by decide +kernel
theorem d_L_law_2813 : decode y_L_law.2.1 2813 = .ok (.iload 4, 2) := by decide +kernel
theorem d_L_law_2815 : decode y_L_law.2.1 2815 = .ok (.iconst 3, 1) := by decide +kernel
theorem d_L_law_2816 : decode y_L_law.2.1 2816 = .ok (.iadd, 1) := by decide +kernel
theorem d_L_law_2817 : decode y_L_law.2.1 2817 = .ok (.iaload, 1) := by decide +kernel
theorem d_L_law_2818 : decode y_L_law.2.1 2818 = .ok (.aload_n 0, 1) := by decide +kernel
theorem d_L_law_2819 : decode y_L_law.2.1 2819 = .ok (.iload 4, 2) := by decide +kernel
theorem d_L_law_2821 : decode y_L_law.2.1 2821 = .ok (.iconst 4, 1) := by decide +kernel
theorem d_L_law_2822 : decode y_L_law.2.1 2822 = .ok (.iadd, 1) := by decide +kernel
theorem d_L_law_2823 : decode y_L_law.2.1 2823 = .ok (.iaload, 1) := by decide +kernel
theorem d_L_law_2824 : decode y_L_law.2.1 2824 = .ok (.aload_n 0, 1) := by decide +kernel
theorem d_L_law_2825 : decode y_L_law.2.1 2825 = .ok (.iload 4, 2) := by decide +kernel
theorem d_L_law_2827 : decode y_L_law.2.1 2827 = .ok (.iconst 5, 1) := by decide +kernel
theorem d_L_law_2828 : decode y_L_law.2.1 2828 = .ok (.iadd, 1) := by decide +kernel
theorem d_L_law_2829 : decode y_L_law.2.1 2829 = .ok (.iaload, 1) := by decide +kernel
theorem d_L_law_2830 : decode y_L_law.2.1 2830 = .ok (.aload_n 0, 1) := by decide +kernel
theorem d_L_law_2831 : decode y_L_law.2.1 2831 = .ok (.iload 4, 2) := by decide +kernel
theorem d_L_law_2833 : decode y_L_law.2.1 2833 = .ok (.bipush 6, 2) := by decide +kernel
theorem d_L_law_2835 : decode y_L_law.2.1 2835 = .ok (.iadd, 1) := by decide +kernel
theorem d_L_law_2836 : decode y_L_law.2.1 2836 = .ok (.iaload, 1) := by decide +kernel
theorem d_L_law_2837 : decode y_L_law.2.1 2837 = .ok (.invokevirtual 248, 3) := by decide +kernel
theorem d_L_law_2840 : decode y_L_law.2.1 2840 = .ok (.istore 6, 2) := by decide +kernel
theorem d_L_law_2842 : decode y_L_law.2.1 2842 = .ok (.aload_n 2, 1) := by decide +kernel
theorem d_L_law_2843 : decode y_L_law.2.1 2843 = .ok (.invokevirtual 156, 3) := by decide +kernel
theorem d_L_law_2846 : decode y_L_law.2.1 2846 = .ok (.iload 5, 2) := by decide +kernel
theorem d_L_law_2848 : decode y_L_law.2.1 2848 = .ok (.if_icmp .eq 5, 3) := by decide +kernel
theorem d_L_law_2851 : decode y_L_law.2.1 2851 = .ok (.iconst 0, 1) := by decide +kernel
theorem d_L_law_2852 : decode y_L_law.2.1 2852 = .ok (.ireturn, 1) := by decide +kernel
theorem d_L_law_2853 : decode y_L_law.2.1 2853 = .ok (.iload 5, 2) := by decide +kernel
theorem d_L_law_2855 : decode y_L_law.2.1 2855 = .ok (.ifCond .ne 15, 3) := by decide +kernel
theorem d_L_law_2858 : decode y_L_law.2.1 2858 = .ok (.aload_n 3, 1) := by decide +kernel
theorem d_L_law_2859 : decode y_L_law.2.1 2859 = .ok (.iconst 0, 1) := by decide +kernel
theorem d_L_law_2860 : decode y_L_law.2.1 2860 = .ok (.laload, 1) := by decide +kernel
theorem d_L_law_2861 : decode y_L_law.2.1 2861 = .ok (.iload 6, 2) := by decide +kernel
theorem d_L_law_2863 : decode y_L_law.2.1 2863 = .ok (.i2l, 1) := by decide +kernel
theorem d_L_law_2864 : decode y_L_law.2.1 2864 = .ok (.lcmp, 1) := by decide +kernel
theorem d_L_law_2865 : decode y_L_law.2.1 2865 = .ok (.ifCond .eq 5, 3) := by decide +kernel
theorem d_L_law_2868 : decode y_L_law.2.1 2868 = .ok (.iconst 0, 1) := by decide +kernel
theorem d_L_law_2869 : decode y_L_law.2.1 2869 = .ok (.ireturn, 1) := by decide +kernel
theorem d_L_law_2870 : decode y_L_law.2.1 2870 = .ok (.goto 999, 3) := by decide +kernel
theorem d_L_law_2873 : decode y_L_law.2.1 2873 = .ok (.aload_n 1, 1) := by decide +kernel
theorem d_L_law_2874 : decode y_L_law.2.1 2874 = .ok (.aload_n 0, 1) := by decide +kernel
theorem d_L_law_2875 : decode y_L_law.2.1 2875 = .ok (.iload 4, 2) := by decide +kernel
theorem d_L_law_2877 : decode y_L_law.2.1 2877 = .ok (.iconst 1, 1) := by decide +kernel
theorem d_L_law_2878 : decode y_L_law.2.1 2878 = .ok (.iadd, 1) := by decide +kernel
theorem d_L_law_2879 : decode y_L_law.2.1 2879 = .ok (.iaload, 1) := by decide +kernel
theorem d_L_law_2880 : decode y_L_law.2.1 2880 = .ok (.aload_n 0, 1) := by decide +kernel
theorem d_L_law_2881 : decode y_L_law.2.1 2881 = .ok (.iload 4, 2) := by decide +kernel
theorem d_L_law_2883 : decode y_L_law.2.1 2883 = .ok (.iconst 2, 1) := by decide +kernel
theorem d_L_law_2884 : decode y_L_law.2.1 2884 = .ok (.iadd, 1) := by decide +kernel
theorem d_L_law_2885 : decode y_L_law.2.1 2885 = .ok (.iaload, 1) := by decide +kernel
theorem d_L_law_2886 : decode y_L_law.2.1 2886 = .ok (.aload_n 3, 1) := by decide +kernel
theorem d_L_law_2887 : decode y_L_law.2.1 2887 = .ok (.invokestatic 249, 3) := by decide +kernel
theorem d_L_law_2890 : decode y_L_law.2.1 2890 = .ok (.istore 5, 2) := by decide +kernel
theorem d_L_law_2892 : decode y_L_law.2.1 2892 = .ok (.aload_n 2, 1) := by decide +kernel
theorem d_L_law_2893 : decode y_L_law.2.1 2893 = .ok (.aload_n 0, 1) := by decide +kernel
theorem d_L_law_2894 : decode y_L_law.2.1 2894 = .ok (.iload 4, 2) := by decide +kernel
theorem d_L_law_2896 : decode y_L_law.2.1 2896 = .ok (.iconst 1, 1) := by decide +kernel
theorem d_L_law_2897 : decode y_L_law.2.1 2897 = .ok (.iadd, 1) := by decide +kernel
theorem d_L_law_2898 : decode y_L_law.2.1 2898 = .ok (.iaload, 1) := by decide +kernel
theorem d_L_law_2899 : decode y_L_law.2.1 2899 = .ok (.aload_n 0, 1) := by decide +kernel
theorem d_L_law_2900 : decode y_L_law.2.1 2900 = .ok (.iload 4, 2) := by decide +kernel
theorem d_L_law_2902 : decode y_L_law.2.1 2902 = .ok (.iconst 2, 1) := by decide +kernel
theorem d_L_law_2903 : decode y_L_law.2.1 2903 = .ok (.iadd, 1) := by decide +kernel
theorem d_L_law_2904 : decode y_L_law.2.1 2904 = .ok (.iaload, 1) := by decide +kernel
theorem d_L_law_2905 : decode y_L_law.2.1 2905 = .ok (.invokevirtual 251, 3) := by decide +kernel
theorem d_L_law_2908 : decode y_L_law.2.1 2908 = .ok (.istore 6, 2) := by decide +kernel
theorem d_L_law_2910 : decode y_L_law.2.1 2910 = .ok (.aload_n 2, 1) := by decide +kernel
theorem d_L_law_2911 : decode y_L_law.2.1 2911 = .ok (.invokevirtual 156, 3) := by decide +kernel
theorem d_L_law_2914 : decode y_L_law.2.1 2914 = .ok (.iload 5, 2) := by decide +kernel
theorem d_L_law_2916 : decode y_L_law.2.1 2916 = .ok (.if_icmp .eq 5, 3) := by decide +kernel
theorem d_L_law_2919 : decode y_L_law.2.1 2919 = .ok (.iconst 0, 1) := by decide +kernel
theorem d_L_law_2920 : decode y_L_law.2.1 2920 = .ok (.ireturn, 1) := by decide +kernel
theorem d_L_law_2921 : decode y_L_law.2.1 2921 = .ok (.iload 5, 2) := by decide +kernel
theorem d_L_law_2923 : decode y_L_law.2.1 2923 = .ok (.ifCond .ne 15, 3) := by decide +kernel
theorem d_L_law_2926 : decode y_L_law.2.1 2926 = .ok (.aload_n 3, 1) := by decide +kernel
theorem d_L_law_2927 : decode y_L_law.2.1 2927 = .ok (.iconst 0, 1) := by decide +kernel
theorem d_L_law_2928 : decode y_L_law.2.1 2928 = .ok (.laload, 1) := by decide +kernel
theorem d_L_law_2929 : decode y_L_law.2.1 2929 = .ok (.iload 6, 2) := by decide +kernel
theorem d_L_law_2931 : decode y_L_law.2.1 2931 = .ok (.i2l, 1) := by decide +kernel
theorem d_L_law_2932 : decode y_L_law.2.1 2932 = .ok (.lcmp, 1) := by decide +kernel
theorem d_L_law_2933 : decode y_L_law.2.1 2933 = .ok (.ifCond .eq 5, 3) := by decide +kernel
theorem d_L_law_2936 : decode y_L_law.2.1 2936 = .ok (.iconst 0, 1) := by decide +kernel
theorem d_L_law_2937 : decode y_L_law.2.1 2937 = .ok (.ireturn, 1) := by decide +kernel
theorem d_L_law_2938 : decode y_L_law.2.1 2938 = .ok (.goto 931, 3) := by decide +kernel
theorem d_L_law_2941 : decode y_L_law.2.1 2941 = .ok (.aload_n 1, 1) := by decide +kernel
theorem d_L_law_2942 : decode y_L_law.2.1 2942 = .ok (.invokevirtual 252, 3) := by decide +kernel
theorem d_L_law_2945 : decode y_L_law.2.1 2945 = .ok (.aload_n 2, 1) := by decide +kernel
theorem d_L_law_2946 : decode y_L_law.2.1 2946 = .ok (.invokevirtual 255, 3) := by decide +kernel
theorem d_L_law_2949 : decode y_L_law.2.1 2949 = .ok (.if_icmp .eq 920, 3) := by decide +kernel
theorem d_L_law_2952 : decode y_L_law.2.1 2952 = .ok (.iconst 0, 1) := by decide +kernel
theorem d_L_law_2953 : decode y_L_law.2.1 2953 = .ok (.ireturn, 1) := by decide +kernel
theorem d_L_law_2954 : decode y_L_law.2.1 2954 = .ok (.aload_n 1, 1) := by decide +kernel
theorem d_L_law_2955 : decode y_L_law.2.1 2955 = .ok (.aload_n 0, 1) := by decide +kernel
theorem d_L_law_2956 : decode y_L_law.2.1 2956 = .ok (.iload 4, 2) := by decide +kernel
theorem d_L_law_2958 : decode y_L_law.2.1 2958 = .ok (.iconst 1, 1) := by decide +kernel
theorem d_L_law_2959 : decode y_L_law.2.1 2959 = .ok (.iadd, 1) := by decide +kernel
theorem d_L_law_2960 : decode y_L_law.2.1 2960 = .ok (.iaload, 1) := by decide +kernel
theorem d_L_law_2961 : decode y_L_law.2.1 2961 = .ok (.aload_n 0, 1) := by decide +kernel
theorem d_L_law_2962 : decode y_L_law.2.1 2962 = .ok (.iload 4, 2) := by decide +kernel
theorem d_L_law_2964 : decode y_L_law.2.1 2964 = .ok (.iconst 2, 1) := by decide +kernel
theorem d_L_law_2965 : decode y_L_law.2.1 2965 = .ok (.iadd, 1) := by decide +kernel
theorem d_L_law_2966 : decode y_L_law.2.1 2966 = .ok (.iaload, 1) := by decide +kernel
theorem d_L_law_2967 : decode y_L_law.2.1 2967 = .ok (.aload_n 0, 1) := by decide +kernel
theorem d_L_law_2968 : decode y_L_law.2.1 2968 = .ok (.iload 4, 2) := by decide +kernel
theorem d_L_law_2970 : decode y_L_law.2.1 2970 = .ok (.iconst 3, 1) := by decide +kernel
theorem d_L_law_2971 : decode y_L_law.2.1 2971 = .ok (.iadd, 1) := by decide +kernel
theorem d_L_law_2972 : decode y_L_law.2.1 2972 = .ok (.iaload, 1) := by decide +kernel
theorem d_L_law_2973 : decode y_L_law.2.1 2973 = .ok (.aload_n 0, 1) := by decide +kernel
theorem d_L_law_2974 : decode y_L_law.2.1 2974 = .ok (.iload 4, 2) := by decide +kernel
theorem d_L_law_2976 : decode y_L_law.2.1 2976 = .ok (.iconst 4, 1) := by decide +kernel
theorem d_L_law_2977 : decode y_L_law.2.1 2977 = .ok (.iadd, 1) := by decide +kernel
theorem d_L_law_2978 : decode y_L_law.2.1 2978 = .ok (.iaload, 1) := by decide +kernel
theorem d_L_law_2979 : decode y_L_law.2.1 2979 = .ok (.aload_n 0, 1) := by decide +kernel
theorem d_L_law_2980 : decode y_L_law.2.1 2980 = .ok (.iload 4, 2) := by decide +kernel
theorem d_L_law_2982 : decode y_L_law.2.1 2982 = .ok (.iconst 5, 1) := by decide +kernel
theorem d_L_law_2983 : decode y_L_law.2.1 2983 = .ok (.iadd, 1) := by decide +kernel
theorem d_L_law_2984 : decode y_L_law.2.1 2984 = .ok (.iaload, 1) := by decide +kernel
theorem d_L_law_2985 : decode y_L_law.2.1 2985 = .ok (.aload_n 0, 1) := by decide +kernel
theorem d_L_law_2986 : decode y_L_law.2.1 2986 = .ok (.iload 4, 2) := by decide +kernel
theorem d_L_law_2988 : decode y_L_law.2.1 2988 = .ok (.bipush 6, 2) := by decide +kernel
theorem d_L_law_2990 : decode y_L_law.2.1 2990 = .ok (.iadd, 1) := by decide +kernel
theorem d_L_law_2991 : decode y_L_law.2.1 2991 = .ok (.iaload, 1) := by decide +kernel
theorem d_L_law_2992 : decode y_L_law.2.1 2992 = .ok (.aload_n 3, 1) := by decide +kernel
theorem d_L_law_2993 : decode y_L_law.2.1 2993 = .ok (.invokestatic 256, 3) := by decide +kernel
theorem d_L_law_2996 : decode y_L_law.2.1 2996 = .ok (.istore 5, 2) := by decide +kernel
theorem d_L_law_2998 : decode y_L_law.2.1 2998 = .ok (.aload_n 2, 1) := by decide +kernel
theorem d_L_law_2999 : decode y_L_law.2.1 2999 = .ok (.aload_n 0, 1) := by decide +kernel
theorem d_L_law_3000 : decode y_L_law.2.1 3000 = .ok (.iload 4, 2) := by decide +kernel
theorem d_L_law_3002 : decode y_L_law.2.1 3002 = .ok (.iconst 1, 1) := by decide +kernel
theorem d_L_law_3003 : decode y_L_law.2.1 3003 = .ok (.iadd, 1) := by decide +kernel
theorem d_L_law_3004 : decode y_L_law.2.1 3004 = .ok (.iaload, 1) := by decide +kernel
theorem d_L_law_3005 : decode y_L_law.2.1 3005 = .ok (.aload_n 0, 1) := by decide +kernel
theorem d_L_law_3006 : decode y_L_law.2.1 3006 = .ok (.iload 4, 2) := by decide +kernel
theorem d_L_law_3008 : decode y_L_law.2.1 3008 = .ok (.iconst 2, 1) := by decide +kernel
theorem d_L_law_3009 : decode y_L_law.2.1 3009 = .ok (.iadd, 1) := by decide +kernel
theorem d_L_law_3010 : decode y_L_law.2.1 3010 = .ok (.iaload, 1) := by decide +kernel
theorem d_L_law_3011 : decode y_L_law.2.1 3011 = .ok (.aload_n 0, 1) := by decide +kernel
theorem d_L_law_3012 : decode y_L_law.2.1 3012 = .ok (.iload 4, 2) := by decide +kernel
theorem d_L_law_3014 : decode y_L_law.2.1 3014 = .ok (.iconst 3, 1) := by decide +kernel
theorem d_L_law_3015 : decode y_L_law.2.1 3015 = .ok (.iadd, 1) := by decide +kernel
theorem d_L_law_3016 : decode y_L_law.2.1 3016 = .ok (.iaload, 1) := by decide +kernel
theorem d_L_law_3017 : decode y_L_law.2.1 3017 = .ok (.aload_n 0, 1) := by decide +kernel
theorem d_L_law_3018 : decode y_L_law.2.1 3018 = .ok (.iload 4, 2) := by decide +kernel
theorem d_L_law_3020 : decode y_L_law.2.1 3020 = .ok (.iconst 4, 1) := by decide +kernel
theorem d_L_law_3021 : decode y_L_law.2.1 3021 = .ok (.iadd, 1) := by decide +kernel
theorem d_L_law_3022 : decode y_L_law.2.1 3022 = .ok (.iaload, 1) := by decide +kernel
theorem d_L_law_3023 : decode y_L_law.2.1 3023 = .ok (.aload_n 0, 1) := by decide +kernel
theorem d_L_law_3024 : decode y_L_law.2.1 3024 = .ok (.iload 4, 2) := by decide +kernel
theorem d_L_law_3026 : decode y_L_law.2.1 3026 = .ok (.iconst 5, 1) := by decide +kernel
theorem d_L_law_3027 : decode y_L_law.2.1 3027 = .ok (.iadd, 1) := by decide +kernel
theorem d_L_law_3028 : decode y_L_law.2.1 3028 = .ok (.iaload, 1) := by decide +kernel
theorem d_L_law_3029 : decode y_L_law.2.1 3029 = .ok (.aload_n 0, 1) := by decide +kernel
theorem d_L_law_3030 : decode y_L_law.2.1 3030 = .ok (.iload 4, 2) := by decide +kernel
theorem d_L_law_3032 : decode y_L_law.2.1 3032 = .ok (.bipush 6, 2) := by decide +kernel
theorem d_L_law_3034 : decode y_L_law.2.1 3034 = .ok (.iadd, 1) := by decide +kernel
theorem d_L_law_3035 : decode y_L_law.2.1 3035 = .ok (.iaload, 1) := by decide +kernel
theorem d_L_law_3036 : decode y_L_law.2.1 3036 = .ok (.invokevirtual 258, 3) := by decide +kernel
theorem d_L_law_3039 : decode y_L_law.2.1 3039 = .ok (.lstore 6, 2) := by decide +kernel
theorem d_L_law_3041 : decode y_L_law.2.1 3041 = .ok (.aload_n 2, 1) := by decide +kernel
theorem d_L_law_3042 : decode y_L_law.2.1 3042 = .ok (.invokevirtual 156, 3) := by decide +kernel
theorem d_L_law_3045 : decode y_L_law.2.1 3045 = .ok (.iload 5, 2) := by decide +kernel
theorem d_L_law_3047 : decode y_L_law.2.1 3047 = .ok (.if_icmp .eq 5, 3) := by decide +kernel
theorem d_L_law_3050 : decode y_L_law.2.1 3050 = .ok (.iconst 0, 1) := by decide +kernel
theorem d_L_law_3051 : decode y_L_law.2.1 3051 = .ok (.ireturn, 1) := by decide +kernel
theorem d_L_law_3052 : decode y_L_law.2.1 3052 = .ok (.iload 5, 2) := by decide +kernel
theorem d_L_law_3054 : decode y_L_law.2.1 3054 = .ok (.ifCond .ne 14, 3) := by decide +kernel
theorem d_L_law_3057 : decode y_L_law.2.1 3057 = .ok (.aload_n 3, 1) := by decide +kernel
theorem d_L_law_3058 : decode y_L_law.2.1 3058 = .ok (.iconst 0, 1) := by decide +kernel
theorem d_L_law_3059 : decode y_L_law.2.1 3059 = .ok (.laload, 1) := by decide +kernel
theorem d_L_law_3060 : decode y_L_law.2.1 3060 = .ok (.lload 6, 2) := by decide +kernel
theorem d_L_law_3062 : decode y_L_law.2.1 3062 = .ok (.lcmp, 1) := by decide +kernel
theorem d_L_law_3063 : decode y_L_law.2.1 3063 = .ok (.ifCond .eq 5, 3) := by decide +kernel
theorem d_L_law_3066 : decode y_L_law.2.1 3066 = .ok (.iconst 0, 1) := by decide +kernel
theorem d_L_law_3067 : decode y_L_law.2.1 3067 = .ok (.ireturn, 1) := by decide +kernel
theorem d_L_law_3068 : decode y_L_law.2.1 3068 = .ok (.goto 801, 3) := by decide +kernel
theorem d_L_law_3071 : decode y_L_law.2.1 3071 = .ok (.aload_n 1, 1) := by decide +kernel
theorem d_L_law_3072 : decode y_L_law.2.1 3072 = .ok (.aload_n 0, 1) := by decide +kernel
theorem d_L_law_3073 : decode y_L_law.2.1 3073 = .ok (.iload 4, 2) := by decide +kernel
theorem d_L_law_3075 : decode y_L_law.2.1 3075 = .ok (.iconst 1, 1) := by decide +kernel
theorem d_L_law_3076 : decode y_L_law.2.1 3076 = .ok (.iadd, 1) := by decide +kernel
theorem d_L_law_3077 : decode y_L_law.2.1 3077 = .ok (.iaload, 1) := by decide +kernel
theorem d_L_law_3078 : decode y_L_law.2.1 3078 = .ok (.aload_n 0, 1) := by decide +kernel
theorem d_L_law_3079 : decode y_L_law.2.1 3079 = .ok (.iload 4, 2) := by decide +kernel
theorem d_L_law_3081 : decode y_L_law.2.1 3081 = .ok (.iconst 2, 1) := by decide +kernel
theorem d_L_law_3082 : decode y_L_law.2.1 3082 = .ok (.iadd, 1) := by decide +kernel
theorem d_L_law_3083 : decode y_L_law.2.1 3083 = .ok (.iaload, 1) := by decide +kernel
theorem d_L_law_3084 : decode y_L_law.2.1 3084 = .ok (.aload_n 0, 1) := by decide +kernel
theorem d_L_law_3085 : decode y_L_law.2.1 3085 = .ok (.iload 4, 2) := by decide +kernel
theorem d_L_law_3087 : decode y_L_law.2.1 3087 = .ok (.iconst 3, 1) := by decide +kernel
theorem d_L_law_3088 : decode y_L_law.2.1 3088 = .ok (.iadd, 1) := by decide +kernel
theorem d_L_law_3089 : decode y_L_law.2.1 3089 = .ok (.iaload, 1) := by decide +kernel
theorem d_L_law_3090 : decode y_L_law.2.1 3090 = .ok (.aload_n 0, 1) := by decide +kernel
theorem d_L_law_3091 : decode y_L_law.2.1 3091 = .ok (.iload 4, 2) := by decide +kernel
theorem d_L_law_3093 : decode y_L_law.2.1 3093 = .ok (.iconst 4, 1) := by decide +kernel
theorem d_L_law_3094 : decode y_L_law.2.1 3094 = .ok (.iadd, 1) := by decide +kernel
theorem d_L_law_3095 : decode y_L_law.2.1 3095 = .ok (.iaload, 1) := by decide +kernel
theorem d_L_law_3096 : decode y_L_law.2.1 3096 = .ok (.aload_n 0, 1) := by decide +kernel
theorem d_L_law_3097 : decode y_L_law.2.1 3097 = .ok (.iload 4, 2) := by decide +kernel
theorem d_L_law_3099 : decode y_L_law.2.1 3099 = .ok (.iconst 5, 1) := by decide +kernel
theorem d_L_law_3100 : decode y_L_law.2.1 3100 = .ok (.iadd, 1) := by decide +kernel
theorem d_L_law_3101 : decode y_L_law.2.1 3101 = .ok (.iaload, 1) := by decide +kernel
theorem d_L_law_3102 : decode y_L_law.2.1 3102 = .ok (.aload_n 0, 1) := by decide +kernel
theorem d_L_law_3103 : decode y_L_law.2.1 3103 = .ok (.iload 4, 2) := by decide +kernel
theorem d_L_law_3105 : decode y_L_law.2.1 3105 = .ok (.bipush 6, 2) := by decide +kernel
theorem d_L_law_3107 : decode y_L_law.2.1 3107 = .ok (.iadd, 1) := by decide +kernel
theorem d_L_law_3108 : decode y_L_law.2.1 3108 = .ok (.iaload, 1) := by decide +kernel
theorem d_L_law_3109 : decode y_L_law.2.1 3109 = .ok (.aload_n 3, 1) := by decide +kernel
theorem d_L_law_3110 : decode y_L_law.2.1 3110 = .ok (.invokestatic 259, 3) := by decide +kernel
theorem d_L_law_3113 : decode y_L_law.2.1 3113 = .ok (.istore 5, 2) := by decide +kernel
theorem d_L_law_3115 : decode y_L_law.2.1 3115 = .ok (.aload_n 2, 1) := by decide +kernel
theorem d_L_law_3116 : decode y_L_law.2.1 3116 = .ok (.aload_n 0, 1) := by decide +kernel
theorem d_L_law_3117 : decode y_L_law.2.1 3117 = .ok (.iload 4, 2) := by decide +kernel
theorem d_L_law_3119 : decode y_L_law.2.1 3119 = .ok (.iconst 1, 1) := by decide +kernel
theorem d_L_law_3120 : decode y_L_law.2.1 3120 = .ok (.iadd, 1) := by decide +kernel
theorem d_L_law_3121 : decode y_L_law.2.1 3121 = .ok (.iaload, 1) := by decide +kernel
theorem d_L_law_3122 : decode y_L_law.2.1 3122 = .ok (.aload_n 0, 1) := by decide +kernel
theorem d_L_law_3123 : decode y_L_law.2.1 3123 = .ok (.iload 4, 2) := by decide +kernel
theorem d_L_law_3125 : decode y_L_law.2.1 3125 = .ok (.iconst 2, 1) := by decide +kernel
theorem d_L_law_3126 : decode y_L_law.2.1 3126 = .ok (.iadd, 1) := by decide +kernel
theorem d_L_law_3127 : decode y_L_law.2.1 3127 = .ok (.iaload, 1) := by decide +kernel
theorem d_L_law_3128 : decode y_L_law.2.1 3128 = .ok (.aload_n 0, 1) := by decide +kernel
theorem d_L_law_3129 : decode y_L_law.2.1 3129 = .ok (.iload 4, 2) := by decide +kernel
theorem d_L_law_3131 : decode y_L_law.2.1 3131 = .ok (.iconst 3, 1) := by decide +kernel
theorem d_L_law_3132 : decode y_L_law.2.1 3132 = .ok (.iadd, 1) := by decide +kernel
theorem d_L_law_3133 : decode y_L_law.2.1 3133 = .ok (.iaload, 1) := by decide +kernel
theorem d_L_law_3134 : decode y_L_law.2.1 3134 = .ok (.aload_n 0, 1) := by decide +kernel
theorem d_L_law_3135 : decode y_L_law.2.1 3135 = .ok (.iload 4, 2) := by decide +kernel
theorem d_L_law_3137 : decode y_L_law.2.1 3137 = .ok (.iconst 4, 1) := by decide +kernel
theorem d_L_law_3138 : decode y_L_law.2.1 3138 = .ok (.iadd, 1) := by decide +kernel
theorem d_L_law_3139 : decode y_L_law.2.1 3139 = .ok (.iaload, 1) := by decide +kernel
theorem d_L_law_3140 : decode y_L_law.2.1 3140 = .ok (.aload_n 0, 1) := by decide +kernel
theorem d_L_law_3141 : decode y_L_law.2.1 3141 = .ok (.iload 4, 2) := by decide +kernel
theorem d_L_law_3143 : decode y_L_law.2.1 3143 = .ok (.iconst 5, 1) := by decide +kernel
theorem d_L_law_3144 : decode y_L_law.2.1 3144 = .ok (.iadd, 1) := by decide +kernel
theorem d_L_law_3145 : decode y_L_law.2.1 3145 = .ok (.iaload, 1) := by decide +kernel
theorem d_L_law_3146 : decode y_L_law.2.1 3146 = .ok (.aload_n 0, 1) := by decide +kernel
theorem d_L_law_3147 : decode y_L_law.2.1 3147 = .ok (.iload 4, 2) := by decide +kernel
theorem d_L_law_3149 : decode y_L_law.2.1 3149 = .ok (.bipush 6, 2) := by decide +kernel
theorem d_L_law_3151 : decode y_L_law.2.1 3151 = .ok (.iadd, 1) := by decide +kernel
theorem d_L_law_3152 : decode y_L_law.2.1 3152 = .ok (.iaload, 1) := by decide +kernel
theorem d_L_law_3153 : decode y_L_law.2.1 3153 = .ok (.invokevirtual 261, 3) := by decide +kernel
theorem d_L_law_3156 : decode y_L_law.2.1 3156 = .ok (.istore 6, 2) := by decide +kernel
theorem d_L_law_3158 : decode y_L_law.2.1 3158 = .ok (.aload_n 2, 1) := by decide +kernel
theorem d_L_law_3159 : decode y_L_law.2.1 3159 = .ok (.invokevirtual 156, 3) := by decide +kernel
