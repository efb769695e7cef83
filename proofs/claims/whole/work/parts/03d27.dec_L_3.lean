theorem dL_law_2860 : decode cL_law 2860 = .ok (.iload 5, 2) := by decide +kernel
theorem dL_law_2862 : decode cL_law 2862 = .ok (.iconst 3, 1) := by decide +kernel
theorem dL_law_2863 : decode cL_law 2863 = .ok (.iadd, 1) := by decide +kernel
theorem dL_law_2864 : decode cL_law 2864 = .ok (.iaload, 1) := by decide +kernel
theorem dL_law_2865 : decode cL_law 2865 = .ok (.aload_n 0, 1) := by decide +kernel
theorem dL_law_2866 : decode cL_law 2866 = .ok (.iload 5, 2) := by decide +kernel
theorem dL_law_2868 : decode cL_law 2868 = .ok (.iconst 4, 1) := by decide +kernel
theorem dL_law_2869 : decode cL_law 2869 = .ok (.iadd, 1) := by decide +kernel
theorem dL_law_2870 : decode cL_law 2870 = .ok (.iaload, 1) := by decide +kernel
theorem dL_law_2871 : decode cL_law 2871 = .ok (.aload_n 3, 1) := by decide +kernel
theorem dL_law_2872 : decode cL_law 2872 = .ok (.invokestatic 303, 3) := by decide +kernel
theorem dL_law_2875 : decode cL_law 2875 = .ok (.istore 6, 2) := by decide +kernel
theorem dL_law_2877 : decode cL_law 2877 = .ok (.aload_n 2, 1) := by decide +kernel
theorem dL_law_2878 : decode cL_law 2878 = .ok (.aload_n 0, 1) := by decide +kernel
theorem dL_law_2879 : decode cL_law 2879 = .ok (.iload 5, 2) := by decide +kernel
theorem dL_law_2881 : decode cL_law 2881 = .ok (.iconst 1, 1) := by decide +kernel
theorem dL_law_2882 : decode cL_law 2882 = .ok (.iadd, 1) := by decide +kernel
theorem dL_law_2883 : decode cL_law 2883 = .ok (.iaload, 1) := by decide +kernel
theorem dL_law_2884 : decode cL_law 2884 = .ok (.aload_n 0, 1) := by decide +kernel
theorem dL_law_2885 : decode cL_law 2885 = .ok (.iload 5, 2) := by decide +kernel
theorem dL_law_2887 : decode cL_law 2887 = .ok (.iconst 2, 1) := by decide +kernel
theorem dL_law_2888 : decode cL_law 2888 = .ok (.iadd, 1) := by decide +kernel
theorem dL_law_2889 : decode cL_law 2889 = .ok (.iaload, 1) := by decide +kernel
theorem dL_law_2890 : decode cL_law 2890 = .ok (.aload_n 0, 1) := by decide +kernel
theorem dL_law_2891 : decode cL_law 2891 = .ok (.iload 5, 2) := by decide +kernel
theorem dL_law_2893 : decode cL_law 2893 = .ok (.iconst 3, 1) := by decide +kernel
theorem dL_law_2894 : decode cL_law 2894 = .ok (.iadd, 1) := by decide +kernel
theorem dL_law_2895 : decode cL_law 2895 = .ok (.iaload, 1) := by decide +kernel
theorem dL_law_2896 : decode cL_law 2896 = .ok (.aload_n 0, 1) := by decide +kernel
theorem dL_law_2897 : decode cL_law 2897 = .ok (.iload 5, 2) := by decide +kernel
theorem dL_law_2899 : decode cL_law 2899 = .ok (.iconst 4, 1) := by decide +kernel
theorem dL_law_2900 : decode cL_law 2900 = .ok (.iadd, 1) := by decide +kernel
theorem dL_law_2901 : decode cL_law 2901 = .ok (.iaload, 1) := by decide +kernel
theorem dL_law_2902 : decode cL_law 2902 = .ok (.invokevirtual 305, 3) := by decide +kernel
theorem dL_law_2905 : decode cL_law 2905 = .ok (.istore 7, 2) := by decide +kernel
theorem dL_law_2907 : decode cL_law 2907 = .ok (.aload_n 2, 1) := by decide +kernel
theorem dL_law_2908 : decode cL_law 2908 = .ok (.invokevirtual 165, 3) := by decide +kernel
theorem dL_law_2911 : decode cL_law 2911 = .ok (.iload 6, 2) := by decide +kernel
theorem dL_law_2913 : decode cL_law 2913 = .ok (.if_icmp .eq 5, 3) := by decide +kernel
theorem dL_law_2916 : decode cL_law 2916 = .ok (.iconst 0, 1) := by decide +kernel
theorem dL_law_2917 : decode cL_law 2917 = .ok (.ireturn, 1) := by decide +kernel
theorem dL_law_2918 : decode cL_law 2918 = .ok (.iload 6, 2) := by decide +kernel
theorem dL_law_2920 : decode cL_law 2920 = .ok (.ifCond .ne 15, 3) := by decide +kernel
theorem dL_law_2923 : decode cL_law 2923 = .ok (.aload_n 3, 1) := by decide +kernel
theorem dL_law_2924 : decode cL_law 2924 = .ok (.iconst 0, 1) := by decide +kernel
theorem dL_law_2925 : decode cL_law 2925 = .ok (.laload, 1) := by decide +kernel
theorem dL_law_2926 : decode cL_law 2926 = .ok (.iload 7, 2) := by decide +kernel
theorem dL_law_2928 : decode cL_law 2928 = .ok (.i2l, 1) := by decide +kernel
theorem dL_law_2929 : decode cL_law 2929 = .ok (.lcmp, 1) := by decide +kernel
theorem dL_law_2930 : decode cL_law 2930 = .ok (.ifCond .eq 5, 3) := by decide +kernel
theorem dL_law_2933 : decode cL_law 2933 = .ok (.iconst 0, 1) := by decide +kernel
theorem dL_law_2934 : decode cL_law 2934 = .ok (.ireturn, 1) := by decide +kernel
theorem dL_law_2935 : decode cL_law 2935 = .ok (.goto 453, 3) := by decide +kernel
theorem dL_law_2938 : decode cL_law 2938 = .ok (.aload_n 1, 1) := by decide +kernel
theorem dL_law_2939 : decode cL_law 2939 = .ok (.aload_n 0, 1) := by decide +kernel
theorem dL_law_2940 : decode cL_law 2940 = .ok (.iload 5, 2) := by decide +kernel
theorem dL_law_2942 : decode cL_law 2942 = .ok (.iconst 1, 1) := by decide +kernel
theorem dL_law_2943 : decode cL_law 2943 = .ok (.iadd, 1) := by decide +kernel
theorem dL_law_2944 : decode cL_law 2944 = .ok (.iaload, 1) := by decide +kernel
theorem dL_law_2945 : decode cL_law 2945 = .ok (.aload_n 0, 1) := by decide +kernel
theorem dL_law_2946 : decode cL_law 2946 = .ok (.iload 5, 2) := by decide +kernel
theorem dL_law_2948 : decode cL_law 2948 = .ok (.iconst 2, 1) := by decide +kernel
theorem dL_law_2949 : decode cL_law 2949 = .ok (.iadd, 1) := by decide +kernel
theorem dL_law_2950 : decode cL_law 2950 = .ok (.iaload, 1) := by decide +kernel
theorem dL_law_2951 : decode cL_law 2951 = .ok (.aload_n 0, 1) := by decide +kernel
theorem dL_law_2952 : decode cL_law 2952 = .ok (.iload 5, 2) := by decide +kernel
theorem dL_law_2954 : decode cL_law 2954 = .ok (.iconst 3, 1) := by decide +kernel
theorem dL_law_2955 : decode cL_law 2955 = .ok (.iadd, 1) := by decide +kernel
theorem dL_law_2956 : decode cL_law 2956 = .ok (.iaload, 1) := by decide +kernel
theorem dL_law_2957 : decode cL_law 2957 = .ok (.aload_n 0, 1) := by decide +kernel
theorem dL_law_2958 : decode cL_law 2958 = .ok (.iload 5, 2) := by decide +kernel
theorem dL_law_2960 : decode cL_law 2960 = .ok (.iconst 4, 1) := by decide +kernel
theorem dL_law_2961 : decode cL_law 2961 = .ok (.iadd, 1) := by decide +kernel
theorem dL_law_2962 : decode cL_law 2962 = .ok (.iaload, 1) := by decide +kernel
theorem dL_law_2963 : decode cL_law 2963 = .ok (.aload_n 3, 1) := by decide +kernel
theorem dL_law_2964 : decode cL_law 2964 = .ok (.invokestatic 306, 3) := by decide +kernel
theorem dL_law_2967 : decode cL_law 2967 = .ok (.istore 6, 2) := by decide +kernel
theorem dL_law_2969 : decode cL_law 2969 = .ok (.aload_n 2, 1) := by decide +kernel
theorem dL_law_2970 : decode cL_law 2970 = .ok (.aload_n 0, 1) := by decide +kernel
theorem dL_law_2971 : decode cL_law 2971 = .ok (.iload 5, 2) := by decide +kernel
theorem dL_law_2973 : decode cL_law 2973 = .ok (.iconst 1, 1) := by decide +kernel
theorem dL_law_2974 : decode cL_law 2974 = .ok (.iadd, 1) := by decide +kernel
theorem dL_law_2975 : decode cL_law 2975 = .ok (.iaload, 1) := by decide +kernel
theorem dL_law_2976 : decode cL_law 2976 = .ok (.aload_n 0, 1) := by decide +kernel
theorem dL_law_2977 : decode cL_law 2977 = .ok (.iload 5, 2) := by decide +kernel
theorem dL_law_2979 : decode cL_law 2979 = .ok (.iconst 2, 1) := by decide +kernel
theorem dL_law_2980 : decode cL_law 2980 = .ok (.iadd, 1) := by decide +kernel
theorem dL_law_2981 : decode cL_law 2981 = .ok (.iaload, 1) := by decide +kernel
theorem dL_law_2982 : decode cL_law 2982 = .ok (.aload_n 0, 1) := by decide +kernel
theorem dL_law_2983 : decode cL_law 2983 = .ok (.iload 5, 2) := by decide +kernel
theorem dL_law_2985 : decode cL_law 2985 = .ok (.iconst 3, 1) := by decide +kernel
theorem dL_law_2986 : decode cL_law 2986 = .ok (.iadd, 1) := by decide +kernel
theorem dL_law_2987 : decode cL_law 2987 = .ok (.iaload, 1) := by decide +kernel
theorem dL_law_2988 : decode cL_law 2988 = .ok (.aload_n 0, 1) := by decide +kernel
theorem dL_law_2989 : decode cL_law 2989 = .ok (.iload 5, 2) := by decide +kernel
theorem dL_law_2991 : decode cL_law 2991 = .ok (.iconst 4, 1) := by decide +kernel
theorem dL_law_2992 : decode cL_law 2992 = .ok (.iadd, 1) := by decide +kernel
theorem dL_law_2993 : decode cL_law 2993 = .ok (.iaload, 1) := by decide +kernel
theorem dL_law_2994 : decode cL_law 2994 = .ok (.invokevirtual 308, 3) := by decide +kernel
theorem dL_law_2997 : decode cL_law 2997 = .ok (.istore 7, 2) := by decide +kernel
theorem dL_law_2999 : decode cL_law 2999 = .ok (.aload_n 2, 1) := by decide +kernel
theorem dL_law_3000 : decode cL_law 3000 = .ok (.invokevirtual 165, 3) := by decide +kernel
theorem dL_law_3003 : decode cL_law 3003 = .ok (.iload 6, 2) := by decide +kernel
theorem dL_law_3005 : decode cL_law 3005 = .ok (.if_icmp .eq 5, 3) := by decide +kernel
theorem dL_law_3008 : decode cL_law 3008 = .ok (.iconst 0, 1) := by decide +kernel
theorem dL_law_3009 : decode cL_law 3009 = .ok (.ireturn, 1) := by decide +kernel
theorem dL_law_3010 : decode cL_law 3010 = .ok (.iload 6, 2) := by decide +kernel
theorem dL_law_3012 : decode cL_law 3012 = .ok (.ifCond .ne 15, 3) := by decide +kernel
theorem dL_law_3015 : decode cL_law 3015 = .ok (.aload_n 3, 1) := by decide +kernel
theorem dL_law_3016 : decode cL_law 3016 = .ok (.iconst 0, 1) := by decide +kernel
theorem dL_law_3017 : decode cL_law 3017 = .ok (.laload, 1) := by decide +kernel
theorem dL_law_3018 : decode cL_law 3018 = .ok (.iload 7, 2) := by decide +kernel
theorem dL_law_3020 : decode cL_law 3020 = .ok (.i2l, 1) := by decide +kernel
theorem dL_law_3021 : decode cL_law 3021 = .ok (.lcmp, 1) := by decide +kernel
theorem dL_law_3022 : decode cL_law 3022 = .ok (.ifCond .eq 5, 3) := by decide +kernel
theorem dL_law_3025 : decode cL_law 3025 = .ok (.iconst 0, 1) := by decide +kernel
theorem dL_law_3026 : decode cL_law 3026 = .ok (.ireturn, 1) := by decide +kernel
theorem dL_law_3027 : decode cL_law 3027 = .ok (.goto 361, 3) := by decide +kernel
theorem dL_law_3030 : decode cL_law 3030 = .ok (.aload_n 1, 1) := by decide +kernel
theorem dL_law_3031 : decode cL_law 3031 = .ok (.aload_n 0, 1) := by decide +kernel
theorem dL_law_3032 : decode cL_law 3032 = .ok (.iload 5, 2) := by decide +kernel
theorem dL_law_3034 : decode cL_law 3034 = .ok (.iconst 1, 1) := by decide +kernel
theorem dL_law_3035 : decode cL_law 3035 = .ok (.iadd, 1) := by decide +kernel
theorem dL_law_3036 : decode cL_law 3036 = .ok (.iaload, 1) := by decide +kernel
theorem dL_law_3037 : decode cL_law 3037 = .ok (.aload_n 0, 1) := by decide +kernel
theorem dL_law_3038 : decode cL_law 3038 = .ok (.iload 5, 2) := by decide +kernel
theorem dL_law_3040 : decode cL_law 3040 = .ok (.iconst 2, 1) := by decide +kernel
theorem dL_law_3041 : decode cL_law 3041 = .ok (.iadd, 1) := by decide +kernel
theorem dL_law_3042 : decode cL_law 3042 = .ok (.iaload, 1) := by decide +kernel
theorem dL_law_3043 : decode cL_law 3043 = .ok (.aload_n 0, 1) := by decide +kernel
theorem dL_law_3044 : decode cL_law 3044 = .ok (.iload 5, 2) := by decide +kernel
theorem dL_law_3046 : decode cL_law 3046 = .ok (.iconst 3, 1) := by decide +kernel
theorem dL_law_3047 : decode cL_law 3047 = .ok (.iadd, 1) := by decide +kernel
theorem dL_law_3048 : decode cL_law 3048 = .ok (.iaload, 1) := by decide +kernel
theorem dL_law_3049 : decode cL_law 3049 = .ok (.aload_n 3, 1) := by decide +kernel
theorem dL_law_3050 : decode cL_law 3050 = .ok (.invokestatic 309, 3) := by decide +kernel
theorem dL_law_3053 : decode cL_law 3053 = .ok (.istore 6, 2) := by decide +kernel
theorem dL_law_3055 : decode cL_law 3055 = .ok (.aload_n 2, 1) := by decide +kernel
theorem dL_law_3056 : decode cL_law 3056 = .ok (.aload_n 0, 1) := by decide +kernel
theorem dL_law_3057 : decode cL_law 3057 = .ok (.iload 5, 2) := by decide +kernel
theorem dL_law_3059 : decode cL_law 3059 = .ok (.iconst 1, 1) := by decide +kernel
theorem dL_law_3060 : decode cL_law 3060 = .ok (.iadd, 1) := by decide +kernel
theorem dL_law_3061 : decode cL_law 3061 = .ok (.iaload, 1) := by decide +kernel
theorem dL_law_3062 : decode cL_law 3062 = .ok (.aload_n 0, 1) := by decide +kernel
theorem dL_law_3063 : decode cL_law 3063 = .ok (.iload 5, 2) := by decide +kernel
theorem dL_law_3065 : decode cL_law 3065 = .ok (.iconst 2, 1) := by decide +kernel
theorem dL_law_3066 : decode cL_law 3066 = .ok (.iadd, 1) := by decide +kernel
theorem dL_law_3067 : decode cL_law 3067 = .ok (.iaload, 1) := by decide +kernel
theorem dL_law_3068 : decode cL_law 3068 = .ok (.aload_n 0, 1) := by decide +kernel
theorem dL_law_3069 : decode cL_law 3069 = .ok (.iload 5, 2) := by decide +kernel
theorem dL_law_3071 : decode cL_law 3071 = .ok (.iconst 3, 1) := by decide +kernel
theorem dL_law_3072 : decode cL_law 3072 = .ok (.iadd, 1) := by decide +kernel
theorem dL_law_3073 : decode cL_law 3073 = .ok (.iaload, 1) := by decide +kernel
theorem dL_law_3074 : decode cL_law 3074 = .ok (.invokevirtual 311, 3) := by decide +kernel
theorem dL_law_3077 : decode cL_law 3077 = .ok (.istore 7, 2) := by decide +kernel
theorem dL_law_3079 : decode cL_law 3079 = .ok (.aload_n 2, 1) := by decide +kernel
theorem dL_law_3080 : decode cL_law 3080 = .ok (.invokevirtual 165, 3) := by decide +kernel
theorem dL_law_3083 : decode cL_law 3083 = .ok (.iload 6, 2) := by decide +kernel
theorem dL_law_3085 : decode cL_law 3085 = .ok (.if_icmp .eq 5, 3) := by decide +kernel
theorem dL_law_3088 : decode cL_law 3088 = .ok (.iconst 0, 1) := by decide +kernel
theorem dL_law_3089 : decode cL_law 3089 = .ok (.ireturn, 1) := by decide +kernel
theorem dL_law_3090 : decode cL_law 3090 = .ok (.iload 6, 2) := by decide +kernel
theorem dL_law_3092 : decode cL_law 3092 = .ok (.ifCond .ne 15, 3) := by decide +kernel
theorem dL_law_3095 : decode cL_law 3095 = .ok (.aload_n 3, 1) := by decide +kernel
theorem dL_law_3096 : decode cL_law 3096 = .ok (.iconst 0, 1) := by decide +kernel
theorem dL_law_3097 : decode cL_law 3097 = .ok (.laload, 1) := by decide +kernel
theorem dL_law_3098 : decode cL_law 3098 = .ok (.iload 7, 2) := by decide +kernel
theorem dL_law_3100 : decode cL_law 3100 = .ok (.i2l, 1) := by decide +kernel
theorem dL_law_3101 : decode cL_law 3101 = .ok (.lcmp, 1) := by decide +kernel
theorem dL_law_3102 : decode cL_law 3102 = .ok (.ifCond .eq 5, 3) := by decide +kernel
theorem dL_law_3105 : decode cL_law 3105 = .ok (.iconst 0, 1) := by decide +kernel
theorem dL_law_3106 : decode cL_law 3106 = .ok (.ireturn, 1) := by decide +kernel
theorem dL_law_3107 : decode cL_law 3107 = .ok (.goto 281, 3) := by decide +kernel
theorem dL_law_3110 : decode cL_law 3110 = .ok (.aload_n 1, 1) := by decide +kernel
theorem dL_law_3111 : decode cL_law 3111 = .ok (.aload_n 0, 1) := by decide +kernel
theorem dL_law_3112 : decode cL_law 3112 = .ok (.iload 5, 2) := by decide +kernel
theorem dL_law_3114 : decode cL_law 3114 = .ok (.iconst 1, 1) := by decide +kernel
theorem dL_law_3115 : decode cL_law 3115 = .ok (.iadd, 1) := by decide +kernel
theorem dL_law_3116 : decode cL_law 3116 = .ok (.iaload, 1) := by decide +kernel
theorem dL_law_3117 : decode cL_law 3117 = .ok (.aload_n 3, 1) := by decide +kernel
theorem dL_law_3118 : decode cL_law 3118 = .ok (.invokestatic 312, 3) := by decide +kernel
theorem dL_law_3121 : decode cL_law 3121 = .ok (.istore 6, 2) := by decide +kernel
theorem dL_law_3123 : decode cL_law 3123 = .ok (.aload_n 2, 1) := by decide +kernel
theorem dL_law_3124 : decode cL_law 3124 = .ok (.aload_n 0, 1) := by decide +kernel
theorem dL_law_3125 : decode cL_law 3125 = .ok (.iload 5, 2) := by decide +kernel
theorem dL_law_3127 : decode cL_law 3127 = .ok (.iconst 1, 1) := by decide +kernel
theorem dL_law_3128 : decode cL_law 3128 = .ok (.iadd, 1) := by decide +kernel
theorem dL_law_3129 : decode cL_law 3129 = .ok (.iaload, 1) := by decide +kernel
theorem dL_law_3130 : decode cL_law 3130 = .ok (.invokevirtual 314, 3) := by decide +kernel
theorem dL_law_3133 : decode cL_law 3133 = .ok (.istore 7, 2) := by decide +kernel
theorem dL_law_3135 : decode cL_law 3135 = .ok (.aload_n 2, 1) := by decide +kernel
theorem dL_law_3136 : decode cL_law 3136 = .ok (.invokevirtual 165, 3) := by decide +kernel
theorem dL_law_3139 : decode cL_law 3139 = .ok (.iload 6, 2) := by decide +kernel
theorem dL_law_3141 : decode cL_law 3141 = .ok (.if_icmp .eq 5, 3) := by decide +kernel
theorem dL_law_3144 : decode cL_law 3144 = .ok (.iconst 0, 1) := by decide +kernel
theorem dL_law_3145 : decode cL_law 3145 = .ok (.ireturn, 1) := by decide +kernel
theorem dL_law_3146 : decode cL_law 3146 = .ok (.iload 6, 2) := by decide +kernel
theorem dL_law_3148 : decode cL_law 3148 = .ok (.ifCond .ne 15, 3) := by decide +kernel
theorem dL_law_3151 : decode cL_law 3151 = .ok (.aload_n 3, 1) := by decide +kernel
theorem dL_law_3152 : decode cL_law 3152 = .ok (.iconst 0, 1) := by decide +kernel
theorem dL_law_3153 : decode cL_law 3153 = .ok (.laload, 1) := by decide +kernel
theorem dL_law_3154 : decode cL_law 3154 = .ok (.iload 7, 2) := by decide +kernel
theorem dL_law_3156 : decode cL_law 3156 = .ok (.i2l, 1) := by decide +kernel
theorem dL_law_3157 : decode cL_law 3157 = .ok (.lcmp, 1) := by decide +kernel
theorem dL_law_3158 : decode cL_law 3158 = .ok (.ifCond .eq 5, 3) := by decide +kernel
theorem dL_law_3161 : decode cL_law 3161 = .ok (.iconst 0, 1) := by decide +kernel
theorem dL_law_3162 : decode cL_law 3162 = .ok (.ireturn, 1) := by decide +kernel
theorem dL_law_3163 : decode cL_law 3163 = .ok (.goto 225, 3) := by decide +kernel
theorem dL_law_3166 : decode cL_law 3166 = .ok (.aload_n 1, 1) := by decide +kernel
theorem dL_law_3167 : decode cL_law 3167 = .ok (.aload_n 0, 1) := by decide +kernel
theorem dL_law_3168 : decode cL_law 3168 = .ok (.iload 5, 2) := by decide +kernel
theorem dL_law_3170 : decode cL_law 3170 = .ok (.iconst 1, 1) := by decide +kernel
theorem dL_law_3171 : decode cL_law 3171 = .ok (.iadd, 1) := by decide +kernel
theorem dL_law_3172 : decode cL_law 3172 = .ok (.iaload, 1) := by decide +kernel
theorem dL_law_3173 : decode cL_law 3173 = .ok (.aload_n 3, 1) := by decide +kernel
theorem dL_law_3174 : decode cL_law 3174 = .ok (.invokestatic 315, 3) := by decide +kernel
theorem dL_law_3177 : decode cL_law 3177 = .ok (.istore 6, 2) := by decide +kernel
theorem dL_law_3179 : decode cL_law 3179 = .ok (.aload_n 2, 1) := by decide +kernel
theorem dL_law_3180 : decode cL_law 3180 = .ok (.aload_n 0, 1) := by decide +kernel
theorem dL_law_3181 : decode cL_law 3181 = .ok (.iload 5, 2) := by decide +kernel
theorem dL_law_3183 : decode cL_law 3183 = .ok (.iconst 1, 1) := by decide +kernel
theorem dL_law_3184 : decode cL_law 3184 = .ok (.iadd, 1) := by decide +kernel
theorem dL_law_3185 : decode cL_law 3185 = .ok (.iaload, 1) := by decide +kernel
theorem dL_law_3186 : decode cL_law 3186 = .ok (.invokevirtual 317, 3) := by decide +kernel
theorem dL_law_3189 : decode cL_law 3189 = .ok (.istore 7, 2) := by decide +kernel
theorem dL_law_3191 : decode cL_law 3191 = .ok (.aload_n 2, 1) := by decide +kernel
theorem dL_law_3192 : decode cL_law 3192 = .ok (.invokevirtual 165, 3) := by decide +kernel
theorem dL_law_3195 : decode cL_law 3195 = .ok (.iload 6, 2) := by decide +kernel
theorem dL_law_3197 : decode cL_law 3197 = .ok (.if_icmp .eq 5, 3) := by decide +kernel
theorem dL_law_3200 : decode cL_law 3200 = .ok (.iconst 0, 1) := by decide +kernel
theorem dL_law_3201 : decode cL_law 3201 = .ok (.ireturn, 1) := by decide +kernel
theorem dL_law_3202 : decode cL_law 3202 = .ok (.iload 6, 2) := by decide +kernel
theorem dL_law_3204 : decode cL_law 3204 = .ok (.ifCond .ne 15, 3) := by decide +kernel
theorem dL_law_3207 : decode cL_law 3207 = .ok (.aload_n 3, 1) := by decide +kernel
theorem dL_law_3208 : decode cL_law 3208 = .ok (.iconst 0, 1) := by decide +kernel
theorem dL_law_3209 : decode cL_law 3209 = .ok (.laload, 1) := by decide +kernel
theorem dL_law_3210 : decode cL_law 3210 = .ok (.iload 7, 2) := by decide +kernel
theorem dL_law_3212 : decode cL_law 3212 = .ok (.i2l, 1) := by decide +kernel
theorem dL_law_3213 : decode cL_law 3213 = .ok (.lcmp, 1) := by decide +kernel
theorem dL_law_3214 : decode cL_law 3214 = .ok (.ifCond .eq 5, 3) := by decide +kernel
theorem dL_law_3217 : decode cL_law 3217 = .ok (.iconst 0, 1) := by decide +kernel
theorem dL_law_3218 : decode cL_law 3218 = .ok (.ireturn, 1) := by decide +kernel
theorem dL_law_3219 : decode cL_law 3219 = .ok (.goto 169, 3) := by decide +kernel
theorem dL_law_3222 : decode cL_law 3222 = .ok (.aload_n 1, 1) := by decide +kernel
theorem dL_law_3223 : decode cL_law 3223 = .ok (.aload_n 0, 1) := by decide +kernel
theorem dL_law_3224 : decode cL_law 3224 = .ok (.iload 5, 2) := by decide +kernel
theorem dL_law_3226 : decode cL_law 3226 = .ok (.iconst 1, 1) := by decide +kernel
theorem dL_law_3227 : decode cL_law 3227 = .ok (.iadd, 1) := by decide +kernel
theorem dL_law_3228 : decode cL_law 3228 = .ok (.iaload, 1) := by decide +kernel
theorem dL_law_3229 : decode cL_law 3229 = .ok (.aload_n 3, 1) := by decide +kernel
theorem dL_law_3230 : decode cL_law 3230 = .ok (.invokestatic 318, 3) := by decide +kernel
theorem dL_law_3233 : decode cL_law 3233 = .ok (.istore 6, 2) := by decide +kernel
theorem dL_law_3235 : decode cL_law 3235 = .ok (.aload_n 2, 1) := by decide +kernel
theorem dL_law_3236 : decode cL_law 3236 = .ok (.aload_n 0, 1) := by decide +kernel
theorem dL_law_3237 : decode cL_law 3237 = .ok (.iload 5, 2) := by decide +kernel
theorem dL_law_3239 : decode cL_law 3239 = .ok (.iconst 1, 1) := by decide +kernel
theorem dL_law_3240 : decode cL_law 3240 = .ok (.iadd, 1) := by decide +kernel
theorem dL_law_3241 : decode cL_law 3241 = .ok (.iaload, 1) := by decide +kernel
theorem dL_law_3242 : decode cL_law 3242 = .ok (.invokevirtual 320, 3) := by decide +kernel
theorem dL_law_3245 : decode cL_law 3245 = .ok (.istore 7, 2) := by decide +kernel
theorem dL_law_3247 : decode cL_law 3247 = .ok (.aload_n 2, 1) := by decide +kernel
theorem dL_law_3248 : decode cL_law 3248 = .ok (.invokevirtual 165, 3) := by decide +kernel
theorem dL_law_3251 : decode cL_law 3251 = .ok (.iload 6, 2) := by decide +kernel
theorem dL_law_3253 : decode cL_law 3253 = .ok (.if_icmp .eq 5, 3) := by decide +kernel
theorem dL_law_3256 : decode cL_law 3256 = .ok (.iconst 0, 1) := by decide +kernel
theorem dL_law_3257 : decode cL_law 3257 = .ok (.ireturn, 1) := by decide +kernel
theorem dL_law_3258 : decode cL_law 3258 = .ok (.iload 6, 2) := by decide +kernel
theorem dL_law_3260 : decode cL_law 3260 = .ok (.ifCond .ne 15, 3) := by decide +kernel
theorem dL_law_3263 : decode cL_law 3263 = .ok (.aload_n 3, 1) := by decide +kernel
theorem dL_law_3264 : decode cL_law 3264 = .ok (.iconst 0, 1) := by decide +kernel
theorem dL_law_3265 : decode cL_law 3265 = .ok (.laload, 1) := by decide +kernel
theorem dL_law_3266 : decode cL_law 3266 = .ok (.iload 7, 2) := by decide +kernel
theorem dL_law_3268 : decode cL_law 3268 = .ok (.i2l, 1) := by decide +kernel
theorem dL_law_3269 : decode cL_law 3269 = .ok (.lcmp, 1) := by decide +kernel
theorem dL_law_3270 : decode cL_law 3270 = .ok (.ifCond .eq 5, 3) := by decide +kernel
theorem dL_law_3273 : decode cL_law 3273 = .ok (.iconst 0, 1) := by decide +kernel
theorem dL_law_3274 : decode cL_law 3274 = .ok (.ireturn, 1) := by decide +kernel
theorem dL_law_3275 : decode cL_law 3275 = .ok (.goto 113, 3) := by decide +kernel
theorem dL_law_3278 : decode cL_law 3278 = .ok (.aload_n 1, 1) := by decide +kernel
theorem dL_law_3279 : decode cL_law 3279 = .ok (.aload_n 0, 1) := by decide +kernel
theorem dL_law_3280 : decode cL_law 3280 = .ok (.iload 5, 2) := by decide +kernel
theorem dL_law_3282 : decode cL_law 3282 = .ok (.iconst 1, 1) := by decide +kernel
theorem dL_law_3283 : decode cL_law 3283 = .ok (.iadd, 1) := by decide +kernel
theorem dL_law_3284 : decode cL_law 3284 = .ok (.iaload, 1) := by decide +kernel
theorem dL_law_3285 : decode cL_law 3285 = .ok (.invokevirtual 321, 3) := by decide +kernel
theorem dL_law_3288 : decode cL_law 3288 = .ok (.aload_n 2, 1) := by decide +kernel
theorem dL_law_3289 : decode cL_law 3289 = .ok (.aload_n 0, 1) := by decide +kernel
theorem dL_law_3290 : decode cL_law 3290 = .ok (.iload 5, 2) := by decide +kernel
theorem dL_law_3292 : decode cL_law 3292 = .ok (.iconst 1, 1) := by decide +kernel
theorem dL_law_3293 : decode cL_law 3293 = .ok (.iadd, 1) := by decide +kernel
theorem dL_law_3294 : decode cL_law 3294 = .ok (.iaload, 1) := by decide +kernel
theorem dL_law_3295 : decode cL_law 3295 = .ok (.invokevirtual 324, 3) := by decide +kernel
theorem dL_law_3298 : decode cL_law 3298 = .ok (.if_icmp .eq 90, 3) := by decide +kernel
theorem dL_law_3301 : decode cL_law 3301 = .ok (.iconst 0, 1) := by decide +kernel
theorem dL_law_3302 : decode cL_law 3302 = .ok (.ireturn, 1) := by decide +kernel
theorem dL_law_3303 : decode cL_law 3303 = .ok (.aload_n 1, 1) := by decide +kernel
theorem dL_law_3304 : decode cL_law 3304 = .ok (.invokevirtual 325, 3) := by decide +kernel
theorem dL_law_3307 : decode cL_law 3307 = .ok (.aload_n 2, 1) := by decide +kernel
theorem dL_law_3308 : decode cL_law 3308 = .ok (.invokevirtual 328, 3) := by decide +kernel
theorem dL_law_3311 : decode cL_law 3311 = .ok (.if_icmp .eq 77, 3) := by decide +kernel
theorem dL_law_3314 : decode cL_law 3314 = .ok (.iconst 0, 1) := by decide +kernel
theorem dL_law_3315 : decode cL_law 3315 = .ok (.ireturn, 1) := by decide +kernel
theorem dL_law_3316 : decode cL_law 3316 = .ok (.aload_n 1, 1) := by decide +kernel
theorem dL_law_3317 : decode cL_law 3317 = .ok (.aload_n 0, 1) := by decide +kernel
theorem dL_law_3318 : decode cL_law 3318 = .ok (.iload 5, 2) := by decide +kernel
theorem dL_law_3320 : decode cL_law 3320 = .ok (.iconst 1, 1) := by decide +kernel
theorem dL_law_3321 : decode cL_law 3321 = .ok (.iadd, 1) := by decide +kernel
theorem dL_law_3322 : decode cL_law 3322 = .ok (.iaload, 1) := by decide +kernel
theorem dL_law_3323 : decode cL_law 3323 = .ok (.invokestatic 329, 3) := by decide +kernel
theorem dL_law_3326 : decode cL_law 3326 = .ok (.istore 6, 2) := by decide +kernel
theorem dL_law_3328 : decode cL_law 3328 = .ok (.aload_n 2, 1) := by decide +kernel
theorem dL_law_3329 : decode cL_law 3329 = .ok (.aload_n 0, 1) := by decide +kernel
theorem dL_law_3330 : decode cL_law 3330 = .ok (.iload 5, 2) := by decide +kernel
theorem dL_law_3332 : decode cL_law 3332 = .ok (.iconst 1, 1) := by decide +kernel
theorem dL_law_3333 : decode cL_law 3333 = .ok (.iadd, 1) := by decide +kernel
theorem dL_law_3334 : decode cL_law 3334 = .ok (.iaload, 1) := by decide +kernel
theorem dL_law_3335 : decode cL_law 3335 = .ok (.invokevirtual 332, 3) := by decide +kernel
theorem dL_law_3338 : decode cL_law 3338 = .ok (.aload_n 2, 1) := by decide +kernel
theorem dL_law_3339 : decode cL_law 3339 = .ok (.invokevirtual 165, 3) := by decide +kernel
theorem dL_law_3342 : decode cL_law 3342 = .ok (.iload 6, 2) := by decide +kernel
theorem dL_law_3344 : decode cL_law 3344 = .ok (.if_icmp .eq 5, 3) := by decide +kernel
theorem dL_law_3347 : decode cL_law 3347 = .ok (.iconst 0, 1) := by decide +kernel
theorem dL_law_3348 : decode cL_law 3348 = .ok (.ireturn, 1) := by decide +kernel
theorem dL_law_3349 : decode cL_law 3349 = .ok (.goto 39, 3) := by decide +kernel
theorem dL_law_3352 : decode cL_law 3352 = .ok (.aload_n 1, 1) := by decide +kernel
theorem dL_law_3353 : decode cL_law 3353 = .ok (.aload_n 0, 1) := by decide +kernel
theorem dL_law_3354 : decode cL_law 3354 = .ok (.iload 5, 2) := by decide +kernel
theorem dL_law_3356 : decode cL_law 3356 = .ok (.iconst 1, 1) := by decide +kernel
theorem dL_law_3357 : decode cL_law 3357 = .ok (.iadd, 1) := by decide +kernel
theorem dL_law_3358 : decode cL_law 3358 = .ok (.iaload, 1) := by decide +kernel
theorem dL_law_3359 : decode cL_law 3359 = .ok (.invokestatic 333, 3) := by decide +kernel
theorem dL_law_3362 : decode cL_law 3362 = .ok (.istore 6, 2) := by decide +kernel
theorem dL_law_3364 : decode cL_law 3364 = .ok (.aload_n 2, 1) := by decide +kernel
theorem dL_law_3365 : decode cL_law 3365 = .ok (.aload_n 0, 1) := by decide +kernel
theorem dL_law_3366 : decode cL_law 3366 = .ok (.iload 5, 2) := by decide +kernel
theorem dL_law_3368 : decode cL_law 3368 = .ok (.iconst 1, 1) := by decide +kernel
theorem dL_law_3369 : decode cL_law 3369 = .ok (.iadd, 1) := by decide +kernel
theorem dL_law_3370 : decode cL_law 3370 = .ok (.iaload, 1) := by decide +kernel
theorem dL_law_3371 : decode cL_law 3371 = .ok (.invokevirtual 335, 3) := by decide +kernel
theorem dL_law_3374 : decode cL_law 3374 = .ok (.aload_n 2, 1) := by decide +kernel
theorem dL_law_3375 : decode cL_law 3375 = .ok (.invokevirtual 165, 3) := by decide +kernel
theorem dL_law_3378 : decode cL_law 3378 = .ok (.iload 6, 2) := by decide +kernel
theorem dL_law_3380 : decode cL_law 3380 = .ok (.if_icmp .eq 5, 3) := by decide +kernel
theorem dL_law_3383 : decode cL_law 3383 = .ok (.iconst 0, 1) := by decide +kernel
theorem dL_law_3384 : decode cL_law 3384 = .ok (.ireturn, 1) := by decide +kernel
theorem dL_law_3385 : decode cL_law 3385 = .ok (.goto 3, 3) := by decide +kernel
theorem dL_law_3388 : decode cL_law 3388 = .ok (.iinc 5 5, 3) := by decide +kernel
theorem dL_law_3391 : decode cL_law 3391 = .ok (.goto (-3363), 3) := by decide +kernel
theorem dL_law_3394 : decode cL_law 3394 = .ok (.iconst 1, 1) := by decide +kernel
theorem dL_law_3395 : decode cL_law 3395 = .ok (.ireturn, 1) := by decide +kernel
