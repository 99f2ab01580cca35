theorem dL_law_2902 : decode cL_law 2902 = .ok (.iaload, 1) := by decide +kernel
theorem dL_law_2903 : decode cL_law 2903 = .ok (.aload_n 0, 1) := by decide +kernel
theorem dL_law_2904 : decode cL_law 2904 = .ok (.iload 4, 2) := by decide +kernel
theorem dL_law_2906 : decode cL_law 2906 = .ok (.iconst 3, 1) := by decide +kernel
theorem dL_law_2907 : decode cL_law 2907 = .ok (.iadd, 1) := by decide +kernel
theorem dL_law_2908 : decode cL_law 2908 = .ok (.iaload, 1) := by decide +kernel
theorem dL_law_2909 : decode cL_law 2909 = .ok (.invokevirtual 308, 3) := by decide +kernel
theorem dL_law_2912 : decode cL_law 2912 = .ok (.istore 6, 2) := by decide +kernel
theorem dL_law_2914 : decode cL_law 2914 = .ok (.aload_n 2, 1) := by decide +kernel
theorem dL_law_2915 : decode cL_law 2915 = .ok (.invokevirtual 200, 3) := by decide +kernel
theorem dL_law_2918 : decode cL_law 2918 = .ok (.iload 5, 2) := by decide +kernel
theorem dL_law_2920 : decode cL_law 2920 = .ok (.if_icmp .eq 5, 3) := by decide +kernel
theorem dL_law_2923 : decode cL_law 2923 = .ok (.iconst 0, 1) := by decide +kernel
theorem dL_law_2924 : decode cL_law 2924 = .ok (.ireturn, 1) := by decide +kernel
theorem dL_law_2925 : decode cL_law 2925 = .ok (.iload 5, 2) := by decide +kernel
theorem dL_law_2927 : decode cL_law 2927 = .ok (.ifCond .ne 15, 3) := by decide +kernel
theorem dL_law_2930 : decode cL_law 2930 = .ok (.aload_n 3, 1) := by decide +kernel
theorem dL_law_2931 : decode cL_law 2931 = .ok (.iconst 0, 1) := by decide +kernel
theorem dL_law_2932 : decode cL_law 2932 = .ok (.laload, 1) := by decide +kernel
theorem dL_law_2933 : decode cL_law 2933 = .ok (.iload 6, 2) := by decide +kernel
theorem dL_law_2935 : decode cL_law 2935 = .ok (.i2l, 1) := by decide +kernel
theorem dL_law_2936 : decode cL_law 2936 = .ok (.lcmp, 1) := by decide +kernel
theorem dL_law_2937 : decode cL_law 2937 = .ok (.ifCond .eq 5, 3) := by decide +kernel
theorem dL_law_2940 : decode cL_law 2940 = .ok (.iconst 0, 1) := by decide +kernel
theorem dL_law_2941 : decode cL_law 2941 = .ok (.ireturn, 1) := by decide +kernel
theorem dL_law_2942 : decode cL_law 2942 = .ok (.goto 793, 3) := by decide +kernel
theorem dL_law_2945 : decode cL_law 2945 = .ok (.aload_n 1, 1) := by decide +kernel
theorem dL_law_2946 : decode cL_law 2946 = .ok (.aload_n 0, 1) := by decide +kernel
theorem dL_law_2947 : decode cL_law 2947 = .ok (.iload 4, 2) := by decide +kernel
theorem dL_law_2949 : decode cL_law 2949 = .ok (.iconst 1, 1) := by decide +kernel
theorem dL_law_2950 : decode cL_law 2950 = .ok (.iadd, 1) := by decide +kernel
theorem dL_law_2951 : decode cL_law 2951 = .ok (.iaload, 1) := by decide +kernel
theorem dL_law_2952 : decode cL_law 2952 = .ok (.aload_n 3, 1) := by decide +kernel
theorem dL_law_2953 : decode cL_law 2953 = .ok (.invokestatic 309, 3) := by decide +kernel
theorem dL_law_2956 : decode cL_law 2956 = .ok (.istore 5, 2) := by decide +kernel
theorem dL_law_2958 : decode cL_law 2958 = .ok (.aload_n 2, 1) := by decide +kernel
theorem dL_law_2959 : decode cL_law 2959 = .ok (.aload_n 0, 1) := by decide +kernel
theorem dL_law_2960 : decode cL_law 2960 = .ok (.iload 4, 2) := by decide +kernel
theorem dL_law_2962 : decode cL_law 2962 = .ok (.iconst 1, 1) := by decide +kernel
theorem dL_law_2963 : decode cL_law 2963 = .ok (.iadd, 1) := by decide +kernel
theorem dL_law_2964 : decode cL_law 2964 = .ok (.iaload, 1) := by decide +kernel
theorem dL_law_2965 : decode cL_law 2965 = .ok (.invokevirtual 311, 3) := by decide +kernel
theorem dL_law_2968 : decode cL_law 2968 = .ok (.istore 6, 2) := by decide +kernel
theorem dL_law_2970 : decode cL_law 2970 = .ok (.aload_n 2, 1) := by decide +kernel
theorem dL_law_2971 : decode cL_law 2971 = .ok (.invokevirtual 200, 3) := by decide +kernel
theorem dL_law_2974 : decode cL_law 2974 = .ok (.iload 5, 2) := by decide +kernel
theorem dL_law_2976 : decode cL_law 2976 = .ok (.if_icmp .eq 5, 3) := by decide +kernel
theorem dL_law_2979 : decode cL_law 2979 = .ok (.iconst 0, 1) := by decide +kernel
theorem dL_law_2980 : decode cL_law 2980 = .ok (.ireturn, 1) := by decide +kernel
theorem dL_law_2981 : decode cL_law 2981 = .ok (.iload 5, 2) := by decide +kernel
theorem dL_law_2983 : decode cL_law 2983 = .ok (.ifCond .ne 15, 3) := by decide +kernel
theorem dL_law_2986 : decode cL_law 2986 = .ok (.aload_n 3, 1) := by decide +kernel
theorem dL_law_2987 : decode cL_law 2987 = .ok (.iconst 0, 1) := by decide +kernel
theorem dL_law_2988 : decode cL_law 2988 = .ok (.laload, 1) := by decide +kernel
theorem dL_law_2989 : decode cL_law 2989 = .ok (.iload 6, 2) := by decide +kernel
theorem dL_law_2991 : decode cL_law 2991 = .ok (.i2l, 1) := by decide +kernel
theorem dL_law_2992 : decode cL_law 2992 = .ok (.lcmp, 1) := by decide +kernel
theorem dL_law_2993 : decode cL_law 2993 = .ok (.ifCond .eq 5, 3) := by decide +kernel
theorem dL_law_2996 : decode cL_law 2996 = .ok (.iconst 0, 1) := by decide +kernel
theorem dL_law_2997 : decode cL_law 2997 = .ok (.ireturn, 1) := by decide +kernel
theorem dL_law_2998 : decode cL_law 2998 = .ok (.goto 737, 3) := by decide +kernel
theorem dL_law_3001 : decode cL_law 3001 = .ok (.aload_n 1, 1) := by decide +kernel
theorem dL_law_3002 : decode cL_law 3002 = .ok (.aload_n 0, 1) := by decide +kernel
theorem dL_law_3003 : decode cL_law 3003 = .ok (.iload 4, 2) := by decide +kernel
theorem dL_law_3005 : decode cL_law 3005 = .ok (.iconst 1, 1) := by decide +kernel
theorem dL_law_3006 : decode cL_law 3006 = .ok (.iadd, 1) := by decide +kernel
theorem dL_law_3007 : decode cL_law 3007 = .ok (.iaload, 1) := by decide +kernel
theorem dL_law_3008 : decode cL_law 3008 = .ok (.aload_n 0, 1) := by decide +kernel
theorem dL_law_3009 : decode cL_law 3009 = .ok (.iload 4, 2) := by decide +kernel
theorem dL_law_3011 : decode cL_law 3011 = .ok (.iconst 2, 1) := by decide +kernel
theorem dL_law_3012 : decode cL_law 3012 = .ok (.iadd, 1) := by decide +kernel
theorem dL_law_3013 : decode cL_law 3013 = .ok (.iaload, 1) := by decide +kernel
theorem dL_law_3014 : decode cL_law 3014 = .ok (.aload_n 3, 1) := by decide +kernel
theorem dL_law_3015 : decode cL_law 3015 = .ok (.invokestatic 312, 3) := by decide +kernel
theorem dL_law_3018 : decode cL_law 3018 = .ok (.istore 5, 2) := by decide +kernel
theorem dL_law_3020 : decode cL_law 3020 = .ok (.aload_n 2, 1) := by decide +kernel
theorem dL_law_3021 : decode cL_law 3021 = .ok (.aload_n 0, 1) := by decide +kernel
theorem dL_law_3022 : decode cL_law 3022 = .ok (.iload 4, 2) := by decide +kernel
theorem dL_law_3024 : decode cL_law 3024 = .ok (.iconst 1, 1) := by decide +kernel
theorem dL_law_3025 : decode cL_law 3025 = .ok (.iadd, 1) := by decide +kernel
theorem dL_law_3026 : decode cL_law 3026 = .ok (.iaload, 1) := by decide +kernel
theorem dL_law_3027 : decode cL_law 3027 = .ok (.aload_n 0, 1) := by decide +kernel
theorem dL_law_3028 : decode cL_law 3028 = .ok (.iload 4, 2) := by decide +kernel
theorem dL_law_3030 : decode cL_law 3030 = .ok (.iconst 2, 1) := by decide +kernel
theorem dL_law_3031 : decode cL_law 3031 = .ok (.iadd, 1) := by decide +kernel
theorem dL_law_3032 : decode cL_law 3032 = .ok (.iaload, 1) := by decide +kernel
theorem dL_law_3033 : decode cL_law 3033 = .ok (.invokevirtual 314, 3) := by decide +kernel
theorem dL_law_3036 : decode cL_law 3036 = .ok (.istore 6, 2) := by decide +kernel
theorem dL_law_3038 : decode cL_law 3038 = .ok (.aload_n 2, 1) := by decide +kernel
theorem dL_law_3039 : decode cL_law 3039 = .ok (.invokevirtual 200, 3) := by decide +kernel
theorem dL_law_3042 : decode cL_law 3042 = .ok (.iload 5, 2) := by decide +kernel
theorem dL_law_3044 : decode cL_law 3044 = .ok (.if_icmp .eq 5, 3) := by decide +kernel
theorem dL_law_3047 : decode cL_law 3047 = .ok (.iconst 0, 1) := by decide +kernel
theorem dL_law_3048 : decode cL_law 3048 = .ok (.ireturn, 1) := by decide +kernel
theorem dL_law_3049 : decode cL_law 3049 = .ok (.iload 5, 2) := by decide +kernel
theorem dL_law_3051 : decode cL_law 3051 = .ok (.ifCond .ne 15, 3) := by decide +kernel
theorem dL_law_3054 : decode cL_law 3054 = .ok (.aload_n 3, 1) := by decide +kernel
theorem dL_law_3055 : decode cL_law 3055 = .ok (.iconst 0, 1) := by decide +kernel
theorem dL_law_3056 : decode cL_law 3056 = .ok (.laload, 1) := by decide +kernel
theorem dL_law_3057 : decode cL_law 3057 = .ok (.iload 6, 2) := by decide +kernel
theorem dL_law_3059 : decode cL_law 3059 = .ok (.i2l, 1) := by decide +kernel
theorem dL_law_3060 : decode cL_law 3060 = .ok (.lcmp, 1) := by decide +kernel
theorem dL_law_3061 : decode cL_law 3061 = .ok (.ifCond .eq 5, 3) := by decide +kernel
theorem dL_law_3064 : decode cL_law 3064 = .ok (.iconst 0, 1) := by decide +kernel
theorem dL_law_3065 : decode cL_law 3065 = .ok (.ireturn, 1) := by decide +kernel
theorem dL_law_3066 : decode cL_law 3066 = .ok (.goto 669, 3) := by decide +kernel
theorem dL_law_3069 : decode cL_law 3069 = .ok (.aload_n 1, 1) := by decide +kernel
theorem dL_law_3070 : decode cL_law 3070 = .ok (.aload_n 0, 1) := by decide +kernel
theorem dL_law_3071 : decode cL_law 3071 = .ok (.iload 4, 2) := by decide +kernel
theorem dL_law_3073 : decode cL_law 3073 = .ok (.iconst 1, 1) := by decide +kernel
theorem dL_law_3074 : decode cL_law 3074 = .ok (.iadd, 1) := by decide +kernel
theorem dL_law_3075 : decode cL_law 3075 = .ok (.iaload, 1) := by decide +kernel
theorem dL_law_3076 : decode cL_law 3076 = .ok (.aload_n 3, 1) := by decide +kernel
theorem dL_law_3077 : decode cL_law 3077 = .ok (.invokestatic 315, 3) := by decide +kernel
theorem dL_law_3080 : decode cL_law 3080 = .ok (.istore 5, 2) := by decide +kernel
theorem dL_law_3082 : decode cL_law 3082 = .ok (.aload_n 2, 1) := by decide +kernel
theorem dL_law_3083 : decode cL_law 3083 = .ok (.aload_n 0, 1) := by decide +kernel
theorem dL_law_3084 : decode cL_law 3084 = .ok (.iload 4, 2) := by decide +kernel
theorem dL_law_3086 : decode cL_law 3086 = .ok (.iconst 1, 1) := by decide +kernel
theorem dL_law_3087 : decode cL_law 3087 = .ok (.iadd, 1) := by decide +kernel
theorem dL_law_3088 : decode cL_law 3088 = .ok (.iaload, 1) := by decide +kernel
theorem dL_law_3089 : decode cL_law 3089 = .ok (.invokevirtual 317, 3) := by decide +kernel
theorem dL_law_3092 : decode cL_law 3092 = .ok (.istore 6, 2) := by decide +kernel
theorem dL_law_3094 : decode cL_law 3094 = .ok (.aload_n 2, 1) := by decide +kernel
theorem dL_law_3095 : decode cL_law 3095 = .ok (.invokevirtual 200, 3) := by decide +kernel
theorem dL_law_3098 : decode cL_law 3098 = .ok (.iload 5, 2) := by decide +kernel
theorem dL_law_3100 : decode cL_law 3100 = .ok (.if_icmp .eq 5, 3) := by decide +kernel
theorem dL_law_3103 : decode cL_law 3103 = .ok (.iconst 0, 1) := by decide +kernel
theorem dL_law_3104 : decode cL_law 3104 = .ok (.ireturn, 1) := by decide +kernel
theorem dL_law_3105 : decode cL_law 3105 = .ok (.iload 5, 2) := by decide +kernel
theorem dL_law_3107 : decode cL_law 3107 = .ok (.ifCond .ne 15, 3) := by decide +kernel
theorem dL_law_3110 : decode cL_law 3110 = .ok (.aload_n 3, 1) := by decide +kernel
theorem dL_law_3111 : decode cL_law 3111 = .ok (.iconst 0, 1) := by decide +kernel
theorem dL_law_3112 : decode cL_law 3112 = .ok (.laload, 1) := by decide +kernel
theorem dL_law_3113 : decode cL_law 3113 = .ok (.iload 6, 2) := by decide +kernel
theorem dL_law_3115 : decode cL_law 3115 = .ok (.i2l, 1) := by decide +kernel
theorem dL_law_3116 : decode cL_law 3116 = .ok (.lcmp, 1) := by decide +kernel
theorem dL_law_3117 : decode cL_law 3117 = .ok (.ifCond .eq 5, 3) := by decide +kernel
theorem dL_law_3120 : decode cL_law 3120 = .ok (.iconst 0, 1) := by decide +kernel
theorem dL_law_3121 : decode cL_law 3121 = .ok (.ireturn, 1) := by decide +kernel
theorem dL_law_3122 : decode cL_law 3122 = .ok (.goto 613, 3) := by decide +kernel
theorem dL_law_3125 : decode cL_law 3125 = .ok (.aload_n 1, 1) := by decide +kernel
theorem dL_law_3126 : decode cL_law 3126 = .ok (.aload_n 0, 1) := by decide +kernel
theorem dL_law_3127 : decode cL_law 3127 = .ok (.iload 4, 2) := by decide +kernel
theorem dL_law_3129 : decode cL_law 3129 = .ok (.iconst 1, 1) := by decide +kernel
theorem dL_law_3130 : decode cL_law 3130 = .ok (.iadd, 1) := by decide +kernel
theorem dL_law_3131 : decode cL_law 3131 = .ok (.iaload, 1) := by decide +kernel
theorem dL_law_3132 : decode cL_law 3132 = .ok (.aload_n 0, 1) := by decide +kernel
theorem dL_law_3133 : decode cL_law 3133 = .ok (.iload 4, 2) := by decide +kernel
theorem dL_law_3135 : decode cL_law 3135 = .ok (.iconst 2, 1) := by decide +kernel
theorem dL_law_3136 : decode cL_law 3136 = .ok (.iadd, 1) := by decide +kernel
theorem dL_law_3137 : decode cL_law 3137 = .ok (.iaload, 1) := by decide +kernel
theorem dL_law_3138 : decode cL_law 3138 = .ok (.aload_n 3, 1) := by decide +kernel
theorem dL_law_3139 : decode cL_law 3139 = .ok (.invokestatic 318, 3) := by decide +kernel
theorem dL_law_3142 : decode cL_law 3142 = .ok (.istore 5, 2) := by decide +kernel
theorem dL_law_3144 : decode cL_law 3144 = .ok (.aload_n 2, 1) := by decide +kernel
theorem dL_law_3145 : decode cL_law 3145 = .ok (.aload_n 0, 1) := by decide +kernel
theorem dL_law_3146 : decode cL_law 3146 = .ok (.iload 4, 2) := by decide +kernel
theorem dL_law_3148 : decode cL_law 3148 = .ok (.iconst 1, 1) := by decide +kernel
theorem dL_law_3149 : decode cL_law 3149 = .ok (.iadd, 1) := by decide +kernel
theorem dL_law_3150 : decode cL_law 3150 = .ok (.iaload, 1) := by decide +kernel
theorem dL_law_3151 : decode cL_law 3151 = .ok (.aload_n 0, 1) := by decide +kernel
theorem dL_law_3152 : decode cL_law 3152 = .ok (.iload 4, 2) := by decide +kernel
theorem dL_law_3154 : decode cL_law 3154 = .ok (.iconst 2, 1) := by decide +kernel
theorem dL_law_3155 : decode cL_law 3155 = .ok (.iadd, 1) := by decide +kernel
theorem dL_law_3156 : decode cL_law 3156 = .ok (.iaload, 1) := by decide +kernel
theorem dL_law_3157 : decode cL_law 3157 = .ok (.invokevirtual 320, 3) := by decide +kernel
theorem dL_law_3160 : decode cL_law 3160 = .ok (.istore 6, 2) := by decide +kernel
theorem dL_law_3162 : decode cL_law 3162 = .ok (.aload_n 2, 1) := by decide +kernel
theorem dL_law_3163 : decode cL_law 3163 = .ok (.invokevirtual 200, 3) := by decide +kernel
theorem dL_law_3166 : decode cL_law 3166 = .ok (.iload 5, 2) := by decide +kernel
theorem dL_law_3168 : decode cL_law 3168 = .ok (.if_icmp .eq 5, 3) := by decide +kernel
theorem dL_law_3171 : decode cL_law 3171 = .ok (.iconst 0, 1) := by decide +kernel
theorem dL_law_3172 : decode cL_law 3172 = .ok (.ireturn, 1) := by decide +kernel
theorem dL_law_3173 : decode cL_law 3173 = .ok (.iload 5, 2) := by decide +kernel
theorem dL_law_3175 : decode cL_law 3175 = .ok (.ifCond .ne 15, 3) := by decide +kernel
theorem dL_law_3178 : decode cL_law 3178 = .ok (.aload_n 3, 1) := by decide +kernel
theorem dL_law_3179 : decode cL_law 3179 = .ok (.iconst 0, 1) := by decide +kernel
theorem dL_law_3180 : decode cL_law 3180 = .ok (.laload, 1) := by decide +kernel
theorem dL_law_3181 : decode cL_law 3181 = .ok (.iload 6, 2) := by decide +kernel
theorem dL_law_3183 : decode cL_law 3183 = .ok (.i2l, 1) := by decide +kernel
theorem dL_law_3184 : decode cL_law 3184 = .ok (.lcmp, 1) := by decide +kernel
theorem dL_law_3185 : decode cL_law 3185 = .ok (.ifCond .eq 5, 3) := by decide +kernel
theorem dL_law_3188 : decode cL_law 3188 = .ok (.iconst 0, 1) := by decide +kernel
theorem dL_law_3189 : decode cL_law 3189 = .ok (.ireturn, 1) := by decide +kernel
theorem dL_law_3190 : decode cL_law 3190 = .ok (.goto 545, 3) := by decide +kernel
theorem dL_law_3193 : decode cL_law 3193 = .ok (.aload_n 1, 1) := by decide +kernel
theorem dL_law_3194 : decode cL_law 3194 = .ok (.aload_n 0, 1) := by decide +kernel
theorem dL_law_3195 : decode cL_law 3195 = .ok (.iload 4, 2) := by decide +kernel
theorem dL_law_3197 : decode cL_law 3197 = .ok (.iconst 1, 1) := by decide +kernel
theorem dL_law_3198 : decode cL_law 3198 = .ok (.iadd, 1) := by decide +kernel
theorem dL_law_3199 : decode cL_law 3199 = .ok (.iaload, 1) := by decide +kernel
theorem dL_law_3200 : decode cL_law 3200 = .ok (.aload_n 0, 1) := by decide +kernel
theorem dL_law_3201 : decode cL_law 3201 = .ok (.iload 4, 2) := by decide +kernel
theorem dL_law_3203 : decode cL_law 3203 = .ok (.iconst 2, 1) := by decide +kernel
theorem dL_law_3204 : decode cL_law 3204 = .ok (.iadd, 1) := by decide +kernel
theorem dL_law_3205 : decode cL_law 3205 = .ok (.iaload, 1) := by decide +kernel
theorem dL_law_3206 : decode cL_law 3206 = .ok (.aload_n 0, 1) := by decide +kernel
theorem dL_law_3207 : decode cL_law 3207 = .ok (.iload 4, 2) := by decide +kernel
theorem dL_law_3209 : decode cL_law 3209 = .ok (.iconst 3, 1) := by decide +kernel
theorem dL_law_3210 : decode cL_law 3210 = .ok (.iadd, 1) := by decide +kernel
theorem dL_law_3211 : decode cL_law 3211 = .ok (.iaload, 1) := by decide +kernel
theorem dL_law_3212 : decode cL_law 3212 = .ok (.aload_n 3, 1) := by decide +kernel
theorem dL_law_3213 : decode cL_law 3213 = .ok (.invokestatic 321, 3) := by decide +kernel
theorem dL_law_3216 : decode cL_law 3216 = .ok (.istore 5, 2) := by decide +kernel
theorem dL_law_3218 : decode cL_law 3218 = .ok (.aload_n 2, 1) := by decide +kernel
theorem dL_law_3219 : decode cL_law 3219 = .ok (.aload_n 0, 1) := by decide +kernel
theorem dL_law_3220 : decode cL_law 3220 = .ok (.iload 4, 2) := by decide +kernel
theorem dL_law_3222 : decode cL_law 3222 = .ok (.iconst 1, 1) := by decide +kernel
theorem dL_law_3223 : decode cL_law 3223 = .ok (.iadd, 1) := by decide +kernel
theorem dL_law_3224 : decode cL_law 3224 = .ok (.iaload, 1) := by decide +kernel
theorem dL_law_3225 : decode cL_law 3225 = .ok (.aload_n 0, 1) := by decide +kernel
theorem dL_law_3226 : decode cL_law 3226 = .ok (.iload 4, 2) := by decide +kernel
theorem dL_law_3228 : decode cL_law 3228 = .ok (.iconst 2, 1) := by decide +kernel
theorem dL_law_3229 : decode cL_law 3229 = .ok (.iadd, 1) := by decide +kernel
theorem dL_law_3230 : decode cL_law 3230 = .ok (.iaload, 1) := by decide +kernel
theorem dL_law_3231 : decode cL_law 3231 = .ok (.aload_n 0, 1) := by decide +kernel
theorem dL_law_3232 : decode cL_law 3232 = .ok (.iload 4, 2) := by decide +kernel
theorem dL_law_3234 : decode cL_law 3234 = .ok (.iconst 3, 1) := by decide +kernel
theorem dL_law_3235 : decode cL_law 3235 = .ok (.iadd, 1) := by decide +kernel
theorem dL_law_3236 : decode cL_law 3236 = .ok (.iaload, 1) := by decide +kernel
theorem dL_law_3237 : decode cL_law 3237 = .ok (.invokevirtual 323, 3) := by decide +kernel
theorem dL_law_3240 : decode cL_law 3240 = .ok (.istore 6, 2) := by decide +kernel
theorem dL_law_3242 : decode cL_law 3242 = .ok (.aload_n 2, 1) := by decide +kernel
theorem dL_law_3243 : decode cL_law 3243 = .ok (.invokevirtual 200, 3) := by decide +kernel
theorem dL_law_3246 : decode cL_law 3246 = .ok (.iload 5, 2) := by decide +kernel
theorem dL_law_3248 : decode cL_law 3248 = .ok (.if_icmp .eq 5, 3) := by decide +kernel
theorem dL_law_3251 : decode cL_law 3251 = .ok (.iconst 0, 1) := by decide +kernel
theorem dL_law_3252 : decode cL_law 3252 = .ok (.ireturn, 1) := by decide +kernel
theorem dL_law_3253 : decode cL_law 3253 = .ok (.iload 5, 2) := by decide +kernel
theorem dL_law_3255 : decode cL_law 3255 = .ok (.ifCond .ne 15, 3) := by decide +kernel
theorem dL_law_3258 : decode cL_law 3258 = .ok (.aload_n 3, 1) := by decide +kernel
theorem dL_law_3259 : decode cL_law 3259 = .ok (.iconst 0, 1) := by decide +kernel
theorem dL_law_3260 : decode cL_law 3260 = .ok (.laload, 1) := by decide +kernel
theorem dL_law_3261 : decode cL_law 3261 = .ok (.iload 6, 2) := by decide +kernel
theorem dL_law_3263 : decode cL_law 3263 = .ok (.i2l, 1) := by decide +kernel
theorem dL_law_3264 : decode cL_law 3264 = .ok (.lcmp, 1) := by decide +kernel
theorem dL_law_3265 : decode cL_law 3265 = .ok (.ifCond .eq 5, 3) := by decide +kernel
theorem dL_law_3268 : decode cL_law 3268 = .ok (.iconst 0, 1) := by decide +kernel
theorem dL_law_3269 : decode cL_law 3269 = .ok (.ireturn, 1) := by decide +kernel
theorem dL_law_3270 : decode cL_law 3270 = .ok (.goto 465, 3) := by decide +kernel
theorem dL_law_3273 : decode cL_law 3273 = .ok (.aload_n 1, 1) := by decide +kernel
theorem dL_law_3274 : decode cL_law 3274 = .ok (.aload_n 0, 1) := by decide +kernel
theorem dL_law_3275 : decode cL_law 3275 = .ok (.iload 4, 2) := by decide +kernel
theorem dL_law_3277 : decode cL_law 3277 = .ok (.iconst 1, 1) := by decide +kernel
theorem dL_law_3278 : decode cL_law 3278 = .ok (.iadd, 1) := by decide +kernel
theorem dL_law_3279 : decode cL_law 3279 = .ok (.iaload, 1) := by decide +kernel
theorem dL_law_3280 : decode cL_law 3280 = .ok (.aload_n 0, 1) := by decide +kernel
theorem dL_law_3281 : decode cL_law 3281 = .ok (.iload 4, 2) := by decide +kernel
theorem dL_law_3283 : decode cL_law 3283 = .ok (.iconst 2, 1) := by decide +kernel
theorem dL_law_3284 : decode cL_law 3284 = .ok (.iadd, 1) := by decide +kernel
theorem dL_law_3285 : decode cL_law 3285 = .ok (.iaload, 1) := by decide +kernel
theorem dL_law_3286 : decode cL_law 3286 = .ok (.aload_n 0, 1) := by decide +kernel
theorem dL_law_3287 : decode cL_law 3287 = .ok (.iload 4, 2) := by decide +kernel
theorem dL_law_3289 : decode cL_law 3289 = .ok (.iconst 3, 1) := by decide +kernel
theorem dL_law_3290 : decode cL_law 3290 = .ok (.iadd, 1) := by decide +kernel
theorem dL_law_3291 : decode cL_law 3291 = .ok (.iaload, 1) := by decide +kernel
theorem dL_law_3292 : decode cL_law 3292 = .ok (.aload_n 3, 1) := by decide +kernel
theorem dL_law_3293 : decode cL_law 3293 = .ok (.invokestatic 324, 3) := by decide +kernel
theorem dL_law_3296 : decode cL_law 3296 = .ok (.istore 5, 2) := by decide +kernel
theorem dL_law_3298 : decode cL_law 3298 = .ok (.aload_n 2, 1) := by decide +kernel
theorem dL_law_3299 : decode cL_law 3299 = .ok (.aload_n 0, 1) := by decide +kernel
theorem dL_law_3300 : decode cL_law 3300 = .ok (.iload 4, 2) := by decide +kernel
theorem dL_law_3302 : decode cL_law 3302 = .ok (.iconst 1, 1) := by decide +kernel
theorem dL_law_3303 : decode cL_law 3303 = .ok (.iadd, 1) := by decide +kernel
theorem dL_law_3304 : decode cL_law 3304 = .ok (.iaload, 1) := by decide +kernel
theorem dL_law_3305 : decode cL_law 3305 = .ok (.aload_n 0, 1) := by decide +kernel
theorem dL_law_3306 : decode cL_law 3306 = .ok (.iload 4, 2) := by decide +kernel
theorem dL_law_3308 : decode cL_law 3308 = .ok (.iconst 2, 1) := by decide +kernel
theorem dL_law_3309 : decode cL_law 3309 = .ok (.iadd, 1) := by decide +kernel
theorem dL_law_3310 : decode cL_law 3310 = .ok (.iaload, 1) := by decide +kernel
theorem dL_law_3311 : decode cL_law 3311 = .ok (.aload_n 0, 1) := by decide +kernel
theorem dL_law_3312 : decode cL_law 3312 = .ok (.iload 4, 2) := by decide +kernel
theorem dL_law_3314 : decode cL_law 3314 = .ok (.iconst 3, 1) := by decide +kernel
theorem dL_law_3315 : decode cL_law 3315 = .ok (.iadd, 1) := by decide +kernel
theorem dL_law_3316 : decode cL_law 3316 = .ok (.iaload, 1) := by decide +kernel
theorem dL_law_3317 : decode cL_law 3317 = .ok (.invokevirtual 326, 3) := by decide +kernel
theorem dL_law_3320 : decode cL_law 3320 = .ok (.istore 6, 2) := by decide +kernel
theorem dL_law_3322 : decode cL_law 3322 = .ok (.aload_n 2, 1) := by decide +kernel
theorem dL_law_3323 : decode cL_law 3323 = .ok (.invokevirtual 200, 3) := by decide +kernel
theorem dL_law_3326 : decode cL_law 3326 = .ok (.iload 5, 2) := by decide +kernel
theorem dL_law_3328 : decode cL_law 3328 = .ok (.if_icmp .eq 5, 3) := by decide +kernel
theorem dL_law_3331 : decode cL_law 3331 = .ok (.iconst 0, 1) := by decide +kernel
theorem dL_law_3332 : decode cL_law 3332 = .ok (.ireturn, 1) := by decide +kernel
theorem dL_law_3333 : decode cL_law 3333 = .ok (.iload 5, 2) := by decide +kernel
theorem dL_law_3335 : decode cL_law 3335 = .ok (.ifCond .ne 15, 3) := by decide +kernel
theorem dL_law_3338 : decode cL_law 3338 = .ok (.aload_n 3, 1) := by decide +kernel
theorem dL_law_3339 : decode cL_law 3339 = .ok (.iconst 0, 1) := by decide +kernel
theorem dL_law_3340 : decode cL_law 3340 = .ok (.laload, 1) := by decide +kernel
theorem dL_law_3341 : decode cL_law 3341 = .ok (.iload 6, 2) := by decide +kernel
theorem dL_law_3343 : decode cL_law 3343 = .ok (.i2l, 1) := by decide +kernel
theorem dL_law_3344 : decode cL_law 3344 = .ok (.lcmp, 1) := by decide +kernel
theorem dL_law_3345 : decode cL_law 3345 = .ok (.ifCond .eq 5, 3) := by decide +kernel
theorem dL_law_3348 : decode cL_law 3348 = .ok (.iconst 0, 1) := by decide +kernel
theorem dL_law_3349 : decode cL_law 3349 = .ok (.ireturn, 1) := by decide +kernel
theorem dL_law_3350 : decode cL_law 3350 = .ok (.goto 385, 3) := by decide +kernel
theorem dL_law_3353 : decode cL_law 3353 = .ok (.aload_n 1, 1) := by decide +kernel
theorem dL_law_3354 : decode cL_law 3354 = .ok (.aload_n 0, 1) := by decide +kernel
theorem dL_law_3355 : decode cL_law 3355 = .ok (.iload 4, 2) := by decide +kernel
theorem dL_law_3357 : decode cL_law 3357 = .ok (.iconst 1, 1) := by decide +kernel
theorem dL_law_3358 : decode cL_law 3358 = .ok (.iadd, 1) := by decide +kernel
theorem dL_law_3359 : decode cL_law 3359 = .ok (.iaload, 1) := by decide +kernel
theorem dL_law_3360 : decode cL_law 3360 = .ok (.aload_n 0, 1) := by decide +kernel
theorem dL_law_3361 : decode cL_law 3361 = .ok (.iload 4, 2) := by decide +kernel
theorem dL_law_3363 : decode cL_law 3363 = .ok (.iconst 2, 1) := by decide +kernel
theorem dL_law_3364 : decode cL_law 3364 = .ok (.iadd, 1) := by decide +kernel
theorem dL_law_3365 : decode cL_law 3365 = .ok (.iaload, 1) := by decide +kernel
theorem dL_law_3366 : decode cL_law 3366 = .ok (.aload_n 0, 1) := by decide +kernel
theorem dL_law_3367 : decode cL_law 3367 = .ok (.iload 4, 2) := by decide +kernel
theorem dL_law_3369 : decode cL_law 3369 = .ok (.iconst 3, 1) := by decide +kernel
theorem dL_law_3370 : decode cL_law 3370 = .ok (.iadd, 1) := by decide +kernel
theorem dL_law_3371 : decode cL_law 3371 = .ok (.iaload, 1) := by decide +kernel
theorem dL_law_3372 : decode cL_law 3372 = .ok (.aload_n 0, 1) := by decide +kernel
theorem dL_law_3373 : decode cL_law 3373 = .ok (.iload 4, 2) := by decide +kernel
theorem dL_law_3375 : decode cL_law 3375 = .ok (.iconst 4, 1) := by decide +kernel
theorem dL_law_3376 : decode cL_law 3376 = .ok (.iadd, 1) := by decide +kernel
theorem dL_law_3377 : decode cL_law 3377 = .ok (.iaload, 1) := by decide +kernel
theorem dL_law_3378 : decode cL_law 3378 = .ok (.invokevirtual 327, 3) := by decide +kernel
theorem dL_law_3381 : decode cL_law 3381 = .ok (.aload_n 2, 1) := by decide +kernel
theorem dL_law_3382 : decode cL_law 3382 = .ok (.aload_n 0, 1) := by decide +kernel
theorem dL_law_3383 : decode cL_law 3383 = .ok (.iload 4, 2) := by decide +kernel
theorem dL_law_3385 : decode cL_law 3385 = .ok (.iconst 1, 1) := by decide +kernel
theorem dL_law_3386 : decode cL_law 3386 = .ok (.iadd, 1) := by decide +kernel
theorem dL_law_3387 : decode cL_law 3387 = .ok (.iaload, 1) := by decide +kernel
theorem dL_law_3388 : decode cL_law 3388 = .ok (.aload_n 0, 1) := by decide +kernel
theorem dL_law_3389 : decode cL_law 3389 = .ok (.iload 4, 2) := by decide +kernel
theorem dL_law_3391 : decode cL_law 3391 = .ok (.iconst 2, 1) := by decide +kernel
theorem dL_law_3392 : decode cL_law 3392 = .ok (.iadd, 1) := by decide +kernel
theorem dL_law_3393 : decode cL_law 3393 = .ok (.iaload, 1) := by decide +kernel
theorem dL_law_3394 : decode cL_law 3394 = .ok (.aload_n 0, 1) := by decide +kernel
theorem dL_law_3395 : decode cL_law 3395 = .ok (.iload 4, 2) := by decide +kernel
theorem dL_law_3397 : decode cL_law 3397 = .ok (.iconst 3, 1) := by decide +kernel
theorem dL_law_3398 : decode cL_law 3398 = .ok (.iadd, 1) := by decide +kernel
theorem dL_law_3399 : decode cL_law 3399 = .ok (.iaload, 1) := by decide +kernel
theorem dL_law_3400 : decode cL_law 3400 = .ok (.aload_n 0, 1) := by decide +kernel
theorem dL_law_3401 : decode cL_law 3401 = .ok (.iload 4, 2) := by decide +kernel
theorem dL_law_3403 : decode cL_law 3403 = .ok (.iconst 4, 1) := by decide +kernel
theorem dL_law_3404 : decode cL_law 3404 = .ok (.iadd, 1) := by decide +kernel
theorem dL_law_3405 : decode cL_law 3405 = .ok (.iaload, 1) := by decide +kernel
theorem dL_law_3406 : decode cL_law 3406 = .ok (.invokevirtual 330, 3) := by decide +kernel
theorem dL_law_3409 : decode cL_law 3409 = .ok (.if_icmp .eq 326, 3) := by decide +kernel
theorem dL_law_3412 : decode cL_law 3412 = .ok (.iconst 0, 1) := by decide +kernel
theorem dL_law_3413 : decode cL_law 3413 = .ok (.ireturn, 1) := by decide +kernel
theorem dL_law_3414 : decode cL_law 3414 = .ok (.aload_n 1, 1) := by decide +kernel
theorem dL_law_3415 : decode cL_law 3415 = .ok (.aload_n 0, 1) := by decide +kernel
theorem dL_law_3416 : decode cL_law 3416 = .ok (.iload 4, 2) := by decide +kernel
theorem dL_law_3418 : decode cL_law 3418 = .ok (.iconst 1, 1) := by decide +kernel
theorem dL_law_3419 : decode cL_law 3419 = .ok (.iadd, 1) := by decide +kernel
theorem dL_law_3420 : decode cL_law 3420 = .ok (.iaload, 1) := by decide +kernel
theorem dL_law_3421 : decode cL_law 3421 = .ok (.aload_n 0, 1) := by decide +kernel
theorem dL_law_3422 : decode cL_law 3422 = .ok (.iload 4, 2) := by decide +kernel
theorem dL_law_3424 : decode cL_law 3424 = .ok (.iconst 2, 1) := by decide +kernel
theorem dL_law_3425 : decode cL_law 3425 = .ok (.iadd, 1) := by decide +kernel
theorem dL_law_3426 : decode cL_law 3426 = .ok (.iaload, 1) := by decide +kernel
theorem dL_law_3427 : decode cL_law 3427 = .ok (.aload_n 0, 1) := by decide +kernel
theorem dL_law_3428 : decode cL_law 3428 = .ok (.iload 4, 2) := by decide +kernel
theorem dL_law_3430 : decode cL_law 3430 = .ok (.iconst 3, 1) := by decide +kernel
theorem dL_law_3431 : decode cL_law 3431 = .ok (.iadd, 1) := by decide +kernel
theorem dL_law_3432 : decode cL_law 3432 = .ok (.iaload, 1) := by decide +kernel
theorem dL_law_3433 : decode cL_law 3433 = .ok (.invokevirtual 331, 3) := by decide +kernel
theorem dL_law_3436 : decode cL_law 3436 = .ok (.aload_n 2, 1) := by decide +kernel
theorem dL_law_3437 : decode cL_law 3437 = .ok (.aload_n 0, 1) := by decide +kernel
theorem dL_law_3438 : decode cL_law 3438 = .ok (.iload 4, 2) := by decide +kernel
theorem dL_law_3440 : decode cL_law 3440 = .ok (.iconst 1, 1) := by decide +kernel
theorem dL_law_3441 : decode cL_law 3441 = .ok (.iadd, 1) := by decide +kernel
theorem dL_law_3442 : decode cL_law 3442 = .ok (.iaload, 1) := by decide +kernel
theorem dL_law_3443 : decode cL_law 3443 = .ok (.aload_n 0, 1) := by decide +kernel
theorem dL_law_3444 : decode cL_law 3444 = .ok (.iload 4, 2) := by decide +kernel
theorem dL_law_3446 : decode cL_law 3446 = .ok (.iconst 2, 1) := by decide +kernel
theorem dL_law_3447 : decode cL_law 3447 = .ok (.iadd, 1) := by decide +kernel
theorem dL_law_3448 : decode cL_law 3448 = .ok (.iaload, 1) := by decide +kernel
theorem dL_law_3449 : decode cL_law 3449 = .ok (.aload_n 0, 1) := by decide +kernel
theorem dL_law_3450 : decode cL_law 3450 = .ok (.iload 4, 2) := by decide +kernel
theorem dL_law_3452 : decode cL_law 3452 = .ok (.iconst 3, 1) := by decide +kernel
theorem dL_law_3453 : decode cL_law 3453 = .ok (.iadd, 1) := by decide +kernel
theorem dL_law_3454 : decode cL_law 3454 = .ok (.iaload, 1) := by decide +kernel
theorem dL_law_3455 : decode cL_law 3455 = .ok (.invokevirtual 334, 3) := by decide +kernel
theorem dL_law_3458 : decode cL_law 3458 = .ok (.if_icmp .eq 277, 3) := by decide +kernel
theorem dL_law_3461 : decode cL_law 3461 = .ok (.iconst 0, 1) := by decide +kernel
theorem dL_law_3462 : decode cL_law 3462 = .ok (.ireturn, 1) := by decide +kernel
theorem dL_law_3463 : decode cL_law 3463 = .ok (.aload_n 1, 1) := by decide +kernel
theorem dL_law_3464 : decode cL_law 3464 = .ok (.aload_n 0, 1) := by decide +kernel
theorem dL_law_3465 : decode cL_law 3465 = .ok (.iload 4, 2) := by decide +kernel
theorem dL_law_3467 : decode cL_law 3467 = .ok (.iconst 1, 1) := by decide +kernel
theorem dL_law_3468 : decode cL_law 3468 = .ok (.iadd, 1) := by decide +kernel
theorem dL_law_3469 : decode cL_law 3469 = .ok (.iaload, 1) := by decide +kernel
theorem dL_law_3470 : decode cL_law 3470 = .ok (.aload_n 0, 1) := by decide +kernel
theorem dL_law_3471 : decode cL_law 3471 = .ok (.iload 4, 2) := by decide +kernel
theorem dL_law_3473 : decode cL_law 3473 = .ok (.iconst 2, 1) := by decide +kernel
theorem dL_law_3474 : decode cL_law 3474 = .ok (.iadd, 1) := by decide +kernel
theorem dL_law_3475 : decode cL_law 3475 = .ok (.iaload, 1) := by decide +kernel
theorem dL_law_3476 : decode cL_law 3476 = .ok (.aload_n 0, 1) := by decide +kernel
theorem dL_law_3477 : decode cL_law 3477 = .ok (.iload 4, 2) := by decide +kernel
theorem dL_law_3479 : decode cL_law 3479 = .ok (.iconst 3, 1) := by decide +kernel
theorem dL_law_3480 : decode cL_law 3480 = .ok (.iadd, 1) := by decide +kernel
theorem dL_law_3481 : decode cL_law 3481 = .ok (.iaload, 1) := by decide +kernel
theorem dL_law_3482 : decode cL_law 3482 = .ok (.aload_n 0, 1) := by decide +kernel
theorem dL_law_3483 : decode cL_law 3483 = .ok (.iload 4, 2) := by decide +kernel
theorem dL_law_3485 : decode cL_law 3485 = .ok (.iconst 4, 1) := by decide +kernel
theorem dL_law_3486 : decode cL_law 3486 = .ok (.iadd, 1) := by decide +kernel
theorem dL_law_3487 : decode cL_law 3487 = .ok (.iaload, 1) := by decide +kernel
theorem dL_law_3488 : decode cL_law 3488 = .ok (.invokevirtual 335, 3) := by decide +kernel
theorem dL_law_3491 : decode cL_law 3491 = .ok (.aload_n 2, 1) := by decide +kernel
theorem dL_law_3492 : decode cL_law 3492 = .ok (.aload_n 0, 1) := by decide +kernel
theorem dL_law_3493 : decode cL_law 3493 = .ok (.iload 4, 2) := by decide +kernel
theorem dL_law_3495 : decode cL_law 3495 = .ok (.iconst 1, 1) := by decide +kernel
theorem dL_law_3496 : decode cL_law 3496 = .ok (.iadd, 1) := by decide +kernel
theorem dL_law_3497 : decode cL_law 3497 = .ok (.iaload, 1) := by decide +kernel
theorem dL_law_3498 : decode cL_law 3498 = .ok (.aload_n 0, 1) := by decide +kernel
theorem dL_law_3499 : decode cL_law 3499 = .ok (.iload 4, 2) := by decide +kernel
theorem dL_law_3501 : decode cL_law 3501 = .ok (.iconst 2, 1) := by decide +kernel
theorem dL_law_3502 : decode cL_law 3502 = .ok (.iadd, 1) := by decide +kernel
theorem dL_law_3503 : decode cL_law 3503 = .ok (.iaload, 1) := by decide +kernel
theorem dL_law_3504 : decode cL_law 3504 = .ok (.aload_n 0, 1) := by decide +kernel
theorem dL_law_3505 : decode cL_law 3505 = .ok (.iload 4, 2) := by decide +kernel
theorem dL_law_3507 : decode cL_law 3507 = .ok (.iconst 3, 1) := by decide +kernel
theorem dL_law_3508 : decode cL_law 3508 = .ok (.iadd, 1) := by decide +kernel
theorem dL_law_3509 : decode cL_law 3509 = .ok (.iaload, 1) := by decide +kernel
theorem dL_law_3510 : decode cL_law 3510 = .ok (.aload_n 0, 1) := by decide +kernel
theorem dL_law_3511 : decode cL_law 3511 = .ok (.iload 4, 2) := by decide +kernel
theorem dL_law_3513 : decode cL_law 3513 = .ok (.iconst 4, 1) := by decide +kernel
theorem dL_law_3514 : decode cL_law 3514 = .ok (.iadd, 1) := by decide +kernel
theorem dL_law_3515 : decode cL_law 3515 = .ok (.iaload, 1) := by decide +kernel
theorem dL_law_3516 : decode cL_law 3516 = .ok (.invokevirtual 338, 3) := by decide +kernel
theorem dL_law_3519 : decode cL_law 3519 = .ok (.if_icmp .eq 216, 3) := by decide +kernel
theorem dL_law_3522 : decode cL_law 3522 = .ok (.iconst 0, 1) := by decide +kernel
theorem dL_law_3523 : decode cL_law 3523 = .ok (.ireturn, 1) := by decide +kernel
theorem dL_law_3524 : decode cL_law 3524 = .ok (.aload_n 1, 1) := by decide +kernel
theorem dL_law_3525 : decode cL_law 3525 = .ok (.aload_n 0, 1) := by decide +kernel
theorem dL_law_3526 : decode cL_law 3526 = .ok (.iload 4, 2) := by decide +kernel
theorem dL_law_3528 : decode cL_law 3528 = .ok (.iconst 1, 1) := by decide +kernel
theorem dL_law_3529 : decode cL_law 3529 = .ok (.iadd, 1) := by decide +kernel
theorem dL_law_3530 : decode cL_law 3530 = .ok (.iaload, 1) := by decide +kernel
theorem dL_law_3531 : decode cL_law 3531 = .ok (.aload_n 0, 1) := by decide +kernel
theorem dL_law_3532 : decode cL_law 3532 = .ok (.iload 4, 2) := by decide +kernel
theorem dL_law_3534 : decode cL_law 3534 = .ok (.iconst 2, 1) := by decide +kernel
theorem dL_law_3535 : decode cL_law 3535 = .ok (.iadd, 1) := by decide +kernel
theorem dL_law_3536 : decode cL_law 3536 = .ok (.iaload, 1) := by decide +kernel
theorem dL_law_3537 : decode cL_law 3537 = .ok (.aload_n 0, 1) := by decide +kernel
theorem dL_law_3538 : decode cL_law 3538 = .ok (.iload 4, 2) := by decide +kernel
theorem dL_law_3540 : decode cL_law 3540 = .ok (.iconst 3, 1) := by decide +kernel
theorem dL_law_3541 : decode cL_law 3541 = .ok (.iadd, 1) := by decide +kernel
theorem dL_law_3542 : decode cL_law 3542 = .ok (.iaload, 1) := by decide +kernel
theorem dL_law_3543 : decode cL_law 3543 = .ok (.invokevirtual 339, 3) := by decide +kernel
theorem dL_law_3546 : decode cL_law 3546 = .ok (.aload_n 2, 1) := by decide +kernel
theorem dL_law_3547 : decode cL_law 3547 = .ok (.aload_n 0, 1) := by decide +kernel
theorem dL_law_3548 : decode cL_law 3548 = .ok (.iload 4, 2) := by decide +kernel
theorem dL_law_3550 : decode cL_law 3550 = .ok (.iconst 1, 1) := by decide +kernel
theorem dL_law_3551 : decode cL_law 3551 = .ok (.iadd, 1) := by decide +kernel
theorem dL_law_3552 : decode cL_law 3552 = .ok (.iaload, 1) := by decide +kernel
theorem dL_law_3553 : decode cL_law 3553 = .ok (.aload_n 0, 1) := by decide +kernel
theorem dL_law_3554 : decode cL_law 3554 = .ok (.iload 4, 2) := by decide +kernel
theorem dL_law_3556 : decode cL_law 3556 = .ok (.iconst 2, 1) := by decide +kernel
theorem dL_law_3557 : decode cL_law 3557 = .ok (.iadd, 1) := by decide +kernel
theorem dL_law_3558 : decode cL_law 3558 = .ok (.iaload, 1) := by decide +kernel
theorem dL_law_3559 : decode cL_law 3559 = .ok (.aload_n 0, 1) := by decide +kernel
theorem dL_law_3560 : decode cL_law 3560 = .ok (.iload 4, 2) := by decide +kernel
theorem dL_law_3562 : decode cL_law 3562 = .ok (.iconst 3, 1) := by decide +kernel
theorem dL_law_3563 : decode cL_law 3563 = .ok (.iadd, 1) := by decide +kernel
theorem dL_law_3564 : decode cL_law 3564 = .ok (.iaload, 1) := by decide +kernel
theorem dL_law_3565 : decode cL_law 3565 = .ok (.invokevirtual 342, 3) := by decide +kernel
theorem dL_law_3568 : decode cL_law 3568 = .ok (.if_icmp .eq 167, 3) := by decide +kernel
theorem dL_law_3571 : decode cL_law 3571 = .ok (.iconst 0, 1) := by decide +kernel
theorem dL_law_3572 : decode cL_law 3572 = .ok (.ireturn, 1) := by decide +kernel
theorem dL_law_3573 : decode cL_law 3573 = .ok (.aload_n 1, 1) := by decide +kernel
theorem dL_law_3574 : decode cL_law 3574 = .ok (.aload_n 0, 1) := by decide +kernel
theorem dL_law_3575 : decode cL_law 3575 = .ok (.iload 4, 2) := by decide +kernel
theorem dL_law_3577 : decode cL_law 3577 = .ok (.iconst 1, 1) := by decide +kernel
theorem dL_law_3578 : decode cL_law 3578 = .ok (.iadd, 1) := by decide +kernel
theorem dL_law_3579 : decode cL_law 3579 = .ok (.iaload, 1) := by decide +kernel
theorem dL_law_3580 : decode cL_law 3580 = .ok (.invokevirtual 343, 3) := by decide +kernel
theorem dL_law_3583 : decode cL_law 3583 = .ok (.aload_n 2, 1) := by decide +kernel
theorem dL_law_3584 : decode cL_law 3584 = .ok (.aload_n 0, 1) := by decide +kernel
theorem dL_law_3585 : decode cL_law 3585 = .ok (.iload 4, 2) := by decide +kernel
theorem dL_law_3587 : decode cL_law 3587 = .ok (.iconst 1, 1) := by decide +kernel
theorem dL_law_3588 : decode cL_law 3588 = .ok (.iadd, 1) := by decide +kernel
theorem dL_law_3589 : decode cL_law 3589 = .ok (.iaload, 1) := by decide +kernel
theorem dL_law_3590 : decode cL_law 3590 = .ok (.invokevirtual 346, 3) := by decide +kernel
theorem dL_law_3593 : decode cL_law 3593 = .ok (.if_icmp .eq 142, 3) := by decide +kernel
theorem dL_law_3596 : decode cL_law 3596 = .ok (.iconst 0, 1) := by decide +kernel
theorem dL_law_3597 : decode cL_law 3597 = .ok (.ireturn, 1) := by decide +kernel
theorem dL_law_3598 : decode cL_law 3598 = .ok (.aload_n 1, 1) := by decide +kernel
theorem dL_law_3599 : decode cL_law 3599 = .ok (.invokevirtual 347, 3) := by decide +kernel
theorem dL_law_3602 : decode cL_law 3602 = .ok (.aload_n 2, 1) := by decide +kernel
theorem dL_law_3603 : decode cL_law 3603 = .ok (.invokevirtual 350, 3) := by decide +kernel
theorem dL_law_3606 : decode cL_law 3606 = .ok (.if_icmp .eq 129, 3) := by decide +kernel
theorem dL_law_3609 : decode cL_law 3609 = .ok (.iconst 0, 1) := by decide +kernel
theorem dL_law_3610 : decode cL_law 3610 = .ok (.ireturn, 1) := by decide +kernel
theorem dL_law_3611 : decode cL_law 3611 = .ok (.aload_n 1, 1) := by decide +kernel
theorem dL_law_3612 : decode cL_law 3612 = .ok (.aload_n 0, 1) := by decide +kernel
theorem dL_law_3613 : decode cL_law 3613 = .ok (.iload 4, 2) := by decide +kernel
theorem dL_law_3615 : decode cL_law 3615 = .ok (.iconst 1, 1) := by decide +kernel
theorem dL_law_3616 : decode cL_law 3616 = .ok (.iadd, 1) := by decide +kernel
theorem dL_law_3617 : decode cL_law 3617 = .ok (.iaload, 1) := by decide +kernel
theorem dL_law_3618 : decode cL_law 3618 = .ok (.aload_n 0, 1) := by decide +kernel
theorem dL_law_3619 : decode cL_law 3619 = .ok (.iload 4, 2) := by decide +kernel
theorem dL_law_3621 : decode cL_law 3621 = .ok (.iconst 2, 1) := by decide +kernel
theorem dL_law_3622 : decode cL_law 3622 = .ok (.iadd, 1) := by decide +kernel
theorem dL_law_3623 : decode cL_law 3623 = .ok (.iaload, 1) := by decide +kernel
theorem dL_law_3624 : decode cL_law 3624 = .ok (.invokevirtual 351, 3) := by decide +kernel
theorem dL_law_3627 : decode cL_law 3627 = .ok (.aload_n 2, 1) := by decide +kernel
theorem dL_law_3628 : decode cL_law 3628 = .ok (.aload_n 0, 1) := by decide +kernel
theorem dL_law_3629 : decode cL_law 3629 = .ok (.iload 4, 2) := by decide +kernel
theorem dL_law_3631 : decode cL_law 3631 = .ok (.iconst 1, 1) := by decide +kernel
theorem dL_law_3632 : decode cL_law 3632 = .ok (.iadd, 1) := by decide +kernel
theorem dL_law_3633 : decode cL_law 3633 = .ok (.iaload, 1) := by decide +kernel
theorem dL_law_3634 : decode cL_law 3634 = .ok (.aload_n 0, 1) := by decide +kernel
theorem dL_law_3635 : decode cL_law 3635 = .ok (.iload 4, 2) := by decide +kernel
theorem dL_law_3637 : decode cL_law 3637 = .ok (.iconst 2, 1) := by decide +kernel
theorem dL_law_3638 : decode cL_law 3638 = .ok (.iadd, 1) := by decide +kernel
theorem dL_law_3639 : decode cL_law 3639 = .ok (.iaload, 1) := by decide +kernel
theorem dL_law_3640 : decode cL_law 3640 = .ok (.invokevirtual 354, 3) := by decide +kernel
theorem dL_law_3643 : decode cL_law 3643 = .ok (.if_icmp .eq 92, 3) := by decide +kernel
theorem dL_law_3646 : decode cL_law 3646 = .ok (.iconst 0, 1) := by decide +kernel
theorem dL_law_3647 : decode cL_law 3647 = .ok (.ireturn, 1) := by decide +kernel
theorem dL_law_3648 : decode cL_law 3648 = .ok (.aload_n 1, 1) := by decide +kernel
theorem dL_law_3649 : decode cL_law 3649 = .ok (.aload_n 0, 1) := by decide +kernel
theorem dL_law_3650 : decode cL_law 3650 = .ok (.iload 4, 2) := by decide +kernel
theorem dL_law_3652 : decode cL_law 3652 = .ok (.iconst 1, 1) := by decide +kernel
theorem dL_law_3653 : decode cL_law 3653 = .ok (.iadd, 1) := by decide +kernel
theorem dL_law_3654 : decode cL_law 3654 = .ok (.iaload, 1) := by decide +kernel
theorem dL_law_3655 : decode cL_law 3655 = .ok (.aload_n 0, 1) := by decide +kernel
theorem dL_law_3656 : decode cL_law 3656 = .ok (.iload 4, 2) := by decide +kernel
theorem dL_law_3658 : decode cL_law 3658 = .ok (.iconst 2, 1) := by decide +kernel
theorem dL_law_3659 : decode cL_law 3659 = .ok (.iadd, 1) := by decide +kernel
theorem dL_law_3660 : decode cL_law 3660 = .ok (.iaload, 1) := by decide +kernel
theorem dL_law_3661 : decode cL_law 3661 = .ok (.invokevirtual 355, 3) := by decide +kernel
theorem dL_law_3664 : decode cL_law 3664 = .ok (.aload_n 2, 1) := by decide +kernel
theorem dL_law_3665 : decode cL_law 3665 = .ok (.aload_n 0, 1) := by decide +kernel
theorem dL_law_3666 : decode cL_law 3666 = .ok (.iload 4, 2) := by decide +kernel
theorem dL_law_3668 : decode cL_law 3668 = .ok (.iconst 1, 1) := by decide +kernel
theorem dL_law_3669 : decode cL_law 3669 = .ok (.iadd, 1) := by decide +kernel
theorem dL_law_3670 : decode cL_law 3670 = .ok (.iaload, 1) := by decide +kernel
theorem dL_law_3671 : decode cL_law 3671 = .ok (.aload_n 0, 1) := by decide +kernel
theorem dL_law_3672 : decode cL_law 3672 = .ok (.iload 4, 2) := by decide +kernel
theorem dL_law_3674 : decode cL_law 3674 = .ok (.iconst 2, 1) := by decide +kernel
theorem dL_law_3675 : decode cL_law 3675 = .ok (.iadd, 1) := by decide +kernel
theorem dL_law_3676 : decode cL_law 3676 = .ok (.iaload, 1) := by decide +kernel
theorem dL_law_3677 : decode cL_law 3677 = .ok (.invokevirtual 358, 3) := by decide +kernel
theorem dL_law_3680 : decode cL_law 3680 = .ok (.if_icmp .eq 55, 3) := by decide +kernel
theorem dL_law_3683 : decode cL_law 3683 = .ok (.iconst 0, 1) := by decide +kernel
theorem dL_law_3684 : decode cL_law 3684 = .ok (.ireturn, 1) := by decide +kernel
theorem dL_law_3685 : decode cL_law 3685 = .ok (.aload_n 1, 1) := by decide +kernel
theorem dL_law_3686 : decode cL_law 3686 = .ok (.aload_n 0, 1) := by decide +kernel
theorem dL_law_3687 : decode cL_law 3687 = .ok (.iload 4, 2) := by decide +kernel
theorem dL_law_3689 : decode cL_law 3689 = .ok (.iconst 1, 1) := by decide +kernel
theorem dL_law_3690 : decode cL_law 3690 = .ok (.iadd, 1) := by decide +kernel
theorem dL_law_3691 : decode cL_law 3691 = .ok (.iaload, 1) := by decide +kernel
theorem dL_law_3692 : decode cL_law 3692 = .ok (.aload_n 0, 1) := by decide +kernel
theorem dL_law_3693 : decode cL_law 3693 = .ok (.iload 4, 2) := by decide +kernel
theorem dL_law_3695 : decode cL_law 3695 = .ok (.iconst 2, 1) := by decide +kernel
theorem dL_law_3696 : decode cL_law 3696 = .ok (.iadd, 1) := by decide +kernel
theorem dL_law_3697 : decode cL_law 3697 = .ok (.iaload, 1) := by decide +kernel
theorem dL_law_3698 : decode cL_law 3698 = .ok (.invokevirtual 359, 3) := by decide +kernel
theorem dL_law_3701 : decode cL_law 3701 = .ok (.aload_n 2, 1) := by decide +kernel
theorem dL_law_3702 : decode cL_law 3702 = .ok (.aload_n 0, 1) := by decide +kernel
theorem dL_law_3703 : decode cL_law 3703 = .ok (.iload 4, 2) := by decide +kernel
theorem dL_law_3705 : decode cL_law 3705 = .ok (.iconst 1, 1) := by decide +kernel
theorem dL_law_3706 : decode cL_law 3706 = .ok (.iadd, 1) := by decide +kernel
theorem dL_law_3707 : decode cL_law 3707 = .ok (.iaload, 1) := by decide +kernel
theorem dL_law_3708 : decode cL_law 3708 = .ok (.aload_n 0, 1) := by decide +kernel
theorem dL_law_3709 : decode cL_law 3709 = .ok (.iload 4, 2) := by decide +kernel
theorem dL_law_3711 : decode cL_law 3711 = .ok (.iconst 2, 1) := by decide +kernel
theorem dL_law_3712 : decode cL_law 3712 = .ok (.iadd, 1) := by decide +kernel
theorem dL_law_3713 : decode cL_law 3713 = .ok (.iaload, 1) := by decide +kernel
theorem dL_law_3714 : decode cL_law 3714 = .ok (.invokevirtual 362, 3) := by decide +kernel
theorem dL_law_3717 : decode cL_law 3717 = .ok (.if_icmp .eq 18, 3) := by decide +kernel
theorem dL_law_3720 : decode cL_law 3720 = .ok (.iconst 0, 1) := by decide +kernel
theorem dL_law_3721 : decode cL_law 3721 = .ok (.ireturn, 1) := by decide +kernel
theorem dL_law_3722 : decode cL_law 3722 = .ok (.aload_n 1, 1) := by decide +kernel
theorem dL_law_3723 : decode cL_law 3723 = .ok (.invokevirtual 363, 3) := by decide +kernel
theorem dL_law_3726 : decode cL_law 3726 = .ok (.aload_n 2, 1) := by decide +kernel
theorem dL_law_3727 : decode cL_law 3727 = .ok (.invokevirtual 366, 3) := by decide +kernel
theorem dL_law_3730 : decode cL_law 3730 = .ok (.if_icmp .eq 5, 3) := by decide +kernel
theorem dL_law_3733 : decode cL_law 3733 = .ok (.iconst 0, 1) := by decide +kernel
theorem dL_law_3734 : decode cL_law 3734 = .ok (.ireturn, 1) := by decide +kernel
theorem dL_law_3735 : decode cL_law 3735 = .ok (.iinc 4 6, 3) := by decide +kernel
theorem dL_law_3738 : decode cL_law 3738 = .ok (.goto (-3715), 3) := by decide +kernel
theorem dL_law_3741 : decode cL_law 3741 = .ok (.iconst 1, 1) := by decide +kernel
theorem dL_law_3742 : decode cL_law 3742 = .ok (.ireturn, 1) := by decide +kernel
