theorem qL_law_3045 : decode (mB mL_law) 3045 = .ok (.iload 4, 2) := by decide +kernel
theorem qL_law_3047 : decode (mB mL_law) 3047 = .ok (.iconst 2, 1) := by decide +kernel
theorem qL_law_3048 : decode (mB mL_law) 3048 = .ok (.iadd, 1) := by decide +kernel
theorem qL_law_3049 : decode (mB mL_law) 3049 = .ok (.iaload, 1) := by decide +kernel
theorem qL_law_3050 : decode (mB mL_law) 3050 = .ok (.invokevirtual 366, 3) := by decide +kernel
theorem qL_law_3053 : decode (mB mL_law) 3053 = .ok (.istore 6, 2) := by decide +kernel
theorem qL_law_3055 : decode (mB mL_law) 3055 = .ok (.aload_n 2, 1) := by decide +kernel
theorem qL_law_3056 : decode (mB mL_law) 3056 = .ok (.invokevirtual 180, 3) := by decide +kernel
theorem qL_law_3059 : decode (mB mL_law) 3059 = .ok (.iload 5, 2) := by decide +kernel
theorem qL_law_3061 : decode (mB mL_law) 3061 = .ok (.if_icmp .eq 5, 3) := by decide +kernel
theorem qL_law_3064 : decode (mB mL_law) 3064 = .ok (.iconst 0, 1) := by decide +kernel
theorem qL_law_3065 : decode (mB mL_law) 3065 = .ok (.ireturn, 1) := by decide +kernel
theorem qL_law_3066 : decode (mB mL_law) 3066 = .ok (.iload 5, 2) := by decide +kernel
theorem qL_law_3068 : decode (mB mL_law) 3068 = .ok (.ifCond .ne 15, 3) := by decide +kernel
theorem qL_law_3071 : decode (mB mL_law) 3071 = .ok (.aload_n 3, 1) := by decide +kernel
theorem qL_law_3072 : decode (mB mL_law) 3072 = .ok (.iconst 0, 1) := by decide +kernel
theorem qL_law_3073 : decode (mB mL_law) 3073 = .ok (.laload, 1) := by decide +kernel
theorem qL_law_3074 : decode (mB mL_law) 3074 = .ok (.iload 6, 2) := by decide +kernel
theorem qL_law_3076 : decode (mB mL_law) 3076 = .ok (.i2l, 1) := by decide +kernel
theorem qL_law_3077 : decode (mB mL_law) 3077 = .ok (.lcmp, 1) := by decide +kernel
theorem qL_law_3078 : decode (mB mL_law) 3078 = .ok (.ifCond .eq 5, 3) := by decide +kernel
theorem qL_law_3081 : decode (mB mL_law) 3081 = .ok (.iconst 0, 1) := by decide +kernel
theorem qL_law_3082 : decode (mB mL_law) 3082 = .ok (.ireturn, 1) := by decide +kernel
theorem qL_law_3083 : decode (mB mL_law) 3083 = .ok (.goto 474, 3) := by decide +kernel
theorem qL_law_3086 : decode (mB mL_law) 3086 = .ok (.aload_n 1, 1) := by decide +kernel
theorem qL_law_3087 : decode (mB mL_law) 3087 = .ok (.aload_n 0, 1) := by decide +kernel
theorem qL_law_3088 : decode (mB mL_law) 3088 = .ok (.iload 4, 2) := by decide +kernel
theorem qL_law_3090 : decode (mB mL_law) 3090 = .ok (.iconst 1, 1) := by decide +kernel
theorem qL_law_3091 : decode (mB mL_law) 3091 = .ok (.iadd, 1) := by decide +kernel
theorem qL_law_3092 : decode (mB mL_law) 3092 = .ok (.iaload, 1) := by decide +kernel
theorem qL_law_3093 : decode (mB mL_law) 3093 = .ok (.aload_n 3, 1) := by decide +kernel
theorem qL_law_3094 : decode (mB mL_law) 3094 = .ok (.invokestatic 367, 3) := by decide +kernel
theorem qL_law_3097 : decode (mB mL_law) 3097 = .ok (.istore 5, 2) := by decide +kernel
theorem qL_law_3099 : decode (mB mL_law) 3099 = .ok (.aload_n 2, 1) := by decide +kernel
theorem qL_law_3100 : decode (mB mL_law) 3100 = .ok (.aload_n 0, 1) := by decide +kernel
theorem qL_law_3101 : decode (mB mL_law) 3101 = .ok (.iload 4, 2) := by decide +kernel
theorem qL_law_3103 : decode (mB mL_law) 3103 = .ok (.iconst 1, 1) := by decide +kernel
theorem qL_law_3104 : decode (mB mL_law) 3104 = .ok (.iadd, 1) := by decide +kernel
theorem qL_law_3105 : decode (mB mL_law) 3105 = .ok (.iaload, 1) := by decide +kernel
theorem qL_law_3106 : decode (mB mL_law) 3106 = .ok (.invokevirtual 369, 3) := by decide +kernel
theorem qL_law_3109 : decode (mB mL_law) 3109 = .ok (.istore 6, 2) := by decide +kernel
theorem qL_law_3111 : decode (mB mL_law) 3111 = .ok (.aload_n 2, 1) := by decide +kernel
theorem qL_law_3112 : decode (mB mL_law) 3112 = .ok (.invokevirtual 180, 3) := by decide +kernel
theorem qL_law_3115 : decode (mB mL_law) 3115 = .ok (.iload 5, 2) := by decide +kernel
theorem qL_law_3117 : decode (mB mL_law) 3117 = .ok (.if_icmp .eq 5, 3) := by decide +kernel
theorem qL_law_3120 : decode (mB mL_law) 3120 = .ok (.iconst 0, 1) := by decide +kernel
theorem qL_law_3121 : decode (mB mL_law) 3121 = .ok (.ireturn, 1) := by decide +kernel
theorem qL_law_3122 : decode (mB mL_law) 3122 = .ok (.iload 5, 2) := by decide +kernel
theorem qL_law_3124 : decode (mB mL_law) 3124 = .ok (.ifCond .ne 15, 3) := by decide +kernel
theorem qL_law_3127 : decode (mB mL_law) 3127 = .ok (.aload_n 3, 1) := by decide +kernel
theorem qL_law_3128 : decode (mB mL_law) 3128 = .ok (.iconst 0, 1) := by decide +kernel
theorem qL_law_3129 : decode (mB mL_law) 3129 = .ok (.laload, 1) := by decide +kernel
theorem qL_law_3130 : decode (mB mL_law) 3130 = .ok (.iload 6, 2) := by decide +kernel
theorem qL_law_3132 : decode (mB mL_law) 3132 = .ok (.i2l, 1) := by decide +kernel
theorem qL_law_3133 : decode (mB mL_law) 3133 = .ok (.lcmp, 1) := by decide +kernel
theorem qL_law_3134 : decode (mB mL_law) 3134 = .ok (.ifCond .eq 5, 3) := by decide +kernel
theorem qL_law_3137 : decode (mB mL_law) 3137 = .ok (.iconst 0, 1) := by decide +kernel
theorem qL_law_3138 : decode (mB mL_law) 3138 = .ok (.ireturn, 1) := by decide +kernel
theorem qL_law_3139 : decode (mB mL_law) 3139 = .ok (.goto 418, 3) := by decide +kernel
theorem qL_law_3142 : decode (mB mL_law) 3142 = .ok (.aload_n 1, 1) := by decide +kernel
theorem qL_law_3143 : decode (mB mL_law) 3143 = .ok (.aload_n 0, 1) := by decide +kernel
theorem qL_law_3144 : decode (mB mL_law) 3144 = .ok (.iload 4, 2) := by decide +kernel
theorem qL_law_3146 : decode (mB mL_law) 3146 = .ok (.iconst 1, 1) := by decide +kernel
theorem qL_law_3147 : decode (mB mL_law) 3147 = .ok (.iadd, 1) := by decide +kernel
theorem qL_law_3148 : decode (mB mL_law) 3148 = .ok (.iaload, 1) := by decide +kernel
theorem qL_law_3149 : decode (mB mL_law) 3149 = .ok (.aload_n 0, 1) := by decide +kernel
theorem qL_law_3150 : decode (mB mL_law) 3150 = .ok (.iload 4, 2) := by decide +kernel
theorem qL_law_3152 : decode (mB mL_law) 3152 = .ok (.iconst 2, 1) := by decide +kernel
theorem qL_law_3153 : decode (mB mL_law) 3153 = .ok (.iadd, 1) := by decide +kernel
theorem qL_law_3154 : decode (mB mL_law) 3154 = .ok (.iaload, 1) := by decide +kernel
theorem qL_law_3155 : decode (mB mL_law) 3155 = .ok (.ifCond .eq 7, 3) := by decide +kernel
theorem qL_law_3158 : decode (mB mL_law) 3158 = .ok (.iconst 1, 1) := by decide +kernel
theorem qL_law_3159 : decode (mB mL_law) 3159 = .ok (.goto 4, 3) := by decide +kernel
theorem qL_law_3162 : decode (mB mL_law) 3162 = .ok (.iconst 0, 1) := by decide +kernel
theorem qL_law_3163 : decode (mB mL_law) 3163 = .ok (.aload_n 3, 1) := by decide +kernel
theorem qL_law_3164 : decode (mB mL_law) 3164 = .ok (.invokestatic 370, 3) := by decide +kernel
theorem qL_law_3167 : decode (mB mL_law) 3167 = .ok (.istore 5, 2) := by decide +kernel
theorem qL_law_3169 : decode (mB mL_law) 3169 = .ok (.aload_n 2, 1) := by decide +kernel
theorem qL_law_3170 : decode (mB mL_law) 3170 = .ok (.aload_n 0, 1) := by decide +kernel
theorem qL_law_3171 : decode (mB mL_law) 3171 = .ok (.iload 4, 2) := by decide +kernel
theorem qL_law_3173 : decode (mB mL_law) 3173 = .ok (.iconst 1, 1) := by decide +kernel
theorem qL_law_3174 : decode (mB mL_law) 3174 = .ok (.iadd, 1) := by decide +kernel
theorem qL_law_3175 : decode (mB mL_law) 3175 = .ok (.iaload, 1) := by decide +kernel
theorem qL_law_3176 : decode (mB mL_law) 3176 = .ok (.aload_n 0, 1) := by decide +kernel
theorem qL_law_3177 : decode (mB mL_law) 3177 = .ok (.iload 4, 2) := by decide +kernel
theorem qL_law_3179 : decode (mB mL_law) 3179 = .ok (.iconst 2, 1) := by decide +kernel
theorem qL_law_3180 : decode (mB mL_law) 3180 = .ok (.iadd, 1) := by decide +kernel
theorem qL_law_3181 : decode (mB mL_law) 3181 = .ok (.iaload, 1) := by decide +kernel
theorem qL_law_3182 : decode (mB mL_law) 3182 = .ok (.ifCond .eq 7, 3) := by decide +kernel
theorem qL_law_3185 : decode (mB mL_law) 3185 = .ok (.iconst 1, 1) := by decide +kernel
theorem qL_law_3186 : decode (mB mL_law) 3186 = .ok (.goto 4, 3) := by decide +kernel
theorem qL_law_3189 : decode (mB mL_law) 3189 = .ok (.iconst 0, 1) := by decide +kernel
theorem qL_law_3190 : decode (mB mL_law) 3190 = .ok (.invokevirtual 373, 3) := by decide +kernel
theorem qL_law_3193 : decode (mB mL_law) 3193 = .ok (.istore 6, 2) := by decide +kernel
theorem qL_law_3195 : decode (mB mL_law) 3195 = .ok (.aload_n 2, 1) := by decide +kernel
theorem qL_law_3196 : decode (mB mL_law) 3196 = .ok (.invokevirtual 180, 3) := by decide +kernel
theorem qL_law_3199 : decode (mB mL_law) 3199 = .ok (.iload 5, 2) := by decide +kernel
theorem qL_law_3201 : decode (mB mL_law) 3201 = .ok (.if_icmp .eq 5, 3) := by decide +kernel
theorem qL_law_3204 : decode (mB mL_law) 3204 = .ok (.iconst 0, 1) := by decide +kernel
theorem qL_law_3205 : decode (mB mL_law) 3205 = .ok (.ireturn, 1) := by decide +kernel
theorem qL_law_3206 : decode (mB mL_law) 3206 = .ok (.iload 5, 2) := by decide +kernel
theorem qL_law_3208 : decode (mB mL_law) 3208 = .ok (.ifCond .ne 22, 3) := by decide +kernel
theorem qL_law_3211 : decode (mB mL_law) 3211 = .ok (.aload_n 3, 1) := by decide +kernel
theorem qL_law_3212 : decode (mB mL_law) 3212 = .ok (.iconst 0, 1) := by decide +kernel
theorem qL_law_3213 : decode (mB mL_law) 3213 = .ok (.laload, 1) := by decide +kernel
theorem qL_law_3214 : decode (mB mL_law) 3214 = .ok (.iload 6, 2) := by decide +kernel
theorem qL_law_3216 : decode (mB mL_law) 3216 = .ok (.ifCond .eq 7, 3) := by decide +kernel
theorem qL_law_3219 : decode (mB mL_law) 3219 = .ok (.lconst 1, 1) := by decide +kernel
theorem qL_law_3220 : decode (mB mL_law) 3220 = .ok (.goto 4, 3) := by decide +kernel
theorem qL_law_3223 : decode (mB mL_law) 3223 = .ok (.lconst 0, 1) := by decide +kernel
theorem qL_law_3224 : decode (mB mL_law) 3224 = .ok (.lcmp, 1) := by decide +kernel
theorem qL_law_3225 : decode (mB mL_law) 3225 = .ok (.ifCond .eq 5, 3) := by decide +kernel
theorem qL_law_3228 : decode (mB mL_law) 3228 = .ok (.iconst 0, 1) := by decide +kernel
theorem qL_law_3229 : decode (mB mL_law) 3229 = .ok (.ireturn, 1) := by decide +kernel
theorem qL_law_3230 : decode (mB mL_law) 3230 = .ok (.goto 327, 3) := by decide +kernel
theorem qL_law_3233 : decode (mB mL_law) 3233 = .ok (.aload_n 1, 1) := by decide +kernel
theorem qL_law_3234 : decode (mB mL_law) 3234 = .ok (.aload_n 0, 1) := by decide +kernel
theorem qL_law_3235 : decode (mB mL_law) 3235 = .ok (.iload 4, 2) := by decide +kernel
theorem qL_law_3237 : decode (mB mL_law) 3237 = .ok (.iconst 1, 1) := by decide +kernel
theorem qL_law_3238 : decode (mB mL_law) 3238 = .ok (.iadd, 1) := by decide +kernel
theorem qL_law_3239 : decode (mB mL_law) 3239 = .ok (.iaload, 1) := by decide +kernel
theorem qL_law_3240 : decode (mB mL_law) 3240 = .ok (.aload_n 3, 1) := by decide +kernel
theorem qL_law_3241 : decode (mB mL_law) 3241 = .ok (.invokestatic 374, 3) := by decide +kernel
theorem qL_law_3244 : decode (mB mL_law) 3244 = .ok (.istore 5, 2) := by decide +kernel
theorem qL_law_3246 : decode (mB mL_law) 3246 = .ok (.aload_n 2, 1) := by decide +kernel
theorem qL_law_3247 : decode (mB mL_law) 3247 = .ok (.aload_n 0, 1) := by decide +kernel
theorem qL_law_3248 : decode (mB mL_law) 3248 = .ok (.iload 4, 2) := by decide +kernel
theorem qL_law_3250 : decode (mB mL_law) 3250 = .ok (.iconst 1, 1) := by decide +kernel
theorem qL_law_3251 : decode (mB mL_law) 3251 = .ok (.iadd, 1) := by decide +kernel
theorem qL_law_3252 : decode (mB mL_law) 3252 = .ok (.iaload, 1) := by decide +kernel
theorem qL_law_3253 : decode (mB mL_law) 3253 = .ok (.invokevirtual 376, 3) := by decide +kernel
theorem qL_law_3256 : decode (mB mL_law) 3256 = .ok (.istore 6, 2) := by decide +kernel
theorem qL_law_3258 : decode (mB mL_law) 3258 = .ok (.aload_n 2, 1) := by decide +kernel
theorem qL_law_3259 : decode (mB mL_law) 3259 = .ok (.invokevirtual 180, 3) := by decide +kernel
theorem qL_law_3262 : decode (mB mL_law) 3262 = .ok (.iload 5, 2) := by decide +kernel
theorem qL_law_3264 : decode (mB mL_law) 3264 = .ok (.if_icmp .eq 5, 3) := by decide +kernel
theorem qL_law_3267 : decode (mB mL_law) 3267 = .ok (.iconst 0, 1) := by decide +kernel
theorem qL_law_3268 : decode (mB mL_law) 3268 = .ok (.ireturn, 1) := by decide +kernel
theorem qL_law_3269 : decode (mB mL_law) 3269 = .ok (.iload 5, 2) := by decide +kernel
theorem qL_law_3271 : decode (mB mL_law) 3271 = .ok (.ifCond .ne 15, 3) := by decide +kernel
theorem qL_law_3274 : decode (mB mL_law) 3274 = .ok (.aload_n 3, 1) := by decide +kernel
theorem qL_law_3275 : decode (mB mL_law) 3275 = .ok (.iconst 0, 1) := by decide +kernel
theorem qL_law_3276 : decode (mB mL_law) 3276 = .ok (.laload, 1) := by decide +kernel
theorem qL_law_3277 : decode (mB mL_law) 3277 = .ok (.iload 6, 2) := by decide +kernel
theorem qL_law_3279 : decode (mB mL_law) 3279 = .ok (.i2l, 1) := by decide +kernel
theorem qL_law_3280 : decode (mB mL_law) 3280 = .ok (.lcmp, 1) := by decide +kernel
theorem qL_law_3281 : decode (mB mL_law) 3281 = .ok (.ifCond .eq 5, 3) := by decide +kernel
theorem qL_law_3284 : decode (mB mL_law) 3284 = .ok (.iconst 0, 1) := by decide +kernel
theorem qL_law_3285 : decode (mB mL_law) 3285 = .ok (.ireturn, 1) := by decide +kernel
theorem qL_law_3286 : decode (mB mL_law) 3286 = .ok (.goto 271, 3) := by decide +kernel
theorem qL_law_3289 : decode (mB mL_law) 3289 = .ok (.aload_n 1, 1) := by decide +kernel
theorem qL_law_3290 : decode (mB mL_law) 3290 = .ok (.aload_n 0, 1) := by decide +kernel
theorem qL_law_3291 : decode (mB mL_law) 3291 = .ok (.iload 4, 2) := by decide +kernel
theorem qL_law_3293 : decode (mB mL_law) 3293 = .ok (.iconst 1, 1) := by decide +kernel
theorem qL_law_3294 : decode (mB mL_law) 3294 = .ok (.iadd, 1) := by decide +kernel
theorem qL_law_3295 : decode (mB mL_law) 3295 = .ok (.iaload, 1) := by decide +kernel
theorem qL_law_3296 : decode (mB mL_law) 3296 = .ok (.aload_n 3, 1) := by decide +kernel
theorem qL_law_3297 : decode (mB mL_law) 3297 = .ok (.invokestatic 377, 3) := by decide +kernel
theorem qL_law_3300 : decode (mB mL_law) 3300 = .ok (.istore 5, 2) := by decide +kernel
theorem qL_law_3302 : decode (mB mL_law) 3302 = .ok (.aload_n 2, 1) := by decide +kernel
theorem qL_law_3303 : decode (mB mL_law) 3303 = .ok (.aload_n 0, 1) := by decide +kernel
theorem qL_law_3304 : decode (mB mL_law) 3304 = .ok (.iload 4, 2) := by decide +kernel
theorem qL_law_3306 : decode (mB mL_law) 3306 = .ok (.iconst 1, 1) := by decide +kernel
theorem qL_law_3307 : decode (mB mL_law) 3307 = .ok (.iadd, 1) := by decide +kernel
theorem qL_law_3308 : decode (mB mL_law) 3308 = .ok (.iaload, 1) := by decide +kernel
theorem qL_law_3309 : decode (mB mL_law) 3309 = .ok (.invokevirtual 379, 3) := by decide +kernel
theorem qL_law_3312 : decode (mB mL_law) 3312 = .ok (.istore 6, 2) := by decide +kernel
theorem qL_law_3314 : decode (mB mL_law) 3314 = .ok (.aload_n 2, 1) := by decide +kernel
theorem qL_law_3315 : decode (mB mL_law) 3315 = .ok (.invokevirtual 180, 3) := by decide +kernel
theorem qL_law_3318 : decode (mB mL_law) 3318 = .ok (.iload 5, 2) := by decide +kernel
theorem qL_law_3320 : decode (mB mL_law) 3320 = .ok (.if_icmp .eq 5, 3) := by decide +kernel
theorem qL_law_3323 : decode (mB mL_law) 3323 = .ok (.iconst 0, 1) := by decide +kernel
theorem qL_law_3324 : decode (mB mL_law) 3324 = .ok (.ireturn, 1) := by decide +kernel
theorem qL_law_3325 : decode (mB mL_law) 3325 = .ok (.iload 5, 2) := by decide +kernel
theorem qL_law_3327 : decode (mB mL_law) 3327 = .ok (.ifCond .ne 15, 3) := by decide +kernel
theorem qL_law_3330 : decode (mB mL_law) 3330 = .ok (.aload_n 3, 1) := by decide +kernel
theorem qL_law_3331 : decode (mB mL_law) 3331 = .ok (.iconst 0, 1) := by decide +kernel
theorem qL_law_3332 : decode (mB mL_law) 3332 = .ok (.laload, 1) := by decide +kernel
theorem qL_law_3333 : decode (mB mL_law) 3333 = .ok (.iload 6, 2) := by decide +kernel
theorem qL_law_3335 : decode (mB mL_law) 3335 = .ok (.i2l, 1) := by decide +kernel
theorem qL_law_3336 : decode (mB mL_law) 3336 = .ok (.lcmp, 1) := by decide +kernel
theorem qL_law_3337 : decode (mB mL_law) 3337 = .ok (.ifCond .eq 5, 3) := by decide +kernel
theorem qL_law_3340 : decode (mB mL_law) 3340 = .ok (.iconst 0, 1) := by decide +kernel
theorem qL_law_3341 : decode (mB mL_law) 3341 = .ok (.ireturn, 1) := by decide +kernel
theorem qL_law_3342 : decode (mB mL_law) 3342 = .ok (.goto 215, 3) := by decide +kernel
theorem qL_law_3345 : decode (mB mL_law) 3345 = .ok (.aload_n 1, 1) := by decide +kernel
theorem qL_law_3346 : decode (mB mL_law) 3346 = .ok (.aload_n 0, 1) := by decide +kernel
theorem qL_law_3347 : decode (mB mL_law) 3347 = .ok (.iload 4, 2) := by decide +kernel
theorem qL_law_3349 : decode (mB mL_law) 3349 = .ok (.iconst 1, 1) := by decide +kernel
theorem qL_law_3350 : decode (mB mL_law) 3350 = .ok (.iadd, 1) := by decide +kernel
theorem qL_law_3351 : decode (mB mL_law) 3351 = .ok (.iaload, 1) := by decide +kernel
theorem qL_law_3352 : decode (mB mL_law) 3352 = .ok (.aload_n 3, 1) := by decide +kernel
theorem qL_law_3353 : decode (mB mL_law) 3353 = .ok (.invokestatic 380, 3) := by decide +kernel
theorem qL_law_3356 : decode (mB mL_law) 3356 = .ok (.istore 5, 2) := by decide +kernel
theorem qL_law_3358 : decode (mB mL_law) 3358 = .ok (.aload_n 2, 1) := by decide +kernel
theorem qL_law_3359 : decode (mB mL_law) 3359 = .ok (.aload_n 0, 1) := by decide +kernel
theorem qL_law_3360 : decode (mB mL_law) 3360 = .ok (.iload 4, 2) := by decide +kernel
theorem qL_law_3362 : decode (mB mL_law) 3362 = .ok (.iconst 1, 1) := by decide +kernel
theorem qL_law_3363 : decode (mB mL_law) 3363 = .ok (.iadd, 1) := by decide +kernel
theorem qL_law_3364 : decode (mB mL_law) 3364 = .ok (.iaload, 1) := by decide +kernel
theorem qL_law_3365 : decode (mB mL_law) 3365 = .ok (.invokevirtual 382, 3) := by decide +kernel
theorem qL_law_3368 : decode (mB mL_law) 3368 = .ok (.istore 6, 2) := by decide +kernel
theorem qL_law_3370 : decode (mB mL_law) 3370 = .ok (.aload_n 2, 1) := by decide +kernel
theorem qL_law_3371 : decode (mB mL_law) 3371 = .ok (.invokevirtual 180, 3) := by decide +kernel
theorem qL_law_3374 : decode (mB mL_law) 3374 = .ok (.iload 5, 2) := by decide +kernel
theorem qL_law_3376 : decode (mB mL_law) 3376 = .ok (.if_icmp .eq 5, 3) := by decide +kernel
theorem qL_law_3379 : decode (mB mL_law) 3379 = .ok (.iconst 0, 1) := by decide +kernel
theorem qL_law_3380 : decode (mB mL_law) 3380 = .ok (.ireturn, 1) := by decide +kernel
theorem qL_law_3381 : decode (mB mL_law) 3381 = .ok (.iload 5, 2) := by decide +kernel
theorem qL_law_3383 : decode (mB mL_law) 3383 = .ok (.ifCond .ne 15, 3) := by decide +kernel
theorem qL_law_3386 : decode (mB mL_law) 3386 = .ok (.aload_n 3, 1) := by decide +kernel
theorem qL_law_3387 : decode (mB mL_law) 3387 = .ok (.iconst 0, 1) := by decide +kernel
theorem qL_law_3388 : decode (mB mL_law) 3388 = .ok (.laload, 1) := by decide +kernel
theorem qL_law_3389 : decode (mB mL_law) 3389 = .ok (.iload 6, 2) := by decide +kernel
theorem qL_law_3391 : decode (mB mL_law) 3391 = .ok (.i2l, 1) := by decide +kernel
theorem qL_law_3392 : decode (mB mL_law) 3392 = .ok (.lcmp, 1) := by decide +kernel
theorem qL_law_3393 : decode (mB mL_law) 3393 = .ok (.ifCond .eq 5, 3) := by decide +kernel
theorem qL_law_3396 : decode (mB mL_law) 3396 = .ok (.iconst 0, 1) := by decide +kernel
theorem qL_law_3397 : decode (mB mL_law) 3397 = .ok (.ireturn, 1) := by decide +kernel
theorem qL_law_3398 : decode (mB mL_law) 3398 = .ok (.goto 159, 3) := by decide +kernel
theorem qL_law_3401 : decode (mB mL_law) 3401 = .ok (.aload_n 1, 1) := by decide +kernel
theorem qL_law_3402 : decode (mB mL_law) 3402 = .ok (.aload_n 3, 1) := by decide +kernel
theorem qL_law_3403 : decode (mB mL_law) 3403 = .ok (.invokestatic 383, 3) := by decide +kernel
theorem qL_law_3406 : decode (mB mL_law) 3406 = .ok (.istore 5, 2) := by decide +kernel
theorem qL_law_3408 : decode (mB mL_law) 3408 = .ok (.aload_n 2, 1) := by decide +kernel
theorem qL_law_3409 : decode (mB mL_law) 3409 = .ok (.invokevirtual 386, 3) := by decide +kernel
theorem qL_law_3412 : decode (mB mL_law) 3412 = .ok (.istore 6, 2) := by decide +kernel
theorem qL_law_3414 : decode (mB mL_law) 3414 = .ok (.aload_n 2, 1) := by decide +kernel
theorem qL_law_3415 : decode (mB mL_law) 3415 = .ok (.invokevirtual 180, 3) := by decide +kernel
theorem qL_law_3418 : decode (mB mL_law) 3418 = .ok (.iload 5, 2) := by decide +kernel
theorem qL_law_3420 : decode (mB mL_law) 3420 = .ok (.if_icmp .eq 5, 3) := by decide +kernel
theorem qL_law_3423 : decode (mB mL_law) 3423 = .ok (.iconst 0, 1) := by decide +kernel
theorem qL_law_3424 : decode (mB mL_law) 3424 = .ok (.ireturn, 1) := by decide +kernel
theorem qL_law_3425 : decode (mB mL_law) 3425 = .ok (.iload 5, 2) := by decide +kernel
theorem qL_law_3427 : decode (mB mL_law) 3427 = .ok (.ifCond .ne 15, 3) := by decide +kernel
theorem qL_law_3430 : decode (mB mL_law) 3430 = .ok (.aload_n 3, 1) := by decide +kernel
theorem qL_law_3431 : decode (mB mL_law) 3431 = .ok (.iconst 0, 1) := by decide +kernel
theorem qL_law_3432 : decode (mB mL_law) 3432 = .ok (.laload, 1) := by decide +kernel
theorem qL_law_3433 : decode (mB mL_law) 3433 = .ok (.iload 6, 2) := by decide +kernel
theorem qL_law_3435 : decode (mB mL_law) 3435 = .ok (.i2l, 1) := by decide +kernel
theorem qL_law_3436 : decode (mB mL_law) 3436 = .ok (.lcmp, 1) := by decide +kernel
theorem qL_law_3437 : decode (mB mL_law) 3437 = .ok (.ifCond .eq 5, 3) := by decide +kernel
theorem qL_law_3440 : decode (mB mL_law) 3440 = .ok (.iconst 0, 1) := by decide +kernel
theorem qL_law_3441 : decode (mB mL_law) 3441 = .ok (.ireturn, 1) := by decide +kernel
theorem qL_law_3442 : decode (mB mL_law) 3442 = .ok (.goto 115, 3) := by decide +kernel
theorem qL_law_3445 : decode (mB mL_law) 3445 = .ok (.aload_n 1, 1) := by decide +kernel
theorem qL_law_3446 : decode (mB mL_law) 3446 = .ok (.aload_n 0, 1) := by decide +kernel
theorem qL_law_3447 : decode (mB mL_law) 3447 = .ok (.iload 4, 2) := by decide +kernel
theorem qL_law_3449 : decode (mB mL_law) 3449 = .ok (.iconst 1, 1) := by decide +kernel
theorem qL_law_3450 : decode (mB mL_law) 3450 = .ok (.iadd, 1) := by decide +kernel
theorem qL_law_3451 : decode (mB mL_law) 3451 = .ok (.iaload, 1) := by decide +kernel
theorem qL_law_3452 : decode (mB mL_law) 3452 = .ok (.aload_n 3, 1) := by decide +kernel
theorem qL_law_3453 : decode (mB mL_law) 3453 = .ok (.invokestatic 387, 3) := by decide +kernel
theorem qL_law_3456 : decode (mB mL_law) 3456 = .ok (.istore 5, 2) := by decide +kernel
theorem qL_law_3458 : decode (mB mL_law) 3458 = .ok (.aload_n 2, 1) := by decide +kernel
theorem qL_law_3459 : decode (mB mL_law) 3459 = .ok (.aload_n 0, 1) := by decide +kernel
theorem qL_law_3460 : decode (mB mL_law) 3460 = .ok (.iload 4, 2) := by decide +kernel
theorem qL_law_3462 : decode (mB mL_law) 3462 = .ok (.iconst 1, 1) := by decide +kernel
theorem qL_law_3463 : decode (mB mL_law) 3463 = .ok (.iadd, 1) := by decide +kernel
theorem qL_law_3464 : decode (mB mL_law) 3464 = .ok (.iaload, 1) := by decide +kernel
theorem qL_law_3465 : decode (mB mL_law) 3465 = .ok (.invokevirtual 389, 3) := by decide +kernel
theorem qL_law_3468 : decode (mB mL_law) 3468 = .ok (.istore 6, 2) := by decide +kernel
theorem qL_law_3470 : decode (mB mL_law) 3470 = .ok (.aload_n 2, 1) := by decide +kernel
theorem qL_law_3471 : decode (mB mL_law) 3471 = .ok (.invokevirtual 180, 3) := by decide +kernel
theorem qL_law_3474 : decode (mB mL_law) 3474 = .ok (.iload 5, 2) := by decide +kernel
theorem qL_law_3476 : decode (mB mL_law) 3476 = .ok (.if_icmp .eq 5, 3) := by decide +kernel
theorem qL_law_3479 : decode (mB mL_law) 3479 = .ok (.iconst 0, 1) := by decide +kernel
theorem qL_law_3480 : decode (mB mL_law) 3480 = .ok (.ireturn, 1) := by decide +kernel
theorem qL_law_3481 : decode (mB mL_law) 3481 = .ok (.iload 5, 2) := by decide +kernel
theorem qL_law_3483 : decode (mB mL_law) 3483 = .ok (.ifCond .ne 15, 3) := by decide +kernel
theorem qL_law_3486 : decode (mB mL_law) 3486 = .ok (.aload_n 3, 1) := by decide +kernel
theorem qL_law_3487 : decode (mB mL_law) 3487 = .ok (.iconst 0, 1) := by decide +kernel
theorem qL_law_3488 : decode (mB mL_law) 3488 = .ok (.laload, 1) := by decide +kernel
theorem qL_law_3489 : decode (mB mL_law) 3489 = .ok (.iload 6, 2) := by decide +kernel
theorem qL_law_3491 : decode (mB mL_law) 3491 = .ok (.i2l, 1) := by decide +kernel
theorem qL_law_3492 : decode (mB mL_law) 3492 = .ok (.lcmp, 1) := by decide +kernel
theorem qL_law_3493 : decode (mB mL_law) 3493 = .ok (.ifCond .eq 5, 3) := by decide +kernel
theorem qL_law_3496 : decode (mB mL_law) 3496 = .ok (.iconst 0, 1) := by decide +kernel
theorem qL_law_3497 : decode (mB mL_law) 3497 = .ok (.ireturn, 1) := by decide +kernel
theorem qL_law_3498 : decode (mB mL_law) 3498 = .ok (.goto 59, 3) := by decide +kernel
theorem qL_law_3501 : decode (mB mL_law) 3501 = .ok (.aload_n 1, 1) := by decide +kernel
theorem qL_law_3502 : decode (mB mL_law) 3502 = .ok (.aload_n 0, 1) := by decide +kernel
theorem qL_law_3503 : decode (mB mL_law) 3503 = .ok (.iload 4, 2) := by decide +kernel
theorem qL_law_3505 : decode (mB mL_law) 3505 = .ok (.iconst 1, 1) := by decide +kernel
theorem qL_law_3506 : decode (mB mL_law) 3506 = .ok (.iadd, 1) := by decide +kernel
theorem qL_law_3507 : decode (mB mL_law) 3507 = .ok (.iaload, 1) := by decide +kernel
theorem qL_law_3508 : decode (mB mL_law) 3508 = .ok (.aload_n 3, 1) := by decide +kernel
theorem qL_law_3509 : decode (mB mL_law) 3509 = .ok (.invokestatic 390, 3) := by decide +kernel
theorem qL_law_3512 : decode (mB mL_law) 3512 = .ok (.istore 5, 2) := by decide +kernel
theorem qL_law_3514 : decode (mB mL_law) 3514 = .ok (.aload_n 2, 1) := by decide +kernel
theorem qL_law_3515 : decode (mB mL_law) 3515 = .ok (.aload_n 0, 1) := by decide +kernel
theorem qL_law_3516 : decode (mB mL_law) 3516 = .ok (.iload 4, 2) := by decide +kernel
theorem qL_law_3518 : decode (mB mL_law) 3518 = .ok (.iconst 1, 1) := by decide +kernel
theorem qL_law_3519 : decode (mB mL_law) 3519 = .ok (.iadd, 1) := by decide +kernel
theorem qL_law_3520 : decode (mB mL_law) 3520 = .ok (.iaload, 1) := by decide +kernel
theorem qL_law_3521 : decode (mB mL_law) 3521 = .ok (.invokevirtual 392, 3) := by decide +kernel
theorem qL_law_3524 : decode (mB mL_law) 3524 = .ok (.istore 6, 2) := by decide +kernel
theorem qL_law_3526 : decode (mB mL_law) 3526 = .ok (.aload_n 2, 1) := by decide +kernel
theorem qL_law_3527 : decode (mB mL_law) 3527 = .ok (.invokevirtual 180, 3) := by decide +kernel
theorem qL_law_3530 : decode (mB mL_law) 3530 = .ok (.iload 5, 2) := by decide +kernel
theorem qL_law_3532 : decode (mB mL_law) 3532 = .ok (.if_icmp .eq 5, 3) := by decide +kernel
theorem qL_law_3535 : decode (mB mL_law) 3535 = .ok (.iconst 0, 1) := by decide +kernel
theorem qL_law_3536 : decode (mB mL_law) 3536 = .ok (.ireturn, 1) := by decide +kernel
theorem qL_law_3537 : decode (mB mL_law) 3537 = .ok (.iload 5, 2) := by decide +kernel
theorem qL_law_3539 : decode (mB mL_law) 3539 = .ok (.ifCond .ne 15, 3) := by decide +kernel
theorem qL_law_3542 : decode (mB mL_law) 3542 = .ok (.aload_n 3, 1) := by decide +kernel
theorem qL_law_3543 : decode (mB mL_law) 3543 = .ok (.iconst 0, 1) := by decide +kernel
theorem qL_law_3544 : decode (mB mL_law) 3544 = .ok (.laload, 1) := by decide +kernel
theorem qL_law_3545 : decode (mB mL_law) 3545 = .ok (.iload 6, 2) := by decide +kernel
theorem qL_law_3547 : decode (mB mL_law) 3547 = .ok (.i2l, 1) := by decide +kernel
theorem qL_law_3548 : decode (mB mL_law) 3548 = .ok (.lcmp, 1) := by decide +kernel
theorem qL_law_3549 : decode (mB mL_law) 3549 = .ok (.ifCond .eq 5, 3) := by decide +kernel
theorem qL_law_3552 : decode (mB mL_law) 3552 = .ok (.iconst 0, 1) := by decide +kernel
theorem qL_law_3553 : decode (mB mL_law) 3553 = .ok (.ireturn, 1) := by decide +kernel
theorem qL_law_3554 : decode (mB mL_law) 3554 = .ok (.goto 3, 3) := by decide +kernel
theorem qL_law_3557 : decode (mB mL_law) 3557 = .ok (.iinc 4 6, 3) := by decide +kernel
theorem qL_law_3560 : decode (mB mL_law) 3560 = .ok (.goto (-3537), 3) := by decide +kernel
theorem qL_law_3563 : decode (mB mL_law) 3563 = .ok (.iconst 1, 1) := by decide +kernel
theorem qL_law_3564 : decode (mB mL_law) 3564 = .ok (.ireturn, 1) := by decide +kernel

