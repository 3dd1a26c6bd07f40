/-! the law's instructions, part 8 -/
theorem d_L_law_3162 : decode y_L_law.2.1 3162 = .ok (.iload 5, 2) := by decide +kernel
theorem d_L_law_3164 : decode y_L_law.2.1 3164 = .ok (.if_icmp .eq 5, 3) := by decide +kernel
theorem d_L_law_3167 : decode y_L_law.2.1 3167 = .ok (.iconst 0, 1) := by decide +kernel
theorem d_L_law_3168 : decode y_L_law.2.1 3168 = .ok (.ireturn, 1) := by decide +kernel
theorem d_L_law_3169 : decode y_L_law.2.1 3169 = .ok (.iload 5, 2) := by decide +kernel
theorem d_L_law_3171 : decode y_L_law.2.1 3171 = .ok (.ifCond .ne 15, 3) := by decide +kernel
theorem d_L_law_3174 : decode y_L_law.2.1 3174 = .ok (.aload_n 3, 1) := by decide +kernel
theorem d_L_law_3175 : decode y_L_law.2.1 3175 = .ok (.iconst 0, 1) := by decide +kernel
theorem d_L_law_3176 : decode y_L_law.2.1 3176 = .ok (.laload, 1) := by decide +kernel
theorem d_L_law_3177 : decode y_L_law.2.1 3177 = .ok (.iload 6, 2) := by decide +kernel
theorem d_L_law_3179 : decode y_L_law.2.1 3179 = .ok (.i2l, 1) := by decide +kernel
theorem d_L_law_3180 : decode y_L_law.2.1 3180 = .ok (.lcmp, 1) := by decide +kernel
theorem d_L_law_3181 : decode y_L_law.2.1 3181 = .ok (.ifCond .eq 5, 3) := by decide +kernel
theorem d_L_law_3184 : decode y_L_law.2.1 3184 = .ok (.iconst 0, 1) := by decide +kernel
theorem d_L_law_3185 : decode y_L_law.2.1 3185 = .ok (.ireturn, 1) := by decide +kernel
theorem d_L_law_3186 : decode y_L_law.2.1 3186 = .ok (.goto 683, 3) := by decide +kernel
theorem d_L_law_3189 : decode y_L_law.2.1 3189 = .ok (.aload_n 1, 1) := by decide +kernel
theorem d_L_law_3190 : decode y_L_law.2.1 3190 = .ok (.aload_n 0, 1) := by decide +kernel
theorem d_L_law_3191 : decode y_L_law.2.1 3191 = .ok (.iload 4, 2) := by decide +kernel
theorem d_L_law_3193 : decode y_L_law.2.1 3193 = .ok (.iconst 1, 1) := by decide +kernel
theorem d_L_law_3194 : decode y_L_law.2.1 3194 = .ok (.iadd, 1) := by decide +kernel
theorem d_L_law_3195 : decode y_L_law.2.1 3195 = .ok (.iaload, 1) := by decide +kernel
theorem d_L_law_3196 : decode y_L_law.2.1 3196 = .ok (.aload_n 0, 1) := by decide +kernel
theorem d_L_law_3197 : decode y_L_law.2.1 3197 = .ok (.iload 4, 2) := by decide +kernel
theorem d_L_law_3199 : decode y_L_law.2.1 3199 = .ok (.iconst 2, 1) := by decide +kernel
theorem d_L_law_3200 : decode y_L_law.2.1 3200 = .ok (.iadd, 1) := by decide +kernel
theorem d_L_law_3201 : decode y_L_law.2.1 3201 = .ok (.iaload, 1) := by decide +kernel
theorem d_L_law_3202 : decode y_L_law.2.1 3202 = .ok (.aload_n 0, 1) := by decide +kernel
theorem d_L_law_3203 : decode y_L_law.2.1 3203 = .ok (.iload 4, 2) := by decide +kernel
theorem d_L_law_3205 : decode y_L_law.2.1 3205 = .ok (.iconst 3, 1) := by decide +kernel
theorem d_L_law_3206 : decode y_L_law.2.1 3206 = .ok (.iadd, 1) := by decide +kernel
theorem d_L_law_3207 : decode y_L_law.2.1 3207 = .ok (.iaload, 1) := by decide +kernel
theorem d_L_law_3208 : decode y_L_law.2.1 3208 = .ok (.aload_n 0, 1) := by decide +kernel
theorem d_L_law_3209 : decode y_L_law.2.1 3209 = .ok (.iload 4, 2) := by decide +kernel
theorem d_L_law_3211 : decode y_L_law.2.1 3211 = .ok (.iconst 4, 1) := by decide +kernel
theorem d_L_law_3212 : decode y_L_law.2.1 3212 = .ok (.iadd, 1) := by decide +kernel
theorem d_L_law_3213 : decode y_L_law.2.1 3213 = .ok (.iaload, 1) := by decide +kernel
theorem d_L_law_3214 : decode y_L_law.2.1 3214 = .ok (.aload_n 0, 1) := by decide +kernel
theorem d_L_law_3215 : decode y_L_law.2.1 3215 = .ok (.iload 4, 2) := by decide +kernel
theorem d_L_law_3217 : decode y_L_law.2.1 3217 = .ok (.iconst 5, 1) := by decide +kernel
theorem d_L_law_3218 : decode y_L_law.2.1 3218 = .ok (.iadd, 1) := by decide +kernel
theorem d_L_law_3219 : decode y_L_law.2.1 3219 = .ok (.iaload, 1) := by decide +kernel
theorem d_L_law_3220 : decode y_L_law.2.1 3220 = .ok (.aload_n 0, 1) := by decide +kernel
theorem d_L_law_3221 : decode y_L_law.2.1 3221 = .ok (.iload 4, 2) := by decide +kernel
theorem d_L_law_3223 : decode y_L_law.2.1 3223 = .ok (.bipush 6, 2) := by decide +kernel
theorem d_L_law_3225 : decode y_L_law.2.1 3225 = .ok (.iadd, 1) := by decide +kernel
theorem d_L_law_3226 : decode y_L_law.2.1 3226 = .ok (.iaload, 1) := by decide +kernel
theorem d_L_law_3227 : decode y_L_law.2.1 3227 = .ok (.aload_n 0, 1) := by decide +kernel
theorem d_L_law_3228 : decode y_L_law.2.1 3228 = .ok (.iload 4, 2) := by decide +kernel
theorem d_L_law_3230 : decode y_L_law.2.1 3230 = .ok (.bipush 7, 2) := by decide +kernel
theorem d_L_law_3232 : decode y_L_law.2.1 3232 = .ok (.iadd, 1) := by decide +kernel
theorem d_L_law_3233 : decode y_L_law.2.1 3233 = .ok (.iaload, 1) := by decide +kernel
theorem d_L_law_3234 : decode y_L_law.2.1 3234 = .ok (.aload_n 3, 1) := by decide +kernel
theorem d_L_law_3235 : decode y_L_law.2.1 3235 = .ok (.invokestatic 262, 3) := by decide +kernel
theorem d_L_law_3238 : decode y_L_law.2.1 3238 = .ok (.istore 5, 2) := by decide +kernel
theorem d_L_law_3240 : decode y_L_law.2.1 3240 = .ok (.aload_n 2, 1) := by decide +kernel
theorem d_L_law_3241 : decode y_L_law.2.1 3241 = .ok (.aload_n 0, 1) := by decide +kernel
theorem d_L_law_3242 : decode y_L_law.2.1 3242 = .ok (.iload 4, 2) := by decide +kernel
theorem d_L_law_3244 : decode y_L_law.2.1 3244 = .ok (.iconst 1, 1) := by decide +kernel
theorem d_L_law_3245 : decode y_L_law.2.1 3245 = .ok (.iadd, 1) := by decide +kernel
theorem d_L_law_3246 : decode y_L_law.2.1 3246 = .ok (.iaload, 1) := by decide +kernel
theorem d_L_law_3247 : decode y_L_law.2.1 3247 = .ok (.aload_n 0, 1) := by decide +kernel
theorem d_L_law_3248 : decode y_L_law.2.1 3248 = .ok (.iload 4, 2) := by decide +kernel
theorem d_L_law_3250 : decode y_L_law.2.1 3250 = .ok (.iconst 2, 1) := by decide +kernel
theorem d_L_law_3251 : decode y_L_law.2.1 3251 = .ok (.iadd, 1) := by decide +kernel
theorem d_L_law_3252 : decode y_L_law.2.1 3252 = .ok (.iaload, 1) := by decide +kernel
theorem d_L_law_3253 : decode y_L_law.2.1 3253 = .ok (.aload_n 0, 1) := by decide +kernel
theorem d_L_law_3254 : decode y_L_law.2.1 3254 = .ok (.iload 4, 2) := by decide +kernel
theorem d_L_law_3256 : decode y_L_law.2.1 3256 = .ok (.iconst 3, 1) := by decide +kernel
theorem d_L_law_3257 : decode y_L_law.2.1 3257 = .ok (.iadd, 1) := by decide +kernel
theorem d_L_law_3258 : decode y_L_law.2.1 3258 = .ok (.iaload, 1) := by decide +kernel
theorem d_L_law_3259 : decode y_L_law.2.1 3259 = .ok (.aload_n 0, 1) := by decide +kernel
theorem d_L_law_3260 : decode y_L_law.2.1 3260 = .ok (.iload 4, 2) := by decide +kernel
theorem d_L_law_3262 : decode y_L_law.2.1 3262 = .ok (.iconst 4, 1) := by decide +kernel
theorem d_L_law_3263 : decode y_L_law.2.1 3263 = .ok (.iadd, 1) := by decide +kernel
theorem d_L_law_3264 : decode y_L_law.2.1 3264 = .ok (.iaload, 1) := by decide +kernel
theorem d_L_law_3265 : decode y_L_law.2.1 3265 = .ok (.aload_n 0, 1) := by decide +kernel
theorem d_L_law_3266 : decode y_L_law.2.1 3266 = .ok (.iload 4, 2) := by decide +kernel
theorem d_L_law_3268 : decode y_L_law.2.1 3268 = .ok (.iconst 5, 1) := by decide +kernel
theorem d_L_law_3269 : decode y_L_law.2.1 3269 = .ok (.iadd, 1) := by decide +kernel
theorem d_L_law_3270 : decode y_L_law.2.1 3270 = .ok (.iaload, 1) := by decide +kernel
theorem d_L_law_3271 : decode y_L_law.2.1 3271 = .ok (.aload_n 0, 1) := by decide +kernel
theorem d_L_law_3272 : decode y_L_law.2.1 3272 = .ok (.iload 4, 2) := by decide +kernel
theorem d_L_law_3274 : decode y_L_law.2.1 3274 = .ok (.bipush 6, 2) := by decide +kernel
theorem d_L_law_3276 : decode y_L_law.2.1 3276 = .ok (.iadd, 1) := by decide +kernel
theorem d_L_law_3277 : decode y_L_law.2.1 3277 = .ok (.iaload, 1) := by decide +kernel
theorem d_L_law_3278 : decode y_L_law.2.1 3278 = .ok (.aload_n 0, 1) := by decide +kernel
theorem d_L_law_3279 : decode y_L_law.2.1 3279 = .ok (.iload 4, 2) := by decide +kernel
theorem d_L_law_3281 : decode y_L_law.2.1 3281 = .ok (.bipush 7, 2) := by decide +kernel
theorem d_L_law_3283 : decode y_L_law.2.1 3283 = .ok (.iadd, 1) := by decide +kernel
theorem d_L_law_3284 : decode y_L_law.2.1 3284 = .ok (.iaload, 1) := by decide +kernel
theorem d_L_law_3285 : decode y_L_law.2.1 3285 = .ok (.invokevirtual 265, 3) := by decide +kernel
theorem d_L_law_3288 : decode y_L_law.2.1 3288 = .ok (.istore 6, 2) := by decide +kernel
theorem d_L_law_3290 : decode y_L_law.2.1 3290 = .ok (.aload_n 2, 1) := by decide +kernel
theorem d_L_law_3291 : decode y_L_law.2.1 3291 = .ok (.invokevirtual 156, 3) := by decide +kernel
theorem d_L_law_3294 : decode y_L_law.2.1 3294 = .ok (.iload 5, 2) := by decide +kernel
theorem d_L_law_3296 : decode y_L_law.2.1 3296 = .ok (.if_icmp .eq 5, 3) := by decide +kernel
theorem d_L_law_3299 : decode y_L_law.2.1 3299 = .ok (.iconst 0, 1) := by decide +kernel
theorem d_L_law_3300 : decode y_L_law.2.1 3300 = .ok (.ireturn, 1) := by decide +kernel
theorem d_L_law_3301 : decode y_L_law.2.1 3301 = .ok (.iload 5, 2) := by decide +kernel
theorem d_L_law_3303 : decode y_L_law.2.1 3303 = .ok (.ifCond .ne 15, 3) := by decide +kernel
theorem d_L_law_3306 : decode y_L_law.2.1 3306 = .ok (.aload_n 3, 1) := by decide +kernel
theorem d_L_law_3307 : decode y_L_law.2.1 3307 = .ok (.iconst 0, 1) := by decide +kernel
theorem d_L_law_3308 : decode y_L_law.2.1 3308 = .ok (.laload, 1) := by decide +kernel
theorem d_L_law_3309 : decode y_L_law.2.1 3309 = .ok (.iload 6, 2) := by decide +kernel
theorem d_L_law_3311 : decode y_L_law.2.1 3311 = .ok (.i2l, 1) := by decide +kernel
theorem d_L_law_3312 : decode y_L_law.2.1 3312 = .ok (.lcmp, 1) := by decide +kernel
theorem d_L_law_3313 : decode y_L_law.2.1 3313 = .ok (.ifCond .eq 5, 3) := by decide +kernel
theorem d_L_law_3316 : decode y_L_law.2.1 3316 = .ok (.iconst 0, 1) := by decide +kernel
theorem d_L_law_3317 : decode y_L_law.2.1 3317 = .ok (.ireturn, 1) := by decide +kernel
theorem d_L_law_3318 : decode y_L_law.2.1 3318 = .ok (.goto 551, 3) := by decide +kernel
theorem d_L_law_3321 : decode y_L_law.2.1 3321 = .ok (.aload_n 1, 1) := by decide +kernel
theorem d_L_law_3322 : decode y_L_law.2.1 3322 = .ok (.aload_n 0, 1) := by decide +kernel
theorem d_L_law_3323 : decode y_L_law.2.1 3323 = .ok (.iload 4, 2) := by decide +kernel
theorem d_L_law_3325 : decode y_L_law.2.1 3325 = .ok (.iconst 1, 1) := by decide +kernel
theorem d_L_law_3326 : decode y_L_law.2.1 3326 = .ok (.iadd, 1) := by decide +kernel
theorem d_L_law_3327 : decode y_L_law.2.1 3327 = .ok (.iaload, 1) := by decide +kernel
theorem d_L_law_3328 : decode y_L_law.2.1 3328 = .ok (.aload_n 0, 1) := by decide +kernel
theorem d_L_law_3329 : decode y_L_law.2.1 3329 = .ok (.iload 4, 2) := by decide +kernel
theorem d_L_law_3331 : decode y_L_law.2.1 3331 = .ok (.iconst 2, 1) := by decide +kernel
theorem d_L_law_3332 : decode y_L_law.2.1 3332 = .ok (.iadd, 1) := by decide +kernel
theorem d_L_law_3333 : decode y_L_law.2.1 3333 = .ok (.iaload, 1) := by decide +kernel
theorem d_L_law_3334 : decode y_L_law.2.1 3334 = .ok (.aload_n 0, 1) := by decide +kernel
theorem d_L_law_3335 : decode y_L_law.2.1 3335 = .ok (.iload 4, 2) := by decide +kernel
theorem d_L_law_3337 : decode y_L_law.2.1 3337 = .ok (.iconst 3, 1) := by decide +kernel
theorem d_L_law_3338 : decode y_L_law.2.1 3338 = .ok (.iadd, 1) := by decide +kernel
theorem d_L_law_3339 : decode y_L_law.2.1 3339 = .ok (.iaload, 1) := by decide +kernel
theorem d_L_law_3340 : decode y_L_law.2.1 3340 = .ok (.ifCond .eq 7, 3) := by decide +kernel
theorem d_L_law_3343 : decode y_L_law.2.1 3343 = .ok (.iconst 1, 1) := by decide +kernel
theorem d_L_law_3344 : decode y_L_law.2.1 3344 = .ok (.goto 4, 3) := by decide +kernel
theorem d_L_law_3347 : decode y_L_law.2.1 3347 = .ok (.iconst 0, 1) := by decide +kernel
theorem d_L_law_3348 : decode y_L_law.2.1 3348 = .ok (.aload_n 3, 1) := by decide +kernel
theorem d_L_law_3349 : decode y_L_law.2.1 3349 = .ok (.invokestatic 266, 3) := by decide +kernel
theorem d_L_law_3352 : decode y_L_law.2.1 3352 = .ok (.istore 5, 2) := by decide +kernel
theorem d_L_law_3354 : decode y_L_law.2.1 3354 = .ok (.aload_n 2, 1) := by decide +kernel
theorem d_L_law_3355 : decode y_L_law.2.1 3355 = .ok (.aload_n 0, 1) := by decide +kernel
theorem d_L_law_3356 : decode y_L_law.2.1 3356 = .ok (.iload 4, 2) := by decide +kernel
theorem d_L_law_3358 : decode y_L_law.2.1 3358 = .ok (.iconst 1, 1) := by decide +kernel
theorem d_L_law_3359 : decode y_L_law.2.1 3359 = .ok (.iadd, 1) := by decide +kernel
theorem d_L_law_3360 : decode y_L_law.2.1 3360 = .ok (.iaload, 1) := by decide +kernel
theorem d_L_law_3361 : decode y_L_law.2.1 3361 = .ok (.aload_n 0, 1) := by decide +kernel
theorem d_L_law_3362 : decode y_L_law.2.1 3362 = .ok (.iload 4, 2) := by decide +kernel
theorem d_L_law_3364 : decode y_L_law.2.1 3364 = .ok (.iconst 2, 1) := by decide +kernel
theorem d_L_law_3365 : decode y_L_law.2.1 3365 = .ok (.iadd, 1) := by decide +kernel
theorem d_L_law_3366 : decode y_L_law.2.1 3366 = .ok (.iaload, 1) := by decide +kernel
theorem d_L_law_3367 : decode y_L_law.2.1 3367 = .ok (.aload_n 0, 1) := by decide +kernel
theorem d_L_law_3368 : decode y_L_law.2.1 3368 = .ok (.iload 4, 2) := by decide +kernel
theorem d_L_law_3370 : decode y_L_law.2.1 3370 = .ok (.iconst 3, 1) := by decide +kernel
theorem d_L_law_3371 : decode y_L_law.2.1 3371 = .ok (.iadd, 1) := by decide +kernel
theorem d_L_law_3372 : decode y_L_law.2.1 3372 = .ok (.iaload, 1) := by decide +kernel
theorem d_L_law_3373 : decode y_L_law.2.1 3373 = .ok (.ifCond .eq 7, 3) := by decide +kernel
theorem d_L_law_3376 : decode y_L_law.2.1 3376 = .ok (.iconst 1, 1) := by decide +kernel
theorem d_L_law_3377 : decode y_L_law.2.1 3377 = .ok (.goto 4, 3) := by decide +kernel
theorem d_L_law_3380 : decode y_L_law.2.1 3380 = .ok (.iconst 0, 1) := by decide +kernel
theorem d_L_law_3381 : decode y_L_law.2.1 3381 = .ok (.invokevirtual 269, 3) := by decide +kernel
theorem d_L_law_3384 : decode y_L_law.2.1 3384 = .ok (.istore 6, 2) := by decide +kernel
theorem d_L_law_3386 : decode y_L_law.2.1 3386 = .ok (.aload_n 2, 1) := by decide +kernel
theorem d_L_law_3387 : decode y_L_law.2.1 3387 = .ok (.invokevirtual 156, 3) := by decide +kernel
theorem d_L_law_3390 : decode y_L_law.2.1 3390 = .ok (.iload 5, 2) := by decide +kernel
theorem d_L_law_3392 : decode y_L_law.2.1 3392 = .ok (.if_icmp .eq 5, 3) := by decide +kernel
theorem d_L_law_3395 : decode y_L_law.2.1 3395 = .ok (.iconst 0, 1) := by decide +kernel
theorem d_L_law_3396 : decode y_L_law.2.1 3396 = .ok (.ireturn, 1) := by decide +kernel
theorem d_L_law_3397 : decode y_L_law.2.1 3397 = .ok (.iload 5, 2) := by decide +kernel
theorem d_L_law_3399 : decode y_L_law.2.1 3399 = .ok (.ifCond .ne 15, 3) := by decide +kernel
theorem d_L_law_3402 : decode y_L_law.2.1 3402 = .ok (.aload_n 3, 1) := by decide +kernel
theorem d_L_law_3403 : decode y_L_law.2.1 3403 = .ok (.iconst 0, 1) := by decide +kernel
theorem d_L_law_3404 : decode y_L_law.2.1 3404 = .ok (.laload, 1) := by decide +kernel
theorem d_L_law_3405 : decode y_L_law.2.1 3405 = .ok (.iload 6, 2) := by decide +kernel
theorem d_L_law_3407 : decode y_L_law.2.1 3407 = .ok (.i2l, 1) := by decide +kernel
theorem d_L_law_3408 : decode y_L_law.2.1 3408 = .ok (.lcmp, 1) := by decide +kernel
theorem d_L_law_3409 : decode y_L_law.2.1 3409 = .ok (.ifCond .eq 5, 3) := by decide +kernel
theorem d_L_law_3412 : decode y_L_law.2.1 3412 = .ok (.iconst 0, 1) := by decide +kernel
theorem d_L_law_3413 : decode y_L_law.2.1 3413 = .ok (.ireturn, 1) := by decide +kernel
theorem d_L_law_3414 : decode y_L_law.2.1 3414 = .ok (.goto 455, 3) := by decide +kernel
theorem d_L_law_3417 : decode y_L_law.2.1 3417 = .ok (.aload_n 1, 1) := by decide +kernel
theorem d_L_law_3418 : decode y_L_law.2.1 3418 = .ok (.aload_n 0, 1) := by decide +kernel
theorem d_L_law_3419 : decode y_L_law.2.1 3419 = .ok (.iload 4, 2) := by decide +kernel
theorem d_L_law_3421 : decode y_L_law.2.1 3421 = .ok (.iconst 1, 1) := by decide +kernel
theorem d_L_law_3422 : decode y_L_law.2.1 3422 = .ok (.iadd, 1) := by decide +kernel
theorem d_L_law_3423 : decode y_L_law.2.1 3423 = .ok (.iaload, 1) := by decide +kernel
theorem d_L_law_3424 : decode y_L_law.2.1 3424 = .ok (.aload_n 3, 1) := by decide +kernel
theorem d_L_law_3425 : decode y_L_law.2.1 3425 = .ok (.invokestatic 270, 3) := by decide +kernel
theorem d_L_law_3428 : decode y_L_law.2.1 3428 = .ok (.istore 5, 2) := by decide +kernel
theorem d_L_law_3430 : decode y_L_law.2.1 3430 = .ok (.aload_n 2, 1) := by decide +kernel
theorem d_L_law_3431 : decode y_L_law.2.1 3431 = .ok (.aload_n 0, 1) := by decide +kernel
theorem d_L_law_3432 : decode y_L_law.2.1 3432 = .ok (.iload 4, 2) := by decide +kernel
theorem d_L_law_3434 : decode y_L_law.2.1 3434 = .ok (.iconst 1, 1) := by decide +kernel
theorem d_L_law_3435 : decode y_L_law.2.1 3435 = .ok (.iadd, 1) := by decide +kernel
theorem d_L_law_3436 : decode y_L_law.2.1 3436 = .ok (.iaload, 1) := by decide +kernel
theorem d_L_law_3437 : decode y_L_law.2.1 3437 = .ok (.invokevirtual 272, 3) := by decide +kernel
theorem d_L_law_3440 : decode y_L_law.2.1 3440 = .ok (.istore 6, 2) := by decide +kernel
theorem d_L_law_3442 : decode y_L_law.2.1 3442 = .ok (.aload_n 2, 1) := by decide +kernel
theorem d_L_law_3443 : decode y_L_law.2.1 3443 = .ok (.invokevirtual 156, 3) := by decide +kernel
theorem d_L_law_3446 : decode y_L_law.2.1 3446 = .ok (.iload 5, 2) := by decide +kernel
theorem d_L_law_3448 : decode y_L_law.2.1 3448 = .ok (.if_icmp .eq 5, 3) := by decide +kernel
theorem d_L_law_3451 : decode y_L_law.2.1 3451 = .ok (.iconst 0, 1) := by decide +kernel
theorem d_L_law_3452 : decode y_L_law.2.1 3452 = .ok (.ireturn, 1) := by decide +kernel
theorem d_L_law_3453 : decode y_L_law.2.1 3453 = .ok (.iload 5, 2) := by decide +kernel
theorem d_L_law_3455 : decode y_L_law.2.1 3455 = .ok (.ifCond .ne 15, 3) := by decide +kernel
theorem d_L_law_3458 : decode y_L_law.2.1 3458 = .ok (.aload_n 3, 1) := by decide +kernel
theorem d_L_law_3459 : decode y_L_law.2.1 3459 = .ok (.iconst 0, 1) := by decide +kernel
theorem d_L_law_3460 : decode y_L_law.2.1 3460 = .ok (.laload, 1) := by decide +kernel
theorem d_L_law_3461 : decode y_L_law.2.1 3461 = .ok (.iload 6, 2) := by decide +kernel
theorem d_L_law_3463 : decode y_L_law.2.1 3463 = .ok (.i2l, 1) := by decide +kernel
theorem d_L_law_3464 : decode y_L_law.2.1 3464 = .ok (.lcmp, 1) := by decide +kernel
theorem d_L_law_3465 : decode y_L_law.2.1 3465 = .ok (.ifCond .eq 5, 3) := by decide +kernel
theorem d_L_law_3468 : decode y_L_law.2.1 3468 = .ok (.iconst 0, 1) := by decide +kernel
theorem d_L_law_3469 : decode y_L_law.2.1 3469 = .ok (.ireturn, 1) := by decide +kernel
theorem d_L_law_3470 : decode y_L_law.2.1 3470 = .ok (.goto 399, 3) := by decide +kernel
theorem d_L_law_3473 : decode y_L_law.2.1 3473 = .ok (.aload_n 1, 1) := by decide +kernel
theorem d_L_law_3474 : decode y_L_law.2.1 3474 = .ok (.aload_n 0, 1) := by decide +kernel
theorem d_L_law_3475 : decode y_L_law.2.1 3475 = .ok (.iload 4, 2) := by decide +kernel
theorem d_L_law_3477 : decode y_L_law.2.1 3477 = .ok (.iconst 1, 1) := by decide +kernel
theorem d_L_law_3478 : decode y_L_law.2.1 3478 = .ok (.iadd, 1) := by decide +kernel
theorem d_L_law_3479 : decode y_L_law.2.1 3479 = .ok (.iaload, 1) := by decide +kernel
theorem d_L_law_3480 : decode y_L_law.2.1 3480 = .ok (.aload_n 3, 1) := by decide +kernel
theorem d_L_law_3481 : decode y_L_law.2.1 3481 = .ok (.invokestatic 273, 3) := by decide +kernel
theorem d_L_law_3484 : decode y_L_law.2.1 3484 = .ok (.istore 5, 2) := by decide +kernel
theorem d_L_law_3486 : decode y_L_law.2.1 3486 = .ok (.aload_n 2, 1) := by decide +kernel
theorem d_L_law_3487 : decode y_L_law.2.1 3487 = .ok (.aload_n 0, 1) := by decide +kernel
theorem d_L_law_3488 : decode y_L_law.2.1 3488 = .ok (.iload 4, 2) := by decide +kernel
theorem d_L_law_3490 : decode y_L_law.2.1 3490 = .ok (.iconst 1, 1) := by decide +kernel
theorem d_L_law_3491 : decode y_L_law.2.1 3491 = .ok (.iadd, 1) := by decide +kernel
theorem d_L_law_3492 : decode y_L_law.2.1 3492 = .ok (.iaload, 1) := by decide +kernel
theorem d_L_law_3493 : decode y_L_law.2.1 3493 = .ok (.invokevirtual 275, 3) := by decide +kernel
theorem d_L_law_3496 : decode y_L_law.2.1 3496 = .ok (.istore 6, 2) := by decide +kernel
theorem d_L_law_3498 : decode y_L_law.2.1 3498 = .ok (.aload_n 2, 1) := by decide +kernel
theorem d_L_law_3499 : decode y_L_law.2.1 3499 = .ok (.invokevirtual 156, 3) := by decide +kernel
theorem d_L_law_3502 : decode y_L_law.2.1 3502 = .ok (.iload 5, 2) := by decide +kernel
theorem d_L_law_3504 : decode y_L_law.2.1 3504 = .ok (.if_icmp .eq 5, 3) := by decide +kernel
theorem d_L_law_3507 : decode y_L_law.2.1 3507 = .ok (.iconst 0, 1) := by decide +kernel
theorem d_L_law_3508 : decode y_L_law.2.1 3508 = .ok (.ireturn, 1) := by decide +kernel
theorem d_L_law_3509 : decode y_L_law.2.1 3509 = .ok (.iload 5, 2) := by decide +kernel
theorem d_L_law_3511 : decode y_L_law.2.1 3511 = .ok (.ifCond .ne 15, 3) := by decide +kernel
theorem d_L_law_3514 : decode y_L_law.2.1 3514 = .ok (.aload_n 3, 1) := by decide +kernel
theorem d_L_law_3515 : decode y_L_law.2.1 3515 = .ok (.iconst 0, 1) := by decide +kernel
theorem d_L_law_3516 : decode y_L_law.2.1 3516 = .ok (.laload, 1) := by decide +kernel
theorem d_L_law_3517 : decode y_L_law.2.1 3517 = .ok (.iload 6, 2) := by decide +kernel
theorem d_L_law_3519 : decode y_L_law.2.1 3519 = .ok (.i2l, 1) := by decide +kernel
theorem d_L_law_3520 : decode y_L_law.2.1 3520 = .ok (.lcmp, 1) := by decide +kernel
theorem d_L_law_3521 : decode y_L_law.2.1 3521 = .ok (.ifCond .eq 5, 3) := by decide +kernel
theorem d_L_law_3524 : decode y_L_law.2.1 3524 = .ok (.iconst 0, 1) := by decide +kernel
theorem d_L_law_3525 : decode y_L_law.2.1 3525 = .ok (.ireturn, 1) := by decide +kernel
theorem d_L_law_3526 : decode y_L_law.2.1 3526 = .ok (.goto 343, 3) := by decide +kernel
theorem d_L_law_3529 : decode y_L_law.2.1 3529 = .ok (.aload_n 1, 1) := by decide +kernel
theorem d_L_law_3530 : decode y_L_law.2.1 3530 = .ok (.invokevirtual 276, 3) := by decide +kernel
theorem d_L_law_3533 : decode y_L_law.2.1 3533 = .ok (.aload_n 2, 1) := by decide +kernel
theorem d_L_law_3534 : decode y_L_law.2.1 3534 = .ok (.invokevirtual 280, 3) := by decide +kernel
theorem d_L_law_3537 : decode y_L_law.2.1 3537 = .ok (.if_icmp .eq 332, 3) := by decide +kernel
theorem d_L_law_3540 : decode y_L_law.2.1 3540 = .ok (.iconst 0, 1) := by decide +kernel
theorem d_L_law_3541 : decode y_L_law.2.1 3541 = .ok (.ireturn, 1) := by decide +kernel
theorem d_L_law_3542 : decode y_L_law.2.1 3542 = .ok (.aload_n 1, 1) := by decide +kernel
theorem d_L_law_3543 : decode y_L_law.2.1 3543 = .ok (.invokevirtual 281, 3) := by decide +kernel
theorem d_L_law_3546 : decode y_L_law.2.1 3546 = .ok (.aload_n 2, 1) := by decide +kernel
theorem d_L_law_3547 : decode y_L_law.2.1 3547 = .ok (.invokevirtual 284, 3) := by decide +kernel
theorem d_L_law_3550 : decode y_L_law.2.1 3550 = .ok (.if_icmp .eq 319, 3) := by decide +kernel
theorem d_L_law_3553 : decode y_L_law.2.1 3553 = .ok (.iconst 0, 1) := by decide +kernel
theorem d_L_law_3554 : decode y_L_law.2.1 3554 = .ok (.ireturn, 1) := by decide +kernel
theorem d_L_law_3555 : decode y_L_law.2.1 3555 = .ok (.aload_n 1, 1) := by decide +kernel
theorem d_L_law_3556 : decode y_L_law.2.1 3556 = .ok (.aload_n 0, 1) := by decide +kernel
