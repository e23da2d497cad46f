theorem zk_378 : zrowE zr_378 := ⟨2352, 181, 2350, 2351, by decide +kernel⟩
theorem zk_379 : zrowE zr_379 := ⟨2356, 181, 2354, 2355, by decide +kernel⟩
theorem zk_380 : zrowE zr_380 := ⟨2360, 181, 2358, 2359, by decide +kernel⟩
theorem zk_381 : zrowE zr_381 := ⟨2364, 181, 2362, 2363, by decide +kernel⟩
theorem zk_382 : zrowE zr_382 := ⟨2368, 181, 2366, 2367, by decide +kernel⟩
theorem zk_383 : zrowE zr_383 := ⟨2372, 181, 2370, 2371, by decide +kernel⟩
theorem zk_384 : zrowE zr_384 := ⟨2376, 181, 2374, 2375, by decide +kernel⟩
theorem zk_385 : zrowE zr_385 := ⟨2384, 181, 2383, 153, by decide +kernel⟩
theorem zk_386 : zrowE zr_386 := ⟨2380, 181, 2378, 2379, by decide +kernel⟩
theorem zk_387 : zrowE zr_387 := ⟨2388, 181, 2386, 2387, by decide +kernel⟩
theorem zk_388 : zrowE zr_388 := ⟨2396, 181, 2395, 154, by decide +kernel⟩
theorem zk_389 : zrowE zr_389 := ⟨2392, 181, 2390, 2391, by decide +kernel⟩
theorem zk_390 : zrowE zr_390 := ⟨2400, 181, 2398, 2399, by decide +kernel⟩
theorem zk_391 : zrowE zr_391 := ⟨2404, 181, 2402, 2403, by decide +kernel⟩
theorem zk_392 : zrowE zr_392 := ⟨2412, 181, 2411, 155, by decide +kernel⟩
theorem zk_393 : zrowE zr_393 := ⟨2408, 181, 2406, 2407, by decide +kernel⟩
theorem zk_394 : zrowE zr_394 := ⟨2449, 181, 2448, 163, by decide +kernel⟩
theorem zk_395 : zrowE zr_395 := ⟨2437, 181, 2436, 160, by decide +kernel⟩
theorem zk_396 : zrowE zr_396 := ⟨2441, 181, 2440, 161, by decide +kernel⟩
theorem zk_397 : zrowE zr_397 := ⟨2445, 181, 2444, 162, by decide +kernel⟩
theorem zk_398 : zrowE zr_398 := ⟨2454, 181, 2453, 164, by decide +kernel⟩
theorem zk_399 : zrowE zr_399 := ⟨2433, 181, 2432, 159, by decide +kernel⟩
theorem zk_400 : zrowE zr_400 := ⟨2458, 181, 2457, 165, by decide +kernel⟩
theorem zk_401 : zrowE zr_401 := ⟨2429, 181, 2428, 158, by decide +kernel⟩
theorem zk_402 : zrowE zr_402 := ⟨2425, 181, 2424, 157, by decide +kernel⟩
theorem zk_403 : zrowE zr_403 := ⟨2421, 181, 2420, 156, by decide +kernel⟩
theorem zk_404 : zrowE zr_404 := ⟨2416, 181, 2414, 2415, by decide +kernel⟩
theorem zk_405 : zrowE zr_405 := ⟨2462, 181, 2460, 2461, by decide +kernel⟩
theorem zk_406 : zrowE zr_406 := ⟨2467, 181, 2465, 2466, by decide +kernel⟩
theorem zk_407 : zrowE zr_407 := ⟨2031, 181, 2030, 110, by decide +kernel⟩
theorem zk_408 : zrowE zr_408 := ⟨2472, 181, 2470, 2471, by decide +kernel⟩
theorem zk_409 : zrowE zr_409 := ⟨2476, 181, 2474, 2475, by decide +kernel⟩
theorem zk_410 : zrowE zr_410 := ⟨229, 171, 227, 228, by decide +kernel⟩
theorem zk_411 : zrowE zr_411 := ⟨239, 171, 237, 238, by decide +kernel⟩
theorem zk_412 : zrowE zr_412 := ⟨233, 171, 231, 232, by decide +kernel⟩
theorem zk_413 : zrowE zr_413 := ⟨243, 171, 241, 242, by decide +kernel⟩
theorem zk_414 : zrowE zr_414 := ⟨249, 171, 248, 0, by decide +kernel⟩
theorem zk_416 : zrowE zr_416 := ⟨1187, 186, 1186, 0, by decide +kernel⟩
theorem zk_417 : zrowE zr_417 := ⟨2304, 183, 2303, 0, by decide +kernel⟩
theorem zk_418 : zrowE zr_418 := ⟨746, 183, 745, 0, by decide +kernel⟩
theorem zk_419 : zrowE zr_419 := ⟨743, 183, 742, 0, by decide +kernel⟩
theorem zk_420 : zrowE zr_420 := ⟨666, 169, 665, 0, by decide +kernel⟩
theorem zk_421 : zrowE zr_421 := ⟨206, 169, 205, 0, by decide +kernel⟩
theorem zk_422 : zrowE zr_422 := ⟨246, 172, 245, 0, by decide +kernel⟩
theorem zk_423 : zrowE zr_423 := ⟨254, 173, 253, 0, by decide +kernel⟩
theorem zk_415_0 : zchk code zc_415_0 = true := by decide +kernel
theorem zk_415_1 : zchk code zc_415_1 = true := by decide +kernel
theorem zk_415_2 : zchk code zc_415_2 = true := by decide +kernel
theorem zk_415_3 : zchk code zc_415_3 = true := by decide +kernel
theorem zk_415_4 : zchk code zc_415_4 = true := by decide +kernel
theorem zk_415_5 : zchk code zc_415_5 = true := by decide +kernel
theorem zk_415_6 : zchk code zc_415_6 = true := by decide +kernel
theorem zk_415_7 : zchk code zc_415_7 = true := by decide +kernel
theorem zk_415_8 : zchk code zc_415_8 = true := by decide +kernel
