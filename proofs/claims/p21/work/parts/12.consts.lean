theorem fc_X0 : tw_F 0 RX0 TX0 3 tyX0 := ⟨rfl, inX0, tyX0_ok, nmX0⟩
theorem fc_X1 : tw_F 1 RX1 TX1 2 tyX1 := ⟨rfl, inX1, tyX1_ok, nmX1⟩
theorem fc_X2 : tw_F 2 RX2 TX2 8 tyX2 := ⟨rfl, inX2, tyX2_ok, nmX2⟩
theorem fc_X3 : tw_F 3 RX3 TX3 4 tyX3 := ⟨rfl, inX3, tyX3_ok, nmX3⟩
theorem fc_X6 : tw_F 4 RX6 TX6 7 tyX6 := ⟨rfl, inX6, tyX6_ok, nmX6⟩
theorem fc_X7 : tw_F 5 RX7 TX7 2 tyX7 := ⟨rfl, inX7, tyX7_ok, nmX7⟩
theorem fc_X8 : tw_F 6 RX8 TX8 1 tyX8 := ⟨rfl, inX8, tyX8_ok, nmX8⟩
theorem fc_X9 : tw_F 7 RX9 TX9 10 tyX9 := ⟨rfl, inX9, tyX9_ok, nmX9⟩
theorem fc_X10 : tw_F 8 RX10 TX10 9 tyX10 := ⟨rfl, inX10, tyX10_ok, nmX10⟩
theorem mm_X10_link : tw_mV yX10_link cX10_link 5 (some .int) 3 := ⟨wd_120, wd_121, wd_3, wd_122, by decide, by decide, by decide +kernel⟩
theorem mm_X3_setLink : tw_mV yX3_setLink cX3_setLink 7 none 3 := ⟨wd_124, wd_125, wd_16, wd_126, by decide, by decide, by decide +kernel⟩
theorem mm_X10_context : tw_mV yX10_context cX10_context 6 (some .int) 3 := ⟨wd_130, wd_131, wd_3, wd_132, by decide, by decide, by decide +kernel⟩
theorem mm_X3_isThere : tw_mV yX3_isThere cX3_isThere 2 (some .boolean) 1 := ⟨wd_134, wd_135, wd_16, wd_136, by decide, by decide, by decide +kernel⟩
theorem mm_X3_setContext : tw_mV yX3_setContext cX3_setContext 5 none 3 := ⟨wd_138, wd_139, wd_16, wd_140, by decide, by decide, by decide +kernel⟩
theorem mm_X10_head : tw_mV yX10_head cX10_head 14 (some .int) 9 := ⟨wd_158, wd_159, wd_3, wd_160, by decide, by decide, by decide +kernel⟩
theorem mm_X10_isOutside : tw_mS yX10_isOutside cX10_isOutside 2 (some .boolean) 2 := ⟨wd_163, wd_3, wd_164, by decide, by decide, by decide +kernel⟩
theorem mm_X7_takes : tw_mV yX7_takes cX7_takes 2 (some .boolean) 1 := ⟨wd_166, wd_167, wd_25, wd_168, by decide, by decide, by decide +kernel⟩
theorem mm_X5_firstFour : tw_mS yX5_firstFour cX5_firstFour 2 (some .long) 2 := ⟨wd_170, wd_171, wd_172, by decide, by decide, by decide +kernel⟩
theorem mm_X7_addNumber : tw_mV yX7_addNumber cX7_addNumber 5 none 2 := ⟨wd_175, wd_176, wd_25, wd_177, by decide, by decide, by decide +kernel⟩
theorem mm_X7_add : tw_mV yX7_add cX7_add 2 none 1 := ⟨wd_179, wd_180, wd_25, wd_181, by decide, by decide, by decide +kernel⟩
theorem mm_X7_length : tw_mV yX7_length cX7_length 1 (some .int) 0 := ⟨wd_184, wd_185, wd_25, wd_186, by decide, by decide, by decide +kernel⟩
theorem mm_X10_type : tw_mV yX10_type cX10_type 4 (some .int) 2 := ⟨wd_188, wd_189, wd_3, wd_190, by decide, by decide, by decide +kernel⟩
theorem mm_X10_slice : tw_mV yX10_slice cX10_slice 3 (some .int) 2 := ⟨wd_192, wd_193, wd_3, wd_194, by decide, by decide, by decide +kernel⟩
theorem mm_X5_isPacket : tw_mS yX5_isPacket cX5_isPacket 2 (some .boolean) 1 := ⟨wd_197, wd_171, wd_198, by decide, by decide, by decide +kernel⟩
theorem mm_X7_at : tw_mV yX7_at cX7_at 2 (some .int) 1 := ⟨wd_201, wd_202, wd_25, wd_203, by decide, by decide, by decide +kernel⟩
theorem mm_X7_number : tw_mV yX7_number cX7_number 6 (some .long) 2 := ⟨wd_205, wd_206, wd_25, wd_207, by decide, by decide, by decide +kernel⟩
theorem mm_X0_divide : tw_mV yX0_divide cX0_divide 8 (some .int) 4 := ⟨wd_210, wd_211, wd_37, wd_212, by decide, by decide, by decide +kernel⟩
theorem mm_X8_write : tw_mV yX8_write cX8_write 18 (some .int) 2 := ⟨wd_214, wd_215, wd_19, wd_216, by decide, by decide, by decide +kernel⟩
theorem mm_X5_hasPorts : tw_mS yX5_hasPorts cX5_hasPorts 2 (some .boolean) 1 := ⟨wd_218, wd_171, wd_219, by decide, by decide, by decide +kernel⟩
theorem mm_X8_trafficOf : tw_mS yX8_trafficOf cX8_trafficOf 2 (some .int) 1 := ⟨wd_221, wd_19, wd_222, by decide, by decide, by decide +kernel⟩
theorem mm_X5_t : tw_mS yX5_t cX5_t 1 (some .int) 1 := ⟨wd_224, wd_171, wd_225, by decide, by decide, by decide +kernel⟩
theorem mm_X5_l : tw_mS yX5_l cX5_l 1 (some .int) 1 := ⟨wd_228, wd_171, wd_229, by decide, by decide, by decide +kernel⟩
theorem mm_X8_hopsOf : tw_mS yX8_hopsOf cX8_hopsOf 1 (some .int) 1 := ⟨wd_233, wd_19, wd_234, by decide, by decide, by decide +kernel⟩
theorem mm_X4_ofSource : tw_mS yX4_ofSource cX4_ofSource 5 (some .int) 3 := ⟨wd_237, wd_238, wd_239, by decide, by decide, by decide +kernel⟩
theorem mm_X4_ofOne : tw_mS yX4_ofOne cX4_ofOne 6 (some .int) 4 := ⟨wd_241, wd_238, wd_242, by decide, by decide, by decide +kernel⟩
theorem mm_X4_ofLast : tw_mS yX4_ofLast cX4_ofLast 4 (some .int) 3 := ⟨wd_245, wd_238, wd_246, by decide, by decide, by decide +kernel⟩
theorem mm_X3_own : tw_mV yX3_own cX3_own 2 (some .long) 1 := ⟨wd_249, wd_250, wd_16, wd_251, by decide, by decide, by decide +kernel⟩
theorem mm_X3_least : tw_mV yX3_least cX3_least 4 (some .int) 1 := ⟨wd_253, wd_254, wd_16, wd_255, by decide, by decide, by decide +kernel⟩
theorem mm_X4_ofGoal : tw_mS yX4_ofGoal cX4_ofGoal 5 (some .int) 3 := ⟨wd_257, wd_238, wd_258, by decide, by decide, by decide +kernel⟩
theorem mm_X4_ofMany : tw_mS yX4_ofMany cX4_ofMany 4 (some .int) 2 := ⟨wd_261, wd_238, wd_262, by decide, by decide, by decide +kernel⟩
theorem mm_X8_contextOf : tw_mV yX8_contextOf cX8_contextOf 4 (some .int) 2 := ⟨wd_266, wd_267, wd_19, wd_268, by decide, by decide, by decide +kernel⟩
theorem mm_X4_usesContext : tw_mS yX4_usesContext cX4_usesContext 1 (some .boolean) 1 := ⟨wd_270, wd_238, wd_271, by decide, by decide, by decide +kernel⟩
theorem mm_X7_shorten : tw_mV yX7_shorten cX7_shorten 2 none 1 := ⟨wd_274, wd_275, wd_25, wd_276, by decide, by decide, by decide +kernel⟩
theorem mm_X8_writeTraffic : tw_mS yX8_writeTraffic cX8_writeTraffic 6 none 3 := ⟨wd_279, wd_19, wd_280, by decide, by decide, by decide +kernel⟩
theorem mm_X8_writeAddress : tw_mS yX8_writeAddress cX8_writeAddress 7 none 4 := ⟨wd_283, wd_19, wd_284, by decide, by decide, by decide +kernel⟩
theorem mm_X4_bytesOf : tw_mS yX4_bytesOf cX4_bytesOf 1 (some .int) 1 := ⟨wd_286, wd_238, wd_287, by decide, by decide, by decide +kernel⟩
theorem mm_X8_writePorts : tw_mS yX8_writePorts cX8_writePorts 4 none 2 := ⟨wd_290, wd_19, wd_291, by decide, by decide, by decide +kernel⟩
theorem mm_X5_headOf : tw_mS yX5_headOf cX5_headOf 1 (some .int) 1 := ⟨wd_294, wd_171, wd_295, by decide, by decide, by decide +kernel⟩
theorem mm_X7_addAll : tw_mV yX7_addAll cX7_addAll 5 none 3 := ⟨wd_298, wd_299, wd_25, wd_300, by decide, by decide, by decide +kernel⟩
theorem mm_X1_clear : tw_mV yX1_clear cX1_clear 1 none 0 := ⟨wd_303, wd_304, wd_33, wd_305, by decide, by decide, by decide +kernel⟩
theorem mm_X1_store : tw_mV yX1_store cX1_store 3 (some .boolean) 2 := ⟨wd_307, wd_308, wd_33, wd_309, by decide, by decide, by decide +kernel⟩
theorem mm_X7_become : tw_mV yX7_become cX7_become 2 none 1 := ⟨wd_311, wd_312, wd_25, wd_313, by decide, by decide, by decide +kernel⟩
theorem mm_X1_size : tw_mV yX1_size cX1_size 1 (some .int) 0 := ⟨wd_317, wd_318, wd_33, wd_319, by decide, by decide, by decide +kernel⟩
theorem mm_X0_begin : tw_mV yX0_begin cX0_begin 4 none 3 := ⟨wd_321, wd_322, wd_37, wd_323, by decide, by decide, by decide +kernel⟩
theorem mm_X0_divideRest : tw_mV yX0_divideRest cX0_divideRest 11 (some .int) 5 := ⟨wd_329, wd_330, wd_37, wd_331, by decide, by decide, by decide +kernel⟩
theorem mm_X10_hear : tw_mV yX10_hear cX10_hear 2 (some .int) 1 := ⟨wd_334, wd_335, wd_3, wd_336, by decide, by decide, by decide +kernel⟩
theorem mm_X1_has : tw_mV yX1_has cX1_has 2 (some .boolean) 1 := ⟨wd_338, wd_339, wd_33, wd_340, by decide, by decide, by decide +kernel⟩
theorem mm_X1_at : tw_mV yX1_at cX1_at 2 (some (.object "ShortFrames$Row")) 1 := ⟨wd_342, wd_343, wd_33, wd_344, by decide, by decide, by decide +kernel⟩
theorem mm_X6_listen : tw_mV yX6_listen cX6_listen 5 (some .int) 2 := ⟨wd_346, wd_347, wd_41, wd_348, by decide, by decide, by decide +kernel⟩
theorem mm_X6_hearsAll : tw_mV yX6_hearsAll cX6_hearsAll 3 (some .int) 2 := ⟨wd_353, wd_354, wd_41, wd_355, by decide, by decide, by decide +kernel⟩
theorem mm_X9_read : tw_mV yX9_read cX9_read 5 (some .boolean) 3 := ⟨wd_357, wd_358, wd_22, wd_359, by decide, by decide, by decide +kernel⟩
theorem mm_X7_becomeZeros : tw_mV yX7_becomeZeros cX7_becomeZeros 3 none 1 := ⟨wd_367, wd_368, wd_25, wd_369, by decide, by decide, by decide +kernel⟩
theorem mm_X9_readsForm : tw_mV yX9_readsForm cX9_readsForm 2 (some .boolean) 1 := ⟨wd_371, wd_372, wd_22, wd_373, by decide, by decide, by decide +kernel⟩
theorem mm_X9_has : tw_mV yX9_has cX9_has 3 (some .boolean) 2 := ⟨wd_377, wd_378, wd_22, wd_379, by decide, by decide, by decide +kernel⟩
theorem mm_X9_fails : tw_mV yX9_fails cX9_fails 3 (some .boolean) 2 := ⟨wd_382, wd_383, wd_22, wd_384, by decide, by decide, by decide +kernel⟩
theorem mm_X9_next : tw_mV yX9_next cX9_next 3 (some .int) 1 := ⟨wd_387, wd_388, wd_22, wd_389, by decide, by decide, by decide +kernel⟩
theorem mm_X9_goal : tw_mV yX9_goal cX9_goal 1 (some .int) 0 := ⟨wd_391, wd_392, wd_22, wd_393, by decide, by decide, by decide +kernel⟩
theorem mm_X9_readsContexts : tw_mV yX9_readsContexts cX9_readsContexts 5 (some .boolean) 1 := ⟨wd_395, wd_396, wd_22, wd_397, by decide, by decide, by decide +kernel⟩
theorem mm_X9_source : tw_mV yX9_source cX9_source 1 (some .int) 0 := ⟨wd_399, wd_400, wd_22, wd_401, by decide, by decide, by decide +kernel⟩
theorem mm_X9_readsTraffic : tw_mV yX9_readsTraffic cX9_readsTraffic 9 (some .boolean) 1 := ⟨wd_405, wd_406, wd_22, wd_407, by decide, by decide, by decide +kernel⟩
theorem mm_X9_traffic : tw_mV yX9_traffic cX9_traffic 1 (some .int) 0 := ⟨wd_410, wd_411, wd_22, wd_412, by decide, by decide, by decide +kernel⟩
theorem mm_X7_setNumber : tw_mV yX7_setNumber cX7_setNumber 6 none 3 := ⟨wd_416, wd_417, wd_25, wd_418, by decide, by decide, by decide +kernel⟩
theorem mm_X7_set : tw_mV yX7_set cX7_set 3 none 2 := ⟨wd_420, wd_421, wd_25, wd_422, by decide, by decide, by decide +kernel⟩
theorem mm_X9_readsKind : tw_mV yX9_readsKind cX9_readsKind 2 (some .boolean) 1 := ⟨wd_424, wd_425, wd_22, wd_426, by decide, by decide, by decide +kernel⟩
theorem mm_X9_ports : tw_mV yX9_ports cX9_ports 1 (some .boolean) 0 := ⟨wd_428, wd_429, wd_22, wd_430, by decide, by decide, by decide +kernel⟩
theorem mm_X9_readsHops : tw_mV yX9_readsHops cX9_readsHops 4 (some .boolean) 1 := ⟨wd_433, wd_434, wd_22, wd_435, by decide, by decide, by decide +kernel⟩
theorem mm_X9_readsAddress : tw_mV yX9_readsAddress cX9_readsAddress 7 (some .boolean) 3 := ⟨wd_437, wd_438, wd_22, wd_439, by decide, by decide, by decide +kernel⟩
theorem mm_X9_firstEight : tw_mV yX9_firstEight cX9_firstEight 3 (some .long) 2 := ⟨wd_444, wd_445, wd_22, wd_446, by decide, by decide, by decide +kernel⟩
theorem mm_X3_contextOf : tw_mV yX3_contextOf cX3_contextOf 2 (some .long) 1 := ⟨wd_449, wd_450, wd_16, wd_451, by decide, by decide, by decide +kernel⟩
theorem mm_X9_lastEight : tw_mV yX9_lastEight cX9_lastEight 5 (some .long) 3 := ⟨wd_454, wd_455, wd_22, wd_456, by decide, by decide, by decide +kernel⟩
theorem mm_X9_readsPorts : tw_mV yX9_readsPorts cX9_readsPorts 4 (some .boolean) 1 := ⟨wd_460, wd_461, wd_22, wd_462, by decide, by decide, by decide +kernel⟩
theorem mm_X9_portsOf : tw_mS yX9_portsOf cX9_portsOf 3 (some .long) 2 := ⟨wd_464, wd_22, wd_465, by decide, by decide, by decide +kernel⟩
theorem mm_X9_readsRest : tw_mV yX9_readsRest cX9_readsRest 4 (some .boolean) 2 := ⟨wd_474, wd_475, wd_22, wd_476, by decide, by decide, by decide +kernel⟩
theorem mm_X9_packet : tw_mV yX9_packet cX9_packet 1 (some (.object "ShortFrames$Row")) 0 := ⟨wd_479, wd_480, wd_22, wd_481, by decide, by decide, by decide +kernel⟩
theorem mm_X6_hearsFirst : tw_mV yX6_hearsFirst cX6_hearsFirst 4 (some .int) 2 := ⟨wd_485, wd_486, wd_41, wd_487, by decide, by decide, by decide +kernel⟩
theorem mm_X6_zOf : tw_mS yX6_zOf cX6_zOf 1 (some .int) 1 := ⟨wd_489, wd_41, wd_490, by decide, by decide, by decide +kernel⟩
theorem mm_X6_hearsPart : tw_mV yX6_hearsPart cX6_hearsPart 11 (some .int) 5 := ⟨wd_493, wd_494, wd_41, wd_495, by decide, by decide, by decide +kernel⟩
theorem mm_X6_dropLateHeaps : tw_mV yX6_dropLateHeaps cX6_dropLateHeaps 2 none 0 := ⟨wd_499, wd_500, wd_41, wd_501, by decide, by decide, by decide +kernel⟩
theorem mm_X2_beganBy : tw_mV yX2_beganBy cX2_beganBy 2 (some .boolean) 1 := ⟨wd_504, wd_505, wd_98, wd_506, by decide, by decide, by decide +kernel⟩
theorem mm_X2_end : tw_mV yX2_end cX2_end 1 none 0 := ⟨wd_510, wd_511, wd_98, wd_512, by decide, by decide, by decide +kernel⟩
theorem mm_X6_indexFor : tw_mV yX6_indexFor cX6_indexFor 5 (some .int) 2 := ⟨wd_514, wd_515, wd_41, wd_516, by decide, by decide, by decide +kernel⟩
theorem mm_X2_isOf : tw_mV yX2_isOf cX2_isOf 3 (some .boolean) 2 := ⟨wd_518, wd_519, wd_98, wd_520, by decide, by decide, by decide +kernel⟩
theorem mm_X2_isThere : tw_mV yX2_isThere cX2_isThere 1 (some .boolean) 0 := ⟨wd_524, wd_525, wd_98, wd_526, by decide, by decide, by decide +kernel⟩
theorem mm_X2_begin : tw_mV yX2_begin cX2_begin 5 none 3 := ⟨wd_528, wd_529, wd_98, wd_530, by decide, by decide, by decide +kernel⟩
theorem mm_X2_hasJust : tw_mV yX2_hasJust cX2_hasJust 4 (some .boolean) 2 := ⟨wd_535, wd_536, wd_98, wd_537, by decide, by decide, by decide +kernel⟩
theorem mm_X2_meets : tw_mV yX2_meets cX2_meets 5 (some .boolean) 2 := ⟨wd_539, wd_540, wd_98, wd_541, by decide, by decide, by decide +kernel⟩
theorem mm_X2_keep : tw_mV yX2_keep cX2_keep 7 none 3 := ⟨wd_543, wd_544, wd_98, wd_545, by decide, by decide, by decide +kernel⟩
theorem mm_X2_isWhole : tw_mV yX2_isWhole cX2_isWhole 1 (some .boolean) 0 := ⟨wd_550, wd_551, wd_98, wd_552, by decide, by decide, by decide +kernel⟩
theorem mm_X2_content : tw_mV yX2_content cX2_content 1 (some (.object "ShortFrames$Row")) 0 := ⟨wd_554, wd_555, wd_98, wd_556, by decide, by decide, by decide +kernel⟩
theorem mm_X10_cut : tw_mV yX10_cut cX10_cut 3 (some .int) 1 := ⟨wd_558, wd_559, wd_3, wd_560, by decide, by decide, by decide +kernel⟩
theorem mm_X10_put : tw_mV yX10_put cX10_put 2 (some .int) 1 := ⟨wd_563, wd_564, wd_3, wd_565, by decide, by decide, by decide +kernel⟩
theorem mm_X10_out : tw_mV yX10_out cX10_out 2 (some .int) 1 := ⟨wd_569, wd_570, wd_3, wd_571, by decide, by decide, by decide +kernel⟩
theorem mm_X10_byteOrLength : tw_mS yX10_byteOrLength cX10_byteOrLength 2 (some .int) 2 := ⟨wd_573, wd_3, wd_574, by decide, by decide, by decide +kernel⟩
theorem mm_X7_has : tw_mV yX7_has cX7_has 2 (some .boolean) 1 := ⟨wd_576, wd_577, wd_25, wd_578, by decide, by decide, by decide +kernel⟩
theorem mm_X10_count : tw_mV yX10_count cX10_count 2 (some .int) 1 := ⟨wd_581, wd_582, wd_3, wd_583, by decide, by decide, by decide +kernel⟩
theorem mm_X6_heaps : tw_mV yX6_heaps cX6_heaps 3 (some .int) 0 := ⟨wd_585, wd_586, wd_41, wd_587, by decide, by decide, by decide +kernel⟩
theorem mm_X6_parts : tw_mV yX6_parts cX6_parts 3 (some .int) 0 := ⟨wd_589, wd_590, wd_41, wd_591, by decide, by decide, by decide +kernel⟩
theorem mm_X2_parts : tw_mV yX2_parts cX2_parts 1 (some .int) 0 := ⟨wd_593, wd_594, wd_98, wd_595, by decide, by decide, by decide +kernel⟩
theorem mm_X6_bytes : tw_mV yX6_bytes cX6_bytes 3 (some .int) 0 := ⟨wd_597, wd_598, wd_41, wd_599, by decide, by decide, by decide +kernel⟩
theorem mm_X2_bytes : tw_mV yX2_bytes cX2_bytes 1 (some .int) 0 := ⟨wd_601, wd_602, wd_98, wd_603, by decide, by decide, by decide +kernel⟩
theorem sh_0 : tw_sh 0 = some (8, [4, 6, 8, 11, 12, 15, 17, 22, 24]) := by decide +kernel
theorem sh_1 : tw_sh 1 = some (5, [5, 2]) := by decide +kernel
theorem sh_3 : tw_sh 3 = some (5, [7, 2]) := by decide +kernel
theorem sh_5 : tw_sh 5 = some (3, [9, 10, 1, 1]) := by decide +kernel
theorem sh_8 : tw_sh 8 = some (6, [8]) := by decide +kernel
theorem sh_9 : tw_sh 9 = some (7, [8, 13, 0, 0, 0, 0, 0, 0, 0, 0]) := by decide +kernel
theorem sh_10 : tw_sh 10 = some (5, [14, 2]) := by decide +kernel
theorem sh_12 : tw_sh 12 = some (1, [16, 0]) := by decide +kernel
theorem sh_14 : tw_sh 14 = some (0, [11, 18, 20]) := by decide +kernel
theorem sh_15 : tw_sh 15 = some (5, [19, 2]) := by decide +kernel
theorem sh_17 : tw_sh 17 = some (5, [21, 2]) := by decide +kernel
theorem sh_19 : tw_sh 19 = some (4, [12, 23, 0, 0, 0, 0, 0]) := by decide +kernel
theorem sn_6 : tw_sh 6 = none := by decide +kernel
theorem sa_6 : tw_ar 6 = some (1, 16) := by decide +kernel
theorem sn_7 : tw_sh 7 = none := by decide +kernel
theorem sa_7 : tw_ar 7 = some (2, 16) := by decide +kernel
theorem sn_13 : tw_sh 13 = none := by decide +kernel
theorem sa_13 : tw_ar 13 = some (4, 40) := by decide +kernel
theorem sn_20 : tw_sh 20 = none := by decide +kernel
theorem sa_20 : tw_ar 20 = some (5, 3) := by decide +kernel
theorem sn_21 : tw_sh 21 = none := by decide +kernel
theorem sa_21 : tw_ar 21 = some (0, 8) := by decide +kernel
theorem tw_row1 : tw_isRow 1 = true := rfl
theorem tw_row3 : tw_isRow 3 = true := rfl
theorem tw_row10 : tw_isRow 10 = true := rfl
theorem tw_row15 : tw_isRow 15 = true := rfl
theorem tw_row17 : tw_isRow 17 = true := rfl
theorem tw_rowF0 : ∀ k, k < 40 → tw_isRow (34 + 2 * k) = true ∧ tw_cap (34 + 2 * k) = 120 := by decide +kernel
theorem tw_rowF {k : Nat} (h : k < 40) : tw_isRow (34 + 2 * k) = true := (tw_rowF0 k h).1
theorem tw_capF {k : Nat} (h : k < 40) : tw_cap (34 + 2 * k) = 120 := (tw_rowF0 k h).2
theorem tw_rowH0 : ∀ i, i < 3 → tw_isRow (22 + 4 * i + 1) = true ∧ tw_cap (22 + 4 * i + 1) = 600 ∧ tw_sh (22 + 4 * i) = some (2, [22 + 4 * i + 4, 22 + 4 * i + 6, 0, 0, 0, 0, 0, 0]) ∧ tw_sh (22 + 4 * i + 3) = none ∧ tw_ar (22 + 4 * i + 3) = some (0, 75) := by decide +kernel
theorem tw_row_lt1 {r : Nat} (h : tw_isRow r = true) : r + 1 < 114 := by
  have h0 : ∀ r, r < 114 → tw_isRow r = true → r + 1 < 114 := by decide +kernel
  exact h0 r (tw_row_lt h).2 h
abbrev tw_cG (G : tw_G) : Prop := ∀ r, r < 114 → tw_P G r
def ri_A (G : tw_G) : Nat → Option Value := fun r => some (.ref (tw_ad G r))
