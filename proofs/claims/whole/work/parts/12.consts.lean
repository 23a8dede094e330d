theorem fc_X0 : tw_F 0 RX0 TX0 3 tyX0 := ⟨rfl, inX0, tyX0_ok, nmX0⟩
theorem fc_X1 : tw_F 1 RX1 TX1 2 tyX1 := ⟨rfl, inX1, tyX1_ok, nmX1⟩
theorem fc_X2 : tw_F 2 RX2 TX2 8 tyX2 := ⟨rfl, inX2, tyX2_ok, nmX2⟩
theorem fc_X3 : tw_F 3 RX3 TX3 4 tyX3 := ⟨rfl, inX3, tyX3_ok, nmX3⟩
theorem fc_X6 : tw_F 4 RX6 TX6 7 tyX6 := ⟨rfl, inX6, tyX6_ok, nmX6⟩
theorem fc_X7 : tw_F 5 RX7 TX7 2 tyX7 := ⟨rfl, inX7, tyX7_ok, nmX7⟩
theorem fc_X8 : tw_F 6 RX8 TX8 1 tyX8 := ⟨rfl, inX8, tyX8_ok, nmX8⟩
theorem fc_X9 : tw_F 7 RX9 TX9 10 tyX9 := ⟨rfl, inX9, tyX9_ok, nmX9⟩
theorem fc_X10 : tw_F 8 RX10 TX10 9 tyX10 := ⟨rfl, inX10, tyX10_ok, nmX10⟩
theorem fc_X11 : tw_F 9 RX11 TX11 46 tyX11 := ⟨rfl, inX11, tyX11_ok, nmX11⟩
theorem mm_X11_link : tw_mV yX11_link cX11_link 7 (some .int) 3 := ⟨wd_131, wd_132, wd_6, wd_133, by decide, by decide, by decide +kernel⟩
theorem mm_X11_in : tw_mS yX11_in cX11_in 3 (some .boolean) 3 := ⟨wd_136, wd_6, wd_137, by decide, by decide, by decide +kernel⟩
theorem mm_X10_context : tw_mV yX10_context cX10_context 6 (some .int) 3 := ⟨wd_139, wd_140, wd_3, wd_141, by decide, by decide, by decide +kernel⟩
theorem mm_X3_isThere : tw_mV yX3_isThere cX3_isThere 2 (some .boolean) 1 := ⟨wd_143, wd_144, wd_16, wd_145, by decide, by decide, by decide +kernel⟩
theorem mm_X3_setContext : tw_mV yX3_setContext cX3_setContext 5 none 3 := ⟨wd_147, wd_148, wd_16, wd_149, by decide, by decide, by decide +kernel⟩
theorem mm_X11_context : tw_mV yX11_context cX11_context 7 (some .int) 3 := ⟨wd_151, wd_152, wd_6, wd_153, by decide, by decide, by decide +kernel⟩
theorem mm_X10_link : tw_mV yX10_link cX10_link 5 (some .int) 3 := ⟨wd_155, wd_156, wd_3, wd_157, by decide, by decide, by decide +kernel⟩
theorem mm_X3_setLink : tw_mV yX3_setLink cX3_setLink 7 none 3 := ⟨wd_159, wd_160, wd_16, wd_161, by decide, by decide, by decide +kernel⟩
theorem mm_X10_type : tw_mV yX10_type cX10_type 4 (some .int) 2 := ⟨wd_166, wd_167, wd_3, wd_168, by decide, by decide, by decide +kernel⟩
theorem mm_X7_takes : tw_mV yX7_takes cX7_takes 2 (some .boolean) 1 := ⟨wd_170, wd_171, wd_25, wd_172, by decide, by decide, by decide +kernel⟩
theorem mm_X7_addNumber : tw_mV yX7_addNumber cX7_addNumber 5 none 2 := ⟨wd_174, wd_175, wd_25, wd_176, by decide, by decide, by decide +kernel⟩
theorem mm_X7_add : tw_mV yX7_add cX7_add 2 none 1 := ⟨wd_178, wd_179, wd_25, wd_180, by decide, by decide, by decide +kernel⟩
theorem mm_X7_length : tw_mV yX7_length cX7_length 1 (some .int) 0 := ⟨wd_182, wd_183, wd_25, wd_184, by decide, by decide, by decide +kernel⟩
theorem mm_X11_type : tw_mV yX11_type cX11_type 5 (some .int) 2 := ⟨wd_186, wd_187, wd_6, wd_188, by decide, by decide, by decide +kernel⟩
theorem mm_X11_lay : tw_mV yX11_lay cX11_lay 2 none 1 := ⟨wd_191, wd_192, wd_6, wd_193, by decide, by decide, by decide +kernel⟩
theorem mm_X10_head : tw_mV yX10_head cX10_head 14 (some .int) 9 := ⟨wd_195, wd_196, wd_3, wd_197, by decide, by decide, by decide +kernel⟩
theorem mm_X10_isOutside : tw_mS yX10_isOutside cX10_isOutside 2 (some .boolean) 2 := ⟨wd_200, wd_3, wd_201, by decide, by decide, by decide +kernel⟩
theorem mm_X5_firstFour : tw_mS yX5_firstFour cX5_firstFour 2 (some .long) 2 := ⟨wd_203, wd_204, wd_205, by decide, by decide, by decide +kernel⟩
theorem mm_X11_head : tw_mV yX11_head cX11_head 14 (some .int) 9 := ⟨wd_209, wd_210, wd_6, wd_211, by decide, by decide, by decide +kernel⟩
theorem mm_X11_layLong : tw_mV yX11_layLong cX11_layLong 4 none 1 := ⟨wd_214, wd_215, wd_6, wd_216, by decide, by decide, by decide +kernel⟩
theorem mm_X10_cut : tw_mV yX10_cut cX10_cut 3 (some .int) 1 := ⟨wd_218, wd_219, wd_3, wd_220, by decide, by decide, by decide +kernel⟩
theorem mm_X7_shorten : tw_mV yX7_shorten cX7_shorten 2 none 1 := ⟨wd_222, wd_223, wd_25, wd_224, by decide, by decide, by decide +kernel⟩
theorem mm_X11_cut : tw_mV yX11_cut cX11_cut 3 (some .int) 1 := ⟨wd_226, wd_227, wd_6, wd_228, by decide, by decide, by decide +kernel⟩
theorem mm_X10_poke : tw_mV yX10_poke cX10_poke 3 (some .int) 2 := ⟨wd_230, wd_231, wd_3, wd_232, by decide, by decide, by decide +kernel⟩
theorem mm_X7_has : tw_mV yX7_has cX7_has 2 (some .boolean) 1 := ⟨wd_234, wd_235, wd_25, wd_236, by decide, by decide, by decide +kernel⟩
theorem mm_X7_flip : tw_mV yX7_flip cX7_flip 3 (some .int) 2 := ⟨wd_238, wd_239, wd_25, wd_240, by decide, by decide, by decide +kernel⟩
theorem mm_X7_at : tw_mV yX7_at cX7_at 2 (some .int) 1 := ⟨wd_242, wd_243, wd_25, wd_244, by decide, by decide, by decide +kernel⟩
theorem mm_X7_set : tw_mV yX7_set cX7_set 3 none 2 := ⟨wd_246, wd_247, wd_25, wd_248, by decide, by decide, by decide +kernel⟩
theorem mm_X11_poke : tw_mV yX11_poke cX11_poke 3 (some .int) 2 := ⟨wd_250, wd_251, wd_6, wd_252, by decide, by decide, by decide +kernel⟩
theorem mm_X10_take : tw_mV yX10_take cX10_take 1 (some .int) 0 := ⟨wd_254, wd_255, wd_3, wd_256, by decide, by decide, by decide +kernel⟩
theorem mm_X7_become : tw_mV yX7_become cX7_become 2 none 1 := ⟨wd_258, wd_259, wd_25, wd_260, by decide, by decide, by decide +kernel⟩
theorem mm_X7_addAll : tw_mV yX7_addAll cX7_addAll 5 none 3 := ⟨wd_263, wd_264, wd_25, wd_265, by decide, by decide, by decide +kernel⟩
theorem mm_X11_take : tw_mV yX11_take cX11_take 2 (some .int) 0 := ⟨wd_267, wd_268, wd_6, wd_269, by decide, by decide, by decide +kernel⟩
theorem mm_X10_out : tw_mV yX10_out cX10_out 2 (some .int) 1 := ⟨wd_272, wd_273, wd_3, wd_274, by decide, by decide, by decide +kernel⟩
theorem mm_X10_byteOrLength : tw_mS yX10_byteOrLength cX10_byteOrLength 2 (some .int) 2 := ⟨wd_276, wd_3, wd_277, by decide, by decide, by decide +kernel⟩
theorem mm_X11_out : tw_mV yX11_out cX11_out 2 (some .int) 1 := ⟨wd_280, wd_281, wd_6, wd_282, by decide, by decide, by decide +kernel⟩
theorem mm_X10_squeeze : tw_mV yX10_squeeze cX10_squeeze 1 (some .int) 0 := ⟨wd_284, wd_285, wd_3, wd_286, by decide, by decide, by decide +kernel⟩
theorem mm_X5_isPacket : tw_mS yX5_isPacket cX5_isPacket 2 (some .boolean) 1 := ⟨wd_288, wd_204, wd_289, by decide, by decide, by decide +kernel⟩
theorem mm_X7_number : tw_mV yX7_number cX7_number 6 (some .long) 2 := ⟨wd_293, wd_294, wd_25, wd_295, by decide, by decide, by decide +kernel⟩
theorem mm_X8_write : tw_mV yX8_write cX8_write 18 (some .int) 2 := ⟨wd_297, wd_298, wd_19, wd_299, by decide, by decide, by decide +kernel⟩
theorem mm_X5_hasPorts : tw_mS yX5_hasPorts cX5_hasPorts 2 (some .boolean) 1 := ⟨wd_301, wd_204, wd_302, by decide, by decide, by decide +kernel⟩
theorem mm_X8_trafficOf : tw_mS yX8_trafficOf cX8_trafficOf 2 (some .int) 1 := ⟨wd_304, wd_19, wd_305, by decide, by decide, by decide +kernel⟩
theorem mm_X5_t : tw_mS yX5_t cX5_t 1 (some .int) 1 := ⟨wd_307, wd_204, wd_308, by decide, by decide, by decide +kernel⟩
theorem mm_X5_l : tw_mS yX5_l cX5_l 1 (some .int) 1 := ⟨wd_311, wd_204, wd_312, by decide, by decide, by decide +kernel⟩
theorem mm_X8_hopsOf : tw_mS yX8_hopsOf cX8_hopsOf 1 (some .int) 1 := ⟨wd_316, wd_19, wd_317, by decide, by decide, by decide +kernel⟩
theorem mm_X4_ofSource : tw_mS yX4_ofSource cX4_ofSource 5 (some .int) 3 := ⟨wd_320, wd_321, wd_322, by decide, by decide, by decide +kernel⟩
theorem mm_X4_ofOne : tw_mS yX4_ofOne cX4_ofOne 6 (some .int) 4 := ⟨wd_324, wd_321, wd_325, by decide, by decide, by decide +kernel⟩
theorem mm_X4_ofLast : tw_mS yX4_ofLast cX4_ofLast 4 (some .int) 3 := ⟨wd_328, wd_321, wd_329, by decide, by decide, by decide +kernel⟩
theorem mm_X3_own : tw_mV yX3_own cX3_own 2 (some .long) 1 := ⟨wd_332, wd_333, wd_16, wd_334, by decide, by decide, by decide +kernel⟩
theorem mm_X3_least : tw_mV yX3_least cX3_least 4 (some .int) 1 := ⟨wd_336, wd_337, wd_16, wd_338, by decide, by decide, by decide +kernel⟩
theorem mm_X4_ofGoal : tw_mS yX4_ofGoal cX4_ofGoal 5 (some .int) 3 := ⟨wd_340, wd_321, wd_341, by decide, by decide, by decide +kernel⟩
theorem mm_X4_ofMany : tw_mS yX4_ofMany cX4_ofMany 4 (some .int) 2 := ⟨wd_344, wd_321, wd_345, by decide, by decide, by decide +kernel⟩
theorem mm_X8_contextOf : tw_mV yX8_contextOf cX8_contextOf 4 (some .int) 2 := ⟨wd_349, wd_350, wd_19, wd_351, by decide, by decide, by decide +kernel⟩
theorem mm_X4_usesContext : tw_mS yX4_usesContext cX4_usesContext 1 (some .boolean) 1 := ⟨wd_353, wd_321, wd_354, by decide, by decide, by decide +kernel⟩
theorem mm_X8_writeTraffic : tw_mS yX8_writeTraffic cX8_writeTraffic 6 none 3 := ⟨wd_359, wd_19, wd_360, by decide, by decide, by decide +kernel⟩
theorem mm_X8_writeAddress : tw_mS yX8_writeAddress cX8_writeAddress 7 none 4 := ⟨wd_363, wd_19, wd_364, by decide, by decide, by decide +kernel⟩
theorem mm_X4_bytesOf : tw_mS yX4_bytesOf cX4_bytesOf 1 (some .int) 1 := ⟨wd_366, wd_321, wd_367, by decide, by decide, by decide +kernel⟩
theorem mm_X8_writePorts : tw_mS yX8_writePorts cX8_writePorts 4 none 2 := ⟨wd_370, wd_19, wd_371, by decide, by decide, by decide +kernel⟩
theorem mm_X5_headOf : tw_mS yX5_headOf cX5_headOf 1 (some .int) 1 := ⟨wd_374, wd_204, wd_375, by decide, by decide, by decide +kernel⟩
theorem mm_X11_squeeze : tw_mV yX11_squeeze cX11_squeeze 1 (some .int) 0 := ⟨wd_379, wd_380, wd_6, wd_381, by decide, by decide, by decide +kernel⟩
theorem mm_X11_isPacket : tw_mV yX11_isPacket cX11_isPacket 1 (some .boolean) 0 := ⟨wd_383, wd_384, wd_6, wd_385, by decide, by decide, by decide +kernel⟩
theorem mm_X11_squeezeTape : tw_mV yX11_squeezeTape cX11_squeezeTape 10 none 0 := ⟨wd_387, wd_388, wd_6, wd_389, by decide, by decide, by decide +kernel⟩
theorem mm_X11_sorts : tw_mV yX11_sorts cX11_sorts 1 none 0 := ⟨wd_401, wd_402, wd_6, wd_403, by decide, by decide, by decide +kernel⟩
theorem mm_X11_isPlain : tw_mV yX11_isPlain cX11_isPlain 4 (some .boolean) 1 := ⟨wd_405, wd_406, wd_6, wd_407, by decide, by decide, by decide +kernel⟩
theorem mm_X11_lastsOf : tw_mV yX11_lastsOf cX11_lastsOf 5 (some .int) 2 := ⟨wd_409, wd_410, wd_6, wd_411, by decide, by decide, by decide +kernel⟩
theorem mm_X11_isZero : tw_mV yX11_isZero cX11_isZero 5 (some .boolean) 2 := ⟨wd_413, wd_414, wd_6, wd_415, by decide, by decide, by decide +kernel⟩
theorem mm_X11_contextOf : tw_mV yX11_contextOf cX11_contextOf 5 (some .int) 1 := ⟨wd_417, wd_418, wd_6, wd_419, by decide, by decide, by decide +kernel⟩
theorem mm_X11_groupOf : tw_mV yX11_groupOf cX11_groupOf 1 (some .int) 0 := ⟨wd_421, wd_422, wd_6, wd_423, by decide, by decide, by decide +kernel⟩
theorem mm_X11_add : tw_mV yX11_add cX11_add 2 none 1 := ⟨wd_425, wd_426, wd_6, wd_427, by decide, by decide, by decide +kernel⟩
theorem mm_X11_addLasts : tw_mV yX11_addLasts cX11_addLasts 4 none 2 := ⟨wd_429, wd_430, wd_6, wd_431, by decide, by decide, by decide +kernel⟩
theorem mm_X11_addAll : tw_mV yX11_addAll cX11_addAll 3 none 1 := ⟨wd_433, wd_434, wd_6, wd_435, by decide, by decide, by decide +kernel⟩
theorem mm_X11_addPorts : tw_mV yX11_addPorts cX11_addPorts 3 none 0 := ⟨wd_437, wd_438, wd_6, wd_439, by decide, by decide, by decide +kernel⟩
theorem mm_X11_rowToOut : tw_mV yX11_rowToOut cX11_rowToOut 2 none 0 := ⟨wd_441, wd_442, wd_6, wd_443, by decide, by decide, by decide +kernel⟩
theorem mm_X10_unfold : tw_mV yX10_unfold cX10_unfold 2 (some .int) 0 := ⟨wd_445, wd_446, wd_3, wd_447, by decide, by decide, by decide +kernel⟩
theorem mm_X9_read : tw_mV yX9_read cX9_read 5 (some .boolean) 3 := ⟨wd_449, wd_450, wd_22, wd_451, by decide, by decide, by decide +kernel⟩
theorem mm_X7_becomeZeros : tw_mV yX7_becomeZeros cX7_becomeZeros 3 none 1 := ⟨wd_459, wd_460, wd_25, wd_461, by decide, by decide, by decide +kernel⟩
theorem mm_X9_readsForm : tw_mV yX9_readsForm cX9_readsForm 2 (some .boolean) 1 := ⟨wd_463, wd_464, wd_22, wd_465, by decide, by decide, by decide +kernel⟩
theorem mm_X9_has : tw_mV yX9_has cX9_has 3 (some .boolean) 2 := ⟨wd_469, wd_470, wd_22, wd_471, by decide, by decide, by decide +kernel⟩
theorem mm_X9_fails : tw_mV yX9_fails cX9_fails 3 (some .boolean) 2 := ⟨wd_474, wd_475, wd_22, wd_476, by decide, by decide, by decide +kernel⟩
theorem mm_X9_next : tw_mV yX9_next cX9_next 3 (some .int) 1 := ⟨wd_479, wd_480, wd_22, wd_481, by decide, by decide, by decide +kernel⟩
theorem mm_X9_goal : tw_mV yX9_goal cX9_goal 1 (some .int) 0 := ⟨wd_483, wd_484, wd_22, wd_485, by decide, by decide, by decide +kernel⟩
theorem mm_X9_readsContexts : tw_mV yX9_readsContexts cX9_readsContexts 5 (some .boolean) 1 := ⟨wd_487, wd_488, wd_22, wd_489, by decide, by decide, by decide +kernel⟩
theorem mm_X9_source : tw_mV yX9_source cX9_source 1 (some .int) 0 := ⟨wd_491, wd_492, wd_22, wd_493, by decide, by decide, by decide +kernel⟩
theorem mm_X9_readsTraffic : tw_mV yX9_readsTraffic cX9_readsTraffic 9 (some .boolean) 1 := ⟨wd_497, wd_498, wd_22, wd_499, by decide, by decide, by decide +kernel⟩
theorem mm_X9_traffic : tw_mV yX9_traffic cX9_traffic 1 (some .int) 0 := ⟨wd_502, wd_503, wd_22, wd_504, by decide, by decide, by decide +kernel⟩
theorem mm_X7_setNumber : tw_mV yX7_setNumber cX7_setNumber 6 none 3 := ⟨wd_508, wd_509, wd_25, wd_510, by decide, by decide, by decide +kernel⟩
theorem mm_X9_readsKind : tw_mV yX9_readsKind cX9_readsKind 2 (some .boolean) 1 := ⟨wd_512, wd_513, wd_22, wd_514, by decide, by decide, by decide +kernel⟩
theorem mm_X9_ports : tw_mV yX9_ports cX9_ports 1 (some .boolean) 0 := ⟨wd_516, wd_517, wd_22, wd_518, by decide, by decide, by decide +kernel⟩
theorem mm_X9_readsHops : tw_mV yX9_readsHops cX9_readsHops 4 (some .boolean) 1 := ⟨wd_521, wd_522, wd_22, wd_523, by decide, by decide, by decide +kernel⟩
theorem mm_X9_readsAddress : tw_mV yX9_readsAddress cX9_readsAddress 7 (some .boolean) 3 := ⟨wd_525, wd_526, wd_22, wd_527, by decide, by decide, by decide +kernel⟩
theorem mm_X9_firstEight : tw_mV yX9_firstEight cX9_firstEight 3 (some .long) 2 := ⟨wd_532, wd_533, wd_22, wd_534, by decide, by decide, by decide +kernel⟩
theorem mm_X3_contextOf : tw_mV yX3_contextOf cX3_contextOf 2 (some .long) 1 := ⟨wd_537, wd_538, wd_16, wd_539, by decide, by decide, by decide +kernel⟩
theorem mm_X9_lastEight : tw_mV yX9_lastEight cX9_lastEight 5 (some .long) 3 := ⟨wd_542, wd_543, wd_22, wd_544, by decide, by decide, by decide +kernel⟩
theorem mm_X9_readsPorts : tw_mV yX9_readsPorts cX9_readsPorts 4 (some .boolean) 1 := ⟨wd_548, wd_549, wd_22, wd_550, by decide, by decide, by decide +kernel⟩
theorem mm_X9_portsOf : tw_mS yX9_portsOf cX9_portsOf 3 (some .long) 2 := ⟨wd_552, wd_22, wd_553, by decide, by decide, by decide +kernel⟩
theorem mm_X9_readsRest : tw_mV yX9_readsRest cX9_readsRest 4 (some .boolean) 2 := ⟨wd_562, wd_563, wd_22, wd_564, by decide, by decide, by decide +kernel⟩
theorem mm_X9_tell : tw_mV yX9_tell cX9_tell 3 none 1 := ⟨wd_567, wd_568, wd_22, wd_569, by decide, by decide, by decide +kernel⟩
theorem mm_X9_fault : tw_mV yX9_fault cX9_fault 1 (some .int) 0 := ⟨wd_571, wd_572, wd_22, wd_573, by decide, by decide, by decide +kernel⟩
theorem mm_X9_packet : tw_mV yX9_packet cX9_packet 1 (some (.object "ShortFrames$Row")) 0 := ⟨wd_575, wd_576, wd_22, wd_577, by decide, by decide, by decide +kernel⟩
theorem mm_X11_unfold : tw_mV yX11_unfold cX11_unfold 3 (some .int) 0 := ⟨wd_579, wd_580, wd_6, wd_581, by decide, by decide, by decide +kernel⟩
theorem mm_X11_unfolds : tw_mV yX11_unfolds cX11_unfolds 13 (some .boolean) 1 := ⟨wd_589, wd_590, wd_6, wd_591, by decide, by decide, by decide +kernel⟩
theorem mm_X11_next : tw_mV yX11_next cX11_next 2 (some .int) 0 := ⟨wd_594, wd_595, wd_6, wd_596, by decide, by decide, by decide +kernel⟩
theorem mm_X11_fails : tw_mV yX11_fails cX11_fails 3 (some .boolean) 2 := ⟨wd_598, wd_599, wd_6, wd_600, by decide, by decide, by decide +kernel⟩
theorem mm_X11_unfoldsFirst : tw_mV yX11_unfoldsFirst cX11_unfoldsFirst 9 (some .boolean) 1 := ⟨wd_602, wd_603, wd_6, wd_604, by decide, by decide, by decide +kernel⟩
theorem mm_X11_set : tw_mV yX11_set cX11_set 3 none 2 := ⟨wd_606, wd_607, wd_6, wd_608, by decide, by decide, by decide +kernel⟩
theorem mm_X11_unfoldSource : tw_mV yX11_unfoldSource cX11_unfoldSource 3 none 1 := ⟨wd_610, wd_611, wd_6, wd_612, by decide, by decide, by decide +kernel⟩
theorem mm_X11_fromContext : tw_mV yX11_fromContext cX11_fromContext 4 none 2 := ⟨wd_614, wd_615, wd_6, wd_616, by decide, by decide, by decide +kernel⟩
theorem mm_X11_plain : tw_mV yX11_plain cX11_plain 2 none 1 := ⟨wd_618, wd_619, wd_6, wd_620, by decide, by decide, by decide +kernel⟩
theorem mm_X11_lasts : tw_mV yX11_lasts cX11_lasts 5 none 3 := ⟨wd_622, wd_623, wd_6, wd_624, by decide, by decide, by decide +kernel⟩
theorem mm_X11_unfoldGoal : tw_mV yX11_unfoldGoal cX11_unfoldGoal 3 none 1 := ⟨wd_626, wd_627, wd_6, wd_628, by decide, by decide, by decide +kernel⟩
theorem mm_X11_unfoldPorts : tw_mV yX11_unfoldPorts cX11_unfoldPorts 3 none 1 := ⟨wd_630, wd_631, wd_6, wd_632, by decide, by decide, by decide +kernel⟩
theorem mm_X11_ends : tw_mV yX11_ends cX11_ends 9 (some .boolean) 5 := ⟨wd_634, wd_635, wd_6, wd_636, by decide, by decide, by decide +kernel⟩
theorem mm_X11_packetToOut : tw_mV yX11_packetToOut cX11_packetToOut 2 none 0 := ⟨wd_639, wd_640, wd_6, wd_641, by decide, by decide, by decide +kernel⟩
theorem mm_X10_told : tw_mV yX10_told cX10_told 2 (some .int) 1 := ⟨wd_643, wd_644, wd_3, wd_645, by decide, by decide, by decide +kernel⟩
theorem mm_X11_told : tw_mV yX11_told cX11_told 2 (some .int) 1 := ⟨wd_647, wd_648, wd_6, wd_649, by decide, by decide, by decide +kernel⟩
theorem mm_X10_slice : tw_mV yX10_slice cX10_slice 3 (some .int) 2 := ⟨wd_651, wd_652, wd_3, wd_653, by decide, by decide, by decide +kernel⟩
theorem mm_X0_divide : tw_mV yX0_divide cX0_divide 8 (some .int) 4 := ⟨wd_656, wd_657, wd_37, wd_658, by decide, by decide, by decide +kernel⟩
theorem mm_X1_clear : tw_mV yX1_clear cX1_clear 1 none 0 := ⟨wd_662, wd_663, wd_33, wd_664, by decide, by decide, by decide +kernel⟩
theorem mm_X1_store : tw_mV yX1_store cX1_store 3 (some .boolean) 2 := ⟨wd_666, wd_667, wd_33, wd_668, by decide, by decide, by decide +kernel⟩
theorem mm_X1_size : tw_mV yX1_size cX1_size 1 (some .int) 0 := ⟨wd_671, wd_672, wd_33, wd_673, by decide, by decide, by decide +kernel⟩
theorem mm_X0_begin : tw_mV yX0_begin cX0_begin 4 none 3 := ⟨wd_675, wd_676, wd_37, wd_677, by decide, by decide, by decide +kernel⟩
theorem mm_X0_divideRest : tw_mV yX0_divideRest cX0_divideRest 11 (some .int) 5 := ⟨wd_683, wd_684, wd_37, wd_685, by decide, by decide, by decide +kernel⟩
theorem mm_X11_slice : tw_mV yX11_slice cX11_slice 8 (some .int) 2 := ⟨wd_688, wd_689, wd_6, wd_690, by decide, by decide, by decide +kernel⟩
theorem mm_X11_addTo : tw_mV yX11_addTo cX11_addTo 3 none 2 := ⟨wd_694, wd_695, wd_6, wd_696, by decide, by decide, by decide +kernel⟩
theorem mm_X11_begin : tw_mV yX11_begin cX11_begin 5 none 4 := ⟨wd_698, wd_699, wd_6, wd_700, by decide, by decide, by decide +kernel⟩
theorem mm_X10_frame : tw_mV yX10_frame cX10_frame 3 (some .int) 2 := ⟨wd_702, wd_703, wd_3, wd_704, by decide, by decide, by decide +kernel⟩
theorem mm_X1_has : tw_mV yX1_has cX1_has 2 (some .boolean) 1 := ⟨wd_706, wd_707, wd_33, wd_708, by decide, by decide, by decide +kernel⟩
theorem mm_X1_at : tw_mV yX1_at cX1_at 2 (some (.object "ShortFrames$Row")) 1 := ⟨wd_710, wd_711, wd_33, wd_712, by decide, by decide, by decide +kernel⟩
theorem mm_X11_frame : tw_mV yX11_frame cX11_frame 3 (some .int) 2 := ⟨wd_714, wd_715, wd_6, wd_716, by decide, by decide, by decide +kernel⟩
theorem mm_X11_isFrame : tw_mV yX11_isFrame cX11_isFrame 2 (some .boolean) 1 := ⟨wd_718, wd_719, wd_6, wd_720, by decide, by decide, by decide +kernel⟩
theorem mm_X10_spoil : tw_mV yX10_spoil cX10_spoil 4 (some .int) 3 := ⟨wd_722, wd_723, wd_3, wd_724, by decide, by decide, by decide +kernel⟩
theorem mm_X11_spoil : tw_mV yX11_spoil cX11_spoil 4 (some .int) 3 := ⟨wd_726, wd_727, wd_6, wd_728, by decide, by decide, by decide +kernel⟩
theorem mm_X10_put : tw_mV yX10_put cX10_put 2 (some .int) 1 := ⟨wd_730, wd_731, wd_3, wd_732, by decide, by decide, by decide +kernel⟩
theorem mm_X11_put : tw_mV yX11_put cX11_put 3 (some .int) 1 := ⟨wd_736, wd_737, wd_6, wd_738, by decide, by decide, by decide +kernel⟩
theorem mm_X10_hear : tw_mV yX10_hear cX10_hear 2 (some .int) 1 := ⟨wd_740, wd_741, wd_3, wd_742, by decide, by decide, by decide +kernel⟩
theorem mm_X6_listen : tw_mV yX6_listen cX6_listen 5 (some .int) 2 := ⟨wd_744, wd_745, wd_41, wd_746, by decide, by decide, by decide +kernel⟩
theorem mm_X6_hearsAll : tw_mV yX6_hearsAll cX6_hearsAll 3 (some .int) 2 := ⟨wd_751, wd_752, wd_41, wd_753, by decide, by decide, by decide +kernel⟩
theorem mm_X6_hearsFirst : tw_mV yX6_hearsFirst cX6_hearsFirst 4 (some .int) 2 := ⟨wd_759, wd_760, wd_41, wd_761, by decide, by decide, by decide +kernel⟩
theorem mm_X6_zOf : tw_mS yX6_zOf cX6_zOf 1 (some .int) 1 := ⟨wd_763, wd_41, wd_764, by decide, by decide, by decide +kernel⟩
theorem mm_X6_hearsPart : tw_mV yX6_hearsPart cX6_hearsPart 11 (some .int) 5 := ⟨wd_767, wd_768, wd_41, wd_769, by decide, by decide, by decide +kernel⟩
theorem mm_X6_dropLateHeaps : tw_mV yX6_dropLateHeaps cX6_dropLateHeaps 2 none 0 := ⟨wd_773, wd_774, wd_41, wd_775, by decide, by decide, by decide +kernel⟩
theorem mm_X2_beganBy : tw_mV yX2_beganBy cX2_beganBy 2 (some .boolean) 1 := ⟨wd_778, wd_779, wd_99, wd_780, by decide, by decide, by decide +kernel⟩
theorem mm_X2_end : tw_mV yX2_end cX2_end 1 none 0 := ⟨wd_784, wd_785, wd_99, wd_786, by decide, by decide, by decide +kernel⟩
theorem mm_X6_indexFor : tw_mV yX6_indexFor cX6_indexFor 5 (some .int) 2 := ⟨wd_788, wd_789, wd_41, wd_790, by decide, by decide, by decide +kernel⟩
theorem mm_X2_isOf : tw_mV yX2_isOf cX2_isOf 3 (some .boolean) 2 := ⟨wd_792, wd_793, wd_99, wd_794, by decide, by decide, by decide +kernel⟩
theorem mm_X2_isThere : tw_mV yX2_isThere cX2_isThere 1 (some .boolean) 0 := ⟨wd_798, wd_799, wd_99, wd_800, by decide, by decide, by decide +kernel⟩
theorem mm_X2_begin : tw_mV yX2_begin cX2_begin 5 none 3 := ⟨wd_802, wd_803, wd_99, wd_804, by decide, by decide, by decide +kernel⟩
theorem mm_X2_hasJust : tw_mV yX2_hasJust cX2_hasJust 4 (some .boolean) 2 := ⟨wd_809, wd_810, wd_99, wd_811, by decide, by decide, by decide +kernel⟩
theorem mm_X2_meets : tw_mV yX2_meets cX2_meets 5 (some .boolean) 2 := ⟨wd_813, wd_814, wd_99, wd_815, by decide, by decide, by decide +kernel⟩
theorem mm_X2_keep : tw_mV yX2_keep cX2_keep 7 none 3 := ⟨wd_817, wd_818, wd_99, wd_819, by decide, by decide, by decide +kernel⟩
theorem mm_X2_isWhole : tw_mV yX2_isWhole cX2_isWhole 1 (some .boolean) 0 := ⟨wd_824, wd_825, wd_99, wd_826, by decide, by decide, by decide +kernel⟩
theorem mm_X2_content : tw_mV yX2_content cX2_content 1 (some (.object "ShortFrames$Row")) 0 := ⟨wd_828, wd_829, wd_99, wd_830, by decide, by decide, by decide +kernel⟩
theorem mm_X11_hear : tw_mV yX11_hear cX11_hear 8 (some .int) 1 := ⟨wd_832, wd_833, wd_6, wd_834, by decide, by decide, by decide +kernel⟩
theorem mm_X11_reads : tw_mV yX11_reads cX11_reads 4 none 2 := ⟨wd_837, wd_838, wd_6, wd_839, by decide, by decide, by decide +kernel⟩
theorem mm_X11_drops : tw_mV yX11_drops cX11_drops 1 (some .int) 0 := ⟨wd_841, wd_842, wd_6, wd_843, by decide, by decide, by decide +kernel⟩
theorem mm_X11_hears : tw_mV yX11_hears cX11_hears 9 (some .int) 3 := ⟨wd_846, wd_847, wd_6, wd_848, by decide, by decide, by decide +kernel⟩
theorem mm_X11_goes : tw_mV yX11_goes cX11_goes 4 none 1 := ⟨wd_854, wd_855, wd_6, wd_856, by decide, by decide, by decide +kernel⟩
theorem mm_X10_pass : tw_mV yX10_pass cX10_pass 2 (some .int) 1 := ⟨wd_858, wd_859, wd_3, wd_860, by decide, by decide, by decide +kernel⟩
theorem mm_X6_goOn : tw_mV yX6_goOn cX6_goOn 2 (some .int) 1 := ⟨wd_862, wd_863, wd_41, wd_864, by decide, by decide, by decide +kernel⟩
theorem mm_X11_pass : tw_mV yX11_pass cX11_pass 2 (some .int) 1 := ⟨wd_866, wd_867, wd_6, wd_868, by decide, by decide, by decide +kernel⟩
theorem mm_X10_count : tw_mV yX10_count cX10_count 2 (some .int) 1 := ⟨wd_870, wd_871, wd_3, wd_872, by decide, by decide, by decide +kernel⟩
theorem mm_X6_heaps : tw_mV yX6_heaps cX6_heaps 3 (some .int) 0 := ⟨wd_874, wd_875, wd_41, wd_876, by decide, by decide, by decide +kernel⟩
theorem mm_X6_parts : tw_mV yX6_parts cX6_parts 3 (some .int) 0 := ⟨wd_878, wd_879, wd_41, wd_880, by decide, by decide, by decide +kernel⟩
theorem mm_X2_parts : tw_mV yX2_parts cX2_parts 1 (some .int) 0 := ⟨wd_882, wd_883, wd_99, wd_884, by decide, by decide, by decide +kernel⟩
theorem mm_X6_bytes : tw_mV yX6_bytes cX6_bytes 3 (some .int) 0 := ⟨wd_886, wd_887, wd_41, wd_888, by decide, by decide, by decide +kernel⟩
theorem mm_X2_bytes : tw_mV yX2_bytes cX2_bytes 1 (some .int) 0 := ⟨wd_890, wd_891, wd_99, wd_892, by decide, by decide, by decide +kernel⟩
theorem mm_X11_count : tw_mV yX11_count cX11_count 5 (some .int) 1 := ⟨wd_894, wd_895, wd_6, wd_896, by decide, by decide, by decide +kernel⟩
theorem sh_0 : tw_sh 0 = some (8, [4, 6, 8, 11, 12, 15, 17, 22, 24]) := by decide +kernel
theorem sh_1 : tw_sh 1 = some (5, [5, 2]) := by decide +kernel
theorem sh_3 : tw_sh 3 = some (5, [7, 2]) := by decide +kernel
theorem sh_5 : tw_sh 5 = some (3, [9, 10, 1, 1]) := by decide +kernel
theorem sh_8 : tw_sh 8 = some (6, [8]) := by decide +kernel
theorem sh_9 : tw_sh 9 = some (7, [8, 13, 0, 0, 0, 0, 0, 0, 0, 0]) := by decide +kernel
theorem sh_10 : tw_sh 10 = some (5, [14, 2]) := by decide +kernel
theorem sh_12 : tw_sh 12 = some (1, [16, 0]) := by decide +kernel
theorem sh_14 : tw_sh 14 = some (0, [11, 18, 20]) := by decide +kernel
theorem sh_15 : tw_sh 15 = some (5, [19, 2]) := by decide +kernel
theorem sh_17 : tw_sh 17 = some (5, [21, 2]) := by decide +kernel
theorem sh_19 : tw_sh 19 = some (4, [12, 23, 0, 0, 0, 0, 0]) := by decide +kernel
theorem sh_114 : tw_sh 114 = some (9, [118, 119, 120, 121, 0, 122, 0, 123, 0, 0, 0, 0, 0, 0, 0, 0, 0, 0, 124, 0, 0, 0, 0, 125, 0, 126, 0, 0, 0, 127, 128, 129, 0, 0, 0, 130, 131, 132, 133, 134, 135, 136, 0, 0, 0, 0]) := by decide +kernel
theorem sn_6 : tw_sh 6 = none := by decide +kernel
theorem sa_6 : tw_ar 6 = some (1, 16) := by decide +kernel
theorem sn_7 : tw_sh 7 = none := by decide +kernel
theorem sa_7 : tw_ar 7 = some (2, 16) := by decide +kernel
theorem sn_13 : tw_sh 13 = none := by decide +kernel
theorem sa_13 : tw_ar 13 = some (4, 40) := by decide +kernel
theorem sn_20 : tw_sh 20 = none := by decide +kernel
theorem sa_20 : tw_ar 20 = some (5, 3) := by decide +kernel
theorem sn_21 : tw_sh 21 = none := by decide +kernel
theorem sa_21 : tw_ar 21 = some (0, 8) := by decide +kernel
theorem sn_115 : tw_sh 115 = none := by decide +kernel
theorem sa_115 : tw_ar 115 = some (1, 16) := by decide +kernel
theorem sn_116 : tw_sh 116 = none := by decide +kernel
theorem sa_116 : tw_ar 116 = some (0, 128) := by decide +kernel
theorem sn_117 : tw_sh 117 = none := by decide +kernel
theorem sa_117 : tw_ar 117 = some (0, 16) := by decide +kernel
theorem sn_118 : tw_sh 118 = none := by decide +kernel
theorem sa_118 : tw_ar 118 = some (0, 640) := by decide +kernel
theorem sn_119 : tw_sh 119 = none := by decide +kernel
theorem sa_119 : tw_ar 119 = some (0, 800) := by decide +kernel
theorem sn_120 : tw_sh 120 = none := by decide +kernel
theorem sa_120 : tw_ar 120 = some (0, 800) := by decide +kernel
theorem sn_121 : tw_sh 121 = none := by decide +kernel
theorem sa_121 : tw_ar 121 = some (0, 640) := by decide +kernel
theorem sn_122 : tw_sh 122 = none := by decide +kernel
theorem sa_122 : tw_ar 122 = some (0, 800) := by decide +kernel
theorem sn_123 : tw_sh 123 = none := by decide +kernel
theorem sa_123 : tw_ar 123 = some (0, 8) := by decide +kernel
theorem sn_124 : tw_sh 124 = none := by decide +kernel
theorem sa_124 : tw_ar 124 = some (0, 8) := by decide +kernel
theorem sn_125 : tw_sh 125 = none := by decide +kernel
theorem sa_125 : tw_ar 125 = some (0, 4800) := by decide +kernel
theorem sn_126 : tw_sh 126 = none := by decide +kernel
theorem sa_126 : tw_ar 126 = some (0, 40) := by decide +kernel
theorem sn_127 : tw_sh 127 = none := by decide +kernel
theorem sa_127 : tw_ar 127 = some (0, 3) := by decide +kernel
theorem sn_128 : tw_sh 128 = none := by decide +kernel
theorem sa_128 : tw_ar 128 = some (0, 3) := by decide +kernel
theorem sn_129 : tw_sh 129 = none := by decide +kernel
theorem sa_129 : tw_ar 129 = some (0, 3) := by decide +kernel
theorem sn_130 : tw_sh 130 = none := by decide +kernel
theorem sa_130 : tw_ar 130 = some (0, 1800) := by decide +kernel
theorem sn_131 : tw_sh 131 = none := by decide +kernel
theorem sa_131 : tw_ar 131 = some (0, 3) := by decide +kernel
theorem sn_132 : tw_sh 132 = none := by decide +kernel
theorem sa_132 : tw_ar 132 = some (0, 300) := by decide +kernel
theorem sn_133 : tw_sh 133 = none := by decide +kernel
theorem sa_133 : tw_ar 133 = some (0, 300) := by decide +kernel
theorem tw_row1 : tw_isRow 1 = true := rfl
theorem tw_row3 : tw_isRow 3 = true := rfl
theorem tw_row10 : tw_isRow 10 = true := rfl
theorem tw_row15 : tw_isRow 15 = true := rfl
theorem tw_row17 : tw_isRow 17 = true := rfl
theorem tw_rowF0 : ∀ k, k < 40 → tw_isRow (34 + 2 * k) = true ∧ tw_cap (34 + 2 * k) = 120 := by decide +kernel
theorem tw_rowF {k : Nat} (h : k < 40) : tw_isRow (34 + 2 * k) = true := (tw_rowF0 k h).1
theorem tw_capF {k : Nat} (h : k < 40) : tw_cap (34 + 2 * k) = 120 := (tw_rowF0 k h).2
theorem tw_rowH0 : ∀ i, i < 3 → tw_isRow (22 + 4 * i + 1) = true ∧ tw_cap (22 + 4 * i + 1) = 600 ∧ tw_sh (22 + 4 * i) = some (2, [22 + 4 * i + 4, 22 + 4 * i + 6, 0, 0, 0, 0, 0, 0]) ∧ tw_sh (22 + 4 * i + 3) = none ∧ tw_ar (22 + 4 * i + 3) = some (0, 75) := by decide +kernel
theorem tw_row_lt1 {r : Nat} (h : tw_isRow r = true) : r + 1 < 114 := by
  have h0 : ∀ r, r < 114 → tw_isRow r = true → r + 1 < 114 := by decide +kernel
  exact h0 r (tw_row_lt h).2 h
abbrev tw_cG (G : tw_G) : Prop := ∀ r, r < 114 → tw_P G r
abbrev tw_mG (G : tw_G) : Prop := ∀ r, 114 ≤ r → r < 134 → tw_P G r
def ri_A (G : tw_G) : Nat → Option Value := fun r => some (.ref (tw_ad G r))
