set_option maxRecDepth 1000000 in
theorem th_X8_66_70 : mm_tw cd_Y RX8 66 70 "java/lang/IndexOutOfBoundsException" ["java/lang/RuntimeException", "java/lang/Exception"] := ⟨by decide +kernel, by decide +kernel, tw_240, tw_12, by decide +kernel, by decide +kernel⟩
set_option maxRecDepth 1000000 in
theorem th_X8_150_154 : mm_tw cd_Y RX8 150 154 "java/lang/IllegalStateException" ["java/lang/RuntimeException", "java/lang/Exception"] := ⟨by decide +kernel, by decide +kernel, tw_460, tw_16, by decide +kernel, by decide +kernel⟩
set_option maxRecDepth 1000000 in
theorem th_X8_274_278 : mm_tw cd_Y RX8 274 278 "java/lang/IllegalArgumentException" ["java/lang/RuntimeException", "java/lang/Exception"] := ⟨by decide +kernel, by decide +kernel, tw_674, tw_18, by decide +kernel, by decide +kernel⟩
