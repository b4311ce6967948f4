theorem kt_X7_112_114 : k_ThN RX7 112 114 116 "java/util/NoSuchElementException" "no rule applies" 4 := ⟨by decide +kernel, wd_499, wd_22, rfl, by decide +kernel⟩
theorem kt_X7_112_141 : k_ThN RX7 112 141 116 "java/util/NoSuchElementException" "the user is not sanctioned" 5 := ⟨by decide +kernel, wd_499, wd_22, rfl, by decide +kernel⟩
theorem kt_X7_112_219 : k_ThN RX7 112 219 116 "java/util/NoSuchElementException" "there is no precedent" 10 := ⟨by decide +kernel, wd_499, wd_22, rfl, by decide +kernel⟩
theorem kt_X7_112_320 : k_ThN RX7 112 320 116 "java/util/NoSuchElementException" "no decision stands" 12 := ⟨by decide +kernel, wd_499, wd_22, rfl, by decide +kernel⟩
