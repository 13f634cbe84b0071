def xNI : String := "java/lang/IndexOutOfBoundsException"
set_option maxRecDepth 100000 in
theorem thI : thOK xNI 134 138 := ⟨by decide +kernel, bw_231, bw_11, by decide +kernel, by decide +kernel⟩
def xNA : String := "java/lang/IllegalArgumentException"
set_option maxRecDepth 100000 in
theorem thA : thOK xNA 29 33 := ⟨by decide +kernel, bw_160, bw_8, by decide +kernel, by decide +kernel⟩
def xNS : String := "java/lang/IllegalStateException"
set_option maxRecDepth 100000 in
theorem thS : thOK xNS 158 162 := ⟨by decide +kernel, bw_92, bw_7, by decide +kernel, by decide +kernel⟩
