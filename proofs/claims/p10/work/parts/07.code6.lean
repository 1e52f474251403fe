theorem mj_ckL3 : mj_tokr code 16 mj_cdL 300 100 = true := by decide +kernel
theorem mj_ckL4 : mj_tokr code 16 mj_cdL 400 100 = true := by decide +kernel
theorem mj_ckL5 : mj_tokr code 16 mj_cdL 500 100 = true := by decide +kernel
