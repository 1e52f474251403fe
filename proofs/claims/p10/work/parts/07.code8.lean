theorem mj_ckL9 : mj_tokr code 16 mj_cdL 900 100 = true := by decide +kernel
theorem mj_ckL10 : mj_tokr code 16 mj_cdL 1000 100 = true := by decide +kernel
