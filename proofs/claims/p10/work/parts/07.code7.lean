theorem mj_ckL6 : mj_tokr code 16 mj_cdL 600 100 = true := by decide +kernel
theorem mj_ckL7 : mj_tokr code 16 mj_cdL 700 100 = true := by decide +kernel
theorem mj_ckL8 : mj_tokr code 16 mj_cdL 800 100 = true := by decide +kernel
