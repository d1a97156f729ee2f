theorem z_lawk : z_okm 40 false code kL_law = true := by
  refine z_okm_f (fun pc hp => ?_)
  have h5 : kL_law.length = 1332 := by decide +kernel
  rw [h5] at hp
  by_cases h0 : pc < 50
  · exact z_okr z_lk_0 pc (by omega) (by omega)
  by_cases h50 : pc < 100
  · exact z_okr z_lk_50 pc (by omega) (by omega)
  by_cases h100 : pc < 150
  · exact z_okr z_lk_100 pc (by omega) (by omega)
  by_cases h150 : pc < 200
  · exact z_okr z_lk_150 pc (by omega) (by omega)
  by_cases h200 : pc < 250
  · exact z_okr z_lk_200 pc (by omega) (by omega)
  by_cases h250 : pc < 300
  · exact z_okr z_lk_250 pc (by omega) (by omega)
  by_cases h300 : pc < 350
  · exact z_okr z_lk_300 pc (by omega) (by omega)
  by_cases h350 : pc < 400
  · exact z_okr z_lk_350 pc (by omega) (by omega)
  by_cases h400 : pc < 450
  · exact z_okr z_lk_400 pc (by omega) (by omega)
  by_cases h450 : pc < 500
  · exact z_okr z_lk_450 pc (by omega) (by omega)
  by_cases h500 : pc < 550
  · exact z_okr z_lk_500 pc (by omega) (by omega)
  by_cases h550 : pc < 600
  · exact z_okr z_lk_550 pc (by omega) (by omega)
  by_cases h600 : pc < 650
  · exact z_okr z_lk_600 pc (by omega) (by omega)
  by_cases h650 : pc < 700
  · exact z_okr z_lk_650 pc (by omega) (by omega)
  by_cases h700 : pc < 750
  · exact z_okr z_lk_700 pc (by omega) (by omega)
  by_cases h750 : pc < 800
  · exact z_okr z_lk_750 pc (by omega) (by omega)
  by_cases h800 : pc < 850
  · exact z_okr z_lk_800 pc (by omega) (by omega)
  by_cases h850 : pc < 900
  · exact z_okr z_lk_850 pc (by omega) (by omega)
  by_cases h900 : pc < 950
  · exact z_okr z_lk_900 pc (by omega) (by omega)
  by_cases h950 : pc < 1000
  · exact z_okr z_lk_950 pc (by omega) (by omega)
  by_cases h1000 : pc < 1050
  · exact z_okr z_lk_1000 pc (by omega) (by omega)
  by_cases h1050 : pc < 1100
  · exact z_okr z_lk_1050 pc (by omega) (by omega)
  by_cases h1100 : pc < 1150
  · exact z_okr z_lk_1100 pc (by omega) (by omega)
  by_cases h1150 : pc < 1200
  · exact z_okr z_lk_1150 pc (by omega) (by omega)
  by_cases h1200 : pc < 1250
  · exact z_okr z_lk_1200 pc (by omega) (by omega)
  by_cases h1250 : pc < 1300
  · exact z_okr z_lk_1250 pc (by omega) (by omega)
  by_cases h1300 : pc < 1332
  · exact z_okr z_lk_1300 pc (by omega) (by omega)
  omega
