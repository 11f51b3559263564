theorem d_Mod_wn34_306 : decode b_Mod_wn34 306 = .ok (.iload_n 1, 1) := by decide +kernel
theorem d_Mod_wn34_307 : decode b_Mod_wn34 307 = .ok (.bipush 32, 2) := by decide +kernel
theorem d_Mod_wn34_309 : decode b_Mod_wn34 309 = .ok (.if_icmp .ge 21, 3) := by decide +kernel
theorem d_Mod_wn34_312 : decode b_Mod_wn34 312 = .ok (.aload_n 0, 1) := by decide +kernel
theorem d_Mod_wn34_313 : decode b_Mod_wn34 313 = .ok (.dup, 1) := by decide +kernel
theorem d_Mod_wn34_314 : decode b_Mod_wn34 314 = .ok (.getfield 115, 3) := by decide +kernel
theorem d_Mod_wn34_317 : decode b_Mod_wn34 317 = .ok (.aload_n 0, 1) := by decide +kernel
theorem d_Mod_wn34_318 : decode b_Mod_wn34 318 = .ok (.getfield 124, 3) := by decide +kernel
theorem d_Mod_wn34_321 : decode b_Mod_wn34 321 = .ok (.l2i, 1) := by decide +kernel
theorem d_Mod_wn34_322 : decode b_Mod_wn34 322 = .ok (.sipush 4095, 3) := by decide +kernel
theorem d_Mod_wn34_325 : decode b_Mod_wn34 325 = .ok (.iand, 1) := by decide +kernel
theorem d_Mod_wn34_326 : decode b_Mod_wn34 326 = .ok (.ior, 1) := by decide +kernel
theorem d_Mod_wn34_327 : decode b_Mod_wn34 327 = .ok (.putfield 115, 3) := by decide +kernel
theorem d_Mod_wn34_330 : decode b_Mod_wn34 330 = .ok (.iconst 1, 1) := by decide +kernel
theorem d_Mod_wn34_331 : decode b_Mod_wn34 331 = .ok (.ireturn, 1) := by decide +kernel
