/-! what is made: the words -/
theorem na_i : Cond.arrayClass .int ∈ TB := TB_of (lt1 (List.mem_of_getElem? (i := 47) (by decide +kernel))) rfl
theorem na_l : Cond.arrayClass .long ∈ TB := TB_of (lt1 (List.mem_of_getElem? (i := 193) (by decide +kernel))) rfl
theorem na_z : Cond.arrayClass .boolean ∈ TB := TB_of (lt6 (List.mem_of_getElem? (i := 222) (by decide +kernel))) rfl
theorem nao : Cond.arrayOver (.array .int) ∈ NWL := NWL_of (lt1 (List.mem_of_getElem? (i := 55) (by decide +kernel))) rfl
theorem nw_X11_7 : Cond.classLink RX11 7 RX9 ∈ TB := TB_of (lt1 (List.mem_of_getElem? (i := 33) (by decide +kernel))) rfl
theorem nwi_X9 : Cond.instantiable RX9 2 ∈ TB := TB_of (lt1 (List.mem_of_getElem? (i := 34) (by decide +kernel))) rfl
theorem nwn_X9 : Cond.initialized RX9 ∈ TB := TB_of (lt1 (List.mem_of_getElem? (i := 2) (by decide +kernel))) rfl
theorem nok_X9 : ∀ k, k < 2 → okT (fty 8 k) = true := by decide
theorem nw_X11_16 : Cond.classLink RX11 16 RX5 ∈ TB := TB_of (lt1 (List.mem_of_getElem? (i := 48) (by decide +kernel))) rfl
theorem nwi_X5 : Cond.instantiable RX5 19 ∈ TB := TB_of (lt1 (List.mem_of_getElem? (i := 49) (by decide +kernel))) rfl
theorem nwn_X5 : Cond.initialized RX5 ∈ TB := TB_of (lt1 (List.mem_of_getElem? (i := 3) (by decide +kernel))) rfl
theorem nok_X5 : ∀ k, k < 19 → okT (fty 4 k) = true := by decide
theorem nw_X11_26 : Cond.classLink RX11 26 RX6 ∈ TB := TB_of (lt1 (List.mem_of_getElem? (i := 155) (by decide +kernel))) rfl
theorem nwi_X6 : Cond.instantiable RX6 8 ∈ TB := TB_of (lt1 (List.mem_of_getElem? (i := 156) (by decide +kernel))) rfl
theorem nwn_X6 : Cond.initialized RX6 ∈ TB := TB_of (lt1 (List.mem_of_getElem? (i := 4) (by decide +kernel))) rfl
theorem nok_X6 : ∀ k, k < 8 → okT (fty 5 k) = true := by decide
theorem nw_X11_35 : Cond.classLink RX11 35 RX2 ∈ TB := TB_of (lt1 (List.mem_of_getElem? (i := 220) (by decide +kernel))) rfl
theorem nwi_X2 : Cond.instantiable RX2 3 ∈ TB := TB_of (lt1 (List.mem_of_getElem? (i := 221) (by decide +kernel))) rfl
theorem nwn_X2 : Cond.initialized RX2 ∈ TB := TB_of (lt1 (List.mem_of_getElem? (i := 6) (by decide +kernel))) rfl
theorem nok_X2 : ∀ k, k < 3 → okT (fty 2 k) = true := by decide
theorem nw_X11_42 : Cond.classLink RX11 42 RX0 ∈ TB := TB_of (lt1 (List.mem_of_getElem? (i := 238) (by decide +kernel))) rfl
theorem nwi_X0 : Cond.instantiable RX0 6 ∈ TB := TB_of (lt1 (List.mem_of_getElem? (i := 239) (by decide +kernel))) rfl
theorem nwn_X0 : Cond.initialized RX0 ∈ TB := TB_of (lt1 (List.mem_of_getElem? (i := 7) (by decide +kernel))) rfl
theorem nok_X0 : ∀ k, k < 6 → okT (fty 0 k) = true := by decide
theorem nw_X11_49 : Cond.classLink RX11 49 RX4 ∈ TB := TB_of (lt2 (List.mem_of_getElem? (i := 27) (by decide +kernel))) rfl
theorem nwi_X4 : Cond.instantiable RX4 13 ∈ TB := TB_of (lt2 (List.mem_of_getElem? (i := 28) (by decide +kernel))) rfl
theorem nwn_X4 : Cond.initialized RX4 ∈ TB := TB_of (lt1 (List.mem_of_getElem? (i := 9) (by decide +kernel))) rfl
theorem nok_X4 : ∀ k, k < 13 → okT (fty 3 k) = true := by decide
theorem nw_X11_58 : Cond.classLink RX11 58 RX1 ∈ TB := TB_of (lt2 (List.mem_of_getElem? (i := 82) (by decide +kernel))) rfl
theorem nwi_X1 : Cond.instantiable RX1 8 ∈ TB := TB_of (lt2 (List.mem_of_getElem? (i := 83) (by decide +kernel))) rfl
theorem nwn_X1 : Cond.initialized RX1 ∈ TB := TB_of (lt1 (List.mem_of_getElem? (i := 10) (by decide +kernel))) rfl
theorem nok_X1 : ∀ k, k < 8 → okT (fty 1 k) = true := by decide
theorem nw_X11_67 : Cond.classLink RX11 67 RX7 ∈ TB := TB_of (lt2 (List.mem_of_getElem? (i := 114) (by decide +kernel))) rfl
theorem nwi_X7 : Cond.instantiable RX7 6 ∈ TB := TB_of (lt2 (List.mem_of_getElem? (i := 115) (by decide +kernel))) rfl
theorem nwn_X7 : Cond.initialized RX7 ∈ TB := TB_of (lt1 (List.mem_of_getElem? (i := 11) (by decide +kernel))) rfl
theorem nok_X7 : ∀ k, k < 6 → okT (fty 6 k) = true := by decide
theorem nw_X11_74 : Cond.classLink RX11 74 RX8 ∈ TB := TB_of (lt2 (List.mem_of_getElem? (i := 142) (by decide +kernel))) rfl
theorem nwi_X8 : Cond.instantiable RX8 3 ∈ TB := TB_of (lt2 (List.mem_of_getElem? (i := 143) (by decide +kernel))) rfl
theorem nwn_X8 : Cond.initialized RX8 ∈ TB := TB_of (lt1 (List.mem_of_getElem? (i := 12) (by decide +kernel))) rfl
theorem nok_X8 : ∀ k, k < 3 → okT (fty 7 k) = true := by decide
theorem nm_X4_9 : Cond.classLink RX4 9 "[[I" ∈ TB := TB_of (lt2 (List.mem_of_getElem? (i := 36) (by decide +kernel))) rfl
theorem nm_X5_9 : Cond.classLink RX5 9 "[[I" ∈ TB := TB_of (lt1 (List.mem_of_getElem? (i := 54) (by decide +kernel))) rfl
theorem nw_X6_22 : Cond.classLink RX6 22 RX10 ∈ TB := TB_of (lt1 (List.mem_of_getElem? (i := 161) (by decide +kernel))) rfl
theorem nwi_X10 : Cond.instantiable RX10 7 ∈ TB := TB_of (lt1 (List.mem_of_getElem? (i := 162) (by decide +kernel))) rfl
theorem nwn_X10 : Cond.initialized RX10 ∈ TB := TB_of (lt1 (List.mem_of_getElem? (i := 5) (by decide +kernel))) rfl
theorem nok_X10 : ∀ k, k < 7 → okT (fty 9 k) = true := by decide
theorem nw_X7_29 : Cond.classLink RX7 29 RX4 ∈ TB := TB_of (lt2 (List.mem_of_getElem? (i := 120) (by decide +kernel))) rfl
theorem nw_L_8 : Cond.classLink R_law9 8 RX11 ∈ TB := TB_of (lt1 (List.mem_of_getElem? (i := 25) (by decide +kernel))) rfl
theorem nwi_X11 : Cond.instantiable RX11 13 ∈ TB := TB_of (lt1 (List.mem_of_getElem? (i := 26) (by decide +kernel))) rfl
theorem nwn_X11 : Cond.initialized RX11 ∈ TB := TB_of (lt1 (List.mem_of_getElem? (i := 1) (by decide +kernel))) rfl
theorem nok_X11 : ∀ k, k < 13 → okT (fty 10 k) = true := by decide
theorem nw_L_16 : Cond.classLink R_law9 16 RX12 ∈ TB := TB_of (lt6 (List.mem_of_getElem? (i := 101) (by decide +kernel))) rfl
theorem nwi_X12 : Cond.instantiable RX12 38 ∈ TB := TB_of (lt6 (List.mem_of_getElem? (i := 102) (by decide +kernel))) rfl
theorem nwn_X12 : Cond.initialized RX12 ∈ TB := TB_of (lt1 (List.mem_of_getElem? (i := 13) (by decide +kernel))) rfl
theorem nok_X12 : ∀ k, k < 38 → okT (fty 11 k) = true := by decide
