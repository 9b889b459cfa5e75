theorem ml_X3_37 : Cond.methodLink RX3 37 arraycopyName ∈ TB := tb_mem 725 (by decide +kernel) rfl
theorem ml_X4_106 : Cond.methodLink RX4 106 arraycopyName ∈ TB := tb_mem 730 (by decide +kernel) rfl
theorem ml_X6_15 : Cond.methodLink RX6 15 arraycopyName ∈ TB := tb_mem 624 (by decide +kernel) rfl
theorem ac_nat : Cond.native arraycopyName ∈ TB := tb_mem 626 (by decide +kernel) rfl
theorem ac_sta : Cond.static arraycopyName ∈ TB := tb_mem 625 (by decide +kernel) rfl
theorem ac_ini : Cond.initialized "java/lang/System" ∈ TB := tb_mem 73 (by decide +kernel) rfl
