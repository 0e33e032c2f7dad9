theorem oi_inst : Cond.instanceMethod objectInit ∈ TB := inTB 61 (by decide +kernel) (by decide +kernel)
theorem oi_code : Cond.code objectInit ⟨#[0xb1]⟩ 1 none ∈ TB := inTB 62 (by decide +kernel) (by decide +kernel)
theorem ac_int : Cond.arrayClass .int ∈ TB := inTB 80 (by decide +kernel) (by decide +kernel)
set_option maxRecDepth 100000 in
theorem mkX0 : Cond.instantiable RX0 10 ∈ TB := inTB 233 (by decide +kernel) (by decide +kernel)
set_option maxRecDepth 100000 in
theorem ciX0 : CI mX0_init 3 := ⟨⟨inTB 235 (by decide +kernel) (by decide +kernel), iniX0, inTB 236 (by decide +kernel) (by decide +kernel)⟩, rfl, by decide +kernel, by decide⟩
set_option maxRecDepth 100000 in
theorem oiX0 : Cond.methodLink RX0 3 objectInit ∈ TB := inTB 237 (by decide +kernel) (by decide +kernel)
set_option maxRecDepth 100000 in
theorem ffX0_11 : FF RX0 11 0 4 (.array .int) := ⟨_, _, _, _, cfX0, by decide, inTB 246 (by decide +kernel) (by decide +kernel), rfl, rfl, rfl⟩
set_option maxRecDepth 100000 in
theorem ffX0_15 : FF RX0 15 0 5 (.array .int) := ⟨_, _, _, _, cfX0, by decide, inTB 247 (by decide +kernel) (by decide +kernel), rfl, rfl, rfl⟩
set_option maxRecDepth 100000 in
theorem klX0_18 : Cond.classLink RX0 18 "[[I" ∈ TB := inTB 238 (by decide +kernel) (by decide +kernel)
set_option maxRecDepth 100000 in
theorem ffX0_20 : FF RX0 20 0 6 (.array (.array .int)) := ⟨_, _, _, _, cfX0, by decide, inTB 248 (by decide +kernel) (by decide +kernel), rfl, rfl, rfl⟩
set_option maxRecDepth 100000 in
theorem ffX0_23 : FF RX0 23 0 0 (.object "OrdersInTurn$Menu") := ⟨_, _, _, _, cfX0, by decide, inTB 242 (by decide +kernel) (by decide +kernel), rfl, rfl, rfl⟩
set_option maxRecDepth 100000 in
theorem ffX0_27 : FF RX0 27 0 1 (.object "OrdersInTurn$Party") := ⟨_, _, _, _, cfX0, by decide, inTB 243 (by decide +kernel) (by decide +kernel), rfl, rfl, rfl⟩
set_option maxRecDepth 100000 in
theorem ffX0_31 : FF RX0 31 0 2 (.object "OrdersInTurn$Table") := ⟨_, _, _, _, cfX0, by decide, inTB 244 (by decide +kernel) (by decide +kernel), rfl, rfl, rfl⟩
set_option maxRecDepth 100000 in
theorem klX0_35 : Cond.classLink RX0 35 "OrdersInTurn$Table" ∈ TB := inTB 240 (by decide +kernel) (by decide +kernel)
set_option maxRecDepth 100000 in
theorem mlX0_37 : Cond.methodLink RX0 37 yX7_init ∈ TB := inTB 241 (by decide +kernel) (by decide +kernel)
set_option maxRecDepth 100000 in
theorem ffX0_40 : FF RX0 40 0 3 (.object "OrdersInTurn$Table") := ⟨_, _, _, _, cfX0, by decide, inTB 245 (by decide +kernel) (by decide +kernel), rfl, rfl, rfl⟩
set_option maxRecDepth 100000 in
theorem mkX1 : Cond.instantiable RX1 4 ∈ TB := inTB 118 (by decide +kernel) (by decide +kernel)
set_option maxRecDepth 100000 in
theorem ciX1 : CI mX1_init 0 := ⟨⟨inTB 120 (by decide +kernel) (by decide +kernel), iniX1, inTB 121 (by decide +kernel) (by decide +kernel)⟩, rfl, by decide +kernel, by decide⟩
set_option maxRecDepth 100000 in
theorem oiX1 : Cond.methodLink RX1 3 objectInit ∈ TB := inTB 122 (by decide +kernel) (by decide +kernel)
set_option maxRecDepth 100000 in
theorem ffX1_9 : FF RX1 9 1 0 (.array .int) := ⟨_, _, _, _, cfX1, by decide, inTB 123 (by decide +kernel) (by decide +kernel), rfl, rfl, rfl⟩
set_option maxRecDepth 100000 in
theorem mkX2 : Cond.instantiable RX2 6 ∈ TB := inTB 277 (by decide +kernel) (by decide +kernel)
set_option maxRecDepth 100000 in
theorem ciX2 : CI mX2_init 2 := ⟨⟨inTB 279 (by decide +kernel) (by decide +kernel), iniX2, inTB 280 (by decide +kernel) (by decide +kernel)⟩, rfl, by decide +kernel, by decide⟩
set_option maxRecDepth 100000 in
theorem oiX2 : Cond.methodLink RX2 3 objectInit ∈ TB := inTB 281 (by decide +kernel) (by decide +kernel)
set_option maxRecDepth 100000 in
theorem klX2_9 : Cond.classLink RX2 9 "[[I" ∈ TB := inTB 282 (by decide +kernel) (by decide +kernel)
set_option maxRecDepth 100000 in
theorem ffX2_11 : FF RX2 11 2 2 (.array (.array .int)) := ⟨_, _, _, _, cfX2, by decide, inTB 289 (by decide +kernel) (by decide +kernel), rfl, rfl, rfl⟩
set_option maxRecDepth 100000 in
theorem ffX2_16 : FF RX2 16 2 3 (.array .int) := ⟨_, _, _, _, cfX2, by decide, inTB 290 (by decide +kernel) (by decide +kernel), rfl, rfl, rfl⟩
set_option maxRecDepth 100000 in
theorem klX2_20 : Cond.classLink RX2 20 "OrdersInTurn$Table" ∈ TB := inTB 283 (by decide +kernel) (by decide +kernel)
set_option maxRecDepth 100000 in
theorem mlX2_22 : Cond.methodLink RX2 22 yX7_init ∈ TB := inTB 284 (by decide +kernel) (by decide +kernel)
set_option maxRecDepth 100000 in
theorem ffX2_25 : FF RX2 25 2 0 (.object "OrdersInTurn$Table") := ⟨_, _, _, _, cfX2, by decide, inTB 287 (by decide +kernel) (by decide +kernel), rfl, rfl, rfl⟩
set_option maxRecDepth 100000 in
theorem klX2_29 : Cond.classLink RX2 29 "OrdersInTurn$Log" ∈ TB := inTB 285 (by decide +kernel) (by decide +kernel)
set_option maxRecDepth 100000 in
theorem ffX2_32 : FF RX2 32 2 1 (.object "OrdersInTurn$Log") := ⟨_, _, _, _, cfX2, by decide, inTB 288 (by decide +kernel) (by decide +kernel), rfl, rfl, rfl⟩
set_option maxRecDepth 100000 in
theorem mkX3 : Cond.instantiable RX3 4 ∈ TB := inTB 209 (by decide +kernel) (by decide +kernel)
set_option maxRecDepth 100000 in
theorem ciX3 : CI mX3_init 0 := ⟨⟨inTB 211 (by decide +kernel) (by decide +kernel), iniX3, inTB 212 (by decide +kernel) (by decide +kernel)⟩, rfl, by decide +kernel, by decide⟩
set_option maxRecDepth 100000 in
theorem oiX3 : Cond.methodLink RX3 3 objectInit ∈ TB := inTB 213 (by decide +kernel) (by decide +kernel)
set_option maxRecDepth 100000 in
theorem ffX3_9 : FF RX3 9 3 0 (.array .int) := ⟨_, _, _, _, cfX3, by decide, inTB 214 (by decide +kernel) (by decide +kernel), rfl, rfl, rfl⟩
set_option maxRecDepth 100000 in
theorem ffX3_15 : FF RX3 15 3 1 (.array .int) := ⟨_, _, _, _, cfX3, by decide, inTB 216 (by decide +kernel) (by decide +kernel), rfl, rfl, rfl⟩
set_option maxRecDepth 100000 in
theorem ffX3_18 : FF RX3 18 3 2 (.array .int) := ⟨_, _, _, _, cfX3, by decide, inTB 218 (by decide +kernel) (by decide +kernel), rfl, rfl, rfl⟩
set_option maxRecDepth 100000 in
theorem mkX4 : Cond.instantiable RX4 4 ∈ TB := inTB 82 (by decide +kernel) (by decide +kernel)
set_option maxRecDepth 100000 in
theorem ciX4 : CI mX4_init 0 := ⟨⟨inTB 84 (by decide +kernel) (by decide +kernel), iniX4, inTB 85 (by decide +kernel) (by decide +kernel)⟩, rfl, by decide +kernel, by decide⟩
set_option maxRecDepth 100000 in
theorem oiX4 : Cond.methodLink RX4 3 objectInit ∈ TB := inTB 86 (by decide +kernel) (by decide +kernel)
set_option maxRecDepth 100000 in
theorem ffX4_9 : FF RX4 9 4 0 (.array .int) := ⟨_, _, _, _, cfX4, by decide, inTB 87 (by decide +kernel) (by decide +kernel), rfl, rfl, rfl⟩
set_option maxRecDepth 100000 in
theorem ffX4_15 : FF RX4 15 4 1 (.array .int) := ⟨_, _, _, _, cfX4, by decide, inTB 90 (by decide +kernel) (by decide +kernel), rfl, rfl, rfl⟩
set_option maxRecDepth 100000 in
theorem mkX5 : Cond.instantiable RX5 2 ∈ TB := inTB 64 (by decide +kernel) (by decide +kernel)
set_option maxRecDepth 100000 in
theorem ciX5 : CI mX5_init 0 := ⟨⟨inTB 66 (by decide +kernel) (by decide +kernel), iniX5, inTB 67 (by decide +kernel) (by decide +kernel)⟩, rfl, by decide +kernel, by decide⟩
set_option maxRecDepth 100000 in
theorem oiX5 : Cond.methodLink RX5 3 objectInit ∈ TB := inTB 68 (by decide +kernel) (by decide +kernel)
set_option maxRecDepth 100000 in
theorem ffX5_9 : FF RX5 9 5 0 (.array .int) := ⟨_, _, _, _, cfX5, by decide, inTB 69 (by decide +kernel) (by decide +kernel), rfl, rfl, rfl⟩
set_option maxRecDepth 100000 in
theorem mkX6 : Cond.instantiable RX6 2 ∈ TB := inTB 111 (by decide +kernel) (by decide +kernel)
set_option maxRecDepth 100000 in
theorem ciX6 : CI mX6_init 0 := ⟨⟨inTB 113 (by decide +kernel) (by decide +kernel), iniX6, inTB 114 (by decide +kernel) (by decide +kernel)⟩, rfl, by decide +kernel, by decide⟩
set_option maxRecDepth 100000 in
theorem oiX6 : Cond.methodLink RX6 3 objectInit ∈ TB := inTB 115 (by decide +kernel) (by decide +kernel)
set_option maxRecDepth 100000 in
theorem klX6_9 : Cond.classLink RX6 9 "OrdersInTurn$Guest" ∈ TB := inTB 116 (by decide +kernel) (by decide +kernel)
set_option maxRecDepth 100000 in
theorem ffX6_11 : FF RX6 11 6 0 (.array (.object "OrdersInTurn$Guest")) := ⟨_, _, _, _, cfX6, by decide, inTB 147 (by decide +kernel) (by decide +kernel), rfl, rfl, rfl⟩
set_option maxRecDepth 100000 in
theorem mkX7 : Cond.instantiable RX7 9 ∈ TB := inTB 163 (by decide +kernel) (by decide +kernel)
set_option maxRecDepth 100000 in
theorem ciX7 : CI mX7_init 2 := ⟨⟨inTB 165 (by decide +kernel) (by decide +kernel), iniX7, inTB 166 (by decide +kernel) (by decide +kernel)⟩, rfl, by decide +kernel, by decide⟩
set_option maxRecDepth 100000 in
theorem oiX7 : Cond.methodLink RX7 3 objectInit ∈ TB := inTB 167 (by decide +kernel) (by decide +kernel)
set_option maxRecDepth 100000 in
theorem ffX7_9 : FF RX7 9 7 2 (.array .int) := ⟨_, _, _, _, cfX7, by decide, inTB 170 (by decide +kernel) (by decide +kernel), rfl, rfl, rfl⟩
set_option maxRecDepth 100000 in
theorem ffX7_15 : FF RX7 15 7 3 (.array .int) := ⟨_, _, _, _, cfX7, by decide, inTB 172 (by decide +kernel) (by decide +kernel), rfl, rfl, rfl⟩
set_option maxRecDepth 100000 in
theorem ffX7_18 : FF RX7 18 7 4 (.array .int) := ⟨_, _, _, _, cfX7, by decide, inTB 175 (by decide +kernel) (by decide +kernel), rfl, rfl, rfl⟩
set_option maxRecDepth 100000 in
theorem ffX7_21 : FF RX7 21 7 5 (.array .int) := ⟨_, _, _, _, cfX7, by decide, inTB 178 (by decide +kernel) (by decide +kernel), rfl, rfl, rfl⟩
set_option maxRecDepth 100000 in
theorem ffX7_28 : FF RX7 28 7 0 (.object "OrdersInTurn$Menu") := ⟨_, _, _, _, cfX7, by decide, inTB 168 (by decide +kernel) (by decide +kernel), rfl, rfl, rfl⟩
set_option maxRecDepth 100000 in
theorem ffX7_32 : FF RX7 32 7 1 (.object "OrdersInTurn$Party") := ⟨_, _, _, _, cfX7, by decide, inTB 169 (by decide +kernel) (by decide +kernel), rfl, rfl, rfl⟩
set_option maxRecDepth 100000 in
theorem mkX8 : Cond.instantiable RX8 9 ∈ TB := inTB 56 (by decide +kernel) (by decide +kernel)
set_option maxRecDepth 100000 in
theorem ciX8 : CI mX8_init 0 := ⟨⟨inTB 58 (by decide +kernel) (by decide +kernel), iniX8, inTB 59 (by decide +kernel) (by decide +kernel)⟩, rfl, by decide +kernel, by decide⟩
set_option maxRecDepth 100000 in
theorem oiX8 : Cond.methodLink RX8 1 objectInit ∈ TB := inTB 60 (by decide +kernel) (by decide +kernel)
set_option maxRecDepth 100000 in
theorem klX8_7 : Cond.classLink RX8 7 "OrdersInTurn$Page" ∈ TB := inTB 63 (by decide +kernel) (by decide +kernel)
set_option maxRecDepth 100000 in
theorem ffX8_10 : FF RX8 10 8 0 (.object "OrdersInTurn$Page") := ⟨_, _, _, _, cfX8, by decide, inTB 307 (by decide +kernel) (by decide +kernel), rfl, rfl, rfl⟩
set_option maxRecDepth 100000 in
theorem klX8_16 : Cond.classLink RX8 16 "OrdersInTurn$Menu" ∈ TB := inTB 81 (by decide +kernel) (by decide +kernel)
set_option maxRecDepth 100000 in
theorem ffX8_19 : FF RX8 19 8 1 (.object "OrdersInTurn$Menu") := ⟨_, _, _, _, cfX8, by decide, inTB 308 (by decide +kernel) (by decide +kernel), rfl, rfl, rfl⟩
set_option maxRecDepth 100000 in
theorem klX8_23 : Cond.classLink RX8 23 "OrdersInTurn$Party" ∈ TB := inTB 110 (by decide +kernel) (by decide +kernel)
set_option maxRecDepth 100000 in
theorem mlX8_25 : Cond.methodLink RX8 25 yX6_init ∈ TB := inTB 112 (by decide +kernel) (by decide +kernel)
set_option maxRecDepth 100000 in
theorem ffX8_26 : FF RX8 26 8 2 (.object "OrdersInTurn$Party") := ⟨_, _, _, _, cfX8, by decide, inTB 309 (by decide +kernel) (by decide +kernel), rfl, rfl, rfl⟩
set_option maxRecDepth 100000 in
theorem klX8_30 : Cond.classLink RX8 30 "OrdersInTurn$Table" ∈ TB := inTB 162 (by decide +kernel) (by decide +kernel)
set_option maxRecDepth 100000 in
theorem mlX8_32 : Cond.methodLink RX8 32 yX7_init ∈ TB := inTB 164 (by decide +kernel) (by decide +kernel)
set_option maxRecDepth 100000 in
theorem ffX8_35 : FF RX8 35 8 3 (.object "OrdersInTurn$Table") := ⟨_, _, _, _, cfX8, by decide, inTB 310 (by decide +kernel) (by decide +kernel), rfl, rfl, rfl⟩
set_option maxRecDepth 100000 in
theorem klX8_39 : Cond.classLink RX8 39 "OrdersInTurn$Log" ∈ TB := inTB 208 (by decide +kernel) (by decide +kernel)
set_option maxRecDepth 100000 in
theorem ffX8_42 : FF RX8 42 8 4 (.object "OrdersInTurn$Log") := ⟨_, _, _, _, cfX8, by decide, inTB 311 (by decide +kernel) (by decide +kernel), rfl, rfl, rfl⟩
set_option maxRecDepth 100000 in
theorem klX8_46 : Cond.classLink RX8 46 "OrdersInTurn$Forecast" ∈ TB := inTB 232 (by decide +kernel) (by decide +kernel)
set_option maxRecDepth 100000 in
theorem mlX8_48 : Cond.methodLink RX8 48 yX0_init ∈ TB := inTB 234 (by decide +kernel) (by decide +kernel)
set_option maxRecDepth 100000 in
theorem ffX8_51 : FF RX8 51 8 5 (.object "OrdersInTurn$Forecast") := ⟨_, _, _, _, cfX8, by decide, inTB 312 (by decide +kernel) (by decide +kernel), rfl, rfl, rfl⟩
set_option maxRecDepth 100000 in
theorem klX8_55 : Cond.classLink RX8 55 "OrdersInTurn$Image" ∈ TB := inTB 276 (by decide +kernel) (by decide +kernel)
set_option maxRecDepth 100000 in
theorem mlX8_57 : Cond.methodLink RX8 57 yX2_init ∈ TB := inTB 278 (by decide +kernel) (by decide +kernel)
set_option maxRecDepth 100000 in
theorem ffX8_58 : FF RX8 58 8 6 (.object "OrdersInTurn$Image") := ⟨_, _, _, _, cfX8, by decide, inTB 313 (by decide +kernel) (by decide +kernel), rfl, rfl, rfl⟩
set_option maxRecDepth 100000 in
theorem mkX9 : Cond.instantiable RX9 37 ∈ TB := inTB 703 (by decide +kernel) (by decide +kernel)
set_option maxRecDepth 100000 in
theorem ciX9 : CI mX9_init 0 := ⟨⟨inTB 705 (by decide +kernel) (by decide +kernel), iniX9, inTB 706 (by decide +kernel) (by decide +kernel)⟩, rfl, by decide +kernel, by decide⟩
set_option maxRecDepth 100000 in
theorem oiX9 : Cond.methodLink RX9 1 objectInit ∈ TB := inTB 707 (by decide +kernel) (by decide +kernel)
set_option maxRecDepth 100000 in
theorem ffX9_7 : FF RX9 7 9 0 (.array .int) := ⟨_, _, _, _, cfX9, by decide, inTB 708 (by decide +kernel) (by decide +kernel), rfl, rfl, rfl⟩
set_option maxRecDepth 100000 in
theorem ffX9_13 : FF RX9 13 9 2 (.array .int) := ⟨_, _, _, _, cfX9, by decide, inTB 710 (by decide +kernel) (by decide +kernel), rfl, rfl, rfl⟩
set_option maxRecDepth 100000 in
theorem ffX9_16 : FF RX9 16 9 3 (.array .int) := ⟨_, _, _, _, cfX9, by decide, inTB 711 (by decide +kernel) (by decide +kernel), rfl, rfl, rfl⟩
set_option maxRecDepth 100000 in
theorem ffX9_19 : FF RX9 19 9 12 (.array .int) := ⟨_, _, _, _, cfX9, by decide, inTB 720 (by decide +kernel) (by decide +kernel), rfl, rfl, rfl⟩
set_option maxRecDepth 100000 in
theorem ffX9_22 : FF RX9 22 9 13 (.array .int) := ⟨_, _, _, _, cfX9, by decide, inTB 721 (by decide +kernel) (by decide +kernel), rfl, rfl, rfl⟩
set_option maxRecDepth 100000 in
theorem ffX9_25 : FF RX9 25 9 15 (.array .int) := ⟨_, _, _, _, cfX9, by decide, inTB 723 (by decide +kernel) (by decide +kernel), rfl, rfl, rfl⟩
set_option maxRecDepth 100000 in
theorem ffX9_28 : FF RX9 28 9 16 (.array .int) := ⟨_, _, _, _, cfX9, by decide, inTB 724 (by decide +kernel) (by decide +kernel), rfl, rfl, rfl⟩
set_option maxRecDepth 100000 in
theorem ffX9_31 : FF RX9 31 9 17 (.array .int) := ⟨_, _, _, _, cfX9, by decide, inTB 725 (by decide +kernel) (by decide +kernel), rfl, rfl, rfl⟩
set_option maxRecDepth 100000 in
theorem ffX9_34 : FF RX9 34 9 21 (.array .int) := ⟨_, _, _, _, cfX9, by decide, inTB 729 (by decide +kernel) (by decide +kernel), rfl, rfl, rfl⟩
set_option maxRecDepth 100000 in
theorem ffX9_37 : FF RX9 37 9 24 (.array .int) := ⟨_, _, _, _, cfX9, by decide, inTB 732 (by decide +kernel) (by decide +kernel), rfl, rfl, rfl⟩
set_option maxRecDepth 100000 in
theorem ffX9_40 : FF RX9 40 9 26 (.array .int) := ⟨_, _, _, _, cfX9, by decide, inTB 734 (by decide +kernel) (by decide +kernel), rfl, rfl, rfl⟩
set_option maxRecDepth 100000 in
theorem ffX9_43 : FF RX9 43 9 32 (.array .int) := ⟨_, _, _, _, cfX9, by decide, inTB 740 (by decide +kernel) (by decide +kernel), rfl, rfl, rfl⟩
set_option maxRecDepth 100000 in
theorem ffX9_46 : FF RX9 46 9 33 (.array .int) := ⟨_, _, _, _, cfX9, by decide, inTB 741 (by decide +kernel) (by decide +kernel), rfl, rfl, rfl⟩
set_option maxRecDepth 100000 in
theorem ffX9_49 : FF RX9 49 9 34 (.array .int) := ⟨_, _, _, _, cfX9, by decide, inTB 742 (by decide +kernel) (by decide +kernel), rfl, rfl, rfl⟩
set_option maxRecDepth 100000 in
theorem ffX9_52 : FF RX9 52 9 35 (.array .int) := ⟨_, _, _, _, cfX9, by decide, inTB 743 (by decide +kernel) (by decide +kernel), rfl, rfl, rfl⟩
