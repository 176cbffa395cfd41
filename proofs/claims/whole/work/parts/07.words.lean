theorem zt0 : Cond.selects RX3 yX3_dropOldest yX3_dropOldest ∈ zW := zm 0 (by decide +kernel) (by decide +kernel)
theorem zt1 : Cond.selects RX0 yX0_shiftAllData yX0_shiftAllData ∈ zW := zm 1 (by decide +kernel) (by decide +kernel)
theorem zt2 : Cond.selects RX0 yX0_shiftAllCodes yX0_shiftAllCodes ∈ zW := zm 2 (by decide +kernel) (by decide +kernel)
theorem zt3 : Cond.selects RX0 yX0_workOf yX0_workOf ∈ zW := zm 3 (by decide +kernel) (by decide +kernel)
theorem zt4 : Cond.selects RX6 yX6_exchangeError yX6_exchangeError ∈ zW := zm 4 (by decide +kernel) (by decide +kernel)
theorem zt5 : Cond.selects RX7 yX7_record yX7_record ∈ zW := zm 5 (by decide +kernel) (by decide +kernel)
theorem zt6 : Cond.selects RX7 yX7_lay yX7_lay ∈ zW := zm 6 (by decide +kernel) (by decide +kernel)
theorem zt7 : Cond.selects RX7 yX7_giveFirst yX7_giveFirst ∈ zW := zm 7 (by decide +kernel) (by decide +kernel)
theorem zt8 : Cond.selects RX7 yX7_of yX7_of ∈ zW := zm 8 (by decide +kernel) (by decide +kernel)
theorem zt9 : Cond.selects RX7 yX7_give yX7_give ∈ zW := zm 9 (by decide +kernel) (by decide +kernel)
theorem zt10 : Cond.selects RX7 yX7_isChip yX7_isChip ∈ zW := zm 10 (by decide +kernel) (by decide +kernel)
theorem zt11 : Cond.selects RX7 yX7_sum yX7_sum ∈ zW := zm 11 (by decide +kernel) (by decide +kernel)
theorem zt12 : Cond.selects RX7 yX7_clockNow yX7_clockNow ∈ zW := zm 12 (by decide +kernel) (by decide +kernel)
theorem zt13 : Cond.selects RX7 yX7_output yX7_output ∈ zW := zm 13 (by decide +kernel) (by decide +kernel)
theorem zt14 : Cond.selects RX7 yX7_isShifting yX7_isShifting ∈ zW := zm 14 (by decide +kernel) (by decide +kernel)
theorem zt15 : Cond.selects RX7 yX7_outputOf yX7_outputOf ∈ zW := zm 15 (by decide +kernel) (by decide +kernel)
theorem zt16 : Cond.selects RX7 yX7_shifted yX7_shifted ∈ zW := zm 16 (by decide +kernel) (by decide +kernel)
theorem zt17 : Cond.selects RX7 yX7_shift yX7_shift ∈ zW := zm 17 (by decide +kernel) (by decide +kernel)
theorem zt18 : Cond.selects RX7 yX7_bits yX7_bits ∈ zW := zm 18 (by decide +kernel) (by decide +kernel)
theorem zt19 : Cond.selects RX7 yX7_selectsCells yX7_selectsCells ∈ zW := zm 19 (by decide +kernel) (by decide +kernel)
theorem zt20 : Cond.selects RX7 yX7_selectsIdentity yX7_selectsIdentity ∈ zW := zm 20 (by decide +kernel) (by decide +kernel)
theorem zt21 : Cond.selects RX7 yX7_work yX7_work ∈ zW := zm 21 (by decide +kernel) (by decide +kernel)
theorem zt22 : Cond.selects RX7 yX7_moveNow yX7_moveNow ∈ zW := zm 22 (by decide +kernel) (by decide +kernel)
theorem zt23 : Cond.selects RX7 yX7_measure yX7_measure ∈ zW := zm 23 (by decide +kernel) (by decide +kernel)
theorem zt24 : Cond.selects RX7 yX7_identifyNow yX7_identifyNow ∈ zW := zm 24 (by decide +kernel) (by decide +kernel)
theorem zt25 : Cond.selects RX7 yX7_readOne yX7_readOne ∈ zW := zm 25 (by decide +kernel) (by decide +kernel)
theorem zt26 : Cond.selects RX7 yX7_clockBits yX7_clockBits ∈ zW := zm 26 (by decide +kernel) (by decide +kernel)
theorem zt27 : Cond.selects RX7 yX7_whyNotExchange yX7_whyNotExchange ∈ zW := zm 27 (by decide +kernel) (by decide +kernel)
theorem zt28 : Cond.selects RX7 yX7_exchangeNow yX7_exchangeNow ∈ zW := zm 28 (by decide +kernel) (by decide +kernel)
theorem zt29 : Cond.selects RX7 yX7_allBits yX7_allBits ∈ zW := zm 29 (by decide +kernel) (by decide +kernel)
theorem zt30 : Cond.initialized RL ∈ zW := zm 30 (by decide +kernel) (by decide +kernel)
theorem zt31 : Cond.initialized RX6 ∈ zW := zm 31 (by decide +kernel) (by decide +kernel)
theorem zt32 : Cond.initialized RX0 ∈ zW := zm 32 (by decide +kernel) (by decide +kernel)
theorem zt33 : Cond.initialized RX1 ∈ zW := zm 33 (by decide +kernel) (by decide +kernel)
theorem zt34 : Cond.initialized RX3 ∈ zW := zm 34 (by decide +kernel) (by decide +kernel)
theorem zt35 : Cond.initialized RX5 ∈ zW := zm 35 (by decide +kernel) (by decide +kernel)
theorem zt36 : Cond.initialized RX7 ∈ zW := zm 36 (by decide +kernel) (by decide +kernel)
theorem zt37 : Cond.initialized RX2 ∈ zW := zm 37 (by decide +kernel) (by decide +kernel)
theorem zt38 : Cond.initialized RX4 ∈ zW := zm 38 (by decide +kernel) (by decide +kernel)
theorem zt39 : Cond.classLink RL 7 RX6 ∈ zW := zm 39 (by decide +kernel) (by decide +kernel)
theorem zt40 : Cond.instantiable RX6 6 ∈ zW := zm 40 (by decide +kernel) (by decide +kernel)
theorem zt41 : Cond.methodLink RL 9 yX6_init ∈ zW := zm 41 (by decide +kernel) (by decide +kernel)
theorem zt42 : Cond.instanceMethod yX6_init ∈ zW := zm 42 (by decide +kernel) (by decide +kernel)
theorem zt43 : Cond.code yX6_init cX6_init 1 none ∈ zW := zm 43 (by decide +kernel) (by decide +kernel)
theorem zt44 : Cond.methodLink RX6 1 objectInit ∈ zW := zm 44 (by decide +kernel) (by decide +kernel)
theorem zt45 : Cond.instanceMethod objectInit ∈ zW := zm 45 (by decide +kernel) (by decide +kernel)
theorem zt46 : Cond.code objectInit ⟨#[0xb1]⟩ 1 none ∈ zW := zm 46 (by decide +kernel) (by decide +kernel)
theorem zt47 : Cond.classLink RX6 7 RX0 ∈ zW := zm 47 (by decide +kernel) (by decide +kernel)
theorem zt48 : Cond.instantiable RX0 6 ∈ zW := zm 48 (by decide +kernel) (by decide +kernel)
theorem zt49 : Cond.methodLink RX6 9 yX0_init ∈ zW := zm 49 (by decide +kernel) (by decide +kernel)
theorem zt50 : Cond.instanceMethod yX0_init ∈ zW := zm 50 (by decide +kernel) (by decide +kernel)
theorem zt51 : Cond.code yX0_init cX0_init 2 none ∈ zW := zm 51 (by decide +kernel) (by decide +kernel)
theorem zt52 : Cond.methodLink RX0 3 objectInit ∈ zW := zm 52 (by decide +kernel) (by decide +kernel)
theorem zt53 : Cond.classLink RX0 9 RX1 ∈ zW := zm 53 (by decide +kernel) (by decide +kernel)
theorem zt55 : Cond.instantiable RX1 9 ∈ zW := zm 55 (by decide +kernel) (by decide +kernel)
theorem zt57 : Cond.instanceMethod yX1_init ∈ zW := zm 57 (by decide +kernel) (by decide +kernel)
theorem zt58 : Cond.code yX1_init cX1_init 1 none ∈ zW := zm 58 (by decide +kernel) (by decide +kernel)
theorem zt59 : Cond.methodLink RX1 3 objectInit ∈ zW := zm 59 (by decide +kernel) (by decide +kernel)
theorem zt60 : Cond.fieldLink RX1 9 "ScanChain$Chip" "codeLength" "I" ∈ zW := zm 60 (by decide +kernel) (by decide +kernel)
theorem zt63 : Cond.fieldLink RX1 15 "ScanChain$Chip" "identity" "I" ∈ zW := zm 63 (by decide +kernel) (by decide +kernel)
theorem zt65 : Cond.fieldLink RX1 18 "ScanChain$Chip" "cells" "I" ∈ zW := zm 65 (by decide +kernel) (by decide +kernel)
theorem zt66 : Cond.fieldLink RX1 21 "ScanChain$Chip" "pins" "I" ∈ zW := zm 66 (by decide +kernel) (by decide +kernel)
theorem zt67 : Cond.fieldLink RX1 24 "ScanChain$Chip" "outputs" "I" ∈ zW := zm 67 (by decide +kernel) (by decide +kernel)
theorem zt68 : Cond.fieldLink RX1 27 "ScanChain$Chip" "isBroken" "Z" ∈ zW := zm 68 (by decide +kernel) (by decide +kernel)
theorem zt71 : Cond.fieldLink RX1 37 "ScanChain$Chip" "instruction" "I" ∈ zW := zm 71 (by decide +kernel) (by decide +kernel)
theorem zt72 : Cond.fieldLink RX1 31 "ScanChain$Chip" "codeRegister" "I" ∈ zW := zm 72 (by decide +kernel) (by decide +kernel)
theorem zt74 : Cond.fieldLink RX1 40 "ScanChain$Chip" "dataRegister" "I" ∈ zW := zm 74 (by decide +kernel) (by decide +kernel)
theorem zt94 : Cond.fieldLink RX0 11 "ScanChain$Chain" "chips" "[LScanChain$Chip;" ∈ zW := zm 94 (by decide +kernel) (by decide +kernel)
theorem zt97 : Cond.fieldLink RX0 18 "ScanChain$Chain" "size" "I" ∈ zW := zm 97 (by decide +kernel) (by decide +kernel)
theorem zt100 : Cond.fieldLink RX0 24 "ScanChain$Chain" "state" "I" ∈ zW := zm 100 (by decide +kernel) (by decide +kernel)
theorem zt103 : Cond.fieldLink RX0 27 "ScanChain$Chain" "clocks" "I" ∈ zW := zm 103 (by decide +kernel) (by decide +kernel)
theorem zt105 : Cond.fieldLink RX0 30 "ScanChain$Chain" "identities" "[I" ∈ zW := zm 105 (by decide +kernel) (by decide +kernel)
theorem zt107 : Cond.fieldLink RX0 34 "ScanChain$Chain" "identityCount" "I" ∈ zW := zm 107 (by decide +kernel) (by decide +kernel)
theorem zt123 : Cond.arrayClass .int ∈ zW := zm 123 (by decide +kernel) (by decide +kernel)
theorem zt124 : Cond.classLink RX6 26 RX3 ∈ zW := zm 124 (by decide +kernel) (by decide +kernel)
theorem zt125 : Cond.instantiable RX3 2 ∈ zW := zm 125 (by decide +kernel) (by decide +kernel)
theorem zt126 : Cond.methodLink RX6 28 yX3_init ∈ zW := zm 126 (by decide +kernel) (by decide +kernel)
theorem zt127 : Cond.instanceMethod yX3_init ∈ zW := zm 127 (by decide +kernel) (by decide +kernel)
theorem zt128 : Cond.code yX3_init cX3_init 2 none ∈ zW := zm 128 (by decide +kernel) (by decide +kernel)
theorem zt129 : Cond.methodLink RX3 3 objectInit ∈ zW := zm 129 (by decide +kernel) (by decide +kernel)
theorem zt130 : Cond.classLink RX3 9 RX0 ∈ zW := zm 130 (by decide +kernel) (by decide +kernel)
theorem zt132 : Cond.methodLink RX3 17 yX0_init ∈ zW := zm 132 (by decide +kernel) (by decide +kernel)
theorem zt133 : Cond.fieldLink RX3 11 "ScanChain$History" "records" "[LScanChain$Chain;" ∈ zW := zm 133 (by decide +kernel) (by decide +kernel)
theorem zt134 : Cond.fieldLink RX3 18 "ScanChain$History" "size" "I" ∈ zW := zm 134 (by decide +kernel) (by decide +kernel)
theorem zt141 : Cond.classLink RX6 33 RX5 ∈ zW := zm 141 (by decide +kernel) (by decide +kernel)
theorem zt142 : Cond.instantiable RX5 2 ∈ zW := zm 142 (by decide +kernel) (by decide +kernel)
theorem zt143 : Cond.methodLink RX6 35 yX5_init ∈ zW := zm 143 (by decide +kernel) (by decide +kernel)
theorem zt144 : Cond.instanceMethod yX5_init ∈ zW := zm 144 (by decide +kernel) (by decide +kernel)
theorem zt145 : Cond.code yX5_init cX5_init 1 none ∈ zW := zm 145 (by decide +kernel) (by decide +kernel)
theorem zt146 : Cond.methodLink RX5 3 objectInit ∈ zW := zm 146 (by decide +kernel) (by decide +kernel)
theorem zt147 : Cond.fieldLink RX5 9 "ScanChain$Script" "characters" "[C" ∈ zW := zm 147 (by decide +kernel) (by decide +kernel)
theorem zt149 : Cond.fieldLink RX5 15 "ScanChain$Script" "length" "I" ∈ zW := zm 149 (by decide +kernel) (by decide +kernel)
theorem zt157 : Cond.arrayClass .char ∈ zW := zm 157 (by decide +kernel) (by decide +kernel)
theorem zt158 : Cond.fieldLink RX6 10 "ScanChain" "chain" "LScanChain$Chain;" ∈ zW := zm 158 (by decide +kernel) (by decide +kernel)
theorem zt159 : Cond.fieldLink RX6 16 "ScanChain" "trial" "LScanChain$Chain;" ∈ zW := zm 159 (by decide +kernel) (by decide +kernel)
theorem zt160 : Cond.fieldLink RX6 19 "ScanChain" "snapshot" "LScanChain$Chain;" ∈ zW := zm 160 (by decide +kernel) (by decide +kernel)
theorem zt161 : Cond.fieldLink RX6 22 "ScanChain" "hasSnapshot" "Z" ∈ zW := zm 161 (by decide +kernel) (by decide +kernel)
theorem zt162 : Cond.fieldLink RX6 29 "ScanChain" "history" "LScanChain$History;" ∈ zW := zm 162 (by decide +kernel) (by decide +kernel)
theorem zt163 : Cond.fieldLink RX6 36 "ScanChain" "script" "LScanChain$Script;" ∈ zW := zm 163 (by decide +kernel) (by decide +kernel)
theorem zt177 : Cond.methodLink RL 13 yX6_add ∈ zW := zm 177 (by decide +kernel) (by decide +kernel)
theorem zt178 : Cond.instanceMethod yX6_add ∈ zW := zm 178 (by decide +kernel) (by decide +kernel)
theorem zt179 : Cond.selects RX6 yX6_add yX6_add ∈ zW := zm 179 (by decide +kernel) (by decide +kernel)
theorem zt180 : Cond.code yX6_add cX6_add 4 (some .int) ∈ zW := zm 180 (by decide +kernel) (by decide +kernel)
theorem zt181 : Cond.methodLink RX6 40 yX6_isWithin ∈ zW := zm 181 (by decide +kernel) (by decide +kernel)
theorem zt182 : Cond.static yX6_isWithin ∈ zW := zm 182 (by decide +kernel) (by decide +kernel)
theorem zt183 : Cond.code yX6_isWithin cX6_isWithin 3 (some .boolean) ∈ zW := zm 183 (by decide +kernel) (by decide +kernel)
theorem zt184 : Cond.methodLink RX6 44 yX6_isIdentity ∈ zW := zm 184 (by decide +kernel) (by decide +kernel)
theorem zt185 : Cond.static yX6_isIdentity ∈ zW := zm 185 (by decide +kernel) (by decide +kernel)
theorem zt186 : Cond.code yX6_isIdentity cX6_isIdentity 1 (some .boolean) ∈ zW := zm 186 (by decide +kernel) (by decide +kernel)
theorem zt187 : Cond.methodLink RX6 52 yX3_record ∈ zW := zm 187 (by decide +kernel) (by decide +kernel)
theorem zt188 : Cond.instanceMethod yX3_record ∈ zW := zm 188 (by decide +kernel) (by decide +kernel)
theorem zt189 : Cond.selects RX3 yX3_record yX3_record ∈ zW := zm 189 (by decide +kernel) (by decide +kernel)
theorem zt190 : Cond.code yX3_record cX3_record 2 none ∈ zW := zm 190 (by decide +kernel) (by decide +kernel)
theorem zt191 : Cond.methodLink RX3 22 yX3_dropOldest ∈ zW := zm 191 (by decide +kernel) (by decide +kernel)
theorem zt193 : Cond.instanceMethod yX3_dropOldest ∈ zW := zm 193 (by decide +kernel) (by decide +kernel)
theorem zt194 : Cond.code yX3_dropOldest cX3_dropOldest 3 none ∈ zW := zm 194 (by decide +kernel) (by decide +kernel)
theorem zt195 : Cond.methodLink RX3 25 yX0_becomeCopyOf ∈ zW := zm 195 (by decide +kernel) (by decide +kernel)
theorem zt196 : Cond.instanceMethod yX0_becomeCopyOf ∈ zW := zm 196 (by decide +kernel) (by decide +kernel)
theorem zt197 : Cond.selects RX0 yX0_becomeCopyOf yX0_becomeCopyOf ∈ zW := zm 197 (by decide +kernel) (by decide +kernel)
theorem zt198 : Cond.code yX0_becomeCopyOf cX0_becomeCopyOf 3 none ∈ zW := zm 198 (by decide +kernel) (by decide +kernel)
theorem zt199 : Cond.methodLink RX0 37 yX1_becomeCopyOf ∈ zW := zm 199 (by decide +kernel) (by decide +kernel)
theorem zt200 : Cond.instanceMethod yX1_becomeCopyOf ∈ zW := zm 200 (by decide +kernel) (by decide +kernel)
theorem zt201 : Cond.selects RX1 yX1_becomeCopyOf yX1_becomeCopyOf ∈ zW := zm 201 (by decide +kernel) (by decide +kernel)
theorem zt202 : Cond.code yX1_becomeCopyOf cX1_becomeCopyOf 2 none ∈ zW := zm 202 (by decide +kernel) (by decide +kernel)
theorem zt203 : Cond.methodLink RX6 56 yX0_putBehind ∈ zW := zm 203 (by decide +kernel) (by decide +kernel)
theorem zt204 : Cond.instanceMethod yX0_putBehind ∈ zW := zm 204 (by decide +kernel) (by decide +kernel)
theorem zt205 : Cond.selects RX0 yX0_putBehind yX0_putBehind ∈ zW := zm 205 (by decide +kernel) (by decide +kernel)
theorem zt206 : Cond.code yX0_putBehind cX0_putBehind 5 (some .int) ∈ zW := zm 206 (by decide +kernel) (by decide +kernel)
theorem zt207 : Cond.methodLink RX0 41 yX1_beNew ∈ zW := zm 207 (by decide +kernel) (by decide +kernel)
theorem zt208 : Cond.instanceMethod yX1_beNew ∈ zW := zm 208 (by decide +kernel) (by decide +kernel)
theorem zt209 : Cond.selects RX1 yX1_beNew yX1_beNew ∈ zW := zm 209 (by decide +kernel) (by decide +kernel)
theorem zt210 : Cond.code yX1_beNew cX1_beNew 4 none ∈ zW := zm 210 (by decide +kernel) (by decide +kernel)
theorem zt211 : Cond.methodLink RX1 34 yX1_giveFirstInstruction ∈ zW := zm 211 (by decide +kernel) (by decide +kernel)
theorem zt212 : Cond.instanceMethod yX1_giveFirstInstruction ∈ zW := zm 212 (by decide +kernel) (by decide +kernel)
theorem zt213 : Cond.selects RX1 yX1_giveFirstInstruction yX1_giveFirstInstruction ∈ zW := zm 213 (by decide +kernel) (by decide +kernel)
theorem zt214 : Cond.code yX1_giveFirstInstruction cX1_giveFirstInstruction 1 none ∈ zW := zm 214 (by decide +kernel) (by decide +kernel)
theorem zt216 : Cond.static yX6_allOnes ∈ zW := zm 216 (by decide +kernel) (by decide +kernel)
theorem zt217 : Cond.code yX6_allOnes cX6_allOnes 1 (some .int) ∈ zW := zm 217 (by decide +kernel) (by decide +kernel)
theorem zt218 : Cond.methodLink RX1 54 yX1_giveInstruction ∈ zW := zm 218 (by decide +kernel) (by decide +kernel)
theorem zt219 : Cond.instanceMethod yX1_giveInstruction ∈ zW := zm 219 (by decide +kernel) (by decide +kernel)
theorem zt220 : Cond.selects RX1 yX1_giveInstruction yX1_giveInstruction ∈ zW := zm 220 (by decide +kernel) (by decide +kernel)
theorem zt221 : Cond.code yX1_giveInstruction cX1_giveInstruction 2 none ∈ zW := zm 221 (by decide +kernel) (by decide +kernel)
theorem zt222 : Cond.methodLink RL 18 yX6_take ∈ zW := zm 222 (by decide +kernel) (by decide +kernel)
theorem zt223 : Cond.instanceMethod yX6_take ∈ zW := zm 223 (by decide +kernel) (by decide +kernel)
theorem zt224 : Cond.selects RX6 yX6_take yX6_take ∈ zW := zm 224 (by decide +kernel) (by decide +kernel)
theorem zt225 : Cond.code yX6_take cX6_take 2 (some .int) ∈ zW := zm 225 (by decide +kernel) (by decide +kernel)
theorem zt226 : Cond.methodLink RX6 60 yX0_has ∈ zW := zm 226 (by decide +kernel) (by decide +kernel)
theorem zt227 : Cond.instanceMethod yX0_has ∈ zW := zm 227 (by decide +kernel) (by decide +kernel)
theorem zt228 : Cond.selects RX0 yX0_has yX0_has ∈ zW := zm 228 (by decide +kernel) (by decide +kernel)
theorem zt229 : Cond.code yX0_has cX0_has 2 (some .boolean) ∈ zW := zm 229 (by decide +kernel) (by decide +kernel)
theorem zt230 : Cond.methodLink RX6 63 yX0_takeOut ∈ zW := zm 230 (by decide +kernel) (by decide +kernel)
theorem zt231 : Cond.instanceMethod yX0_takeOut ∈ zW := zm 231 (by decide +kernel) (by decide +kernel)
theorem zt232 : Cond.selects RX0 yX0_takeOut yX0_takeOut ∈ zW := zm 232 (by decide +kernel) (by decide +kernel)
theorem zt233 : Cond.code yX0_takeOut cX0_takeOut 4 (some .int) ∈ zW := zm 233 (by decide +kernel) (by decide +kernel)
theorem zt234 : Cond.methodLink RL 23 yX6_setPins ∈ zW := zm 234 (by decide +kernel) (by decide +kernel)
theorem zt235 : Cond.instanceMethod yX6_setPins ∈ zW := zm 235 (by decide +kernel) (by decide +kernel)
theorem zt236 : Cond.selects RX6 yX6_setPins yX6_setPins ∈ zW := zm 236 (by decide +kernel) (by decide +kernel)
theorem zt237 : Cond.code yX6_setPins cX6_setPins 3 (some .int) ∈ zW := zm 237 (by decide +kernel) (by decide +kernel)
theorem zt238 : Cond.methodLink RX6 71 yX1_changePins ∈ zW := zm 238 (by decide +kernel) (by decide +kernel)
theorem zt239 : Cond.instanceMethod yX1_changePins ∈ zW := zm 239 (by decide +kernel) (by decide +kernel)
theorem zt240 : Cond.selects RX1 yX1_changePins yX1_changePins ∈ zW := zm 240 (by decide +kernel) (by decide +kernel)
theorem zt241 : Cond.code yX1_changePins cX1_changePins 3 (some .int) ∈ zW := zm 241 (by decide +kernel) (by decide +kernel)
theorem zt242 : Cond.methodLink RL 28 yX6_breakChip ∈ zW := zm 242 (by decide +kernel) (by decide +kernel)
theorem zt243 : Cond.instanceMethod yX6_breakChip ∈ zW := zm 243 (by decide +kernel) (by decide +kernel)
theorem zt244 : Cond.selects RX6 yX6_breakChip yX6_breakChip ∈ zW := zm 244 (by decide +kernel) (by decide +kernel)
theorem zt245 : Cond.code yX6_breakChip cX6_breakChip 3 (some .int) ∈ zW := zm 245 (by decide +kernel) (by decide +kernel)
theorem zt246 : Cond.methodLink RX6 79 yX0_brokenChips ∈ zW := zm 246 (by decide +kernel) (by decide +kernel)
theorem zt247 : Cond.instanceMethod yX0_brokenChips ∈ zW := zm 247 (by decide +kernel) (by decide +kernel)
theorem zt248 : Cond.selects RX0 yX0_brokenChips yX0_brokenChips ∈ zW := zm 248 (by decide +kernel) (by decide +kernel)
theorem zt249 : Cond.code yX0_brokenChips cX0_brokenChips 3 (some .int) ∈ zW := zm 249 (by decide +kernel) (by decide +kernel)
theorem zt250 : Cond.methodLink RL 33 yX6_clock ∈ zW := zm 250 (by decide +kernel) (by decide +kernel)
theorem zt251 : Cond.instanceMethod yX6_clock ∈ zW := zm 251 (by decide +kernel) (by decide +kernel)
theorem zt252 : Cond.selects RX6 yX6_clock yX6_clock ∈ zW := zm 252 (by decide +kernel) (by decide +kernel)
theorem zt253 : Cond.code yX6_clock cX6_clock 3 (some .int) ∈ zW := zm 253 (by decide +kernel) (by decide +kernel)
theorem zt254 : Cond.methodLink RX6 83 yX0_tick ∈ zW := zm 254 (by decide +kernel) (by decide +kernel)
theorem zt255 : Cond.instanceMethod yX0_tick ∈ zW := zm 255 (by decide +kernel) (by decide +kernel)
theorem zt256 : Cond.selects RX0 yX0_tick yX0_tick ∈ zW := zm 256 (by decide +kernel) (by decide +kernel)
theorem zt257 : Cond.code yX0_tick cX0_tick 5 (some .int) ∈ zW := zm 257 (by decide +kernel) (by decide +kernel)
theorem zt258 : Cond.methodLink RX0 63 yX0_outputWith ∈ zW := zm 258 (by decide +kernel) (by decide +kernel)
theorem zt259 : Cond.instanceMethod yX0_outputWith ∈ zW := zm 259 (by decide +kernel) (by decide +kernel)
theorem zt260 : Cond.selects RX0 yX0_outputWith yX0_outputWith ∈ zW := zm 260 (by decide +kernel) (by decide +kernel)
theorem zt261 : Cond.code yX0_outputWith cX0_outputWith 3 (some .int) ∈ zW := zm 261 (by decide +kernel) (by decide +kernel)
theorem zt262 : Cond.methodLink RX0 81 yX1_dataOutput ∈ zW := zm 262 (by decide +kernel) (by decide +kernel)
theorem zt263 : Cond.instanceMethod yX1_dataOutput ∈ zW := zm 263 (by decide +kernel) (by decide +kernel)
theorem zt264 : Cond.selects RX1 yX1_dataOutput yX1_dataOutput ∈ zW := zm 264 (by decide +kernel) (by decide +kernel)
theorem zt265 : Cond.code yX1_dataOutput cX1_dataOutput 1 (some .int) ∈ zW := zm 265 (by decide +kernel) (by decide +kernel)
theorem zt266 : Cond.methodLink RX0 84 yX1_codeOutput ∈ zW := zm 266 (by decide +kernel) (by decide +kernel)
theorem zt267 : Cond.instanceMethod yX1_codeOutput ∈ zW := zm 267 (by decide +kernel) (by decide +kernel)
theorem zt268 : Cond.selects RX1 yX1_codeOutput yX1_codeOutput ∈ zW := zm 268 (by decide +kernel) (by decide +kernel)
theorem zt269 : Cond.code yX1_codeOutput cX1_codeOutput 1 (some .int) ∈ zW := zm 269 (by decide +kernel) (by decide +kernel)
theorem zt270 : Cond.methodLink RX0 67 yX0_shiftAllData ∈ zW := zm 270 (by decide +kernel) (by decide +kernel)
theorem zt272 : Cond.instanceMethod yX0_shiftAllData ∈ zW := zm 272 (by decide +kernel) (by decide +kernel)
theorem zt273 : Cond.code yX0_shiftAllData cX0_shiftAllData 5 none ∈ zW := zm 273 (by decide +kernel) (by decide +kernel)
theorem zt274 : Cond.methodLink RX0 102 yX1_shiftData ∈ zW := zm 274 (by decide +kernel) (by decide +kernel)
theorem zt275 : Cond.instanceMethod yX1_shiftData ∈ zW := zm 275 (by decide +kernel) (by decide +kernel)
theorem zt276 : Cond.selects RX1 yX1_shiftData yX1_shiftData ∈ zW := zm 276 (by decide +kernel) (by decide +kernel)
theorem zt277 : Cond.code yX1_shiftData cX1_shiftData 2 none ∈ zW := zm 277 (by decide +kernel) (by decide +kernel)
theorem zt278 : Cond.methodLink RX1 58 yX1_dataBits ∈ zW := zm 278 (by decide +kernel) (by decide +kernel)
theorem zt279 : Cond.instanceMethod yX1_dataBits ∈ zW := zm 279 (by decide +kernel) (by decide +kernel)
theorem zt280 : Cond.selects RX1 yX1_dataBits yX1_dataBits ∈ zW := zm 280 (by decide +kernel) (by decide +kernel)
theorem zt281 : Cond.code yX1_dataBits cX1_dataBits 1 (some .int) ∈ zW := zm 281 (by decide +kernel) (by decide +kernel)
theorem zt282 : Cond.methodLink RX1 47 yX1_selectsCells ∈ zW := zm 282 (by decide +kernel) (by decide +kernel)
theorem zt283 : Cond.instanceMethod yX1_selectsCells ∈ zW := zm 283 (by decide +kernel) (by decide +kernel)
theorem zt284 : Cond.selects RX1 yX1_selectsCells yX1_selectsCells ∈ zW := zm 284 (by decide +kernel) (by decide +kernel)
theorem zt285 : Cond.code yX1_selectsCells cX1_selectsCells 1 (some .boolean) ∈ zW := zm 285 (by decide +kernel) (by decide +kernel)
theorem zt286 : Cond.methodLink RX1 51 yX1_selectsIdentity ∈ zW := zm 286 (by decide +kernel) (by decide +kernel)
theorem zt287 : Cond.instanceMethod yX1_selectsIdentity ∈ zW := zm 287 (by decide +kernel) (by decide +kernel)
theorem zt288 : Cond.selects RX1 yX1_selectsIdentity yX1_selectsIdentity ∈ zW := zm 288 (by decide +kernel) (by decide +kernel)
theorem zt289 : Cond.code yX1_selectsIdentity cX1_selectsIdentity 1 (some .boolean) ∈ zW := zm 289 (by decide +kernel) (by decide +kernel)
theorem zt290 : Cond.methodLink RX1 62 yX1_shifted ∈ zW := zm 290 (by decide +kernel) (by decide +kernel)
theorem zt291 : Cond.static yX1_shifted ∈ zW := zm 291 (by decide +kernel) (by decide +kernel)
theorem zt292 : Cond.code yX1_shifted cX1_shifted 3 (some .int) ∈ zW := zm 292 (by decide +kernel) (by decide +kernel)
theorem zt293 : Cond.methodLink RX0 71 yX0_shiftAllCodes ∈ zW := zm 293 (by decide +kernel) (by decide +kernel)
theorem zt295 : Cond.instanceMethod yX0_shiftAllCodes ∈ zW := zm 295 (by decide +kernel) (by decide +kernel)
theorem zt296 : Cond.code yX0_shiftAllCodes cX0_shiftAllCodes 5 none ∈ zW := zm 296 (by decide +kernel) (by decide +kernel)
theorem zt297 : Cond.methodLink RX0 105 yX1_shiftCode ∈ zW := zm 297 (by decide +kernel) (by decide +kernel)
theorem zt298 : Cond.instanceMethod yX1_shiftCode ∈ zW := zm 298 (by decide +kernel) (by decide +kernel)
theorem zt299 : Cond.selects RX1 yX1_shiftCode yX1_shiftCode ∈ zW := zm 299 (by decide +kernel) (by decide +kernel)
theorem zt300 : Cond.code yX1_shiftCode cX1_shiftCode 2 none ∈ zW := zm 300 (by decide +kernel) (by decide +kernel)
theorem zt301 : Cond.methodLink RX0 74 yX0_workOf ∈ zW := zm 301 (by decide +kernel) (by decide +kernel)
theorem zt303 : Cond.instanceMethod yX0_workOf ∈ zW := zm 303 (by decide +kernel) (by decide +kernel)
theorem zt304 : Cond.code yX0_workOf cX0_workOf 2 none ∈ zW := zm 304 (by decide +kernel) (by decide +kernel)
theorem zt305 : Cond.methodLink RX0 87 yX1_giveFirstInstruction ∈ zW := zm 305 (by decide +kernel) (by decide +kernel)
theorem zt306 : Cond.methodLink RX0 90 yX1_captureData ∈ zW := zm 306 (by decide +kernel) (by decide +kernel)
theorem zt307 : Cond.instanceMethod yX1_captureData ∈ zW := zm 307 (by decide +kernel) (by decide +kernel)
theorem zt308 : Cond.selects RX1 yX1_captureData yX1_captureData ∈ zW := zm 308 (by decide +kernel) (by decide +kernel)
theorem zt309 : Cond.code yX1_captureData cX1_captureData 1 none ∈ zW := zm 309 (by decide +kernel) (by decide +kernel)
theorem zt310 : Cond.methodLink RX0 93 yX1_updateData ∈ zW := zm 310 (by decide +kernel) (by decide +kernel)
theorem zt311 : Cond.instanceMethod yX1_updateData ∈ zW := zm 311 (by decide +kernel) (by decide +kernel)
theorem zt312 : Cond.selects RX1 yX1_updateData yX1_updateData ∈ zW := zm 312 (by decide +kernel) (by decide +kernel)
theorem zt313 : Cond.code yX1_updateData cX1_updateData 1 none ∈ zW := zm 313 (by decide +kernel) (by decide +kernel)
theorem zt314 : Cond.methodLink RX0 99 yX1_giveInstruction ∈ zW := zm 314 (by decide +kernel) (by decide +kernel)
theorem zt315 : Cond.methodLink RX0 77 yX2_next ∈ zW := zm 315 (by decide +kernel) (by decide +kernel)
theorem zt316 : Cond.static yX2_next ∈ zW := zm 316 (by decide +kernel) (by decide +kernel)
theorem zt317 : Cond.code yX2_next cX2_next 2 (some .int) ∈ zW := zm 317 (by decide +kernel) (by decide +kernel)
theorem zt318 : Cond.methodLink RX2 9 yX2_isState ∈ zW := zm 318 (by decide +kernel) (by decide +kernel)
theorem zt319 : Cond.static yX2_isState ∈ zW := zm 319 (by decide +kernel) (by decide +kernel)
theorem zt320 : Cond.code yX2_isState cX2_isState 1 (some .boolean) ∈ zW := zm 320 (by decide +kernel) (by decide +kernel)
theorem zt321 : Cond.fieldLink RX2 13 "ScanChain$Controller" "NEXT_BY_MODE_0" "[I" ∈ zW := zm 321 (by decide +kernel) (by decide +kernel)
theorem zt323 : Cond.fieldLink RX2 17 "ScanChain$Controller" "NEXT_BY_MODE_1" "[I" ∈ zW := zm 323 (by decide +kernel) (by decide +kernel)
theorem zt325 : Cond.methodLink RL 37 yX6_move ∈ zW := zm 325 (by decide +kernel) (by decide +kernel)
theorem zt326 : Cond.instanceMethod yX6_move ∈ zW := zm 326 (by decide +kernel) (by decide +kernel)
theorem zt327 : Cond.selects RX6 yX6_move yX6_move ∈ zW := zm 327 (by decide +kernel) (by decide +kernel)
theorem zt328 : Cond.code yX6_move cX6_move 2 (some .int) ∈ zW := zm 328 (by decide +kernel) (by decide +kernel)
theorem zt329 : Cond.methodLink RX6 87 yX2_isState ∈ zW := zm 329 (by decide +kernel) (by decide +kernel)
theorem zt330 : Cond.methodLink RX6 92 yX4_goTo ∈ zW := zm 330 (by decide +kernel) (by decide +kernel)
theorem zt331 : Cond.static yX4_goTo ∈ zW := zm 331 (by decide +kernel) (by decide +kernel)
theorem zt332 : Cond.code yX4_goTo cX4_goTo 6 (some .int) ∈ zW := zm 332 (by decide +kernel) (by decide +kernel)
theorem zt333 : Cond.methodLink RX4 15 yX2_clocksBetween ∈ zW := zm 333 (by decide +kernel) (by decide +kernel)
theorem zt334 : Cond.static yX2_clocksBetween ∈ zW := zm 334 (by decide +kernel) (by decide +kernel)
theorem zt335 : Cond.code yX2_clocksBetween cX2_clocksBetween 4 (some .int) ∈ zW := zm 335 (by decide +kernel) (by decide +kernel)
theorem zt336 : Cond.methodLink RX2 20 yX2_nextOfAll ∈ zW := zm 336 (by decide +kernel) (by decide +kernel)
theorem zt337 : Cond.static yX2_nextOfAll ∈ zW := zm 337 (by decide +kernel) (by decide +kernel)
theorem zt338 : Cond.code yX2_nextOfAll cX2_nextOfAll 3 (some .int) ∈ zW := zm 338 (by decide +kernel) (by decide +kernel)
theorem zt339 : Cond.methodLink RX2 24 yX2_next ∈ zW := zm 339 (by decide +kernel) (by decide +kernel)
theorem zt340 : Cond.methodLink RX4 21 yX2_next ∈ zW := zm 340 (by decide +kernel) (by decide +kernel)
theorem zt341 : Cond.methodLink RX4 24 yX0_tick ∈ zW := zm 341 (by decide +kernel) (by decide +kernel)
theorem zt342 : Cond.methodLink RL 41 yX6_identify ∈ zW := zm 342 (by decide +kernel) (by decide +kernel)
theorem zt343 : Cond.instanceMethod yX6_identify ∈ zW := zm 343 (by decide +kernel) (by decide +kernel)
theorem zt344 : Cond.selects RX6 yX6_identify yX6_identify ∈ zW := zm 344 (by decide +kernel) (by decide +kernel)
theorem zt345 : Cond.code yX6_identify cX6_identify 1 (some .int) ∈ zW := zm 345 (by decide +kernel) (by decide +kernel)
theorem zt346 : Cond.methodLink RX6 98 yX4_readIdentities ∈ zW := zm 346 (by decide +kernel) (by decide +kernel)
theorem zt347 : Cond.static yX4_readIdentities ∈ zW := zm 347 (by decide +kernel) (by decide +kernel)
theorem zt348 : Cond.code yX4_readIdentities cX4_readIdentities 3 (some .int) ∈ zW := zm 348 (by decide +kernel) (by decide +kernel)
theorem zt349 : Cond.methodLink RX4 29 yX4_goTo ∈ zW := zm 349 (by decide +kernel) (by decide +kernel)
theorem zt350 : Cond.methodLink RX4 33 yX0_forgetIdentities ∈ zW := zm 350 (by decide +kernel) (by decide +kernel)
theorem zt351 : Cond.instanceMethod yX0_forgetIdentities ∈ zW := zm 351 (by decide +kernel) (by decide +kernel)
theorem zt352 : Cond.selects RX0 yX0_forgetIdentities yX0_forgetIdentities ∈ zW := zm 352 (by decide +kernel) (by decide +kernel)
theorem zt353 : Cond.code yX0_forgetIdentities cX0_forgetIdentities 1 none ∈ zW := zm 353 (by decide +kernel) (by decide +kernel)
theorem zt354 : Cond.methodLink RX4 36 yX4_readIdentity ∈ zW := zm 354 (by decide +kernel) (by decide +kernel)
theorem zt355 : Cond.static yX4_readIdentity ∈ zW := zm 355 (by decide +kernel) (by decide +kernel)
theorem zt356 : Cond.code yX4_readIdentity cX4_readIdentity 3 (some .int) ∈ zW := zm 356 (by decide +kernel) (by decide +kernel)
theorem zt357 : Cond.methodLink RX4 40 yX0_keepIdentity ∈ zW := zm 357 (by decide +kernel) (by decide +kernel)
theorem zt358 : Cond.instanceMethod yX0_keepIdentity ∈ zW := zm 358 (by decide +kernel) (by decide +kernel)
theorem zt359 : Cond.selects RX0 yX0_keepIdentity yX0_keepIdentity ∈ zW := zm 359 (by decide +kernel) (by decide +kernel)
theorem zt360 : Cond.code yX0_keepIdentity cX0_keepIdentity 2 none ∈ zW := zm 360 (by decide +kernel) (by decide +kernel)
theorem zt361 : Cond.methodLink RL 46 yX6_load ∈ zW := zm 361 (by decide +kernel) (by decide +kernel)
theorem zt362 : Cond.instanceMethod yX6_load ∈ zW := zm 362 (by decide +kernel) (by decide +kernel)
theorem zt363 : Cond.selects RX6 yX6_load yX6_load ∈ zW := zm 363 (by decide +kernel) (by decide +kernel)
theorem zt364 : Cond.code yX6_load cX6_load 3 (some .int) ∈ zW := zm 364 (by decide +kernel) (by decide +kernel)
theorem zt365 : Cond.methodLink RX6 102 yX4_loadInstruction ∈ zW := zm 365 (by decide +kernel) (by decide +kernel)
theorem zt366 : Cond.static yX4_loadInstruction ∈ zW := zm 366 (by decide +kernel) (by decide +kernel)
theorem zt367 : Cond.code yX4_loadInstruction cX4_loadInstruction 6 none ∈ zW := zm 367 (by decide +kernel) (by decide +kernel)
theorem zt369 : Cond.methodLink RX4 63 yX4_shiftThrough ∈ zW := zm 369 (by decide +kernel) (by decide +kernel)
theorem zt370 : Cond.static yX4_shiftThrough ∈ zW := zm 370 (by decide +kernel) (by decide +kernel)
theorem zt371 : Cond.code yX4_shiftThrough cX4_shiftThrough 7 (some .int) ∈ zW := zm 371 (by decide +kernel) (by decide +kernel)
theorem zt372 : Cond.methodLink RX6 106 yX1_dataBits ∈ zW := zm 372 (by decide +kernel) (by decide +kernel)
theorem zt373 : Cond.methodLink RL 50 yX6_exchange ∈ zW := zm 373 (by decide +kernel) (by decide +kernel)
theorem zt374 : Cond.instanceMethod yX6_exchange ∈ zW := zm 374 (by decide +kernel) (by decide +kernel)
theorem zt375 : Cond.selects RX6 yX6_exchange yX6_exchange ∈ zW := zm 375 (by decide +kernel) (by decide +kernel)
theorem zt376 : Cond.code yX6_exchange cX6_exchange 4 (some .int) ∈ zW := zm 376 (by decide +kernel) (by decide +kernel)
theorem zt377 : Cond.methodLink RX6 109 yX6_exchangeError ∈ zW := zm 377 (by decide +kernel) (by decide +kernel)
theorem zt379 : Cond.instanceMethod yX6_exchangeError ∈ zW := zm 379 (by decide +kernel) (by decide +kernel)
theorem zt380 : Cond.code yX6_exchangeError cX6_exchangeError 3 (some .int) ∈ zW := zm 380 (by decide +kernel) (by decide +kernel)
theorem zt381 : Cond.methodLink RX6 112 yX4_exchangeData ∈ zW := zm 381 (by decide +kernel) (by decide +kernel)
theorem zt382 : Cond.static yX4_exchangeData ∈ zW := zm 382 (by decide +kernel) (by decide +kernel)
theorem zt383 : Cond.code yX4_exchangeData cX4_exchangeData 7 (some .int) ∈ zW := zm 383 (by decide +kernel) (by decide +kernel)
theorem zt384 : Cond.methodLink RX4 67 yX1_dataBits ∈ zW := zm 384 (by decide +kernel) (by decide +kernel)
theorem zt385 : Cond.methodLink RL 54 yX6_append ∈ zW := zm 385 (by decide +kernel) (by decide +kernel)
theorem zt386 : Cond.instanceMethod yX6_append ∈ zW := zm 386 (by decide +kernel) (by decide +kernel)
theorem zt387 : Cond.selects RX6 yX6_append yX6_append ∈ zW := zm 387 (by decide +kernel) (by decide +kernel)
theorem zt388 : Cond.code yX6_append cX6_append 2 (some .int) ∈ zW := zm 388 (by decide +kernel) (by decide +kernel)
theorem zt389 : Cond.methodLink RX6 119 yX5_write ∈ zW := zm 389 (by decide +kernel) (by decide +kernel)
theorem zt390 : Cond.instanceMethod yX5_write ∈ zW := zm 390 (by decide +kernel) (by decide +kernel)
theorem zt391 : Cond.selects RX5 yX5_write yX5_write ∈ zW := zm 391 (by decide +kernel) (by decide +kernel)
theorem zt392 : Cond.code yX5_write cX5_write 2 (some .int) ∈ zW := zm 392 (by decide +kernel) (by decide +kernel)
theorem zt393 : Cond.methodLink RL 58 yX6_clearText ∈ zW := zm 393 (by decide +kernel) (by decide +kernel)
theorem zt394 : Cond.instanceMethod yX6_clearText ∈ zW := zm 394 (by decide +kernel) (by decide +kernel)
theorem zt395 : Cond.selects RX6 yX6_clearText yX6_clearText ∈ zW := zm 395 (by decide +kernel) (by decide +kernel)
theorem zt396 : Cond.code yX6_clearText cX6_clearText 1 (some .int) ∈ zW := zm 396 (by decide +kernel) (by decide +kernel)
theorem zt397 : Cond.methodLink RX6 122 yX5_wipe ∈ zW := zm 397 (by decide +kernel) (by decide +kernel)
theorem zt398 : Cond.instanceMethod yX5_wipe ∈ zW := zm 398 (by decide +kernel) (by decide +kernel)
theorem zt399 : Cond.selects RX5 yX5_wipe yX5_wipe ∈ zW := zm 399 (by decide +kernel) (by decide +kernel)
theorem zt400 : Cond.code yX5_wipe cX5_wipe 2 (some .int) ∈ zW := zm 400 (by decide +kernel) (by decide +kernel)
theorem zt401 : Cond.methodLink RL 62 yX6_fault ∈ zW := zm 401 (by decide +kernel) (by decide +kernel)
theorem zt402 : Cond.instanceMethod yX6_fault ∈ zW := zm 402 (by decide +kernel) (by decide +kernel)
theorem zt403 : Cond.selects RX6 yX6_fault yX6_fault ∈ zW := zm 403 (by decide +kernel) (by decide +kernel)
theorem zt404 : Cond.code yX6_fault cX6_fault 1 (some .int) ∈ zW := zm 404 (by decide +kernel) (by decide +kernel)
theorem zt405 : Cond.methodLink RX6 125 yX5_firstFault ∈ zW := zm 405 (by decide +kernel) (by decide +kernel)
theorem zt406 : Cond.instanceMethod yX5_firstFault ∈ zW := zm 406 (by decide +kernel) (by decide +kernel)
theorem zt407 : Cond.selects RX5 yX5_firstFault yX5_firstFault ∈ zW := zm 407 (by decide +kernel) (by decide +kernel)
theorem zt408 : Cond.code yX5_firstFault cX5_firstFault 5 (some .int) ∈ zW := zm 408 (by decide +kernel) (by decide +kernel)
theorem zt409 : Cond.methodLink RX5 19 yX5_hexValue ∈ zW := zm 409 (by decide +kernel) (by decide +kernel)
theorem zt410 : Cond.static yX5_hexValue ∈ zW := zm 410 (by decide +kernel) (by decide +kernel)
theorem zt411 : Cond.code yX5_hexValue cX5_hexValue 1 (some .int) ∈ zW := zm 411 (by decide +kernel) (by decide +kernel)
theorem zt412 : Cond.methodLink RX5 23 yX5_startsItem ∈ zW := zm 412 (by decide +kernel) (by decide +kernel)
theorem zt413 : Cond.static yX5_startsItem ∈ zW := zm 413 (by decide +kernel) (by decide +kernel)
theorem zt414 : Cond.code yX5_startsItem cX5_startsItem 1 (some .boolean) ∈ zW := zm 414 (by decide +kernel) (by decide +kernel)
theorem zt415 : Cond.methodLink RL 66 yX6_run ∈ zW := zm 415 (by decide +kernel) (by decide +kernel)
theorem zt416 : Cond.instanceMethod yX6_run ∈ zW := zm 416 (by decide +kernel) (by decide +kernel)
theorem zt417 : Cond.selects RX6 yX6_run yX6_run ∈ zW := zm 417 (by decide +kernel) (by decide +kernel)
theorem zt418 : Cond.code yX6_run cX6_run 2 (some .int) ∈ zW := zm 418 (by decide +kernel) (by decide +kernel)
theorem zt419 : Cond.methodLink RX6 128 yX4_carryOut ∈ zW := zm 419 (by decide +kernel) (by decide +kernel)
theorem zt420 : Cond.static yX4_carryOut ∈ zW := zm 420 (by decide +kernel) (by decide +kernel)
theorem zt421 : Cond.code yX4_carryOut cX4_carryOut 7 (some .int) ∈ zW := zm 421 (by decide +kernel) (by decide +kernel)
theorem zt422 : Cond.methodLink RX4 80 yX5_hexAt ∈ zW := zm 422 (by decide +kernel) (by decide +kernel)
theorem zt423 : Cond.instanceMethod yX5_hexAt ∈ zW := zm 423 (by decide +kernel) (by decide +kernel)
theorem zt424 : Cond.selects RX5 yX5_hexAt yX5_hexAt ∈ zW := zm 424 (by decide +kernel) (by decide +kernel)
theorem zt425 : Cond.code yX5_hexAt cX5_hexAt 2 (some .int) ∈ zW := zm 425 (by decide +kernel) (by decide +kernel)
theorem zt426 : Cond.methodLink RX4 83 yX4_clockItem ∈ zW := zm 426 (by decide +kernel) (by decide +kernel)
theorem zt427 : Cond.static yX4_clockItem ∈ zW := zm 427 (by decide +kernel) (by decide +kernel)
theorem zt428 : Cond.code yX4_clockItem cX4_clockItem 4 none ∈ zW := zm 428 (by decide +kernel) (by decide +kernel)
theorem zt429 : Cond.methodLink RL 70 yX6_undo ∈ zW := zm 429 (by decide +kernel) (by decide +kernel)
theorem zt430 : Cond.instanceMethod yX6_undo ∈ zW := zm 430 (by decide +kernel) (by decide +kernel)
theorem zt431 : Cond.selects RX6 yX6_undo yX6_undo ∈ zW := zm 431 (by decide +kernel) (by decide +kernel)
theorem zt432 : Cond.code yX6_undo cX6_undo 1 (some .int) ∈ zW := zm 432 (by decide +kernel) (by decide +kernel)
theorem zt433 : Cond.methodLink RX6 132 yX3_takeBack ∈ zW := zm 433 (by decide +kernel) (by decide +kernel)
theorem zt434 : Cond.instanceMethod yX3_takeBack ∈ zW := zm 434 (by decide +kernel) (by decide +kernel)
theorem zt435 : Cond.selects RX3 yX3_takeBack yX3_takeBack ∈ zW := zm 435 (by decide +kernel) (by decide +kernel)
theorem zt436 : Cond.code yX3_takeBack cX3_takeBack 2 (some .int) ∈ zW := zm 436 (by decide +kernel) (by decide +kernel)
theorem zt437 : Cond.methodLink RL 74 yX6_save ∈ zW := zm 437 (by decide +kernel) (by decide +kernel)
theorem zt438 : Cond.instanceMethod yX6_save ∈ zW := zm 438 (by decide +kernel) (by decide +kernel)
theorem zt439 : Cond.selects RX6 yX6_save yX6_save ∈ zW := zm 439 (by decide +kernel) (by decide +kernel)
theorem zt440 : Cond.code yX6_save cX6_save 1 (some .int) ∈ zW := zm 440 (by decide +kernel) (by decide +kernel)
theorem zt441 : Cond.methodLink RX6 135 yX0_becomeCopyOf ∈ zW := zm 441 (by decide +kernel) (by decide +kernel)
theorem zt442 : Cond.methodLink RL 78 yX6_restore ∈ zW := zm 442 (by decide +kernel) (by decide +kernel)
theorem zt443 : Cond.instanceMethod yX6_restore ∈ zW := zm 443 (by decide +kernel) (by decide +kernel)
theorem zt444 : Cond.selects RX6 yX6_restore yX6_restore ∈ zW := zm 444 (by decide +kernel) (by decide +kernel)
theorem zt445 : Cond.code yX6_restore cX6_restore 1 (some .int) ∈ zW := zm 445 (by decide +kernel) (by decide +kernel)
theorem zt446 : Cond.methodLink RL 82 yX6_chip ∈ zW := zm 446 (by decide +kernel) (by decide +kernel)
theorem zt447 : Cond.instanceMethod yX6_chip ∈ zW := zm 447 (by decide +kernel) (by decide +kernel)
theorem zt448 : Cond.selects RX6 yX6_chip yX6_chip ∈ zW := zm 448 (by decide +kernel) (by decide +kernel)
theorem zt449 : Cond.code yX6_chip cX6_chip 3 (some .int) ∈ zW := zm 449 (by decide +kernel) (by decide +kernel)
theorem zt450 : Cond.methodLink RX6 138 yX1_tell ∈ zW := zm 450 (by decide +kernel) (by decide +kernel)
theorem zt451 : Cond.instanceMethod yX1_tell ∈ zW := zm 451 (by decide +kernel) (by decide +kernel)
theorem zt452 : Cond.selects RX1 yX1_tell yX1_tell ∈ zW := zm 452 (by decide +kernel) (by decide +kernel)
theorem zt453 : Cond.code yX1_tell cX1_tell 2 (some .int) ∈ zW := zm 453 (by decide +kernel) (by decide +kernel)
theorem zt454 : Cond.methodLink RL 86 yX6_count ∈ zW := zm 454 (by decide +kernel) (by decide +kernel)
theorem zt455 : Cond.instanceMethod yX6_count ∈ zW := zm 455 (by decide +kernel) (by decide +kernel)
theorem zt456 : Cond.selects RX6 yX6_count yX6_count ∈ zW := zm 456 (by decide +kernel) (by decide +kernel)
theorem zt457 : Cond.code yX6_count cX6_count 2 (some .int) ∈ zW := zm 457 (by decide +kernel) (by decide +kernel)
theorem zt458 : Cond.methodLink RX6 147 yX0_sumOfCodeLengths ∈ zW := zm 458 (by decide +kernel) (by decide +kernel)
theorem zt459 : Cond.instanceMethod yX0_sumOfCodeLengths ∈ zW := zm 459 (by decide +kernel) (by decide +kernel)
theorem zt460 : Cond.selects RX0 yX0_sumOfCodeLengths yX0_sumOfCodeLengths ∈ zW := zm 460 (by decide +kernel) (by decide +kernel)
theorem zt461 : Cond.code yX0_sumOfCodeLengths cX0_sumOfCodeLengths 3 (some .int) ∈ zW := zm 461 (by decide +kernel) (by decide +kernel)
theorem zt462 : Cond.methodLink RX6 150 yX0_sumOfDataBits ∈ zW := zm 462 (by decide +kernel) (by decide +kernel)
theorem zt463 : Cond.instanceMethod yX0_sumOfDataBits ∈ zW := zm 463 (by decide +kernel) (by decide +kernel)
theorem zt464 : Cond.selects RX0 yX0_sumOfDataBits yX0_sumOfDataBits ∈ zW := zm 464 (by decide +kernel) (by decide +kernel)
theorem zt465 : Cond.code yX0_sumOfDataBits cX0_sumOfDataBits 3 (some .int) ∈ zW := zm 465 (by decide +kernel) (by decide +kernel)
theorem zt466 : Cond.methodLink RX0 59 yX1_dataBits ∈ zW := zm 466 (by decide +kernel) (by decide +kernel)
theorem zt467 : Cond.methodLink RL 90 yX6_found ∈ zW := zm 467 (by decide +kernel) (by decide +kernel)
theorem zt468 : Cond.instanceMethod yX6_found ∈ zW := zm 468 (by decide +kernel) (by decide +kernel)
theorem zt469 : Cond.selects RX6 yX6_found yX6_found ∈ zW := zm 469 (by decide +kernel) (by decide +kernel)
theorem zt470 : Cond.code yX6_found cX6_found 2 (some .int) ∈ zW := zm 470 (by decide +kernel) (by decide +kernel)
theorem zt471 : Cond.methodLink RL 94 yX6_distance ∈ zW := zm 471 (by decide +kernel) (by decide +kernel)
theorem zt472 : Cond.instanceMethod yX6_distance ∈ zW := zm 472 (by decide +kernel) (by decide +kernel)
theorem zt473 : Cond.selects RX6 yX6_distance yX6_distance ∈ zW := zm 473 (by decide +kernel) (by decide +kernel)
theorem zt474 : Cond.code yX6_distance cX6_distance 3 (some .int) ∈ zW := zm 474 (by decide +kernel) (by decide +kernel)
theorem zt475 : Cond.methodLink RX6 161 yX2_clocksBetween ∈ zW := zm 475 (by decide +kernel) (by decide +kernel)
theorem zt476 : Cond.methodLink RL 98 yX6_peek ∈ zW := zm 476 (by decide +kernel) (by decide +kernel)
theorem zt477 : Cond.instanceMethod yX6_peek ∈ zW := zm 477 (by decide +kernel) (by decide +kernel)
theorem zt478 : Cond.selects RX6 yX6_peek yX6_peek ∈ zW := zm 478 (by decide +kernel) (by decide +kernel)
theorem zt479 : Cond.code yX6_peek cX6_peek 2 (some .int) ∈ zW := zm 479 (by decide +kernel) (by decide +kernel)
theorem zt480 : Cond.methodLink RX6 164 yX0_outputWith ∈ zW := zm 480 (by decide +kernel) (by decide +kernel)
theorem zt481 : Cond.methodLink RL 102 yX6_ifIdentified ∈ zW := zm 481 (by decide +kernel) (by decide +kernel)
theorem zt482 : Cond.instanceMethod yX6_ifIdentified ∈ zW := zm 482 (by decide +kernel) (by decide +kernel)
theorem zt483 : Cond.selects RX6 yX6_ifIdentified yX6_ifIdentified ∈ zW := zm 483 (by decide +kernel) (by decide +kernel)
theorem zt484 : Cond.code yX6_ifIdentified cX6_ifIdentified 1 (some .int) ∈ zW := zm 484 (by decide +kernel) (by decide +kernel)
theorem zt485 : Cond.methodLink RL 106 yX6_ifExchanged ∈ zW := zm 485 (by decide +kernel) (by decide +kernel)
theorem zt486 : Cond.instanceMethod yX6_ifExchanged ∈ zW := zm 486 (by decide +kernel) (by decide +kernel)
theorem zt487 : Cond.selects RX6 yX6_ifExchanged yX6_ifExchanged ∈ zW := zm 487 (by decide +kernel) (by decide +kernel)
theorem zt488 : Cond.code yX6_ifExchanged cX6_ifExchanged 4 (some .int) ∈ zW := zm 488 (by decide +kernel) (by decide +kernel)
theorem zt489 : Cond.methodLink RL 110 yX6_bypassed ∈ zW := zm 489 (by decide +kernel) (by decide +kernel)
theorem zt490 : Cond.instanceMethod yX6_bypassed ∈ zW := zm 490 (by decide +kernel) (by decide +kernel)
theorem zt491 : Cond.selects RX6 yX6_bypassed yX6_bypassed ∈ zW := zm 491 (by decide +kernel) (by decide +kernel)
theorem zt492 : Cond.code yX6_bypassed cX6_bypassed 1 (some .float) ∈ zW := zm 492 (by decide +kernel) (by decide +kernel)
theorem zt493 : Cond.methodLink RX6 167 yX0_bypassedChips ∈ zW := zm 493 (by decide +kernel) (by decide +kernel)
theorem zt494 : Cond.instanceMethod yX0_bypassedChips ∈ zW := zm 494 (by decide +kernel) (by decide +kernel)
theorem zt495 : Cond.selects RX0 yX0_bypassedChips yX0_bypassedChips ∈ zW := zm 495 (by decide +kernel) (by decide +kernel)
theorem zt496 : Cond.code yX0_bypassedChips cX0_bypassedChips 3 (some .int) ∈ zW := zm 496 (by decide +kernel) (by decide +kernel)
theorem zt497 : Cond.methodLink RX0 52 yX1_selectsBypass ∈ zW := zm 497 (by decide +kernel) (by decide +kernel)
theorem zt498 : Cond.instanceMethod yX1_selectsBypass ∈ zW := zm 498 (by decide +kernel) (by decide +kernel)
theorem zt499 : Cond.selects RX1 yX1_selectsBypass yX1_selectsBypass ∈ zW := zm 499 (by decide +kernel) (by decide +kernel)
theorem zt500 : Cond.code yX1_selectsBypass cX1_selectsBypass 1 (some .boolean) ∈ zW := zm 500 (by decide +kernel) (by decide +kernel)
theorem zt501 : Cond.classLink RL 10 RX7 ∈ zW := zm 501 (by decide +kernel) (by decide +kernel)
theorem zt502 : Cond.instantiable RX7 9 ∈ zW := zm 502 (by decide +kernel) (by decide +kernel)
theorem zt503 : Cond.methodLink RL 12 yX7_init ∈ zW := zm 503 (by decide +kernel) (by decide +kernel)
theorem zt504 : Cond.instanceMethod yX7_init ∈ zW := zm 504 (by decide +kernel) (by decide +kernel)
theorem zt505 : Cond.code yX7_init cX7_init 1 none ∈ zW := zm 505 (by decide +kernel) (by decide +kernel)
theorem zt506 : Cond.methodLink RX7 1 objectInit ∈ zW := zm 506 (by decide +kernel) (by decide +kernel)
theorem zt507 : Cond.fieldLink RX7 7 "ScanChainModel" "z" "[I" ∈ zW := zm 507 (by decide +kernel) (by decide +kernel)
theorem zt508 : Cond.fieldLink RX7 13 "ScanChainModel" "spare" "[I" ∈ zW := zm 508 (by decide +kernel) (by decide +kernel)
theorem zt509 : Cond.fieldLink RX7 16 "ScanChainModel" "past" "[I" ∈ zW := zm 509 (by decide +kernel) (by decide +kernel)
theorem zt510 : Cond.fieldLink RX7 32 "ScanChainModel" "states" "I" ∈ zW := zm 510 (by decide +kernel) (by decide +kernel)
theorem zt511 : Cond.fieldLink RX7 19 "ScanChainModel" "kept" "[I" ∈ zW := zm 511 (by decide +kernel) (by decide +kernel)
theorem zt512 : Cond.fieldLink RX7 40 "ScanChainModel" "isKept" "Z" ∈ zW := zm 512 (by decide +kernel) (by decide +kernel)
theorem zt513 : Cond.fieldLink RX7 22 "ScanChainModel" "text" "[I" ∈ zW := zm 513 (by decide +kernel) (by decide +kernel)
theorem zt514 : Cond.fieldLink RX7 131 "ScanChainModel" "length" "I" ∈ zW := zm 514 (by decide +kernel) (by decide +kernel)
theorem zt515 : Cond.fieldLink RX7 25 "ScanChainModel" "far" "[I" ∈ zW := zm 515 (by decide +kernel) (by decide +kernel)
theorem zt535 : Cond.methodLink RL 73 yX7_undo ∈ zW := zm 535 (by decide +kernel) (by decide +kernel)
theorem zt536 : Cond.instanceMethod yX7_undo ∈ zW := zm 536 (by decide +kernel) (by decide +kernel)
theorem zt537 : Cond.selects RX7 yX7_undo yX7_undo ∈ zW := zm 537 (by decide +kernel) (by decide +kernel)
theorem zt538 : Cond.code yX7_undo cX7_undo 1 (some .int) ∈ zW := zm 538 (by decide +kernel) (by decide +kernel)
theorem zt539 : Cond.methodLink RX7 36 yX7_copyRow ∈ zW := zm 539 (by decide +kernel) (by decide +kernel)
theorem zt540 : Cond.static yX7_copyRow ∈ zW := zm 540 (by decide +kernel) (by decide +kernel)
theorem zt541 : Cond.code yX7_copyRow cX7_copyRow 5 none ∈ zW := zm 541 (by decide +kernel) (by decide +kernel)
theorem zt542 : Cond.methodLink RL 77 yX7_save ∈ zW := zm 542 (by decide +kernel) (by decide +kernel)
theorem zt543 : Cond.instanceMethod yX7_save ∈ zW := zm 543 (by decide +kernel) (by decide +kernel)
theorem zt544 : Cond.selects RX7 yX7_save yX7_save ∈ zW := zm 544 (by decide +kernel) (by decide +kernel)
theorem zt545 : Cond.code yX7_save cX7_save 1 (some .int) ∈ zW := zm 545 (by decide +kernel) (by decide +kernel)
theorem zt546 : Cond.methodLink RL 81 yX7_restore ∈ zW := zm 546 (by decide +kernel) (by decide +kernel)
theorem zt547 : Cond.instanceMethod yX7_restore ∈ zW := zm 547 (by decide +kernel) (by decide +kernel)
theorem zt548 : Cond.selects RX7 yX7_restore yX7_restore ∈ zW := zm 548 (by decide +kernel) (by decide +kernel)
theorem zt549 : Cond.code yX7_restore cX7_restore 1 (some .int) ∈ zW := zm 549 (by decide +kernel) (by decide +kernel)
theorem zt550 : Cond.methodLink RX7 44 yX7_record ∈ zW := zm 550 (by decide +kernel) (by decide +kernel)
theorem zt552 : Cond.instanceMethod yX7_record ∈ zW := zm 552 (by decide +kernel) (by decide +kernel)
theorem zt553 : Cond.code yX7_record cX7_record 2 none ∈ zW := zm 553 (by decide +kernel) (by decide +kernel)
theorem zt554 : Cond.methodLink RL 17 yX7_add ∈ zW := zm 554 (by decide +kernel) (by decide +kernel)
theorem zt555 : Cond.instanceMethod yX7_add ∈ zW := zm 555 (by decide +kernel) (by decide +kernel)
theorem zt556 : Cond.selects RX7 yX7_add yX7_add ∈ zW := zm 556 (by decide +kernel) (by decide +kernel)
theorem zt557 : Cond.code yX7_add cX7_add 7 (some .int) ∈ zW := zm 557 (by decide +kernel) (by decide +kernel)
theorem zt558 : Cond.methodLink RX7 28 yX7_in ∈ zW := zm 558 (by decide +kernel) (by decide +kernel)
theorem zt559 : Cond.static yX7_in ∈ zW := zm 559 (by decide +kernel) (by decide +kernel)
theorem zt560 : Cond.code yX7_in cX7_in 3 (some .boolean) ∈ zW := zm 560 (by decide +kernel) (by decide +kernel)
theorem zt561 : Cond.methodLink RX7 58 yX7_lay ∈ zW := zm 561 (by decide +kernel) (by decide +kernel)
theorem zt563 : Cond.instanceMethod yX7_lay ∈ zW := zm 563 (by decide +kernel) (by decide +kernel)
theorem zt564 : Cond.code yX7_lay cX7_lay 4 none ∈ zW := zm 564 (by decide +kernel) (by decide +kernel)
theorem zt565 : Cond.methodLink RX7 70 yX7_giveFirst ∈ zW := zm 565 (by decide +kernel) (by decide +kernel)
theorem zt567 : Cond.instanceMethod yX7_giveFirst ∈ zW := zm 567 (by decide +kernel) (by decide +kernel)
theorem zt568 : Cond.code yX7_giveFirst cX7_giveFirst 2 none ∈ zW := zm 568 (by decide +kernel) (by decide +kernel)
theorem zt569 : Cond.methodLink RX7 47 yX7_of ∈ zW := zm 569 (by decide +kernel) (by decide +kernel)
theorem zt571 : Cond.instanceMethod yX7_of ∈ zW := zm 571 (by decide +kernel) (by decide +kernel)
theorem zt572 : Cond.code yX7_of cX7_of 3 (some .int) ∈ zW := zm 572 (by decide +kernel) (by decide +kernel)
theorem zt573 : Cond.methodLink RX7 62 yX7_ones ∈ zW := zm 573 (by decide +kernel) (by decide +kernel)
theorem zt574 : Cond.static yX7_ones ∈ zW := zm 574 (by decide +kernel) (by decide +kernel)
theorem zt575 : Cond.code yX7_ones cX7_ones 1 (some .int) ∈ zW := zm 575 (by decide +kernel) (by decide +kernel)
theorem zt576 : Cond.methodLink RX7 66 yX7_give ∈ zW := zm 576 (by decide +kernel) (by decide +kernel)
theorem zt578 : Cond.instanceMethod yX7_give ∈ zW := zm 578 (by decide +kernel) (by decide +kernel)
theorem zt579 : Cond.code yX7_give cX7_give 3 none ∈ zW := zm 579 (by decide +kernel) (by decide +kernel)
theorem zt580 : Cond.methodLink RL 22 yX7_take ∈ zW := zm 580 (by decide +kernel) (by decide +kernel)
theorem zt581 : Cond.instanceMethod yX7_take ∈ zW := zm 581 (by decide +kernel) (by decide +kernel)
theorem zt582 : Cond.selects RX7 yX7_take yX7_take ∈ zW := zm 582 (by decide +kernel) (by decide +kernel)
theorem zt583 : Cond.code yX7_take cX7_take 4 (some .int) ∈ zW := zm 583 (by decide +kernel) (by decide +kernel)
theorem zt584 : Cond.methodLink RX7 74 yX7_isChip ∈ zW := zm 584 (by decide +kernel) (by decide +kernel)
theorem zt586 : Cond.instanceMethod yX7_isChip ∈ zW := zm 586 (by decide +kernel) (by decide +kernel)
theorem zt587 : Cond.code yX7_isChip cX7_isChip 2 (some .boolean) ∈ zW := zm 587 (by decide +kernel) (by decide +kernel)
theorem zt588 : Cond.methodLink RL 27 yX7_setPins ∈ zW := zm 588 (by decide +kernel) (by decide +kernel)
theorem zt589 : Cond.instanceMethod yX7_setPins ∈ zW := zm 589 (by decide +kernel) (by decide +kernel)
theorem zt590 : Cond.selects RX7 yX7_setPins yX7_setPins ∈ zW := zm 590 (by decide +kernel) (by decide +kernel)
theorem zt591 : Cond.code yX7_setPins cX7_setPins 4 (some .int) ∈ zW := zm 591 (by decide +kernel) (by decide +kernel)
theorem zt592 : Cond.methodLink RL 32 yX7_breakChip ∈ zW := zm 592 (by decide +kernel) (by decide +kernel)
theorem zt593 : Cond.instanceMethod yX7_breakChip ∈ zW := zm 593 (by decide +kernel) (by decide +kernel)
theorem zt594 : Cond.selects RX7 yX7_breakChip yX7_breakChip ∈ zW := zm 594 (by decide +kernel) (by decide +kernel)
theorem zt595 : Cond.code yX7_breakChip cX7_breakChip 3 (some .int) ∈ zW := zm 595 (by decide +kernel) (by decide +kernel)
theorem zt596 : Cond.methodLink RX7 77 yX7_sum ∈ zW := zm 596 (by decide +kernel) (by decide +kernel)
theorem zt598 : Cond.instanceMethod yX7_sum ∈ zW := zm 598 (by decide +kernel) (by decide +kernel)
theorem zt599 : Cond.code yX7_sum cX7_sum 4 (some .int) ∈ zW := zm 599 (by decide +kernel) (by decide +kernel)
theorem zt600 : Cond.methodLink RL 36 yX7_clock ∈ zW := zm 600 (by decide +kernel) (by decide +kernel)
theorem zt601 : Cond.instanceMethod yX7_clock ∈ zW := zm 601 (by decide +kernel) (by decide +kernel)
theorem zt602 : Cond.selects RX7 yX7_clock yX7_clock ∈ zW := zm 602 (by decide +kernel) (by decide +kernel)
theorem zt603 : Cond.code yX7_clock cX7_clock 3 (some .int) ∈ zW := zm 603 (by decide +kernel) (by decide +kernel)
theorem zt604 : Cond.methodLink RX7 106 yX7_clockNow ∈ zW := zm 604 (by decide +kernel) (by decide +kernel)
theorem zt606 : Cond.instanceMethod yX7_clockNow ∈ zW := zm 606 (by decide +kernel) (by decide +kernel)
theorem zt607 : Cond.code yX7_clockNow cX7_clockNow 5 (some .int) ∈ zW := zm 607 (by decide +kernel) (by decide +kernel)
theorem zt608 : Cond.methodLink RX7 94 yX7_output ∈ zW := zm 608 (by decide +kernel) (by decide +kernel)
theorem zt610 : Cond.instanceMethod yX7_output ∈ zW := zm 610 (by decide +kernel) (by decide +kernel)
theorem zt611 : Cond.code yX7_output cX7_output 2 (some .int) ∈ zW := zm 611 (by decide +kernel) (by decide +kernel)
theorem zt612 : Cond.methodLink RX7 84 yX7_isShifting ∈ zW := zm 612 (by decide +kernel) (by decide +kernel)
theorem zt614 : Cond.instanceMethod yX7_isShifting ∈ zW := zm 614 (by decide +kernel) (by decide +kernel)
theorem zt615 : Cond.code yX7_isShifting cX7_isShifting 1 (some .boolean) ∈ zW := zm 615 (by decide +kernel) (by decide +kernel)
theorem zt616 : Cond.methodLink RX7 88 yX7_outputOf ∈ zW := zm 616 (by decide +kernel) (by decide +kernel)
theorem zt618 : Cond.instanceMethod yX7_outputOf ∈ zW := zm 618 (by decide +kernel) (by decide +kernel)
theorem zt619 : Cond.code yX7_outputOf cX7_outputOf 2 (some .int) ∈ zW := zm 619 (by decide +kernel) (by decide +kernel)
theorem zt620 : Cond.methodLink RX7 80 yX7_shifted ∈ zW := zm 620 (by decide +kernel) (by decide +kernel)
theorem zt622 : Cond.instanceMethod yX7_shifted ∈ zW := zm 622 (by decide +kernel) (by decide +kernel)
theorem zt623 : Cond.code yX7_shifted cX7_shifted 1 (some .int) ∈ zW := zm 623 (by decide +kernel) (by decide +kernel)
theorem zt624 : Cond.methodLink RX7 97 yX7_shift ∈ zW := zm 624 (by decide +kernel) (by decide +kernel)
theorem zt626 : Cond.instanceMethod yX7_shift ∈ zW := zm 626 (by decide +kernel) (by decide +kernel)
theorem zt627 : Cond.code yX7_shift cX7_shift 6 none ∈ zW := zm 627 (by decide +kernel) (by decide +kernel)
theorem zt628 : Cond.methodLink RX7 91 yX7_bits ∈ zW := zm 628 (by decide +kernel) (by decide +kernel)
theorem zt630 : Cond.instanceMethod yX7_bits ∈ zW := zm 630 (by decide +kernel) (by decide +kernel)
theorem zt631 : Cond.code yX7_bits cX7_bits 2 (some .int) ∈ zW := zm 631 (by decide +kernel) (by decide +kernel)
theorem zt632 : Cond.methodLink RX7 51 yX7_selectsCells ∈ zW := zm 632 (by decide +kernel) (by decide +kernel)
theorem zt634 : Cond.instanceMethod yX7_selectsCells ∈ zW := zm 634 (by decide +kernel) (by decide +kernel)
theorem zt635 : Cond.code yX7_selectsCells cX7_selectsCells 2 (some .boolean) ∈ zW := zm 635 (by decide +kernel) (by decide +kernel)
theorem zt636 : Cond.methodLink RX7 55 yX7_selectsIdentity ∈ zW := zm 636 (by decide +kernel) (by decide +kernel)
theorem zt638 : Cond.instanceMethod yX7_selectsIdentity ∈ zW := zm 638 (by decide +kernel) (by decide +kernel)
theorem zt639 : Cond.code yX7_selectsIdentity cX7_selectsIdentity 2 (some .boolean) ∈ zW := zm 639 (by decide +kernel) (by decide +kernel)
theorem zt640 : Cond.methodLink RX7 100 yX7_work ∈ zW := zm 640 (by decide +kernel) (by decide +kernel)
theorem zt642 : Cond.instanceMethod yX7_work ∈ zW := zm 642 (by decide +kernel) (by decide +kernel)
theorem zt643 : Cond.code yX7_work cX7_work 2 none ∈ zW := zm 643 (by decide +kernel) (by decide +kernel)
theorem zt644 : Cond.methodLink RX7 103 yX7_next ∈ zW := zm 644 (by decide +kernel) (by decide +kernel)
theorem zt645 : Cond.static yX7_next ∈ zW := zm 645 (by decide +kernel) (by decide +kernel)
theorem zt646 : Cond.code yX7_next cX7_next 2 (some .int) ∈ zW := zm 646 (by decide +kernel) (by decide +kernel)
theorem zt647 : Cond.methodLink RL 40 yX7_move ∈ zW := zm 647 (by decide +kernel) (by decide +kernel)
theorem zt648 : Cond.instanceMethod yX7_move ∈ zW := zm 648 (by decide +kernel) (by decide +kernel)
theorem zt649 : Cond.selects RX7 yX7_move yX7_move ∈ zW := zm 649 (by decide +kernel) (by decide +kernel)
theorem zt650 : Cond.code yX7_move cX7_move 2 (some .int) ∈ zW := zm 650 (by decide +kernel) (by decide +kernel)
theorem zt651 : Cond.methodLink RX7 112 yX7_moveNow ∈ zW := zm 651 (by decide +kernel) (by decide +kernel)
theorem zt653 : Cond.instanceMethod yX7_moveNow ∈ zW := zm 653 (by decide +kernel) (by decide +kernel)
theorem zt654 : Cond.code yX7_moveNow cX7_moveNow 4 (some .int) ∈ zW := zm 654 (by decide +kernel) (by decide +kernel)
theorem zt655 : Cond.methodLink RX7 109 yX7_measure ∈ zW := zm 655 (by decide +kernel) (by decide +kernel)
theorem zt657 : Cond.instanceMethod yX7_measure ∈ zW := zm 657 (by decide +kernel) (by decide +kernel)
theorem zt658 : Cond.code yX7_measure cX7_measure 6 none ∈ zW := zm 658 (by decide +kernel) (by decide +kernel)
theorem zt659 : Cond.methodLink RL 45 yX7_identify ∈ zW := zm 659 (by decide +kernel) (by decide +kernel)
theorem zt660 : Cond.instanceMethod yX7_identify ∈ zW := zm 660 (by decide +kernel) (by decide +kernel)
theorem zt661 : Cond.selects RX7 yX7_identify yX7_identify ∈ zW := zm 661 (by decide +kernel) (by decide +kernel)
theorem zt662 : Cond.code yX7_identify cX7_identify 1 (some .int) ∈ zW := zm 662 (by decide +kernel) (by decide +kernel)
theorem zt663 : Cond.methodLink RX7 118 yX7_identifyNow ∈ zW := zm 663 (by decide +kernel) (by decide +kernel)
theorem zt665 : Cond.instanceMethod yX7_identifyNow ∈ zW := zm 665 (by decide +kernel) (by decide +kernel)
theorem zt666 : Cond.code yX7_identifyNow cX7_identifyNow 3 none ∈ zW := zm 666 (by decide +kernel) (by decide +kernel)
theorem zt667 : Cond.methodLink RX7 115 yX7_readOne ∈ zW := zm 667 (by decide +kernel) (by decide +kernel)
theorem zt669 : Cond.instanceMethod yX7_readOne ∈ zW := zm 669 (by decide +kernel) (by decide +kernel)
theorem zt670 : Cond.code yX7_readOne cX7_readOne 3 (some .int) ∈ zW := zm 670 (by decide +kernel) (by decide +kernel)
theorem zt671 : Cond.methodLink RL 49 yX7_load ∈ zW := zm 671 (by decide +kernel) (by decide +kernel)
theorem zt672 : Cond.instanceMethod yX7_load ∈ zW := zm 672 (by decide +kernel) (by decide +kernel)
theorem zt673 : Cond.selects RX7 yX7_load yX7_load ∈ zW := zm 673 (by decide +kernel) (by decide +kernel)
theorem zt674 : Cond.code yX7_load cX7_load 5 (some .int) ∈ zW := zm 674 (by decide +kernel) (by decide +kernel)
theorem zt675 : Cond.methodLink RX7 121 yX7_clockBits ∈ zW := zm 675 (by decide +kernel) (by decide +kernel)
theorem zt677 : Cond.instanceMethod yX7_clockBits ∈ zW := zm 677 (by decide +kernel) (by decide +kernel)
theorem zt678 : Cond.code yX7_clockBits cX7_clockBits 7 (some .int) ∈ zW := zm 678 (by decide +kernel) (by decide +kernel)
theorem zt679 : Cond.methodLink RL 53 yX7_exchange ∈ zW := zm 679 (by decide +kernel) (by decide +kernel)
theorem zt680 : Cond.instanceMethod yX7_exchange ∈ zW := zm 680 (by decide +kernel) (by decide +kernel)
theorem zt681 : Cond.selects RX7 yX7_exchange yX7_exchange ∈ zW := zm 681 (by decide +kernel) (by decide +kernel)
theorem zt682 : Cond.code yX7_exchange cX7_exchange 4 (some .int) ∈ zW := zm 682 (by decide +kernel) (by decide +kernel)
theorem zt683 : Cond.methodLink RX7 125 yX7_whyNotExchange ∈ zW := zm 683 (by decide +kernel) (by decide +kernel)
theorem zt685 : Cond.instanceMethod yX7_whyNotExchange ∈ zW := zm 685 (by decide +kernel) (by decide +kernel)
theorem zt686 : Cond.code yX7_whyNotExchange cX7_whyNotExchange 3 (some .int) ∈ zW := zm 686 (by decide +kernel) (by decide +kernel)
theorem zt687 : Cond.methodLink RX7 128 yX7_exchangeNow ∈ zW := zm 687 (by decide +kernel) (by decide +kernel)
theorem zt689 : Cond.instanceMethod yX7_exchangeNow ∈ zW := zm 689 (by decide +kernel) (by decide +kernel)
theorem zt690 : Cond.code yX7_exchangeNow cX7_exchangeNow 6 (some .int) ∈ zW := zm 690 (by decide +kernel) (by decide +kernel)
theorem zt691 : Cond.methodLink RL 57 yX7_append ∈ zW := zm 691 (by decide +kernel) (by decide +kernel)
theorem zt692 : Cond.instanceMethod yX7_append ∈ zW := zm 692 (by decide +kernel) (by decide +kernel)
theorem zt693 : Cond.selects RX7 yX7_append yX7_append ∈ zW := zm 693 (by decide +kernel) (by decide +kernel)
theorem zt694 : Cond.code yX7_append cX7_append 2 (some .int) ∈ zW := zm 694 (by decide +kernel) (by decide +kernel)
theorem zt695 : Cond.methodLink RL 61 yX7_clearText ∈ zW := zm 695 (by decide +kernel) (by decide +kernel)
theorem zt696 : Cond.instanceMethod yX7_clearText ∈ zW := zm 696 (by decide +kernel) (by decide +kernel)
theorem zt697 : Cond.selects RX7 yX7_clearText yX7_clearText ∈ zW := zm 697 (by decide +kernel) (by decide +kernel)
theorem zt698 : Cond.code yX7_clearText cX7_clearText 2 (some .int) ∈ zW := zm 698 (by decide +kernel) (by decide +kernel)
theorem zt699 : Cond.methodLink RL 65 yX7_fault ∈ zW := zm 699 (by decide +kernel) (by decide +kernel)
theorem zt700 : Cond.instanceMethod yX7_fault ∈ zW := zm 700 (by decide +kernel) (by decide +kernel)
theorem zt701 : Cond.selects RX7 yX7_fault yX7_fault ∈ zW := zm 701 (by decide +kernel) (by decide +kernel)
theorem zt702 : Cond.code yX7_fault cX7_fault 5 (some .int) ∈ zW := zm 702 (by decide +kernel) (by decide +kernel)
theorem zt703 : Cond.methodLink RX7 134 yX7_digit ∈ zW := zm 703 (by decide +kernel) (by decide +kernel)
theorem zt704 : Cond.static yX7_digit ∈ zW := zm 704 (by decide +kernel) (by decide +kernel)
theorem zt705 : Cond.code yX7_digit cX7_digit 1 (some .int) ∈ zW := zm 705 (by decide +kernel) (by decide +kernel)
theorem zt706 : Cond.methodLink RL 69 yX7_run ∈ zW := zm 706 (by decide +kernel) (by decide +kernel)
theorem zt707 : Cond.instanceMethod yX7_run ∈ zW := zm 707 (by decide +kernel) (by decide +kernel)
theorem zt708 : Cond.selects RX7 yX7_run yX7_run ∈ zW := zm 708 (by decide +kernel) (by decide +kernel)
theorem zt709 : Cond.code yX7_run cX7_run 8 (some .int) ∈ zW := zm 709 (by decide +kernel) (by decide +kernel)
theorem zt710 : Cond.methodLink RX7 137 yX7_fault ∈ zW := zm 710 (by decide +kernel) (by decide +kernel)
theorem zt711 : Cond.methodLink RL 85 yX7_chip ∈ zW := zm 711 (by decide +kernel) (by decide +kernel)
theorem zt712 : Cond.instanceMethod yX7_chip ∈ zW := zm 712 (by decide +kernel) (by decide +kernel)
theorem zt713 : Cond.selects RX7 yX7_chip yX7_chip ∈ zW := zm 713 (by decide +kernel) (by decide +kernel)
theorem zt714 : Cond.code yX7_chip cX7_chip 3 (some .int) ∈ zW := zm 714 (by decide +kernel) (by decide +kernel)
theorem zt715 : Cond.methodLink RL 89 yX7_count ∈ zW := zm 715 (by decide +kernel) (by decide +kernel)
theorem zt716 : Cond.instanceMethod yX7_count ∈ zW := zm 716 (by decide +kernel) (by decide +kernel)
theorem zt717 : Cond.selects RX7 yX7_count yX7_count ∈ zW := zm 717 (by decide +kernel) (by decide +kernel)
theorem zt718 : Cond.code yX7_count cX7_count 2 (some .int) ∈ zW := zm 718 (by decide +kernel) (by decide +kernel)
theorem zt719 : Cond.methodLink RX7 140 yX7_allBits ∈ zW := zm 719 (by decide +kernel) (by decide +kernel)
theorem zt721 : Cond.instanceMethod yX7_allBits ∈ zW := zm 721 (by decide +kernel) (by decide +kernel)
theorem zt722 : Cond.code yX7_allBits cX7_allBits 3 (some .int) ∈ zW := zm 722 (by decide +kernel) (by decide +kernel)
theorem zt723 : Cond.methodLink RL 93 yX7_found ∈ zW := zm 723 (by decide +kernel) (by decide +kernel)
theorem zt724 : Cond.instanceMethod yX7_found ∈ zW := zm 724 (by decide +kernel) (by decide +kernel)
theorem zt725 : Cond.selects RX7 yX7_found yX7_found ∈ zW := zm 725 (by decide +kernel) (by decide +kernel)
theorem zt726 : Cond.code yX7_found cX7_found 2 (some .int) ∈ zW := zm 726 (by decide +kernel) (by decide +kernel)
theorem zt727 : Cond.methodLink RL 97 yX7_distance ∈ zW := zm 727 (by decide +kernel) (by decide +kernel)
theorem zt728 : Cond.instanceMethod yX7_distance ∈ zW := zm 728 (by decide +kernel) (by decide +kernel)
theorem zt729 : Cond.selects RX7 yX7_distance yX7_distance ∈ zW := zm 729 (by decide +kernel) (by decide +kernel)
theorem zt730 : Cond.code yX7_distance cX7_distance 3 (some .int) ∈ zW := zm 730 (by decide +kernel) (by decide +kernel)
theorem zt731 : Cond.methodLink RL 101 yX7_peek ∈ zW := zm 731 (by decide +kernel) (by decide +kernel)
theorem zt732 : Cond.instanceMethod yX7_peek ∈ zW := zm 732 (by decide +kernel) (by decide +kernel)
theorem zt733 : Cond.selects RX7 yX7_peek yX7_peek ∈ zW := zm 733 (by decide +kernel) (by decide +kernel)
theorem zt734 : Cond.code yX7_peek cX7_peek 2 (some .int) ∈ zW := zm 734 (by decide +kernel) (by decide +kernel)
theorem zt735 : Cond.methodLink RL 105 yX7_ifIdentified ∈ zW := zm 735 (by decide +kernel) (by decide +kernel)
theorem zt736 : Cond.instanceMethod yX7_ifIdentified ∈ zW := zm 736 (by decide +kernel) (by decide +kernel)
theorem zt737 : Cond.selects RX7 yX7_ifIdentified yX7_ifIdentified ∈ zW := zm 737 (by decide +kernel) (by decide +kernel)
theorem zt738 : Cond.code yX7_ifIdentified cX7_ifIdentified 2 (some .int) ∈ zW := zm 738 (by decide +kernel) (by decide +kernel)
theorem zt739 : Cond.methodLink RL 109 yX7_ifExchanged ∈ zW := zm 739 (by decide +kernel) (by decide +kernel)
theorem zt740 : Cond.instanceMethod yX7_ifExchanged ∈ zW := zm 740 (by decide +kernel) (by decide +kernel)
theorem zt741 : Cond.selects RX7 yX7_ifExchanged yX7_ifExchanged ∈ zW := zm 741 (by decide +kernel) (by decide +kernel)
theorem zt742 : Cond.code yX7_ifExchanged cX7_ifExchanged 5 (some .int) ∈ zW := zm 742 (by decide +kernel) (by decide +kernel)
theorem zt743 : Cond.methodLink RL 114 yX7_bypassed ∈ zW := zm 743 (by decide +kernel) (by decide +kernel)
theorem zt744 : Cond.instanceMethod yX7_bypassed ∈ zW := zm 744 (by decide +kernel) (by decide +kernel)
theorem zt745 : Cond.selects RX7 yX7_bypassed yX7_bypassed ∈ zW := zm 745 (by decide +kernel) (by decide +kernel)
theorem zt746 : Cond.code yX7_bypassed cX7_bypassed 4 (some .float) ∈ zW := zm 746 (by decide +kernel) (by decide +kernel)
theorem zinX0 : ∀ w ∈ wsX00, w ∈ zW := zWr _ [110, 112, 114, 116, 118, 120] (by decide +kernel) (by decide +kernel)
theorem zinX1 : ∀ w ∈ wsX10, w ∈ zW := zWr _ [75, 77, 79, 81, 83, 85, 87, 89, 91] (by decide +kernel) (by decide +kernel)
theorem zinX3 : ∀ w ∈ wsX30, w ∈ zW := zWr _ [136, 138] (by decide +kernel) (by decide +kernel)
theorem zinX5 : ∀ w ∈ wsX50, w ∈ zW := zWr _ [152, 154] (by decide +kernel) (by decide +kernel)
theorem zinX6 : ∀ w ∈ wsX60, w ∈ zW := zWr _ [164, 166, 168, 170, 172, 174] (by decide +kernel) (by decide +kernel)
theorem zinX7 : ∀ w ∈ wsX70, w ∈ zW := zWr _ [516, 518, 520, 522, 524, 526, 528, 530, 532] (by decide +kernel) (by decide +kernel)
theorem zNest_in : zNest = [56, 61, 62, 64, 69, 70, 73, 95, 96, 98, 99, 101, 102, 104, 106, 108, 109, 135, 148, 150, 151, 215, 368].filterMap (fun i => lw_tbl[i]?) := by decide +kernel
theorem ndX6_init : yX6_init.cls ≠ "java/lang/invoke/MethodHandle" ∧ yX6_init.cls ≠ "java/lang/invoke/VarHandle" ∧ (parseMethodDescriptor yX6_init.desc).map (fun d => d.parameters.length) = some 0 := by decide +kernel
theorem npX6_init : plainName yX6_init.cls = true := by decide +kernel
theorem ndX6_add : yX6_add.cls ≠ "java/lang/invoke/MethodHandle" ∧ yX6_add.cls ≠ "java/lang/invoke/VarHandle" ∧ (parseMethodDescriptor yX6_add.desc).map (fun d => d.parameters.length) = some 3 := by decide +kernel
theorem npX6_add : plainName yX6_add.cls = true := by decide +kernel
theorem ndX6_allOnes : yX6_allOnes.cls ≠ "java/lang/invoke/MethodHandle" ∧ yX6_allOnes.cls ≠ "java/lang/invoke/VarHandle" ∧ (parseMethodDescriptor yX6_allOnes.desc).map (fun d => d.parameters.length) = some 1 := by decide +kernel
theorem npX6_allOnes : plainName yX6_allOnes.cls = true := by decide +kernel
theorem ndX6_append : yX6_append.cls ≠ "java/lang/invoke/MethodHandle" ∧ yX6_append.cls ≠ "java/lang/invoke/VarHandle" ∧ (parseMethodDescriptor yX6_append.desc).map (fun d => d.parameters.length) = some 1 := by decide +kernel
theorem npX6_append : plainName yX6_append.cls = true := by decide +kernel
theorem ndX6_breakChip : yX6_breakChip.cls ≠ "java/lang/invoke/MethodHandle" ∧ yX6_breakChip.cls ≠ "java/lang/invoke/VarHandle" ∧ (parseMethodDescriptor yX6_breakChip.desc).map (fun d => d.parameters.length) = some 2 := by decide +kernel
theorem npX6_breakChip : plainName yX6_breakChip.cls = true := by decide +kernel
theorem ndX6_bypassed : yX6_bypassed.cls ≠ "java/lang/invoke/MethodHandle" ∧ yX6_bypassed.cls ≠ "java/lang/invoke/VarHandle" ∧ (parseMethodDescriptor yX6_bypassed.desc).map (fun d => d.parameters.length) = some 0 := by decide +kernel
theorem npX6_bypassed : plainName yX6_bypassed.cls = true := by decide +kernel
theorem ndX6_chip : yX6_chip.cls ≠ "java/lang/invoke/MethodHandle" ∧ yX6_chip.cls ≠ "java/lang/invoke/VarHandle" ∧ (parseMethodDescriptor yX6_chip.desc).map (fun d => d.parameters.length) = some 2 := by decide +kernel
theorem npX6_chip : plainName yX6_chip.cls = true := by decide +kernel
theorem ndX6_clearText : yX6_clearText.cls ≠ "java/lang/invoke/MethodHandle" ∧ yX6_clearText.cls ≠ "java/lang/invoke/VarHandle" ∧ (parseMethodDescriptor yX6_clearText.desc).map (fun d => d.parameters.length) = some 0 := by decide +kernel
theorem npX6_clearText : plainName yX6_clearText.cls = true := by decide +kernel
theorem ndX6_clock : yX6_clock.cls ≠ "java/lang/invoke/MethodHandle" ∧ yX6_clock.cls ≠ "java/lang/invoke/VarHandle" ∧ (parseMethodDescriptor yX6_clock.desc).map (fun d => d.parameters.length) = some 2 := by decide +kernel
theorem npX6_clock : plainName yX6_clock.cls = true := by decide +kernel
theorem ndX6_count : yX6_count.cls ≠ "java/lang/invoke/MethodHandle" ∧ yX6_count.cls ≠ "java/lang/invoke/VarHandle" ∧ (parseMethodDescriptor yX6_count.desc).map (fun d => d.parameters.length) = some 1 := by decide +kernel
theorem npX6_count : plainName yX6_count.cls = true := by decide +kernel
theorem ndX6_distance : yX6_distance.cls ≠ "java/lang/invoke/MethodHandle" ∧ yX6_distance.cls ≠ "java/lang/invoke/VarHandle" ∧ (parseMethodDescriptor yX6_distance.desc).map (fun d => d.parameters.length) = some 2 := by decide +kernel
theorem npX6_distance : plainName yX6_distance.cls = true := by decide +kernel
theorem ndX6_exchange : yX6_exchange.cls ≠ "java/lang/invoke/MethodHandle" ∧ yX6_exchange.cls ≠ "java/lang/invoke/VarHandle" ∧ (parseMethodDescriptor yX6_exchange.desc).map (fun d => d.parameters.length) = some 2 := by decide +kernel
theorem npX6_exchange : plainName yX6_exchange.cls = true := by decide +kernel
theorem ndX6_exchangeError : yX6_exchangeError.cls ≠ "java/lang/invoke/MethodHandle" ∧ yX6_exchangeError.cls ≠ "java/lang/invoke/VarHandle" ∧ (parseMethodDescriptor yX6_exchangeError.desc).map (fun d => d.parameters.length) = some 2 := by decide +kernel
theorem npX6_exchangeError : plainName yX6_exchangeError.cls = true := by decide +kernel
theorem ndX6_fault : yX6_fault.cls ≠ "java/lang/invoke/MethodHandle" ∧ yX6_fault.cls ≠ "java/lang/invoke/VarHandle" ∧ (parseMethodDescriptor yX6_fault.desc).map (fun d => d.parameters.length) = some 0 := by decide +kernel
theorem npX6_fault : plainName yX6_fault.cls = true := by decide +kernel
theorem ndX6_found : yX6_found.cls ≠ "java/lang/invoke/MethodHandle" ∧ yX6_found.cls ≠ "java/lang/invoke/VarHandle" ∧ (parseMethodDescriptor yX6_found.desc).map (fun d => d.parameters.length) = some 1 := by decide +kernel
theorem npX6_found : plainName yX6_found.cls = true := by decide +kernel
theorem ndX6_identify : yX6_identify.cls ≠ "java/lang/invoke/MethodHandle" ∧ yX6_identify.cls ≠ "java/lang/invoke/VarHandle" ∧ (parseMethodDescriptor yX6_identify.desc).map (fun d => d.parameters.length) = some 0 := by decide +kernel
theorem npX6_identify : plainName yX6_identify.cls = true := by decide +kernel
theorem ndX6_ifExchanged : yX6_ifExchanged.cls ≠ "java/lang/invoke/MethodHandle" ∧ yX6_ifExchanged.cls ≠ "java/lang/invoke/VarHandle" ∧ (parseMethodDescriptor yX6_ifExchanged.desc).map (fun d => d.parameters.length) = some 2 := by decide +kernel
theorem npX6_ifExchanged : plainName yX6_ifExchanged.cls = true := by decide +kernel
theorem ndX6_ifIdentified : yX6_ifIdentified.cls ≠ "java/lang/invoke/MethodHandle" ∧ yX6_ifIdentified.cls ≠ "java/lang/invoke/VarHandle" ∧ (parseMethodDescriptor yX6_ifIdentified.desc).map (fun d => d.parameters.length) = some 0 := by decide +kernel
theorem npX6_ifIdentified : plainName yX6_ifIdentified.cls = true := by decide +kernel
theorem ndX6_isIdentity : yX6_isIdentity.cls ≠ "java/lang/invoke/MethodHandle" ∧ yX6_isIdentity.cls ≠ "java/lang/invoke/VarHandle" ∧ (parseMethodDescriptor yX6_isIdentity.desc).map (fun d => d.parameters.length) = some 1 := by decide +kernel
theorem npX6_isIdentity : plainName yX6_isIdentity.cls = true := by decide +kernel
theorem ndX6_isWithin : yX6_isWithin.cls ≠ "java/lang/invoke/MethodHandle" ∧ yX6_isWithin.cls ≠ "java/lang/invoke/VarHandle" ∧ (parseMethodDescriptor yX6_isWithin.desc).map (fun d => d.parameters.length) = some 3 := by decide +kernel
theorem npX6_isWithin : plainName yX6_isWithin.cls = true := by decide +kernel
theorem ndX6_load : yX6_load.cls ≠ "java/lang/invoke/MethodHandle" ∧ yX6_load.cls ≠ "java/lang/invoke/VarHandle" ∧ (parseMethodDescriptor yX6_load.desc).map (fun d => d.parameters.length) = some 2 := by decide +kernel
theorem npX6_load : plainName yX6_load.cls = true := by decide +kernel
theorem ndX6_move : yX6_move.cls ≠ "java/lang/invoke/MethodHandle" ∧ yX6_move.cls ≠ "java/lang/invoke/VarHandle" ∧ (parseMethodDescriptor yX6_move.desc).map (fun d => d.parameters.length) = some 1 := by decide +kernel
theorem npX6_move : plainName yX6_move.cls = true := by decide +kernel
theorem ndX6_peek : yX6_peek.cls ≠ "java/lang/invoke/MethodHandle" ∧ yX6_peek.cls ≠ "java/lang/invoke/VarHandle" ∧ (parseMethodDescriptor yX6_peek.desc).map (fun d => d.parameters.length) = some 1 := by decide +kernel
theorem npX6_peek : plainName yX6_peek.cls = true := by decide +kernel
theorem ndX6_restore : yX6_restore.cls ≠ "java/lang/invoke/MethodHandle" ∧ yX6_restore.cls ≠ "java/lang/invoke/VarHandle" ∧ (parseMethodDescriptor yX6_restore.desc).map (fun d => d.parameters.length) = some 0 := by decide +kernel
theorem npX6_restore : plainName yX6_restore.cls = true := by decide +kernel
theorem ndX6_run : yX6_run.cls ≠ "java/lang/invoke/MethodHandle" ∧ yX6_run.cls ≠ "java/lang/invoke/VarHandle" ∧ (parseMethodDescriptor yX6_run.desc).map (fun d => d.parameters.length) = some 0 := by decide +kernel
theorem npX6_run : plainName yX6_run.cls = true := by decide +kernel
theorem ndX6_save : yX6_save.cls ≠ "java/lang/invoke/MethodHandle" ∧ yX6_save.cls ≠ "java/lang/invoke/VarHandle" ∧ (parseMethodDescriptor yX6_save.desc).map (fun d => d.parameters.length) = some 0 := by decide +kernel
theorem npX6_save : plainName yX6_save.cls = true := by decide +kernel
theorem ndX6_setPins : yX6_setPins.cls ≠ "java/lang/invoke/MethodHandle" ∧ yX6_setPins.cls ≠ "java/lang/invoke/VarHandle" ∧ (parseMethodDescriptor yX6_setPins.desc).map (fun d => d.parameters.length) = some 2 := by decide +kernel
theorem npX6_setPins : plainName yX6_setPins.cls = true := by decide +kernel
theorem ndX6_take : yX6_take.cls ≠ "java/lang/invoke/MethodHandle" ∧ yX6_take.cls ≠ "java/lang/invoke/VarHandle" ∧ (parseMethodDescriptor yX6_take.desc).map (fun d => d.parameters.length) = some 1 := by decide +kernel
theorem npX6_take : plainName yX6_take.cls = true := by decide +kernel
theorem ndX6_undo : yX6_undo.cls ≠ "java/lang/invoke/MethodHandle" ∧ yX6_undo.cls ≠ "java/lang/invoke/VarHandle" ∧ (parseMethodDescriptor yX6_undo.desc).map (fun d => d.parameters.length) = some 0 := by decide +kernel
theorem npX6_undo : plainName yX6_undo.cls = true := by decide +kernel
theorem ndX0_init : yX0_init.cls ≠ "java/lang/invoke/MethodHandle" ∧ yX0_init.cls ≠ "java/lang/invoke/VarHandle" ∧ (parseMethodDescriptor yX0_init.desc).map (fun d => d.parameters.length) = some 0 := by decide +kernel
theorem npX0_init : plainName yX0_init.cls = true := by decide +kernel
theorem ndX0_becomeCopyOf : yX0_becomeCopyOf.cls ≠ "java/lang/invoke/MethodHandle" ∧ yX0_becomeCopyOf.cls ≠ "java/lang/invoke/VarHandle" ∧ (parseMethodDescriptor yX0_becomeCopyOf.desc).map (fun d => d.parameters.length) = some 1 := by decide +kernel
theorem npX0_becomeCopyOf : plainName yX0_becomeCopyOf.cls = true := by decide +kernel
theorem ndX0_brokenChips : yX0_brokenChips.cls ≠ "java/lang/invoke/MethodHandle" ∧ yX0_brokenChips.cls ≠ "java/lang/invoke/VarHandle" ∧ (parseMethodDescriptor yX0_brokenChips.desc).map (fun d => d.parameters.length) = some 0 := by decide +kernel
theorem npX0_brokenChips : plainName yX0_brokenChips.cls = true := by decide +kernel
theorem ndX0_bypassedChips : yX0_bypassedChips.cls ≠ "java/lang/invoke/MethodHandle" ∧ yX0_bypassedChips.cls ≠ "java/lang/invoke/VarHandle" ∧ (parseMethodDescriptor yX0_bypassedChips.desc).map (fun d => d.parameters.length) = some 0 := by decide +kernel
theorem npX0_bypassedChips : plainName yX0_bypassedChips.cls = true := by decide +kernel
theorem ndX0_forgetIdentities : yX0_forgetIdentities.cls ≠ "java/lang/invoke/MethodHandle" ∧ yX0_forgetIdentities.cls ≠ "java/lang/invoke/VarHandle" ∧ (parseMethodDescriptor yX0_forgetIdentities.desc).map (fun d => d.parameters.length) = some 0 := by decide +kernel
theorem npX0_forgetIdentities : plainName yX0_forgetIdentities.cls = true := by decide +kernel
theorem ndX0_has : yX0_has.cls ≠ "java/lang/invoke/MethodHandle" ∧ yX0_has.cls ≠ "java/lang/invoke/VarHandle" ∧ (parseMethodDescriptor yX0_has.desc).map (fun d => d.parameters.length) = some 1 := by decide +kernel
theorem npX0_has : plainName yX0_has.cls = true := by decide +kernel
theorem ndX0_keepIdentity : yX0_keepIdentity.cls ≠ "java/lang/invoke/MethodHandle" ∧ yX0_keepIdentity.cls ≠ "java/lang/invoke/VarHandle" ∧ (parseMethodDescriptor yX0_keepIdentity.desc).map (fun d => d.parameters.length) = some 1 := by decide +kernel
theorem npX0_keepIdentity : plainName yX0_keepIdentity.cls = true := by decide +kernel
theorem ndX0_outputWith : yX0_outputWith.cls ≠ "java/lang/invoke/MethodHandle" ∧ yX0_outputWith.cls ≠ "java/lang/invoke/VarHandle" ∧ (parseMethodDescriptor yX0_outputWith.desc).map (fun d => d.parameters.length) = some 1 := by decide +kernel
theorem npX0_outputWith : plainName yX0_outputWith.cls = true := by decide +kernel
theorem ndX0_putBehind : yX0_putBehind.cls ≠ "java/lang/invoke/MethodHandle" ∧ yX0_putBehind.cls ≠ "java/lang/invoke/VarHandle" ∧ (parseMethodDescriptor yX0_putBehind.desc).map (fun d => d.parameters.length) = some 3 := by decide +kernel
theorem npX0_putBehind : plainName yX0_putBehind.cls = true := by decide +kernel
theorem ndX0_shiftAllCodes : yX0_shiftAllCodes.cls ≠ "java/lang/invoke/MethodHandle" ∧ yX0_shiftAllCodes.cls ≠ "java/lang/invoke/VarHandle" ∧ (parseMethodDescriptor yX0_shiftAllCodes.desc).map (fun d => d.parameters.length) = some 1 := by decide +kernel
theorem npX0_shiftAllCodes : plainName yX0_shiftAllCodes.cls = true := by decide +kernel
theorem ndX0_shiftAllData : yX0_shiftAllData.cls ≠ "java/lang/invoke/MethodHandle" ∧ yX0_shiftAllData.cls ≠ "java/lang/invoke/VarHandle" ∧ (parseMethodDescriptor yX0_shiftAllData.desc).map (fun d => d.parameters.length) = some 1 := by decide +kernel
theorem npX0_shiftAllData : plainName yX0_shiftAllData.cls = true := by decide +kernel
theorem ndX0_sumOfCodeLengths : yX0_sumOfCodeLengths.cls ≠ "java/lang/invoke/MethodHandle" ∧ yX0_sumOfCodeLengths.cls ≠ "java/lang/invoke/VarHandle" ∧ (parseMethodDescriptor yX0_sumOfCodeLengths.desc).map (fun d => d.parameters.length) = some 0 := by decide +kernel
theorem npX0_sumOfCodeLengths : plainName yX0_sumOfCodeLengths.cls = true := by decide +kernel
theorem ndX0_sumOfDataBits : yX0_sumOfDataBits.cls ≠ "java/lang/invoke/MethodHandle" ∧ yX0_sumOfDataBits.cls ≠ "java/lang/invoke/VarHandle" ∧ (parseMethodDescriptor yX0_sumOfDataBits.desc).map (fun d => d.parameters.length) = some 0 := by decide +kernel
theorem npX0_sumOfDataBits : plainName yX0_sumOfDataBits.cls = true := by decide +kernel
theorem ndX0_takeOut : yX0_takeOut.cls ≠ "java/lang/invoke/MethodHandle" ∧ yX0_takeOut.cls ≠ "java/lang/invoke/VarHandle" ∧ (parseMethodDescriptor yX0_takeOut.desc).map (fun d => d.parameters.length) = some 1 := by decide +kernel
theorem npX0_takeOut : plainName yX0_takeOut.cls = true := by decide +kernel
theorem ndX0_tick : yX0_tick.cls ≠ "java/lang/invoke/MethodHandle" ∧ yX0_tick.cls ≠ "java/lang/invoke/VarHandle" ∧ (parseMethodDescriptor yX0_tick.desc).map (fun d => d.parameters.length) = some 2 := by decide +kernel
theorem npX0_tick : plainName yX0_tick.cls = true := by decide +kernel
theorem ndX0_workOf : yX0_workOf.cls ≠ "java/lang/invoke/MethodHandle" ∧ yX0_workOf.cls ≠ "java/lang/invoke/VarHandle" ∧ (parseMethodDescriptor yX0_workOf.desc).map (fun d => d.parameters.length) = some 1 := by decide +kernel
theorem npX0_workOf : plainName yX0_workOf.cls = true := by decide +kernel
theorem ndX1_init : yX1_init.cls ≠ "java/lang/invoke/MethodHandle" ∧ yX1_init.cls ≠ "java/lang/invoke/VarHandle" ∧ (parseMethodDescriptor yX1_init.desc).map (fun d => d.parameters.length) = some 0 := by decide +kernel
theorem npX1_init : plainName yX1_init.cls = true := by decide +kernel
theorem ndX1_beNew : yX1_beNew.cls ≠ "java/lang/invoke/MethodHandle" ∧ yX1_beNew.cls ≠ "java/lang/invoke/VarHandle" ∧ (parseMethodDescriptor yX1_beNew.desc).map (fun d => d.parameters.length) = some 3 := by decide +kernel
theorem npX1_beNew : plainName yX1_beNew.cls = true := by decide +kernel
theorem ndX1_becomeCopyOf : yX1_becomeCopyOf.cls ≠ "java/lang/invoke/MethodHandle" ∧ yX1_becomeCopyOf.cls ≠ "java/lang/invoke/VarHandle" ∧ (parseMethodDescriptor yX1_becomeCopyOf.desc).map (fun d => d.parameters.length) = some 1 := by decide +kernel
theorem npX1_becomeCopyOf : plainName yX1_becomeCopyOf.cls = true := by decide +kernel
theorem ndX1_captureData : yX1_captureData.cls ≠ "java/lang/invoke/MethodHandle" ∧ yX1_captureData.cls ≠ "java/lang/invoke/VarHandle" ∧ (parseMethodDescriptor yX1_captureData.desc).map (fun d => d.parameters.length) = some 0 := by decide +kernel
theorem npX1_captureData : plainName yX1_captureData.cls = true := by decide +kernel
theorem ndX1_changePins : yX1_changePins.cls ≠ "java/lang/invoke/MethodHandle" ∧ yX1_changePins.cls ≠ "java/lang/invoke/VarHandle" ∧ (parseMethodDescriptor yX1_changePins.desc).map (fun d => d.parameters.length) = some 1 := by decide +kernel
theorem npX1_changePins : plainName yX1_changePins.cls = true := by decide +kernel
theorem ndX1_codeOutput : yX1_codeOutput.cls ≠ "java/lang/invoke/MethodHandle" ∧ yX1_codeOutput.cls ≠ "java/lang/invoke/VarHandle" ∧ (parseMethodDescriptor yX1_codeOutput.desc).map (fun d => d.parameters.length) = some 0 := by decide +kernel
theorem npX1_codeOutput : plainName yX1_codeOutput.cls = true := by decide +kernel
theorem ndX1_dataBits : yX1_dataBits.cls ≠ "java/lang/invoke/MethodHandle" ∧ yX1_dataBits.cls ≠ "java/lang/invoke/VarHandle" ∧ (parseMethodDescriptor yX1_dataBits.desc).map (fun d => d.parameters.length) = some 0 := by decide +kernel
theorem npX1_dataBits : plainName yX1_dataBits.cls = true := by decide +kernel
theorem ndX1_dataOutput : yX1_dataOutput.cls ≠ "java/lang/invoke/MethodHandle" ∧ yX1_dataOutput.cls ≠ "java/lang/invoke/VarHandle" ∧ (parseMethodDescriptor yX1_dataOutput.desc).map (fun d => d.parameters.length) = some 0 := by decide +kernel
theorem npX1_dataOutput : plainName yX1_dataOutput.cls = true := by decide +kernel
theorem ndX1_giveFirstInstruction : yX1_giveFirstInstruction.cls ≠ "java/lang/invoke/MethodHandle" ∧ yX1_giveFirstInstruction.cls ≠ "java/lang/invoke/VarHandle" ∧ (parseMethodDescriptor yX1_giveFirstInstruction.desc).map (fun d => d.parameters.length) = some 0 := by decide +kernel
theorem npX1_giveFirstInstruction : plainName yX1_giveFirstInstruction.cls = true := by decide +kernel
theorem ndX1_giveInstruction : yX1_giveInstruction.cls ≠ "java/lang/invoke/MethodHandle" ∧ yX1_giveInstruction.cls ≠ "java/lang/invoke/VarHandle" ∧ (parseMethodDescriptor yX1_giveInstruction.desc).map (fun d => d.parameters.length) = some 1 := by decide +kernel
theorem npX1_giveInstruction : plainName yX1_giveInstruction.cls = true := by decide +kernel
theorem ndX1_selectsBypass : yX1_selectsBypass.cls ≠ "java/lang/invoke/MethodHandle" ∧ yX1_selectsBypass.cls ≠ "java/lang/invoke/VarHandle" ∧ (parseMethodDescriptor yX1_selectsBypass.desc).map (fun d => d.parameters.length) = some 0 := by decide +kernel
theorem npX1_selectsBypass : plainName yX1_selectsBypass.cls = true := by decide +kernel
theorem ndX1_selectsCells : yX1_selectsCells.cls ≠ "java/lang/invoke/MethodHandle" ∧ yX1_selectsCells.cls ≠ "java/lang/invoke/VarHandle" ∧ (parseMethodDescriptor yX1_selectsCells.desc).map (fun d => d.parameters.length) = some 0 := by decide +kernel
theorem npX1_selectsCells : plainName yX1_selectsCells.cls = true := by decide +kernel
theorem ndX1_selectsIdentity : yX1_selectsIdentity.cls ≠ "java/lang/invoke/MethodHandle" ∧ yX1_selectsIdentity.cls ≠ "java/lang/invoke/VarHandle" ∧ (parseMethodDescriptor yX1_selectsIdentity.desc).map (fun d => d.parameters.length) = some 0 := by decide +kernel
theorem npX1_selectsIdentity : plainName yX1_selectsIdentity.cls = true := by decide +kernel
theorem ndX1_shiftCode : yX1_shiftCode.cls ≠ "java/lang/invoke/MethodHandle" ∧ yX1_shiftCode.cls ≠ "java/lang/invoke/VarHandle" ∧ (parseMethodDescriptor yX1_shiftCode.desc).map (fun d => d.parameters.length) = some 1 := by decide +kernel
theorem npX1_shiftCode : plainName yX1_shiftCode.cls = true := by decide +kernel
theorem ndX1_shiftData : yX1_shiftData.cls ≠ "java/lang/invoke/MethodHandle" ∧ yX1_shiftData.cls ≠ "java/lang/invoke/VarHandle" ∧ (parseMethodDescriptor yX1_shiftData.desc).map (fun d => d.parameters.length) = some 1 := by decide +kernel
theorem npX1_shiftData : plainName yX1_shiftData.cls = true := by decide +kernel
theorem ndX1_shifted : yX1_shifted.cls ≠ "java/lang/invoke/MethodHandle" ∧ yX1_shifted.cls ≠ "java/lang/invoke/VarHandle" ∧ (parseMethodDescriptor yX1_shifted.desc).map (fun d => d.parameters.length) = some 3 := by decide +kernel
theorem npX1_shifted : plainName yX1_shifted.cls = true := by decide +kernel
theorem ndX1_tell : yX1_tell.cls ≠ "java/lang/invoke/MethodHandle" ∧ yX1_tell.cls ≠ "java/lang/invoke/VarHandle" ∧ (parseMethodDescriptor yX1_tell.desc).map (fun d => d.parameters.length) = some 1 := by decide +kernel
theorem npX1_tell : plainName yX1_tell.cls = true := by decide +kernel
theorem ndX1_updateData : yX1_updateData.cls ≠ "java/lang/invoke/MethodHandle" ∧ yX1_updateData.cls ≠ "java/lang/invoke/VarHandle" ∧ (parseMethodDescriptor yX1_updateData.desc).map (fun d => d.parameters.length) = some 0 := by decide +kernel
theorem npX1_updateData : plainName yX1_updateData.cls = true := by decide +kernel
theorem ndX2_clocksBetween : yX2_clocksBetween.cls ≠ "java/lang/invoke/MethodHandle" ∧ yX2_clocksBetween.cls ≠ "java/lang/invoke/VarHandle" ∧ (parseMethodDescriptor yX2_clocksBetween.desc).map (fun d => d.parameters.length) = some 2 := by decide +kernel
theorem npX2_clocksBetween : plainName yX2_clocksBetween.cls = true := by decide +kernel
theorem ndX2_isState : yX2_isState.cls ≠ "java/lang/invoke/MethodHandle" ∧ yX2_isState.cls ≠ "java/lang/invoke/VarHandle" ∧ (parseMethodDescriptor yX2_isState.desc).map (fun d => d.parameters.length) = some 1 := by decide +kernel
theorem npX2_isState : plainName yX2_isState.cls = true := by decide +kernel
theorem ndX2_next : yX2_next.cls ≠ "java/lang/invoke/MethodHandle" ∧ yX2_next.cls ≠ "java/lang/invoke/VarHandle" ∧ (parseMethodDescriptor yX2_next.desc).map (fun d => d.parameters.length) = some 2 := by decide +kernel
theorem npX2_next : plainName yX2_next.cls = true := by decide +kernel
theorem ndX2_nextOfAll : yX2_nextOfAll.cls ≠ "java/lang/invoke/MethodHandle" ∧ yX2_nextOfAll.cls ≠ "java/lang/invoke/VarHandle" ∧ (parseMethodDescriptor yX2_nextOfAll.desc).map (fun d => d.parameters.length) = some 1 := by decide +kernel
theorem npX2_nextOfAll : plainName yX2_nextOfAll.cls = true := by decide +kernel
theorem ndX3_init : yX3_init.cls ≠ "java/lang/invoke/MethodHandle" ∧ yX3_init.cls ≠ "java/lang/invoke/VarHandle" ∧ (parseMethodDescriptor yX3_init.desc).map (fun d => d.parameters.length) = some 0 := by decide +kernel
theorem npX3_init : plainName yX3_init.cls = true := by decide +kernel
theorem ndX3_dropOldest : yX3_dropOldest.cls ≠ "java/lang/invoke/MethodHandle" ∧ yX3_dropOldest.cls ≠ "java/lang/invoke/VarHandle" ∧ (parseMethodDescriptor yX3_dropOldest.desc).map (fun d => d.parameters.length) = some 0 := by decide +kernel
theorem npX3_dropOldest : plainName yX3_dropOldest.cls = true := by decide +kernel
theorem ndX3_record : yX3_record.cls ≠ "java/lang/invoke/MethodHandle" ∧ yX3_record.cls ≠ "java/lang/invoke/VarHandle" ∧ (parseMethodDescriptor yX3_record.desc).map (fun d => d.parameters.length) = some 1 := by decide +kernel
theorem npX3_record : plainName yX3_record.cls = true := by decide +kernel
theorem ndX3_takeBack : yX3_takeBack.cls ≠ "java/lang/invoke/MethodHandle" ∧ yX3_takeBack.cls ≠ "java/lang/invoke/VarHandle" ∧ (parseMethodDescriptor yX3_takeBack.desc).map (fun d => d.parameters.length) = some 1 := by decide +kernel
theorem npX3_takeBack : plainName yX3_takeBack.cls = true := by decide +kernel
theorem ndX4_carryOut : yX4_carryOut.cls ≠ "java/lang/invoke/MethodHandle" ∧ yX4_carryOut.cls ≠ "java/lang/invoke/VarHandle" ∧ (parseMethodDescriptor yX4_carryOut.desc).map (fun d => d.parameters.length) = some 2 := by decide +kernel
theorem npX4_carryOut : plainName yX4_carryOut.cls = true := by decide +kernel
theorem ndX4_clockItem : yX4_clockItem.cls ≠ "java/lang/invoke/MethodHandle" ∧ yX4_clockItem.cls ≠ "java/lang/invoke/VarHandle" ∧ (parseMethodDescriptor yX4_clockItem.desc).map (fun d => d.parameters.length) = some 2 := by decide +kernel
theorem npX4_clockItem : plainName yX4_clockItem.cls = true := by decide +kernel
theorem ndX4_exchangeData : yX4_exchangeData.cls ≠ "java/lang/invoke/MethodHandle" ∧ yX4_exchangeData.cls ≠ "java/lang/invoke/VarHandle" ∧ (parseMethodDescriptor yX4_exchangeData.desc).map (fun d => d.parameters.length) = some 3 := by decide +kernel
theorem npX4_exchangeData : plainName yX4_exchangeData.cls = true := by decide +kernel
theorem ndX4_goTo : yX4_goTo.cls ≠ "java/lang/invoke/MethodHandle" ∧ yX4_goTo.cls ≠ "java/lang/invoke/VarHandle" ∧ (parseMethodDescriptor yX4_goTo.desc).map (fun d => d.parameters.length) = some 2 := by decide +kernel
theorem npX4_goTo : plainName yX4_goTo.cls = true := by decide +kernel
theorem ndX4_loadInstruction : yX4_loadInstruction.cls ≠ "java/lang/invoke/MethodHandle" ∧ yX4_loadInstruction.cls ≠ "java/lang/invoke/VarHandle" ∧ (parseMethodDescriptor yX4_loadInstruction.desc).map (fun d => d.parameters.length) = some 3 := by decide +kernel
theorem npX4_loadInstruction : plainName yX4_loadInstruction.cls = true := by decide +kernel
theorem ndX4_readIdentities : yX4_readIdentities.cls ≠ "java/lang/invoke/MethodHandle" ∧ yX4_readIdentities.cls ≠ "java/lang/invoke/VarHandle" ∧ (parseMethodDescriptor yX4_readIdentities.desc).map (fun d => d.parameters.length) = some 1 := by decide +kernel
theorem npX4_readIdentities : plainName yX4_readIdentities.cls = true := by decide +kernel
theorem ndX4_readIdentity : yX4_readIdentity.cls ≠ "java/lang/invoke/MethodHandle" ∧ yX4_readIdentity.cls ≠ "java/lang/invoke/VarHandle" ∧ (parseMethodDescriptor yX4_readIdentity.desc).map (fun d => d.parameters.length) = some 1 := by decide +kernel
theorem npX4_readIdentity : plainName yX4_readIdentity.cls = true := by decide +kernel
theorem ndX4_shiftThrough : yX4_shiftThrough.cls ≠ "java/lang/invoke/MethodHandle" ∧ yX4_shiftThrough.cls ≠ "java/lang/invoke/VarHandle" ∧ (parseMethodDescriptor yX4_shiftThrough.desc).map (fun d => d.parameters.length) = some 4 := by decide +kernel
theorem npX4_shiftThrough : plainName yX4_shiftThrough.cls = true := by decide +kernel
theorem ndX5_init : yX5_init.cls ≠ "java/lang/invoke/MethodHandle" ∧ yX5_init.cls ≠ "java/lang/invoke/VarHandle" ∧ (parseMethodDescriptor yX5_init.desc).map (fun d => d.parameters.length) = some 0 := by decide +kernel
theorem npX5_init : plainName yX5_init.cls = true := by decide +kernel
theorem ndX5_firstFault : yX5_firstFault.cls ≠ "java/lang/invoke/MethodHandle" ∧ yX5_firstFault.cls ≠ "java/lang/invoke/VarHandle" ∧ (parseMethodDescriptor yX5_firstFault.desc).map (fun d => d.parameters.length) = some 0 := by decide +kernel
theorem npX5_firstFault : plainName yX5_firstFault.cls = true := by decide +kernel
theorem ndX5_hexAt : yX5_hexAt.cls ≠ "java/lang/invoke/MethodHandle" ∧ yX5_hexAt.cls ≠ "java/lang/invoke/VarHandle" ∧ (parseMethodDescriptor yX5_hexAt.desc).map (fun d => d.parameters.length) = some 1 := by decide +kernel
theorem npX5_hexAt : plainName yX5_hexAt.cls = true := by decide +kernel
theorem ndX5_hexValue : yX5_hexValue.cls ≠ "java/lang/invoke/MethodHandle" ∧ yX5_hexValue.cls ≠ "java/lang/invoke/VarHandle" ∧ (parseMethodDescriptor yX5_hexValue.desc).map (fun d => d.parameters.length) = some 1 := by decide +kernel
theorem npX5_hexValue : plainName yX5_hexValue.cls = true := by decide +kernel
theorem ndX5_startsItem : yX5_startsItem.cls ≠ "java/lang/invoke/MethodHandle" ∧ yX5_startsItem.cls ≠ "java/lang/invoke/VarHandle" ∧ (parseMethodDescriptor yX5_startsItem.desc).map (fun d => d.parameters.length) = some 1 := by decide +kernel
theorem npX5_startsItem : plainName yX5_startsItem.cls = true := by decide +kernel
theorem ndX5_wipe : yX5_wipe.cls ≠ "java/lang/invoke/MethodHandle" ∧ yX5_wipe.cls ≠ "java/lang/invoke/VarHandle" ∧ (parseMethodDescriptor yX5_wipe.desc).map (fun d => d.parameters.length) = some 0 := by decide +kernel
theorem npX5_wipe : plainName yX5_wipe.cls = true := by decide +kernel
theorem ndX5_write : yX5_write.cls ≠ "java/lang/invoke/MethodHandle" ∧ yX5_write.cls ≠ "java/lang/invoke/VarHandle" ∧ (parseMethodDescriptor yX5_write.desc).map (fun d => d.parameters.length) = some 1 := by decide +kernel
theorem npX5_write : plainName yX5_write.cls = true := by decide +kernel
theorem ndX7_init : yX7_init.cls ≠ "java/lang/invoke/MethodHandle" ∧ yX7_init.cls ≠ "java/lang/invoke/VarHandle" ∧ (parseMethodDescriptor yX7_init.desc).map (fun d => d.parameters.length) = some 0 := by decide +kernel
theorem npX7_init : plainName yX7_init.cls = true := by decide +kernel
theorem ndX7_add : yX7_add.cls ≠ "java/lang/invoke/MethodHandle" ∧ yX7_add.cls ≠ "java/lang/invoke/VarHandle" ∧ (parseMethodDescriptor yX7_add.desc).map (fun d => d.parameters.length) = some 3 := by decide +kernel
theorem npX7_add : plainName yX7_add.cls = true := by decide +kernel
theorem ndX7_allBits : yX7_allBits.cls ≠ "java/lang/invoke/MethodHandle" ∧ yX7_allBits.cls ≠ "java/lang/invoke/VarHandle" ∧ (parseMethodDescriptor yX7_allBits.desc).map (fun d => d.parameters.length) = some 0 := by decide +kernel
theorem npX7_allBits : plainName yX7_allBits.cls = true := by decide +kernel
theorem ndX7_append : yX7_append.cls ≠ "java/lang/invoke/MethodHandle" ∧ yX7_append.cls ≠ "java/lang/invoke/VarHandle" ∧ (parseMethodDescriptor yX7_append.desc).map (fun d => d.parameters.length) = some 1 := by decide +kernel
theorem npX7_append : plainName yX7_append.cls = true := by decide +kernel
theorem ndX7_bits : yX7_bits.cls ≠ "java/lang/invoke/MethodHandle" ∧ yX7_bits.cls ≠ "java/lang/invoke/VarHandle" ∧ (parseMethodDescriptor yX7_bits.desc).map (fun d => d.parameters.length) = some 1 := by decide +kernel
theorem npX7_bits : plainName yX7_bits.cls = true := by decide +kernel
theorem ndX7_breakChip : yX7_breakChip.cls ≠ "java/lang/invoke/MethodHandle" ∧ yX7_breakChip.cls ≠ "java/lang/invoke/VarHandle" ∧ (parseMethodDescriptor yX7_breakChip.desc).map (fun d => d.parameters.length) = some 2 := by decide +kernel
theorem npX7_breakChip : plainName yX7_breakChip.cls = true := by decide +kernel
theorem ndX7_bypassed : yX7_bypassed.cls ≠ "java/lang/invoke/MethodHandle" ∧ yX7_bypassed.cls ≠ "java/lang/invoke/VarHandle" ∧ (parseMethodDescriptor yX7_bypassed.desc).map (fun d => d.parameters.length) = some 0 := by decide +kernel
theorem npX7_bypassed : plainName yX7_bypassed.cls = true := by decide +kernel
theorem ndX7_chip : yX7_chip.cls ≠ "java/lang/invoke/MethodHandle" ∧ yX7_chip.cls ≠ "java/lang/invoke/VarHandle" ∧ (parseMethodDescriptor yX7_chip.desc).map (fun d => d.parameters.length) = some 2 := by decide +kernel
theorem npX7_chip : plainName yX7_chip.cls = true := by decide +kernel
theorem ndX7_clearText : yX7_clearText.cls ≠ "java/lang/invoke/MethodHandle" ∧ yX7_clearText.cls ≠ "java/lang/invoke/VarHandle" ∧ (parseMethodDescriptor yX7_clearText.desc).map (fun d => d.parameters.length) = some 0 := by decide +kernel
theorem npX7_clearText : plainName yX7_clearText.cls = true := by decide +kernel
theorem ndX7_clock : yX7_clock.cls ≠ "java/lang/invoke/MethodHandle" ∧ yX7_clock.cls ≠ "java/lang/invoke/VarHandle" ∧ (parseMethodDescriptor yX7_clock.desc).map (fun d => d.parameters.length) = some 2 := by decide +kernel
theorem npX7_clock : plainName yX7_clock.cls = true := by decide +kernel
theorem ndX7_clockBits : yX7_clockBits.cls ≠ "java/lang/invoke/MethodHandle" ∧ yX7_clockBits.cls ≠ "java/lang/invoke/VarHandle" ∧ (parseMethodDescriptor yX7_clockBits.desc).map (fun d => d.parameters.length) = some 3 := by decide +kernel
theorem npX7_clockBits : plainName yX7_clockBits.cls = true := by decide +kernel
theorem ndX7_clockNow : yX7_clockNow.cls ≠ "java/lang/invoke/MethodHandle" ∧ yX7_clockNow.cls ≠ "java/lang/invoke/VarHandle" ∧ (parseMethodDescriptor yX7_clockNow.desc).map (fun d => d.parameters.length) = some 2 := by decide +kernel
theorem npX7_clockNow : plainName yX7_clockNow.cls = true := by decide +kernel
theorem ndX7_copyRow : yX7_copyRow.cls ≠ "java/lang/invoke/MethodHandle" ∧ yX7_copyRow.cls ≠ "java/lang/invoke/VarHandle" ∧ (parseMethodDescriptor yX7_copyRow.desc).map (fun d => d.parameters.length) = some 4 := by decide +kernel
theorem npX7_copyRow : plainName yX7_copyRow.cls = true := by decide +kernel
theorem ndX7_count : yX7_count.cls ≠ "java/lang/invoke/MethodHandle" ∧ yX7_count.cls ≠ "java/lang/invoke/VarHandle" ∧ (parseMethodDescriptor yX7_count.desc).map (fun d => d.parameters.length) = some 1 := by decide +kernel
theorem npX7_count : plainName yX7_count.cls = true := by decide +kernel
theorem ndX7_digit : yX7_digit.cls ≠ "java/lang/invoke/MethodHandle" ∧ yX7_digit.cls ≠ "java/lang/invoke/VarHandle" ∧ (parseMethodDescriptor yX7_digit.desc).map (fun d => d.parameters.length) = some 1 := by decide +kernel
theorem npX7_digit : plainName yX7_digit.cls = true := by decide +kernel
theorem ndX7_distance : yX7_distance.cls ≠ "java/lang/invoke/MethodHandle" ∧ yX7_distance.cls ≠ "java/lang/invoke/VarHandle" ∧ (parseMethodDescriptor yX7_distance.desc).map (fun d => d.parameters.length) = some 2 := by decide +kernel
theorem npX7_distance : plainName yX7_distance.cls = true := by decide +kernel
theorem ndX7_exchange : yX7_exchange.cls ≠ "java/lang/invoke/MethodHandle" ∧ yX7_exchange.cls ≠ "java/lang/invoke/VarHandle" ∧ (parseMethodDescriptor yX7_exchange.desc).map (fun d => d.parameters.length) = some 2 := by decide +kernel
theorem npX7_exchange : plainName yX7_exchange.cls = true := by decide +kernel
theorem ndX7_exchangeNow : yX7_exchangeNow.cls ≠ "java/lang/invoke/MethodHandle" ∧ yX7_exchangeNow.cls ≠ "java/lang/invoke/VarHandle" ∧ (parseMethodDescriptor yX7_exchangeNow.desc).map (fun d => d.parameters.length) = some 2 := by decide +kernel
theorem npX7_exchangeNow : plainName yX7_exchangeNow.cls = true := by decide +kernel
theorem ndX7_fault : yX7_fault.cls ≠ "java/lang/invoke/MethodHandle" ∧ yX7_fault.cls ≠ "java/lang/invoke/VarHandle" ∧ (parseMethodDescriptor yX7_fault.desc).map (fun d => d.parameters.length) = some 0 := by decide +kernel
theorem npX7_fault : plainName yX7_fault.cls = true := by decide +kernel
theorem ndX7_found : yX7_found.cls ≠ "java/lang/invoke/MethodHandle" ∧ yX7_found.cls ≠ "java/lang/invoke/VarHandle" ∧ (parseMethodDescriptor yX7_found.desc).map (fun d => d.parameters.length) = some 1 := by decide +kernel
theorem npX7_found : plainName yX7_found.cls = true := by decide +kernel
theorem ndX7_give : yX7_give.cls ≠ "java/lang/invoke/MethodHandle" ∧ yX7_give.cls ≠ "java/lang/invoke/VarHandle" ∧ (parseMethodDescriptor yX7_give.desc).map (fun d => d.parameters.length) = some 2 := by decide +kernel
theorem npX7_give : plainName yX7_give.cls = true := by decide +kernel
theorem ndX7_giveFirst : yX7_giveFirst.cls ≠ "java/lang/invoke/MethodHandle" ∧ yX7_giveFirst.cls ≠ "java/lang/invoke/VarHandle" ∧ (parseMethodDescriptor yX7_giveFirst.desc).map (fun d => d.parameters.length) = some 1 := by decide +kernel
theorem npX7_giveFirst : plainName yX7_giveFirst.cls = true := by decide +kernel
theorem ndX7_identify : yX7_identify.cls ≠ "java/lang/invoke/MethodHandle" ∧ yX7_identify.cls ≠ "java/lang/invoke/VarHandle" ∧ (parseMethodDescriptor yX7_identify.desc).map (fun d => d.parameters.length) = some 0 := by decide +kernel
theorem npX7_identify : plainName yX7_identify.cls = true := by decide +kernel
theorem ndX7_identifyNow : yX7_identifyNow.cls ≠ "java/lang/invoke/MethodHandle" ∧ yX7_identifyNow.cls ≠ "java/lang/invoke/VarHandle" ∧ (parseMethodDescriptor yX7_identifyNow.desc).map (fun d => d.parameters.length) = some 0 := by decide +kernel
theorem npX7_identifyNow : plainName yX7_identifyNow.cls = true := by decide +kernel
theorem ndX7_ifExchanged : yX7_ifExchanged.cls ≠ "java/lang/invoke/MethodHandle" ∧ yX7_ifExchanged.cls ≠ "java/lang/invoke/VarHandle" ∧ (parseMethodDescriptor yX7_ifExchanged.desc).map (fun d => d.parameters.length) = some 2 := by decide +kernel
theorem npX7_ifExchanged : plainName yX7_ifExchanged.cls = true := by decide +kernel
theorem ndX7_ifIdentified : yX7_ifIdentified.cls ≠ "java/lang/invoke/MethodHandle" ∧ yX7_ifIdentified.cls ≠ "java/lang/invoke/VarHandle" ∧ (parseMethodDescriptor yX7_ifIdentified.desc).map (fun d => d.parameters.length) = some 0 := by decide +kernel
theorem npX7_ifIdentified : plainName yX7_ifIdentified.cls = true := by decide +kernel
theorem ndX7_in : yX7_in.cls ≠ "java/lang/invoke/MethodHandle" ∧ yX7_in.cls ≠ "java/lang/invoke/VarHandle" ∧ (parseMethodDescriptor yX7_in.desc).map (fun d => d.parameters.length) = some 3 := by decide +kernel
theorem npX7_in : plainName yX7_in.cls = true := by decide +kernel
theorem ndX7_isChip : yX7_isChip.cls ≠ "java/lang/invoke/MethodHandle" ∧ yX7_isChip.cls ≠ "java/lang/invoke/VarHandle" ∧ (parseMethodDescriptor yX7_isChip.desc).map (fun d => d.parameters.length) = some 1 := by decide +kernel
theorem npX7_isChip : plainName yX7_isChip.cls = true := by decide +kernel
theorem ndX7_isShifting : yX7_isShifting.cls ≠ "java/lang/invoke/MethodHandle" ∧ yX7_isShifting.cls ≠ "java/lang/invoke/VarHandle" ∧ (parseMethodDescriptor yX7_isShifting.desc).map (fun d => d.parameters.length) = some 0 := by decide +kernel
theorem npX7_isShifting : plainName yX7_isShifting.cls = true := by decide +kernel
theorem ndX7_lay : yX7_lay.cls ≠ "java/lang/invoke/MethodHandle" ∧ yX7_lay.cls ≠ "java/lang/invoke/VarHandle" ∧ (parseMethodDescriptor yX7_lay.desc).map (fun d => d.parameters.length) = some 3 := by decide +kernel
theorem npX7_lay : plainName yX7_lay.cls = true := by decide +kernel
theorem ndX7_load : yX7_load.cls ≠ "java/lang/invoke/MethodHandle" ∧ yX7_load.cls ≠ "java/lang/invoke/VarHandle" ∧ (parseMethodDescriptor yX7_load.desc).map (fun d => d.parameters.length) = some 2 := by decide +kernel
theorem npX7_load : plainName yX7_load.cls = true := by decide +kernel
theorem ndX7_measure : yX7_measure.cls ≠ "java/lang/invoke/MethodHandle" ∧ yX7_measure.cls ≠ "java/lang/invoke/VarHandle" ∧ (parseMethodDescriptor yX7_measure.desc).map (fun d => d.parameters.length) = some 1 := by decide +kernel
theorem npX7_measure : plainName yX7_measure.cls = true := by decide +kernel
theorem ndX7_move : yX7_move.cls ≠ "java/lang/invoke/MethodHandle" ∧ yX7_move.cls ≠ "java/lang/invoke/VarHandle" ∧ (parseMethodDescriptor yX7_move.desc).map (fun d => d.parameters.length) = some 1 := by decide +kernel
theorem npX7_move : plainName yX7_move.cls = true := by decide +kernel
theorem ndX7_moveNow : yX7_moveNow.cls ≠ "java/lang/invoke/MethodHandle" ∧ yX7_moveNow.cls ≠ "java/lang/invoke/VarHandle" ∧ (parseMethodDescriptor yX7_moveNow.desc).map (fun d => d.parameters.length) = some 1 := by decide +kernel
theorem npX7_moveNow : plainName yX7_moveNow.cls = true := by decide +kernel
theorem ndX7_next : yX7_next.cls ≠ "java/lang/invoke/MethodHandle" ∧ yX7_next.cls ≠ "java/lang/invoke/VarHandle" ∧ (parseMethodDescriptor yX7_next.desc).map (fun d => d.parameters.length) = some 2 := by decide +kernel
theorem npX7_next : plainName yX7_next.cls = true := by decide +kernel
theorem ndX7_of : yX7_of.cls ≠ "java/lang/invoke/MethodHandle" ∧ yX7_of.cls ≠ "java/lang/invoke/VarHandle" ∧ (parseMethodDescriptor yX7_of.desc).map (fun d => d.parameters.length) = some 2 := by decide +kernel
theorem npX7_of : plainName yX7_of.cls = true := by decide +kernel
theorem ndX7_ones : yX7_ones.cls ≠ "java/lang/invoke/MethodHandle" ∧ yX7_ones.cls ≠ "java/lang/invoke/VarHandle" ∧ (parseMethodDescriptor yX7_ones.desc).map (fun d => d.parameters.length) = some 1 := by decide +kernel
theorem npX7_ones : plainName yX7_ones.cls = true := by decide +kernel
theorem ndX7_output : yX7_output.cls ≠ "java/lang/invoke/MethodHandle" ∧ yX7_output.cls ≠ "java/lang/invoke/VarHandle" ∧ (parseMethodDescriptor yX7_output.desc).map (fun d => d.parameters.length) = some 1 := by decide +kernel
theorem npX7_output : plainName yX7_output.cls = true := by decide +kernel
theorem ndX7_outputOf : yX7_outputOf.cls ≠ "java/lang/invoke/MethodHandle" ∧ yX7_outputOf.cls ≠ "java/lang/invoke/VarHandle" ∧ (parseMethodDescriptor yX7_outputOf.desc).map (fun d => d.parameters.length) = some 1 := by decide +kernel
theorem npX7_outputOf : plainName yX7_outputOf.cls = true := by decide +kernel
theorem ndX7_peek : yX7_peek.cls ≠ "java/lang/invoke/MethodHandle" ∧ yX7_peek.cls ≠ "java/lang/invoke/VarHandle" ∧ (parseMethodDescriptor yX7_peek.desc).map (fun d => d.parameters.length) = some 1 := by decide +kernel
theorem npX7_peek : plainName yX7_peek.cls = true := by decide +kernel
theorem ndX7_readOne : yX7_readOne.cls ≠ "java/lang/invoke/MethodHandle" ∧ yX7_readOne.cls ≠ "java/lang/invoke/VarHandle" ∧ (parseMethodDescriptor yX7_readOne.desc).map (fun d => d.parameters.length) = some 0 := by decide +kernel
theorem npX7_readOne : plainName yX7_readOne.cls = true := by decide +kernel
theorem ndX7_record : yX7_record.cls ≠ "java/lang/invoke/MethodHandle" ∧ yX7_record.cls ≠ "java/lang/invoke/VarHandle" ∧ (parseMethodDescriptor yX7_record.desc).map (fun d => d.parameters.length) = some 0 := by decide +kernel
theorem npX7_record : plainName yX7_record.cls = true := by decide +kernel
theorem ndX7_restore : yX7_restore.cls ≠ "java/lang/invoke/MethodHandle" ∧ yX7_restore.cls ≠ "java/lang/invoke/VarHandle" ∧ (parseMethodDescriptor yX7_restore.desc).map (fun d => d.parameters.length) = some 0 := by decide +kernel
theorem npX7_restore : plainName yX7_restore.cls = true := by decide +kernel
theorem ndX7_run : yX7_run.cls ≠ "java/lang/invoke/MethodHandle" ∧ yX7_run.cls ≠ "java/lang/invoke/VarHandle" ∧ (parseMethodDescriptor yX7_run.desc).map (fun d => d.parameters.length) = some 0 := by decide +kernel
theorem npX7_run : plainName yX7_run.cls = true := by decide +kernel
theorem ndX7_save : yX7_save.cls ≠ "java/lang/invoke/MethodHandle" ∧ yX7_save.cls ≠ "java/lang/invoke/VarHandle" ∧ (parseMethodDescriptor yX7_save.desc).map (fun d => d.parameters.length) = some 0 := by decide +kernel
theorem npX7_save : plainName yX7_save.cls = true := by decide +kernel
theorem ndX7_selectsCells : yX7_selectsCells.cls ≠ "java/lang/invoke/MethodHandle" ∧ yX7_selectsCells.cls ≠ "java/lang/invoke/VarHandle" ∧ (parseMethodDescriptor yX7_selectsCells.desc).map (fun d => d.parameters.length) = some 1 := by decide +kernel
theorem npX7_selectsCells : plainName yX7_selectsCells.cls = true := by decide +kernel
theorem ndX7_selectsIdentity : yX7_selectsIdentity.cls ≠ "java/lang/invoke/MethodHandle" ∧ yX7_selectsIdentity.cls ≠ "java/lang/invoke/VarHandle" ∧ (parseMethodDescriptor yX7_selectsIdentity.desc).map (fun d => d.parameters.length) = some 1 := by decide +kernel
theorem npX7_selectsIdentity : plainName yX7_selectsIdentity.cls = true := by decide +kernel
theorem ndX7_setPins : yX7_setPins.cls ≠ "java/lang/invoke/MethodHandle" ∧ yX7_setPins.cls ≠ "java/lang/invoke/VarHandle" ∧ (parseMethodDescriptor yX7_setPins.desc).map (fun d => d.parameters.length) = some 2 := by decide +kernel
theorem npX7_setPins : plainName yX7_setPins.cls = true := by decide +kernel
theorem ndX7_shift : yX7_shift.cls ≠ "java/lang/invoke/MethodHandle" ∧ yX7_shift.cls ≠ "java/lang/invoke/VarHandle" ∧ (parseMethodDescriptor yX7_shift.desc).map (fun d => d.parameters.length) = some 1 := by decide +kernel
theorem npX7_shift : plainName yX7_shift.cls = true := by decide +kernel
theorem ndX7_shifted : yX7_shifted.cls ≠ "java/lang/invoke/MethodHandle" ∧ yX7_shifted.cls ≠ "java/lang/invoke/VarHandle" ∧ (parseMethodDescriptor yX7_shifted.desc).map (fun d => d.parameters.length) = some 0 := by decide +kernel
theorem npX7_shifted : plainName yX7_shifted.cls = true := by decide +kernel
theorem ndX7_sum : yX7_sum.cls ≠ "java/lang/invoke/MethodHandle" ∧ yX7_sum.cls ≠ "java/lang/invoke/VarHandle" ∧ (parseMethodDescriptor yX7_sum.desc).map (fun d => d.parameters.length) = some 1 := by decide +kernel
theorem npX7_sum : plainName yX7_sum.cls = true := by decide +kernel
theorem ndX7_take : yX7_take.cls ≠ "java/lang/invoke/MethodHandle" ∧ yX7_take.cls ≠ "java/lang/invoke/VarHandle" ∧ (parseMethodDescriptor yX7_take.desc).map (fun d => d.parameters.length) = some 1 := by decide +kernel
theorem npX7_take : plainName yX7_take.cls = true := by decide +kernel
theorem ndX7_undo : yX7_undo.cls ≠ "java/lang/invoke/MethodHandle" ∧ yX7_undo.cls ≠ "java/lang/invoke/VarHandle" ∧ (parseMethodDescriptor yX7_undo.desc).map (fun d => d.parameters.length) = some 0 := by decide +kernel
theorem npX7_undo : plainName yX7_undo.cls = true := by decide +kernel
theorem ndX7_whyNotExchange : yX7_whyNotExchange.cls ≠ "java/lang/invoke/MethodHandle" ∧ yX7_whyNotExchange.cls ≠ "java/lang/invoke/VarHandle" ∧ (parseMethodDescriptor yX7_whyNotExchange.desc).map (fun d => d.parameters.length) = some 2 := by decide +kernel
theorem npX7_whyNotExchange : plainName yX7_whyNotExchange.cls = true := by decide +kernel
theorem ndX7_work : yX7_work.cls ≠ "java/lang/invoke/MethodHandle" ∧ yX7_work.cls ≠ "java/lang/invoke/VarHandle" ∧ (parseMethodDescriptor yX7_work.desc).map (fun d => d.parameters.length) = some 1 := by decide +kernel
theorem npX7_work : plainName yX7_work.cls = true := by decide +kernel
theorem gV_L_13 : GoodIn zW (wsV RL 13 RX6 yX6_add (zws yX6_add cX6_add 4 (some .int))) := zGV zt177 zt178 zt179 zt31 zt180
theorem gS_X6_40 : GoodIn zW (va_wsS RX6 40 yX6_isWithin (zws yX6_isWithin cX6_isWithin 3 (some .boolean))) := zGS zt181 zt182 zt31 zt183
theorem gS_X6_44 : GoodIn zW (va_wsS RX6 44 yX6_isIdentity (zws yX6_isIdentity cX6_isIdentity 1 (some .boolean))) := zGS zt184 zt185 zt31 zt186
theorem gV_X6_52 : GoodIn zW (wsV RX6 52 RX3 yX3_record (zws yX3_record cX3_record 2 none)) := zGV zt187 zt188 zt189 zt34 zt190
theorem gV_X3_22 : GoodIn zW (wsV RX3 22 RX3 yX3_dropOldest (zws yX3_dropOldest cX3_dropOldest 3 none)) := zGV zt191 zt193 zt0 zt34 zt194
theorem gV_X3_25 : GoodIn zW (wsV RX3 25 RX0 yX0_becomeCopyOf (zws yX0_becomeCopyOf cX0_becomeCopyOf 3 none)) := zGV zt195 zt196 zt197 zt32 zt198
theorem gV_X0_37 : GoodIn zW (wsV RX0 37 RX1 yX1_becomeCopyOf (zws yX1_becomeCopyOf cX1_becomeCopyOf 2 none)) := zGV zt199 zt200 zt201 zt33 zt202
theorem gV_X6_56 : GoodIn zW (wsV RX6 56 RX0 yX0_putBehind (zws yX0_putBehind cX0_putBehind 5 (some .int))) := zGV zt203 zt204 zt205 zt32 zt206
theorem gV_X0_41 : GoodIn zW (wsV RX0 41 RX1 yX1_beNew (zws yX1_beNew cX1_beNew 4 none)) := zGV zt207 zt208 zt209 zt33 zt210
theorem gV_X1_34 : GoodIn zW (wsV RX1 34 RX1 yX1_giveFirstInstruction (zws yX1_giveFirstInstruction cX1_giveFirstInstruction 1 none)) := zGV zt211 zt212 zt213 zt33 zt214
theorem gV_X1_54 : GoodIn zW (wsV RX1 54 RX1 yX1_giveInstruction (zws yX1_giveInstruction cX1_giveInstruction 2 none)) := zGV zt218 zt219 zt220 zt33 zt221
theorem gV_L_18 : GoodIn zW (wsV RL 18 RX6 yX6_take (zws yX6_take cX6_take 2 (some .int))) := zGV zt222 zt223 zt224 zt31 zt225
theorem gV_X6_60 : GoodIn zW (wsV RX6 60 RX0 yX0_has (zws yX0_has cX0_has 2 (some .boolean))) := zGV zt226 zt227 zt228 zt32 zt229
theorem gV_X6_63 : GoodIn zW (wsV RX6 63 RX0 yX0_takeOut (zws yX0_takeOut cX0_takeOut 4 (some .int))) := zGV zt230 zt231 zt232 zt32 zt233
theorem gV_L_23 : GoodIn zW (wsV RL 23 RX6 yX6_setPins (zws yX6_setPins cX6_setPins 3 (some .int))) := zGV zt234 zt235 zt236 zt31 zt237
theorem gV_X6_71 : GoodIn zW (wsV RX6 71 RX1 yX1_changePins (zws yX1_changePins cX1_changePins 3 (some .int))) := zGV zt238 zt239 zt240 zt33 zt241
theorem gV_L_28 : GoodIn zW (wsV RL 28 RX6 yX6_breakChip (zws yX6_breakChip cX6_breakChip 3 (some .int))) := zGV zt242 zt243 zt244 zt31 zt245
theorem gV_X6_79 : GoodIn zW (wsV RX6 79 RX0 yX0_brokenChips (zws yX0_brokenChips cX0_brokenChips 3 (some .int))) := zGV zt246 zt247 zt248 zt32 zt249
theorem gV_L_33 : GoodIn zW (wsV RL 33 RX6 yX6_clock (zws yX6_clock cX6_clock 3 (some .int))) := zGV zt250 zt251 zt252 zt31 zt253
theorem gV_X6_83 : GoodIn zW (wsV RX6 83 RX0 yX0_tick (zws yX0_tick cX0_tick 5 (some .int))) := zGV zt254 zt255 zt256 zt32 zt257
theorem gV_X0_63 : GoodIn zW (wsV RX0 63 RX0 yX0_outputWith (zws yX0_outputWith cX0_outputWith 3 (some .int))) := zGV zt258 zt259 zt260 zt32 zt261
theorem gV_X0_81 : GoodIn zW (wsV RX0 81 RX1 yX1_dataOutput (zws yX1_dataOutput cX1_dataOutput 1 (some .int))) := zGV zt262 zt263 zt264 zt33 zt265
theorem gV_X0_84 : GoodIn zW (wsV RX0 84 RX1 yX1_codeOutput (zws yX1_codeOutput cX1_codeOutput 1 (some .int))) := zGV zt266 zt267 zt268 zt33 zt269
theorem gV_X0_67 : GoodIn zW (wsV RX0 67 RX0 yX0_shiftAllData (zws yX0_shiftAllData cX0_shiftAllData 5 none)) := zGV zt270 zt272 zt1 zt32 zt273
theorem gV_X0_102 : GoodIn zW (wsV RX0 102 RX1 yX1_shiftData (zws yX1_shiftData cX1_shiftData 2 none)) := zGV zt274 zt275 zt276 zt33 zt277
theorem gV_X1_58 : GoodIn zW (wsV RX1 58 RX1 yX1_dataBits (zws yX1_dataBits cX1_dataBits 1 (some .int))) := zGV zt278 zt279 zt280 zt33 zt281
theorem gV_X1_47 : GoodIn zW (wsV RX1 47 RX1 yX1_selectsCells (zws yX1_selectsCells cX1_selectsCells 1 (some .boolean))) := zGV zt282 zt283 zt284 zt33 zt285
theorem gV_X1_51 : GoodIn zW (wsV RX1 51 RX1 yX1_selectsIdentity (zws yX1_selectsIdentity cX1_selectsIdentity 1 (some .boolean))) := zGV zt286 zt287 zt288 zt33 zt289
theorem gS_X1_62 : GoodIn zW (va_wsS RX1 62 yX1_shifted (zws yX1_shifted cX1_shifted 3 (some .int))) := zGS zt290 zt291 zt33 zt292
theorem gV_X0_71 : GoodIn zW (wsV RX0 71 RX0 yX0_shiftAllCodes (zws yX0_shiftAllCodes cX0_shiftAllCodes 5 none)) := zGV zt293 zt295 zt2 zt32 zt296
theorem gV_X0_105 : GoodIn zW (wsV RX0 105 RX1 yX1_shiftCode (zws yX1_shiftCode cX1_shiftCode 2 none)) := zGV zt297 zt298 zt299 zt33 zt300
theorem gV_X0_74 : GoodIn zW (wsV RX0 74 RX0 yX0_workOf (zws yX0_workOf cX0_workOf 2 none)) := zGV zt301 zt303 zt3 zt32 zt304
theorem gV_X0_87 : GoodIn zW (wsV RX0 87 RX1 yX1_giveFirstInstruction (zws yX1_giveFirstInstruction cX1_giveFirstInstruction 1 none)) := zGV zt305 zt212 zt213 zt33 zt214
theorem gV_X0_90 : GoodIn zW (wsV RX0 90 RX1 yX1_captureData (zws yX1_captureData cX1_captureData 1 none)) := zGV zt306 zt307 zt308 zt33 zt309
theorem gV_X0_93 : GoodIn zW (wsV RX0 93 RX1 yX1_updateData (zws yX1_updateData cX1_updateData 1 none)) := zGV zt310 zt311 zt312 zt33 zt313
theorem gV_X0_99 : GoodIn zW (wsV RX0 99 RX1 yX1_giveInstruction (zws yX1_giveInstruction cX1_giveInstruction 2 none)) := zGV zt314 zt219 zt220 zt33 zt221
theorem gS_X0_77 : GoodIn zW (va_wsS RX0 77 yX2_next (zws yX2_next cX2_next 2 (some .int))) := zGS zt315 zt316 zt37 zt317
theorem gS_X2_9 : GoodIn zW (va_wsS RX2 9 yX2_isState (zws yX2_isState cX2_isState 1 (some .boolean))) := zGS zt318 zt319 zt37 zt320
theorem gV_L_37 : GoodIn zW (wsV RL 37 RX6 yX6_move (zws yX6_move cX6_move 2 (some .int))) := zGV zt325 zt326 zt327 zt31 zt328
theorem gS_X6_87 : GoodIn zW (va_wsS RX6 87 yX2_isState (zws yX2_isState cX2_isState 1 (some .boolean))) := zGS zt329 zt319 zt37 zt320
theorem gS_X6_92 : GoodIn zW (va_wsS RX6 92 yX4_goTo (zws yX4_goTo cX4_goTo 6 (some .int))) := zGS zt330 zt331 zt38 zt332
theorem gS_X4_15 : GoodIn zW (va_wsS RX4 15 yX2_clocksBetween (zws yX2_clocksBetween cX2_clocksBetween 4 (some .int))) := zGS zt333 zt334 zt37 zt335
theorem gS_X2_20 : GoodIn zW (va_wsS RX2 20 yX2_nextOfAll (zws yX2_nextOfAll cX2_nextOfAll 3 (some .int))) := zGS zt336 zt337 zt37 zt338
theorem gS_X2_24 : GoodIn zW (va_wsS RX2 24 yX2_next (zws yX2_next cX2_next 2 (some .int))) := zGS zt339 zt316 zt37 zt317
theorem gS_X4_21 : GoodIn zW (va_wsS RX4 21 yX2_next (zws yX2_next cX2_next 2 (some .int))) := zGS zt340 zt316 zt37 zt317
theorem gV_X4_24 : GoodIn zW (wsV RX4 24 RX0 yX0_tick (zws yX0_tick cX0_tick 5 (some .int))) := zGV zt341 zt255 zt256 zt32 zt257
theorem gV_L_41 : GoodIn zW (wsV RL 41 RX6 yX6_identify (zws yX6_identify cX6_identify 1 (some .int))) := zGV zt342 zt343 zt344 zt31 zt345
theorem gS_X6_98 : GoodIn zW (va_wsS RX6 98 yX4_readIdentities (zws yX4_readIdentities cX4_readIdentities 3 (some .int))) := zGS zt346 zt347 zt38 zt348
theorem gS_X4_29 : GoodIn zW (va_wsS RX4 29 yX4_goTo (zws yX4_goTo cX4_goTo 6 (some .int))) := zGS zt349 zt331 zt38 zt332
theorem gV_X4_33 : GoodIn zW (wsV RX4 33 RX0 yX0_forgetIdentities (zws yX0_forgetIdentities cX0_forgetIdentities 1 none)) := zGV zt350 zt351 zt352 zt32 zt353
theorem gS_X4_36 : GoodIn zW (va_wsS RX4 36 yX4_readIdentity (zws yX4_readIdentity cX4_readIdentity 3 (some .int))) := zGS zt354 zt355 zt38 zt356
theorem gV_X4_40 : GoodIn zW (wsV RX4 40 RX0 yX0_keepIdentity (zws yX0_keepIdentity cX0_keepIdentity 2 none)) := zGV zt357 zt358 zt359 zt32 zt360
theorem gV_L_46 : GoodIn zW (wsV RL 46 RX6 yX6_load (zws yX6_load cX6_load 3 (some .int))) := zGV zt361 zt362 zt363 zt31 zt364
theorem gS_X6_102 : GoodIn zW (va_wsS RX6 102 yX4_loadInstruction (zws yX4_loadInstruction cX4_loadInstruction 6 none)) := zGS zt365 zt366 zt38 zt367
theorem gS_X4_63 : GoodIn zW (va_wsS RX4 63 yX4_shiftThrough (zws yX4_shiftThrough cX4_shiftThrough 7 (some .int))) := zGS zt369 zt370 zt38 zt371
theorem gV_X6_106 : GoodIn zW (wsV RX6 106 RX1 yX1_dataBits (zws yX1_dataBits cX1_dataBits 1 (some .int))) := zGV zt372 zt279 zt280 zt33 zt281
theorem gV_L_50 : GoodIn zW (wsV RL 50 RX6 yX6_exchange (zws yX6_exchange cX6_exchange 4 (some .int))) := zGV zt373 zt374 zt375 zt31 zt376
theorem gV_X6_109 : GoodIn zW (wsV RX6 109 RX6 yX6_exchangeError (zws yX6_exchangeError cX6_exchangeError 3 (some .int))) := zGV zt377 zt379 zt4 zt31 zt380
theorem gS_X6_112 : GoodIn zW (va_wsS RX6 112 yX4_exchangeData (zws yX4_exchangeData cX4_exchangeData 7 (some .int))) := zGS zt381 zt382 zt38 zt383
theorem gV_X4_67 : GoodIn zW (wsV RX4 67 RX1 yX1_dataBits (zws yX1_dataBits cX1_dataBits 1 (some .int))) := zGV zt384 zt279 zt280 zt33 zt281
theorem gV_L_54 : GoodIn zW (wsV RL 54 RX6 yX6_append (zws yX6_append cX6_append 2 (some .int))) := zGV zt385 zt386 zt387 zt31 zt388
theorem gV_X6_119 : GoodIn zW (wsV RX6 119 RX5 yX5_write (zws yX5_write cX5_write 2 (some .int))) := zGV zt389 zt390 zt391 zt35 zt392
theorem gV_L_58 : GoodIn zW (wsV RL 58 RX6 yX6_clearText (zws yX6_clearText cX6_clearText 1 (some .int))) := zGV zt393 zt394 zt395 zt31 zt396
theorem gV_X6_122 : GoodIn zW (wsV RX6 122 RX5 yX5_wipe (zws yX5_wipe cX5_wipe 2 (some .int))) := zGV zt397 zt398 zt399 zt35 zt400
theorem gV_L_62 : GoodIn zW (wsV RL 62 RX6 yX6_fault (zws yX6_fault cX6_fault 1 (some .int))) := zGV zt401 zt402 zt403 zt31 zt404
theorem gV_X6_125 : GoodIn zW (wsV RX6 125 RX5 yX5_firstFault (zws yX5_firstFault cX5_firstFault 5 (some .int))) := zGV zt405 zt406 zt407 zt35 zt408
theorem gS_X5_19 : GoodIn zW (va_wsS RX5 19 yX5_hexValue (zws yX5_hexValue cX5_hexValue 1 (some .int))) := zGS zt409 zt410 zt35 zt411
theorem gS_X5_23 : GoodIn zW (va_wsS RX5 23 yX5_startsItem (zws yX5_startsItem cX5_startsItem 1 (some .boolean))) := zGS zt412 zt413 zt35 zt414
theorem gV_L_66 : GoodIn zW (wsV RL 66 RX6 yX6_run (zws yX6_run cX6_run 2 (some .int))) := zGV zt415 zt416 zt417 zt31 zt418
theorem gS_X6_128 : GoodIn zW (va_wsS RX6 128 yX4_carryOut (zws yX4_carryOut cX4_carryOut 7 (some .int))) := zGS zt419 zt420 zt38 zt421
theorem gV_X4_80 : GoodIn zW (wsV RX4 80 RX5 yX5_hexAt (zws yX5_hexAt cX5_hexAt 2 (some .int))) := zGV zt422 zt423 zt424 zt35 zt425
theorem gS_X4_83 : GoodIn zW (va_wsS RX4 83 yX4_clockItem (zws yX4_clockItem cX4_clockItem 4 none)) := zGS zt426 zt427 zt38 zt428
theorem gV_L_70 : GoodIn zW (wsV RL 70 RX6 yX6_undo (zws yX6_undo cX6_undo 1 (some .int))) := zGV zt429 zt430 zt431 zt31 zt432
theorem gV_X6_132 : GoodIn zW (wsV RX6 132 RX3 yX3_takeBack (zws yX3_takeBack cX3_takeBack 2 (some .int))) := zGV zt433 zt434 zt435 zt34 zt436
theorem gV_L_74 : GoodIn zW (wsV RL 74 RX6 yX6_save (zws yX6_save cX6_save 1 (some .int))) := zGV zt437 zt438 zt439 zt31 zt440
theorem gV_X6_135 : GoodIn zW (wsV RX6 135 RX0 yX0_becomeCopyOf (zws yX0_becomeCopyOf cX0_becomeCopyOf 3 none)) := zGV zt441 zt196 zt197 zt32 zt198
theorem gV_L_78 : GoodIn zW (wsV RL 78 RX6 yX6_restore (zws yX6_restore cX6_restore 1 (some .int))) := zGV zt442 zt443 zt444 zt31 zt445
theorem gV_L_82 : GoodIn zW (wsV RL 82 RX6 yX6_chip (zws yX6_chip cX6_chip 3 (some .int))) := zGV zt446 zt447 zt448 zt31 zt449
theorem gV_X6_138 : GoodIn zW (wsV RX6 138 RX1 yX1_tell (zws yX1_tell cX1_tell 2 (some .int))) := zGV zt450 zt451 zt452 zt33 zt453
theorem gV_L_86 : GoodIn zW (wsV RL 86 RX6 yX6_count (zws yX6_count cX6_count 2 (some .int))) := zGV zt454 zt455 zt456 zt31 zt457
theorem gV_X6_147 : GoodIn zW (wsV RX6 147 RX0 yX0_sumOfCodeLengths (zws yX0_sumOfCodeLengths cX0_sumOfCodeLengths 3 (some .int))) := zGV zt458 zt459 zt460 zt32 zt461
theorem gV_X6_150 : GoodIn zW (wsV RX6 150 RX0 yX0_sumOfDataBits (zws yX0_sumOfDataBits cX0_sumOfDataBits 3 (some .int))) := zGV zt462 zt463 zt464 zt32 zt465
theorem gV_X0_59 : GoodIn zW (wsV RX0 59 RX1 yX1_dataBits (zws yX1_dataBits cX1_dataBits 1 (some .int))) := zGV zt466 zt279 zt280 zt33 zt281
theorem gV_L_90 : GoodIn zW (wsV RL 90 RX6 yX6_found (zws yX6_found cX6_found 2 (some .int))) := zGV zt467 zt468 zt469 zt31 zt470
theorem gV_L_94 : GoodIn zW (wsV RL 94 RX6 yX6_distance (zws yX6_distance cX6_distance 3 (some .int))) := zGV zt471 zt472 zt473 zt31 zt474
theorem gS_X6_161 : GoodIn zW (va_wsS RX6 161 yX2_clocksBetween (zws yX2_clocksBetween cX2_clocksBetween 4 (some .int))) := zGS zt475 zt334 zt37 zt335
theorem gV_L_98 : GoodIn zW (wsV RL 98 RX6 yX6_peek (zws yX6_peek cX6_peek 2 (some .int))) := zGV zt476 zt477 zt478 zt31 zt479
theorem gV_X6_164 : GoodIn zW (wsV RX6 164 RX0 yX0_outputWith (zws yX0_outputWith cX0_outputWith 3 (some .int))) := zGV zt480 zt259 zt260 zt32 zt261
theorem gV_L_102 : GoodIn zW (wsV RL 102 RX6 yX6_ifIdentified (zws yX6_ifIdentified cX6_ifIdentified 1 (some .int))) := zGV zt481 zt482 zt483 zt31 zt484
theorem gV_L_106 : GoodIn zW (wsV RL 106 RX6 yX6_ifExchanged (zws yX6_ifExchanged cX6_ifExchanged 4 (some .int))) := zGV zt485 zt486 zt487 zt31 zt488
theorem gV_L_110 : GoodIn zW (wsV RL 110 RX6 yX6_bypassed (zws yX6_bypassed cX6_bypassed 1 (some .float))) := zGV zt489 zt490 zt491 zt31 zt492
theorem gV_X6_167 : GoodIn zW (wsV RX6 167 RX0 yX0_bypassedChips (zws yX0_bypassedChips cX0_bypassedChips 3 (some .int))) := zGV zt493 zt494 zt495 zt32 zt496
theorem gV_X0_52 : GoodIn zW (wsV RX0 52 RX1 yX1_selectsBypass (zws yX1_selectsBypass cX1_selectsBypass 1 (some .boolean))) := zGV zt497 zt498 zt499 zt33 zt500
theorem gV_L_73 : GoodIn zW (wsV RL 73 RX7 yX7_undo (zws yX7_undo cX7_undo 1 (some .int))) := zGV zt535 zt536 zt537 zt36 zt538
theorem gS_X7_36 : GoodIn zW (va_wsS RX7 36 yX7_copyRow (zws yX7_copyRow cX7_copyRow 5 none)) := zGS zt539 zt540 zt36 zt541
theorem gV_L_77 : GoodIn zW (wsV RL 77 RX7 yX7_save (zws yX7_save cX7_save 1 (some .int))) := zGV zt542 zt543 zt544 zt36 zt545
theorem gV_L_81 : GoodIn zW (wsV RL 81 RX7 yX7_restore (zws yX7_restore cX7_restore 1 (some .int))) := zGV zt546 zt547 zt548 zt36 zt549
theorem gV_X7_44 : GoodIn zW (wsV RX7 44 RX7 yX7_record (zws yX7_record cX7_record 2 none)) := zGV zt550 zt552 zt5 zt36 zt553
theorem gV_L_17 : GoodIn zW (wsV RL 17 RX7 yX7_add (zws yX7_add cX7_add 7 (some .int))) := zGV zt554 zt555 zt556 zt36 zt557
theorem gS_X7_28 : GoodIn zW (va_wsS RX7 28 yX7_in (zws yX7_in cX7_in 3 (some .boolean))) := zGS zt558 zt559 zt36 zt560
theorem gV_X7_58 : GoodIn zW (wsV RX7 58 RX7 yX7_lay (zws yX7_lay cX7_lay 4 none)) := zGV zt561 zt563 zt6 zt36 zt564
theorem gV_X7_70 : GoodIn zW (wsV RX7 70 RX7 yX7_giveFirst (zws yX7_giveFirst cX7_giveFirst 2 none)) := zGV zt565 zt567 zt7 zt36 zt568
theorem gV_X7_47 : GoodIn zW (wsV RX7 47 RX7 yX7_of (zws yX7_of cX7_of 3 (some .int))) := zGV zt569 zt571 zt8 zt36 zt572
theorem gS_X7_62 : GoodIn zW (va_wsS RX7 62 yX7_ones (zws yX7_ones cX7_ones 1 (some .int))) := zGS zt573 zt574 zt36 zt575
theorem gV_X7_66 : GoodIn zW (wsV RX7 66 RX7 yX7_give (zws yX7_give cX7_give 3 none)) := zGV zt576 zt578 zt9 zt36 zt579
theorem gV_L_22 : GoodIn zW (wsV RL 22 RX7 yX7_take (zws yX7_take cX7_take 4 (some .int))) := zGV zt580 zt581 zt582 zt36 zt583
theorem gV_X7_74 : GoodIn zW (wsV RX7 74 RX7 yX7_isChip (zws yX7_isChip cX7_isChip 2 (some .boolean))) := zGV zt584 zt586 zt10 zt36 zt587
theorem gV_L_27 : GoodIn zW (wsV RL 27 RX7 yX7_setPins (zws yX7_setPins cX7_setPins 4 (some .int))) := zGV zt588 zt589 zt590 zt36 zt591
theorem gV_L_32 : GoodIn zW (wsV RL 32 RX7 yX7_breakChip (zws yX7_breakChip cX7_breakChip 3 (some .int))) := zGV zt592 zt593 zt594 zt36 zt595
theorem gV_X7_77 : GoodIn zW (wsV RX7 77 RX7 yX7_sum (zws yX7_sum cX7_sum 4 (some .int))) := zGV zt596 zt598 zt11 zt36 zt599
theorem gV_L_36 : GoodIn zW (wsV RL 36 RX7 yX7_clock (zws yX7_clock cX7_clock 3 (some .int))) := zGV zt600 zt601 zt602 zt36 zt603
theorem gV_X7_106 : GoodIn zW (wsV RX7 106 RX7 yX7_clockNow (zws yX7_clockNow cX7_clockNow 5 (some .int))) := zGV zt604 zt606 zt12 zt36 zt607
theorem gV_X7_94 : GoodIn zW (wsV RX7 94 RX7 yX7_output (zws yX7_output cX7_output 2 (some .int))) := zGV zt608 zt610 zt13 zt36 zt611
theorem gV_X7_84 : GoodIn zW (wsV RX7 84 RX7 yX7_isShifting (zws yX7_isShifting cX7_isShifting 1 (some .boolean))) := zGV zt612 zt614 zt14 zt36 zt615
theorem gV_X7_88 : GoodIn zW (wsV RX7 88 RX7 yX7_outputOf (zws yX7_outputOf cX7_outputOf 2 (some .int))) := zGV zt616 zt618 zt15 zt36 zt619
theorem gV_X7_80 : GoodIn zW (wsV RX7 80 RX7 yX7_shifted (zws yX7_shifted cX7_shifted 1 (some .int))) := zGV zt620 zt622 zt16 zt36 zt623
theorem gV_X7_97 : GoodIn zW (wsV RX7 97 RX7 yX7_shift (zws yX7_shift cX7_shift 6 none)) := zGV zt624 zt626 zt17 zt36 zt627
theorem gV_X7_91 : GoodIn zW (wsV RX7 91 RX7 yX7_bits (zws yX7_bits cX7_bits 2 (some .int))) := zGV zt628 zt630 zt18 zt36 zt631
theorem gV_X7_51 : GoodIn zW (wsV RX7 51 RX7 yX7_selectsCells (zws yX7_selectsCells cX7_selectsCells 2 (some .boolean))) := zGV zt632 zt634 zt19 zt36 zt635
theorem gV_X7_55 : GoodIn zW (wsV RX7 55 RX7 yX7_selectsIdentity (zws yX7_selectsIdentity cX7_selectsIdentity 2 (some .boolean))) := zGV zt636 zt638 zt20 zt36 zt639
theorem gV_X7_100 : GoodIn zW (wsV RX7 100 RX7 yX7_work (zws yX7_work cX7_work 2 none)) := zGV zt640 zt642 zt21 zt36 zt643
theorem gS_X7_103 : GoodIn zW (va_wsS RX7 103 yX7_next (zws yX7_next cX7_next 2 (some .int))) := zGS zt644 zt645 zt36 zt646
theorem gV_L_40 : GoodIn zW (wsV RL 40 RX7 yX7_move (zws yX7_move cX7_move 2 (some .int))) := zGV zt647 zt648 zt649 zt36 zt650
theorem gV_X7_112 : GoodIn zW (wsV RX7 112 RX7 yX7_moveNow (zws yX7_moveNow cX7_moveNow 4 (some .int))) := zGV zt651 zt653 zt22 zt36 zt654
theorem gV_X7_109 : GoodIn zW (wsV RX7 109 RX7 yX7_measure (zws yX7_measure cX7_measure 6 none)) := zGV zt655 zt657 zt23 zt36 zt658
theorem gV_L_45 : GoodIn zW (wsV RL 45 RX7 yX7_identify (zws yX7_identify cX7_identify 1 (some .int))) := zGV zt659 zt660 zt661 zt36 zt662
theorem gV_X7_118 : GoodIn zW (wsV RX7 118 RX7 yX7_identifyNow (zws yX7_identifyNow cX7_identifyNow 3 none)) := zGV zt663 zt665 zt24 zt36 zt666
theorem gV_X7_115 : GoodIn zW (wsV RX7 115 RX7 yX7_readOne (zws yX7_readOne cX7_readOne 3 (some .int))) := zGV zt667 zt669 zt25 zt36 zt670
theorem gV_L_49 : GoodIn zW (wsV RL 49 RX7 yX7_load (zws yX7_load cX7_load 5 (some .int))) := zGV zt671 zt672 zt673 zt36 zt674
theorem gV_X7_121 : GoodIn zW (wsV RX7 121 RX7 yX7_clockBits (zws yX7_clockBits cX7_clockBits 7 (some .int))) := zGV zt675 zt677 zt26 zt36 zt678
theorem gV_L_53 : GoodIn zW (wsV RL 53 RX7 yX7_exchange (zws yX7_exchange cX7_exchange 4 (some .int))) := zGV zt679 zt680 zt681 zt36 zt682
theorem gV_X7_125 : GoodIn zW (wsV RX7 125 RX7 yX7_whyNotExchange (zws yX7_whyNotExchange cX7_whyNotExchange 3 (some .int))) := zGV zt683 zt685 zt27 zt36 zt686
theorem gV_X7_128 : GoodIn zW (wsV RX7 128 RX7 yX7_exchangeNow (zws yX7_exchangeNow cX7_exchangeNow 6 (some .int))) := zGV zt687 zt689 zt28 zt36 zt690
theorem gV_L_57 : GoodIn zW (wsV RL 57 RX7 yX7_append (zws yX7_append cX7_append 2 (some .int))) := zGV zt691 zt692 zt693 zt36 zt694
theorem gV_L_61 : GoodIn zW (wsV RL 61 RX7 yX7_clearText (zws yX7_clearText cX7_clearText 2 (some .int))) := zGV zt695 zt696 zt697 zt36 zt698
theorem gV_L_65 : GoodIn zW (wsV RL 65 RX7 yX7_fault (zws yX7_fault cX7_fault 5 (some .int))) := zGV zt699 zt700 zt701 zt36 zt702
theorem gS_X7_134 : GoodIn zW (va_wsS RX7 134 yX7_digit (zws yX7_digit cX7_digit 1 (some .int))) := zGS zt703 zt704 zt36 zt705
theorem gV_L_69 : GoodIn zW (wsV RL 69 RX7 yX7_run (zws yX7_run cX7_run 8 (some .int))) := zGV zt706 zt707 zt708 zt36 zt709
theorem gV_X7_137 : GoodIn zW (wsV RX7 137 RX7 yX7_fault (zws yX7_fault cX7_fault 5 (some .int))) := zGV zt710 zt700 zt701 zt36 zt702
theorem gV_L_85 : GoodIn zW (wsV RL 85 RX7 yX7_chip (zws yX7_chip cX7_chip 3 (some .int))) := zGV zt711 zt712 zt713 zt36 zt714
theorem gV_L_89 : GoodIn zW (wsV RL 89 RX7 yX7_count (zws yX7_count cX7_count 2 (some .int))) := zGV zt715 zt716 zt717 zt36 zt718
theorem gV_X7_140 : GoodIn zW (wsV RX7 140 RX7 yX7_allBits (zws yX7_allBits cX7_allBits 3 (some .int))) := zGV zt719 zt721 zt29 zt36 zt722
theorem gV_L_93 : GoodIn zW (wsV RL 93 RX7 yX7_found (zws yX7_found cX7_found 2 (some .int))) := zGV zt723 zt724 zt725 zt36 zt726
theorem gV_L_97 : GoodIn zW (wsV RL 97 RX7 yX7_distance (zws yX7_distance cX7_distance 3 (some .int))) := zGV zt727 zt728 zt729 zt36 zt730
theorem gV_L_101 : GoodIn zW (wsV RL 101 RX7 yX7_peek (zws yX7_peek cX7_peek 2 (some .int))) := zGV zt731 zt732 zt733 zt36 zt734
theorem gV_L_105 : GoodIn zW (wsV RL 105 RX7 yX7_ifIdentified (zws yX7_ifIdentified cX7_ifIdentified 2 (some .int))) := zGV zt735 zt736 zt737 zt36 zt738
theorem gV_L_109 : GoodIn zW (wsV RL 109 RX7 yX7_ifExchanged (zws yX7_ifExchanged cX7_ifExchanged 5 (some .int))) := zGV zt739 zt740 zt741 zt36 zt742
theorem gV_L_114 : GoodIn zW (wsV RL 114 RX7 yX7_bypassed (zws yX7_bypassed cX7_bypassed 4 (some .float))) := zGV zt743 zt744 zt745 zt36 zt746
theorem fl_X1_9 {p s m args meth c cc nL own G} (cx : Cx p s m args meth c cc nL own G) : zFL s args RX1 9 "ScanChain$Chip" "codeLength" "I" := Or.inl (cx.1.2.2.2.2 _ zt60)
theorem fl_X1_15 {p s m args meth c cc nL own G} (cx : Cx p s m args meth c cc nL own G) : zFL s args RX1 15 "ScanChain$Chip" "identity" "I" := Or.inl (cx.1.2.2.2.2 _ zt63)
theorem fl_X1_18 {p s m args meth c cc nL own G} (cx : Cx p s m args meth c cc nL own G) : zFL s args RX1 18 "ScanChain$Chip" "cells" "I" := Or.inl (cx.1.2.2.2.2 _ zt65)
theorem fl_X1_21 {p s m args meth c cc nL own G} (cx : Cx p s m args meth c cc nL own G) : zFL s args RX1 21 "ScanChain$Chip" "pins" "I" := Or.inl (cx.1.2.2.2.2 _ zt66)
theorem fl_X1_24 {p s m args meth c cc nL own G} (cx : Cx p s m args meth c cc nL own G) : zFL s args RX1 24 "ScanChain$Chip" "outputs" "I" := Or.inl (cx.1.2.2.2.2 _ zt67)
theorem fl_X1_27 {p s m args meth c cc nL own G} (cx : Cx p s m args meth c cc nL own G) : zFL s args RX1 27 "ScanChain$Chip" "isBroken" "Z" := Or.inl (cx.1.2.2.2.2 _ zt68)
theorem fl_X1_37 {p s m args meth c cc nL own G} (cx : Cx p s m args meth c cc nL own G) : zFL s args RX1 37 "ScanChain$Chip" "instruction" "I" := Or.inl (cx.1.2.2.2.2 _ zt71)
theorem fl_X1_31 {p s m args meth c cc nL own G} (cx : Cx p s m args meth c cc nL own G) : zFL s args RX1 31 "ScanChain$Chip" "codeRegister" "I" := Or.inl (cx.1.2.2.2.2 _ zt72)
theorem fl_X1_40 {p s m args meth c cc nL own G} (cx : Cx p s m args meth c cc nL own G) : zFL s args RX1 40 "ScanChain$Chip" "dataRegister" "I" := Or.inl (cx.1.2.2.2.2 _ zt74)
theorem fl_X0_11 {p s m args meth c cc nL own G} (cx : Cx p s m args meth c cc nL own G) : zFL s args RX0 11 "ScanChain$Chain" "chips" "[LScanChain$Chip;" := Or.inl (cx.1.2.2.2.2 _ zt94)
theorem fl_X0_18 {p s m args meth c cc nL own G} (cx : Cx p s m args meth c cc nL own G) : zFL s args RX0 18 "ScanChain$Chain" "size" "I" := Or.inl (cx.1.2.2.2.2 _ zt97)
theorem fl_X0_24 {p s m args meth c cc nL own G} (cx : Cx p s m args meth c cc nL own G) : zFL s args RX0 24 "ScanChain$Chain" "state" "I" := Or.inl (cx.1.2.2.2.2 _ zt100)
theorem fl_X0_27 {p s m args meth c cc nL own G} (cx : Cx p s m args meth c cc nL own G) : zFL s args RX0 27 "ScanChain$Chain" "clocks" "I" := Or.inl (cx.1.2.2.2.2 _ zt103)
theorem fl_X0_30 {p s m args meth c cc nL own G} (cx : Cx p s m args meth c cc nL own G) : zFL s args RX0 30 "ScanChain$Chain" "identities" "[I" := Or.inl (cx.1.2.2.2.2 _ zt105)
theorem fl_X0_34 {p s m args meth c cc nL own G} (cx : Cx p s m args meth c cc nL own G) : zFL s args RX0 34 "ScanChain$Chain" "identityCount" "I" := Or.inl (cx.1.2.2.2.2 _ zt107)
theorem fl_X3_11 {p s m args meth c cc nL own G} (cx : Cx p s m args meth c cc nL own G) : zFL s args RX3 11 "ScanChain$History" "records" "[LScanChain$Chain;" := Or.inl (cx.1.2.2.2.2 _ zt133)
theorem fl_X3_18 {p s m args meth c cc nL own G} (cx : Cx p s m args meth c cc nL own G) : zFL s args RX3 18 "ScanChain$History" "size" "I" := Or.inl (cx.1.2.2.2.2 _ zt134)
theorem fl_X5_9 {p s m args meth c cc nL own G} (cx : Cx p s m args meth c cc nL own G) : zFL s args RX5 9 "ScanChain$Script" "characters" "[C" := Or.inl (cx.1.2.2.2.2 _ zt147)
theorem fl_X5_15 {p s m args meth c cc nL own G} (cx : Cx p s m args meth c cc nL own G) : zFL s args RX5 15 "ScanChain$Script" "length" "I" := Or.inl (cx.1.2.2.2.2 _ zt149)
theorem fl_X6_10 {p s m args meth c cc nL own G} (cx : Cx p s m args meth c cc nL own G) : zFL s args RX6 10 "ScanChain" "chain" "LScanChain$Chain;" := Or.inl (cx.1.2.2.2.2 _ zt158)
theorem fl_X6_16 {p s m args meth c cc nL own G} (cx : Cx p s m args meth c cc nL own G) : zFL s args RX6 16 "ScanChain" "trial" "LScanChain$Chain;" := Or.inl (cx.1.2.2.2.2 _ zt159)
theorem fl_X6_19 {p s m args meth c cc nL own G} (cx : Cx p s m args meth c cc nL own G) : zFL s args RX6 19 "ScanChain" "snapshot" "LScanChain$Chain;" := Or.inl (cx.1.2.2.2.2 _ zt160)
theorem fl_X6_22 {p s m args meth c cc nL own G} (cx : Cx p s m args meth c cc nL own G) : zFL s args RX6 22 "ScanChain" "hasSnapshot" "Z" := Or.inl (cx.1.2.2.2.2 _ zt161)
theorem fl_X6_29 {p s m args meth c cc nL own G} (cx : Cx p s m args meth c cc nL own G) : zFL s args RX6 29 "ScanChain" "history" "LScanChain$History;" := Or.inl (cx.1.2.2.2.2 _ zt162)
theorem fl_X6_36 {p s m args meth c cc nL own G} (cx : Cx p s m args meth c cc nL own G) : zFL s args RX6 36 "ScanChain" "script" "LScanChain$Script;" := Or.inl (cx.1.2.2.2.2 _ zt163)
theorem fl_X2_13 {p s m args meth c cc nL own G} (cx : Cx p s m args meth c cc nL own G) : zFL s args RX2 13 "ScanChain$Controller" "NEXT_BY_MODE_0" "[I" := Or.inl (cx.1.2.2.2.2 _ zt321)
theorem fl_X2_17 {p s m args meth c cc nL own G} (cx : Cx p s m args meth c cc nL own G) : zFL s args RX2 17 "ScanChain$Controller" "NEXT_BY_MODE_1" "[I" := Or.inl (cx.1.2.2.2.2 _ zt323)
theorem fl_X7_7 {p s m args meth c cc nL own G} (cx : Cx p s m args meth c cc nL own G) : zFL s args RX7 7 "ScanChainModel" "z" "[I" := Or.inl (cx.1.2.2.2.2 _ zt507)
theorem fl_X7_13 {p s m args meth c cc nL own G} (cx : Cx p s m args meth c cc nL own G) : zFL s args RX7 13 "ScanChainModel" "spare" "[I" := Or.inl (cx.1.2.2.2.2 _ zt508)
theorem fl_X7_16 {p s m args meth c cc nL own G} (cx : Cx p s m args meth c cc nL own G) : zFL s args RX7 16 "ScanChainModel" "past" "[I" := Or.inl (cx.1.2.2.2.2 _ zt509)
theorem fl_X7_32 {p s m args meth c cc nL own G} (cx : Cx p s m args meth c cc nL own G) : zFL s args RX7 32 "ScanChainModel" "states" "I" := Or.inl (cx.1.2.2.2.2 _ zt510)
theorem fl_X7_19 {p s m args meth c cc nL own G} (cx : Cx p s m args meth c cc nL own G) : zFL s args RX7 19 "ScanChainModel" "kept" "[I" := Or.inl (cx.1.2.2.2.2 _ zt511)
theorem fl_X7_40 {p s m args meth c cc nL own G} (cx : Cx p s m args meth c cc nL own G) : zFL s args RX7 40 "ScanChainModel" "isKept" "Z" := Or.inl (cx.1.2.2.2.2 _ zt512)
theorem fl_X7_22 {p s m args meth c cc nL own G} (cx : Cx p s m args meth c cc nL own G) : zFL s args RX7 22 "ScanChainModel" "text" "[I" := Or.inl (cx.1.2.2.2.2 _ zt513)
theorem fl_X7_131 {p s m args meth c cc nL own G} (cx : Cx p s m args meth c cc nL own G) : zFL s args RX7 131 "ScanChainModel" "length" "I" := Or.inl (cx.1.2.2.2.2 _ zt514)
theorem fl_X7_25 {p s m args meth c cc nL own G} (cx : Cx p s m args meth c cc nL own G) : zFL s args RX7 25 "ScanChainModel" "far" "[I" := Or.inl (cx.1.2.2.2.2 _ zt515)
theorem ml_X0_17 {p s m args meth c cc nL own G} (cx : Cx p s m args meth c cc nL own G) : va_Nw (.methodLinkNest RX0 17 yX1_init "ScanChain") s := cx.2.1.2.1 _ (List.mem_of_getElem? (i := 0) rfl)
theorem fl_X4_54 {p s m args meth c cc nL own G} (cx : Cx p s m args meth c cc nL own G) : zFL s args RX4 54 "ScanChain$Chip" "codeLength" "I" := Or.inr ⟨_, va_Nw.use rfl (cx.2.1.2.1 _ (List.mem_of_getElem? (i := 1) rfl))⟩
theorem fl_X0_56 {p s m args meth c cc nL own G} (cx : Cx p s m args meth c cc nL own G) : zFL s args RX0 56 "ScanChain$Chip" "codeLength" "I" := Or.inr ⟨_, va_Nw.use rfl (cx.2.1.2.1 _ (List.mem_of_getElem? (i := 2) rfl))⟩
theorem fl_X0_45 {p s m args meth c cc nL own G} (cx : Cx p s m args meth c cc nL own G) : zFL s args RX0 45 "ScanChain$Chip" "identity" "I" := Or.inr ⟨_, va_Nw.use rfl (cx.2.1.2.1 _ (List.mem_of_getElem? (i := 3) rfl))⟩
theorem fl_X6_76 {p s m args meth c cc nL own G} (cx : Cx p s m args meth c cc nL own G) : zFL s args RX6 76 "ScanChain$Chip" "isBroken" "Z" := Or.inr ⟨_, va_Nw.use rfl (cx.2.1.2.1 _ (List.mem_of_getElem? (i := 4) rfl))⟩
theorem fl_X0_48 {p s m args meth c cc nL own G} (cx : Cx p s m args meth c cc nL own G) : zFL s args RX0 48 "ScanChain$Chip" "isBroken" "Z" := Or.inr ⟨_, va_Nw.use rfl (cx.2.1.2.1 _ (List.mem_of_getElem? (i := 5) rfl))⟩
theorem fl_X0_96 {p s m args meth c cc nL own G} (cx : Cx p s m args meth c cc nL own G) : zFL s args RX0 96 "ScanChain$Chip" "codeRegister" "I" := Or.inr ⟨_, va_Nw.use rfl (cx.2.1.2.1 _ (List.mem_of_getElem? (i := 6) rfl))⟩
theorem fl_X6_67 {p s m args meth c cc nL own G} (cx : Cx p s m args meth c cc nL own G) : zFL s args RX6 67 "ScanChain$Chain" "chips" "[LScanChain$Chip;" := Or.inr ⟨_, va_Nw.use rfl (cx.2.1.2.1 _ (List.mem_of_getElem? (i := 7) rfl))⟩
theorem fl_X4_50 {p s m args meth c cc nL own G} (cx : Cx p s m args meth c cc nL own G) : zFL s args RX4 50 "ScanChain$Chain" "chips" "[LScanChain$Chip;" := Or.inr ⟨_, va_Nw.use rfl (cx.2.1.2.1 _ (List.mem_of_getElem? (i := 8) rfl))⟩
theorem fl_X6_48 {p s m args meth c cc nL own G} (cx : Cx p s m args meth c cc nL own G) : zFL s args RX6 48 "ScanChain$Chain" "size" "I" := Or.inr ⟨_, va_Nw.use rfl (cx.2.1.2.1 _ (List.mem_of_getElem? (i := 9) rfl))⟩
theorem fl_X4_47 {p s m args meth c cc nL own G} (cx : Cx p s m args meth c cc nL own G) : zFL s args RX4 47 "ScanChain$Chain" "size" "I" := Or.inr ⟨_, va_Nw.use rfl (cx.2.1.2.1 _ (List.mem_of_getElem? (i := 10) rfl))⟩
theorem fl_X4_9 {p s m args meth c cc nL own G} (cx : Cx p s m args meth c cc nL own G) : zFL s args RX4 9 "ScanChain$Chain" "state" "I" := Or.inr ⟨_, va_Nw.use rfl (cx.2.1.2.1 _ (List.mem_of_getElem? (i := 11) rfl))⟩
theorem fl_X6_141 {p s m args meth c cc nL own G} (cx : Cx p s m args meth c cc nL own G) : zFL s args RX6 141 "ScanChain$Chain" "state" "I" := Or.inr ⟨_, va_Nw.use rfl (cx.2.1.2.1 _ (List.mem_of_getElem? (i := 12) rfl))⟩
theorem fl_X6_144 {p s m args meth c cc nL own G} (cx : Cx p s m args meth c cc nL own G) : zFL s args RX6 144 "ScanChain$Chain" "clocks" "I" := Or.inr ⟨_, va_Nw.use rfl (cx.2.1.2.1 _ (List.mem_of_getElem? (i := 13) rfl))⟩
theorem fl_X6_157 {p s m args meth c cc nL own G} (cx : Cx p s m args meth c cc nL own G) : zFL s args RX6 157 "ScanChain$Chain" "identities" "[I" := Or.inr ⟨_, va_Nw.use rfl (cx.2.1.2.1 _ (List.mem_of_getElem? (i := 14) rfl))⟩
theorem fl_X4_44 {p s m args meth c cc nL own G} (cx : Cx p s m args meth c cc nL own G) : zFL s args RX4 44 "ScanChain$Chain" "identityCount" "I" := Or.inr ⟨_, va_Nw.use rfl (cx.2.1.2.1 _ (List.mem_of_getElem? (i := 15) rfl))⟩
theorem fl_X6_153 {p s m args meth c cc nL own G} (cx : Cx p s m args meth c cc nL own G) : zFL s args RX6 153 "ScanChain$Chain" "identityCount" "I" := Or.inr ⟨_, va_Nw.use rfl (cx.2.1.2.1 _ (List.mem_of_getElem? (i := 16) rfl))⟩
theorem fl_X6_156 {p s m args meth c cc nL own G} (cx : Cx p s m args meth c cc nL own G) : zFL s args RX6 156 "ScanChain$History" "size" "I" := Or.inr ⟨_, va_Nw.use rfl (cx.2.1.2.1 _ (List.mem_of_getElem? (i := 17) rfl))⟩
theorem fl_X4_76 {p s m args meth c cc nL own G} (cx : Cx p s m args meth c cc nL own G) : zFL s args RX4 76 "ScanChain$Script" "characters" "[C" := Or.inr ⟨_, va_Nw.use rfl (cx.2.1.2.1 _ (List.mem_of_getElem? (i := 18) rfl))⟩
theorem fl_X4_71 {p s m args meth c cc nL own G} (cx : Cx p s m args meth c cc nL own G) : zFL s args RX4 71 "ScanChain$Script" "length" "I" := Or.inr ⟨_, va_Nw.use rfl (cx.2.1.2.1 _ (List.mem_of_getElem? (i := 19) rfl))⟩
theorem fl_X6_116 {p s m args meth c cc nL own G} (cx : Cx p s m args meth c cc nL own G) : zFL s args RX6 116 "ScanChain$Script" "length" "I" := Or.inr ⟨_, va_Nw.use rfl (cx.2.1.2.1 _ (List.mem_of_getElem? (i := 20) rfl))⟩
theorem ml_X1_43 {p s m args meth c cc nL own G} (cx : Cx p s m args meth c cc nL own G) : va_Nw (.methodLinkNest RX1 43 yX6_allOnes "ScanChain") s := cx.2.1.2.1 _ (List.mem_of_getElem? (i := 21) rfl)
theorem ml_X4_59 {p s m args meth c cc nL own G} (cx : Cx p s m args meth c cc nL own G) : va_Nw (.methodLinkNest RX4 59 yX6_allOnes "ScanChain") s := cx.2.1.2.1 _ (List.mem_of_getElem? (i := 22) rfl)
