theorem zt0 : Cond.selects RX3 yX3_dropOldest yX3_dropOldest ∈ zW := zm 0 (by decide +kernel) (by decide +kernel)
theorem zt1 : Cond.selects RX0 yX0_work yX0_work ∈ zW := zm 1 (by decide +kernel) (by decide +kernel)
theorem zt2 : Cond.selects RX0 yX0_shiftAllData yX0_shiftAllData ∈ zW := zm 2 (by decide +kernel) (by decide +kernel)
theorem zt3 : Cond.selects RX0 yX0_shiftAllCodes yX0_shiftAllCodes ∈ zW := zm 3 (by decide +kernel) (by decide +kernel)
theorem zt4 : Cond.selects RX0 yX0_workOf yX0_workOf ∈ zW := zm 4 (by decide +kernel) (by decide +kernel)
theorem zt5 : Cond.selects RX6 yX6_exchangeError yX6_exchangeError ∈ zW := zm 5 (by decide +kernel) (by decide +kernel)
theorem zt6 : Cond.selects RX7 yX7_record yX7_record ∈ zW := zm 6 (by decide +kernel) (by decide +kernel)
theorem zt7 : Cond.selects RX7 yX7_lay yX7_lay ∈ zW := zm 7 (by decide +kernel) (by decide +kernel)
theorem zt8 : Cond.selects RX7 yX7_giveFirst yX7_giveFirst ∈ zW := zm 8 (by decide +kernel) (by decide +kernel)
theorem zt9 : Cond.selects RX7 yX7_of yX7_of ∈ zW := zm 9 (by decide +kernel) (by decide +kernel)
theorem zt10 : Cond.selects RX7 yX7_give yX7_give ∈ zW := zm 10 (by decide +kernel) (by decide +kernel)
theorem zt11 : Cond.selects RX7 yX7_isChip yX7_isChip ∈ zW := zm 11 (by decide +kernel) (by decide +kernel)
theorem zt12 : Cond.selects RX7 yX7_sum yX7_sum ∈ zW := zm 12 (by decide +kernel) (by decide +kernel)
theorem zt13 : Cond.selects RX7 yX7_clockNow yX7_clockNow ∈ zW := zm 13 (by decide +kernel) (by decide +kernel)
theorem zt14 : Cond.selects RX7 yX7_output yX7_output ∈ zW := zm 14 (by decide +kernel) (by decide +kernel)
theorem zt15 : Cond.selects RX7 yX7_isShifting yX7_isShifting ∈ zW := zm 15 (by decide +kernel) (by decide +kernel)
theorem zt16 : Cond.selects RX7 yX7_outputOf yX7_outputOf ∈ zW := zm 16 (by decide +kernel) (by decide +kernel)
theorem zt17 : Cond.selects RX7 yX7_shifted yX7_shifted ∈ zW := zm 17 (by decide +kernel) (by decide +kernel)
theorem zt18 : Cond.selects RX7 yX7_shift yX7_shift ∈ zW := zm 18 (by decide +kernel) (by decide +kernel)
theorem zt19 : Cond.selects RX7 yX7_bits yX7_bits ∈ zW := zm 19 (by decide +kernel) (by decide +kernel)
theorem zt20 : Cond.selects RX7 yX7_selectsCells yX7_selectsCells ∈ zW := zm 20 (by decide +kernel) (by decide +kernel)
theorem zt21 : Cond.selects RX7 yX7_selectsIdentity yX7_selectsIdentity ∈ zW := zm 21 (by decide +kernel) (by decide +kernel)
theorem zt22 : Cond.selects RX7 yX7_work yX7_work ∈ zW := zm 22 (by decide +kernel) (by decide +kernel)
theorem zt23 : Cond.selects RX7 yX7_moveNow yX7_moveNow ∈ zW := zm 23 (by decide +kernel) (by decide +kernel)
theorem zt24 : Cond.selects RX7 yX7_measure yX7_measure ∈ zW := zm 24 (by decide +kernel) (by decide +kernel)
theorem zt25 : Cond.selects RX7 yX7_identifyNow yX7_identifyNow ∈ zW := zm 25 (by decide +kernel) (by decide +kernel)
theorem zt26 : Cond.selects RX7 yX7_readOne yX7_readOne ∈ zW := zm 26 (by decide +kernel) (by decide +kernel)
theorem zt27 : Cond.selects RX7 yX7_clockBits yX7_clockBits ∈ zW := zm 27 (by decide +kernel) (by decide +kernel)
theorem zt28 : Cond.selects RX7 yX7_whyNotExchange yX7_whyNotExchange ∈ zW := zm 28 (by decide +kernel) (by decide +kernel)
theorem zt29 : Cond.selects RX7 yX7_exchangeNow yX7_exchangeNow ∈ zW := zm 29 (by decide +kernel) (by decide +kernel)
theorem zt30 : Cond.selects RX7 yX7_allBits yX7_allBits ∈ zW := zm 30 (by decide +kernel) (by decide +kernel)
theorem zt31 : Cond.initialized RL ∈ zW := zm 31 (by decide +kernel) (by decide +kernel)
theorem zt32 : Cond.initialized RX6 ∈ zW := zm 32 (by decide +kernel) (by decide +kernel)
theorem zt33 : Cond.initialized RX0 ∈ zW := zm 33 (by decide +kernel) (by decide +kernel)
theorem zt34 : Cond.initialized RX1 ∈ zW := zm 34 (by decide +kernel) (by decide +kernel)
theorem zt35 : Cond.initialized RX3 ∈ zW := zm 35 (by decide +kernel) (by decide +kernel)
theorem zt36 : Cond.initialized RX5 ∈ zW := zm 36 (by decide +kernel) (by decide +kernel)
theorem zt37 : Cond.initialized RX7 ∈ zW := zm 37 (by decide +kernel) (by decide +kernel)
theorem zt38 : Cond.initialized RX2 ∈ zW := zm 38 (by decide +kernel) (by decide +kernel)
theorem zt39 : Cond.initialized RX4 ∈ zW := zm 39 (by decide +kernel) (by decide +kernel)
theorem zt40 : Cond.classLink RL 7 RX6 ∈ zW := zm 40 (by decide +kernel) (by decide +kernel)
theorem zt41 : Cond.instantiable RX6 6 ∈ zW := zm 41 (by decide +kernel) (by decide +kernel)
theorem zt42 : Cond.methodLink RL 9 yX6_init ∈ zW := zm 42 (by decide +kernel) (by decide +kernel)
theorem zt43 : Cond.instanceMethod yX6_init ∈ zW := zm 43 (by decide +kernel) (by decide +kernel)
theorem zt44 : Cond.code yX6_init cX6_init 1 none ∈ zW := zm 44 (by decide +kernel) (by decide +kernel)
theorem zt45 : Cond.methodLink RX6 1 objectInit ∈ zW := zm 45 (by decide +kernel) (by decide +kernel)
theorem zt46 : Cond.instanceMethod objectInit ∈ zW := zm 46 (by decide +kernel) (by decide +kernel)
theorem zt47 : Cond.code objectInit ⟨#[0xb1]⟩ 1 none ∈ zW := zm 47 (by decide +kernel) (by decide +kernel)
theorem zt48 : Cond.classLink RX6 7 RX0 ∈ zW := zm 48 (by decide +kernel) (by decide +kernel)
theorem zt49 : Cond.instantiable RX0 6 ∈ zW := zm 49 (by decide +kernel) (by decide +kernel)
theorem zt50 : Cond.methodLink RX6 9 yX0_init ∈ zW := zm 50 (by decide +kernel) (by decide +kernel)
theorem zt51 : Cond.instanceMethod yX0_init ∈ zW := zm 51 (by decide +kernel) (by decide +kernel)
theorem zt52 : Cond.code yX0_init cX0_init 2 none ∈ zW := zm 52 (by decide +kernel) (by decide +kernel)
theorem zt53 : Cond.methodLink RX0 3 objectInit ∈ zW := zm 53 (by decide +kernel) (by decide +kernel)
theorem zt54 : Cond.classLink RX0 9 RX1 ∈ zW := zm 54 (by decide +kernel) (by decide +kernel)
theorem zt56 : Cond.instantiable RX1 9 ∈ zW := zm 56 (by decide +kernel) (by decide +kernel)
theorem zt58 : Cond.instanceMethod yX1_init ∈ zW := zm 58 (by decide +kernel) (by decide +kernel)
theorem zt59 : Cond.code yX1_init cX1_init 1 none ∈ zW := zm 59 (by decide +kernel) (by decide +kernel)
theorem zt60 : Cond.methodLink RX1 3 objectInit ∈ zW := zm 60 (by decide +kernel) (by decide +kernel)
theorem zt61 : Cond.fieldLink RX1 9 "ScanChain$Chip" "codeLength" "I" ∈ zW := zm 61 (by decide +kernel) (by decide +kernel)
theorem zt64 : Cond.fieldLink RX1 15 "ScanChain$Chip" "identity" "I" ∈ zW := zm 64 (by decide +kernel) (by decide +kernel)
theorem zt66 : Cond.fieldLink RX1 18 "ScanChain$Chip" "cells" "I" ∈ zW := zm 66 (by decide +kernel) (by decide +kernel)
theorem zt67 : Cond.fieldLink RX1 21 "ScanChain$Chip" "pins" "I" ∈ zW := zm 67 (by decide +kernel) (by decide +kernel)
theorem zt68 : Cond.fieldLink RX1 24 "ScanChain$Chip" "outputs" "I" ∈ zW := zm 68 (by decide +kernel) (by decide +kernel)
theorem zt69 : Cond.fieldLink RX1 27 "ScanChain$Chip" "isBroken" "Z" ∈ zW := zm 69 (by decide +kernel) (by decide +kernel)
theorem zt72 : Cond.fieldLink RX1 37 "ScanChain$Chip" "instruction" "I" ∈ zW := zm 72 (by decide +kernel) (by decide +kernel)
theorem zt73 : Cond.fieldLink RX1 31 "ScanChain$Chip" "codeRegister" "I" ∈ zW := zm 73 (by decide +kernel) (by decide +kernel)
theorem zt75 : Cond.fieldLink RX1 40 "ScanChain$Chip" "dataRegister" "I" ∈ zW := zm 75 (by decide +kernel) (by decide +kernel)
theorem zt95 : Cond.fieldLink RX0 11 "ScanChain$Chain" "chips" "[LScanChain$Chip;" ∈ zW := zm 95 (by decide +kernel) (by decide +kernel)
theorem zt98 : Cond.fieldLink RX0 18 "ScanChain$Chain" "size" "I" ∈ zW := zm 98 (by decide +kernel) (by decide +kernel)
theorem zt101 : Cond.fieldLink RX0 24 "ScanChain$Chain" "state" "I" ∈ zW := zm 101 (by decide +kernel) (by decide +kernel)
theorem zt104 : Cond.fieldLink RX0 27 "ScanChain$Chain" "clocks" "I" ∈ zW := zm 104 (by decide +kernel) (by decide +kernel)
theorem zt106 : Cond.fieldLink RX0 30 "ScanChain$Chain" "identities" "[I" ∈ zW := zm 106 (by decide +kernel) (by decide +kernel)
theorem zt108 : Cond.fieldLink RX0 34 "ScanChain$Chain" "identityCount" "I" ∈ zW := zm 108 (by decide +kernel) (by decide +kernel)
theorem zt124 : Cond.arrayClass .int ∈ zW := zm 124 (by decide +kernel) (by decide +kernel)
theorem zt125 : Cond.classLink RX6 26 RX3 ∈ zW := zm 125 (by decide +kernel) (by decide +kernel)
theorem zt126 : Cond.instantiable RX3 2 ∈ zW := zm 126 (by decide +kernel) (by decide +kernel)
theorem zt127 : Cond.methodLink RX6 28 yX3_init ∈ zW := zm 127 (by decide +kernel) (by decide +kernel)
theorem zt128 : Cond.instanceMethod yX3_init ∈ zW := zm 128 (by decide +kernel) (by decide +kernel)
theorem zt129 : Cond.code yX3_init cX3_init 2 none ∈ zW := zm 129 (by decide +kernel) (by decide +kernel)
theorem zt130 : Cond.methodLink RX3 3 objectInit ∈ zW := zm 130 (by decide +kernel) (by decide +kernel)
theorem zt131 : Cond.classLink RX3 9 RX0 ∈ zW := zm 131 (by decide +kernel) (by decide +kernel)
theorem zt133 : Cond.methodLink RX3 17 yX0_init ∈ zW := zm 133 (by decide +kernel) (by decide +kernel)
theorem zt134 : Cond.fieldLink RX3 11 "ScanChain$History" "records" "[LScanChain$Chain;" ∈ zW := zm 134 (by decide +kernel) (by decide +kernel)
theorem zt135 : Cond.fieldLink RX3 18 "ScanChain$History" "size" "I" ∈ zW := zm 135 (by decide +kernel) (by decide +kernel)
theorem zt142 : Cond.classLink RX6 33 RX5 ∈ zW := zm 142 (by decide +kernel) (by decide +kernel)
theorem zt143 : Cond.instantiable RX5 2 ∈ zW := zm 143 (by decide +kernel) (by decide +kernel)
theorem zt144 : Cond.methodLink RX6 35 yX5_init ∈ zW := zm 144 (by decide +kernel) (by decide +kernel)
theorem zt145 : Cond.instanceMethod yX5_init ∈ zW := zm 145 (by decide +kernel) (by decide +kernel)
theorem zt146 : Cond.code yX5_init cX5_init 1 none ∈ zW := zm 146 (by decide +kernel) (by decide +kernel)
theorem zt147 : Cond.methodLink RX5 3 objectInit ∈ zW := zm 147 (by decide +kernel) (by decide +kernel)
theorem zt148 : Cond.fieldLink RX5 9 "ScanChain$Script" "characters" "[C" ∈ zW := zm 148 (by decide +kernel) (by decide +kernel)
theorem zt150 : Cond.fieldLink RX5 15 "ScanChain$Script" "length" "I" ∈ zW := zm 150 (by decide +kernel) (by decide +kernel)
theorem zt158 : Cond.arrayClass .char ∈ zW := zm 158 (by decide +kernel) (by decide +kernel)
theorem zt159 : Cond.fieldLink RX6 10 "ScanChain" "chain" "LScanChain$Chain;" ∈ zW := zm 159 (by decide +kernel) (by decide +kernel)
theorem zt160 : Cond.fieldLink RX6 16 "ScanChain" "trial" "LScanChain$Chain;" ∈ zW := zm 160 (by decide +kernel) (by decide +kernel)
theorem zt161 : Cond.fieldLink RX6 19 "ScanChain" "snapshot" "LScanChain$Chain;" ∈ zW := zm 161 (by decide +kernel) (by decide +kernel)
theorem zt162 : Cond.fieldLink RX6 22 "ScanChain" "hasSnapshot" "Z" ∈ zW := zm 162 (by decide +kernel) (by decide +kernel)
theorem zt163 : Cond.fieldLink RX6 29 "ScanChain" "history" "LScanChain$History;" ∈ zW := zm 163 (by decide +kernel) (by decide +kernel)
theorem zt164 : Cond.fieldLink RX6 36 "ScanChain" "script" "LScanChain$Script;" ∈ zW := zm 164 (by decide +kernel) (by decide +kernel)
theorem zt178 : Cond.methodLink RL 13 yX6_add ∈ zW := zm 178 (by decide +kernel) (by decide +kernel)
theorem zt179 : Cond.instanceMethod yX6_add ∈ zW := zm 179 (by decide +kernel) (by decide +kernel)
theorem zt180 : Cond.selects RX6 yX6_add yX6_add ∈ zW := zm 180 (by decide +kernel) (by decide +kernel)
theorem zt181 : Cond.code yX6_add cX6_add 4 (some .int) ∈ zW := zm 181 (by decide +kernel) (by decide +kernel)
theorem zt182 : Cond.methodLink RX6 40 yX6_isWithin ∈ zW := zm 182 (by decide +kernel) (by decide +kernel)
theorem zt183 : Cond.static yX6_isWithin ∈ zW := zm 183 (by decide +kernel) (by decide +kernel)
theorem zt184 : Cond.code yX6_isWithin cX6_isWithin 3 (some .boolean) ∈ zW := zm 184 (by decide +kernel) (by decide +kernel)
theorem zt185 : Cond.methodLink RX6 44 yX6_isIdentity ∈ zW := zm 185 (by decide +kernel) (by decide +kernel)
theorem zt186 : Cond.static yX6_isIdentity ∈ zW := zm 186 (by decide +kernel) (by decide +kernel)
theorem zt187 : Cond.code yX6_isIdentity cX6_isIdentity 1 (some .boolean) ∈ zW := zm 187 (by decide +kernel) (by decide +kernel)
theorem zt188 : Cond.methodLink RX6 52 yX3_record ∈ zW := zm 188 (by decide +kernel) (by decide +kernel)
theorem zt189 : Cond.instanceMethod yX3_record ∈ zW := zm 189 (by decide +kernel) (by decide +kernel)
theorem zt190 : Cond.selects RX3 yX3_record yX3_record ∈ zW := zm 190 (by decide +kernel) (by decide +kernel)
theorem zt191 : Cond.code yX3_record cX3_record 2 none ∈ zW := zm 191 (by decide +kernel) (by decide +kernel)
theorem zt192 : Cond.methodLink RX3 22 yX3_dropOldest ∈ zW := zm 192 (by decide +kernel) (by decide +kernel)
theorem zt194 : Cond.instanceMethod yX3_dropOldest ∈ zW := zm 194 (by decide +kernel) (by decide +kernel)
theorem zt195 : Cond.code yX3_dropOldest cX3_dropOldest 3 none ∈ zW := zm 195 (by decide +kernel) (by decide +kernel)
theorem zt196 : Cond.methodLink RX3 25 yX0_becomeCopyOf ∈ zW := zm 196 (by decide +kernel) (by decide +kernel)
theorem zt197 : Cond.instanceMethod yX0_becomeCopyOf ∈ zW := zm 197 (by decide +kernel) (by decide +kernel)
theorem zt198 : Cond.selects RX0 yX0_becomeCopyOf yX0_becomeCopyOf ∈ zW := zm 198 (by decide +kernel) (by decide +kernel)
theorem zt199 : Cond.code yX0_becomeCopyOf cX0_becomeCopyOf 3 none ∈ zW := zm 199 (by decide +kernel) (by decide +kernel)
theorem zt200 : Cond.methodLink RX0 37 yX1_becomeCopyOf ∈ zW := zm 200 (by decide +kernel) (by decide +kernel)
theorem zt201 : Cond.instanceMethod yX1_becomeCopyOf ∈ zW := zm 201 (by decide +kernel) (by decide +kernel)
theorem zt202 : Cond.selects RX1 yX1_becomeCopyOf yX1_becomeCopyOf ∈ zW := zm 202 (by decide +kernel) (by decide +kernel)
theorem zt203 : Cond.code yX1_becomeCopyOf cX1_becomeCopyOf 2 none ∈ zW := zm 203 (by decide +kernel) (by decide +kernel)
theorem zt204 : Cond.methodLink RX6 56 yX0_putBehind ∈ zW := zm 204 (by decide +kernel) (by decide +kernel)
theorem zt205 : Cond.instanceMethod yX0_putBehind ∈ zW := zm 205 (by decide +kernel) (by decide +kernel)
theorem zt206 : Cond.selects RX0 yX0_putBehind yX0_putBehind ∈ zW := zm 206 (by decide +kernel) (by decide +kernel)
theorem zt207 : Cond.code yX0_putBehind cX0_putBehind 5 (some .int) ∈ zW := zm 207 (by decide +kernel) (by decide +kernel)
theorem zt208 : Cond.methodLink RX0 41 yX1_beNew ∈ zW := zm 208 (by decide +kernel) (by decide +kernel)
theorem zt209 : Cond.instanceMethod yX1_beNew ∈ zW := zm 209 (by decide +kernel) (by decide +kernel)
theorem zt210 : Cond.selects RX1 yX1_beNew yX1_beNew ∈ zW := zm 210 (by decide +kernel) (by decide +kernel)
theorem zt211 : Cond.code yX1_beNew cX1_beNew 4 none ∈ zW := zm 211 (by decide +kernel) (by decide +kernel)
theorem zt212 : Cond.methodLink RX1 34 yX1_giveFirstInstruction ∈ zW := zm 212 (by decide +kernel) (by decide +kernel)
theorem zt213 : Cond.instanceMethod yX1_giveFirstInstruction ∈ zW := zm 213 (by decide +kernel) (by decide +kernel)
theorem zt214 : Cond.selects RX1 yX1_giveFirstInstruction yX1_giveFirstInstruction ∈ zW := zm 214 (by decide +kernel) (by decide +kernel)
theorem zt215 : Cond.code yX1_giveFirstInstruction cX1_giveFirstInstruction 1 none ∈ zW := zm 215 (by decide +kernel) (by decide +kernel)
theorem zt217 : Cond.static yX6_allOnes ∈ zW := zm 217 (by decide +kernel) (by decide +kernel)
theorem zt218 : Cond.code yX6_allOnes cX6_allOnes 1 (some .int) ∈ zW := zm 218 (by decide +kernel) (by decide +kernel)
theorem zt219 : Cond.methodLink RX1 54 yX1_giveInstruction ∈ zW := zm 219 (by decide +kernel) (by decide +kernel)
theorem zt220 : Cond.instanceMethod yX1_giveInstruction ∈ zW := zm 220 (by decide +kernel) (by decide +kernel)
theorem zt221 : Cond.selects RX1 yX1_giveInstruction yX1_giveInstruction ∈ zW := zm 221 (by decide +kernel) (by decide +kernel)
theorem zt222 : Cond.code yX1_giveInstruction cX1_giveInstruction 2 none ∈ zW := zm 222 (by decide +kernel) (by decide +kernel)
theorem zt223 : Cond.methodLink RL 18 yX6_take ∈ zW := zm 223 (by decide +kernel) (by decide +kernel)
theorem zt224 : Cond.instanceMethod yX6_take ∈ zW := zm 224 (by decide +kernel) (by decide +kernel)
theorem zt225 : Cond.selects RX6 yX6_take yX6_take ∈ zW := zm 225 (by decide +kernel) (by decide +kernel)
theorem zt226 : Cond.code yX6_take cX6_take 2 (some .int) ∈ zW := zm 226 (by decide +kernel) (by decide +kernel)
theorem zt227 : Cond.methodLink RX6 60 yX0_has ∈ zW := zm 227 (by decide +kernel) (by decide +kernel)
theorem zt228 : Cond.instanceMethod yX0_has ∈ zW := zm 228 (by decide +kernel) (by decide +kernel)
theorem zt229 : Cond.selects RX0 yX0_has yX0_has ∈ zW := zm 229 (by decide +kernel) (by decide +kernel)
theorem zt230 : Cond.code yX0_has cX0_has 2 (some .boolean) ∈ zW := zm 230 (by decide +kernel) (by decide +kernel)
theorem zt231 : Cond.methodLink RX6 63 yX0_takeOut ∈ zW := zm 231 (by decide +kernel) (by decide +kernel)
theorem zt232 : Cond.instanceMethod yX0_takeOut ∈ zW := zm 232 (by decide +kernel) (by decide +kernel)
theorem zt233 : Cond.selects RX0 yX0_takeOut yX0_takeOut ∈ zW := zm 233 (by decide +kernel) (by decide +kernel)
theorem zt234 : Cond.code yX0_takeOut cX0_takeOut 4 (some .int) ∈ zW := zm 234 (by decide +kernel) (by decide +kernel)
theorem zt235 : Cond.methodLink RL 23 yX6_setPins ∈ zW := zm 235 (by decide +kernel) (by decide +kernel)
theorem zt236 : Cond.instanceMethod yX6_setPins ∈ zW := zm 236 (by decide +kernel) (by decide +kernel)
theorem zt237 : Cond.selects RX6 yX6_setPins yX6_setPins ∈ zW := zm 237 (by decide +kernel) (by decide +kernel)
theorem zt238 : Cond.code yX6_setPins cX6_setPins 3 (some .int) ∈ zW := zm 238 (by decide +kernel) (by decide +kernel)
theorem zt239 : Cond.methodLink RX6 71 yX1_changePins ∈ zW := zm 239 (by decide +kernel) (by decide +kernel)
theorem zt240 : Cond.instanceMethod yX1_changePins ∈ zW := zm 240 (by decide +kernel) (by decide +kernel)
theorem zt241 : Cond.selects RX1 yX1_changePins yX1_changePins ∈ zW := zm 241 (by decide +kernel) (by decide +kernel)
theorem zt242 : Cond.code yX1_changePins cX1_changePins 3 (some .int) ∈ zW := zm 242 (by decide +kernel) (by decide +kernel)
theorem zt243 : Cond.methodLink RL 28 yX6_breakChip ∈ zW := zm 243 (by decide +kernel) (by decide +kernel)
theorem zt244 : Cond.instanceMethod yX6_breakChip ∈ zW := zm 244 (by decide +kernel) (by decide +kernel)
theorem zt245 : Cond.selects RX6 yX6_breakChip yX6_breakChip ∈ zW := zm 245 (by decide +kernel) (by decide +kernel)
theorem zt246 : Cond.code yX6_breakChip cX6_breakChip 3 (some .int) ∈ zW := zm 246 (by decide +kernel) (by decide +kernel)
theorem zt247 : Cond.methodLink RX6 79 yX0_brokenChips ∈ zW := zm 247 (by decide +kernel) (by decide +kernel)
theorem zt248 : Cond.instanceMethod yX0_brokenChips ∈ zW := zm 248 (by decide +kernel) (by decide +kernel)
theorem zt249 : Cond.selects RX0 yX0_brokenChips yX0_brokenChips ∈ zW := zm 249 (by decide +kernel) (by decide +kernel)
theorem zt250 : Cond.code yX0_brokenChips cX0_brokenChips 3 (some .int) ∈ zW := zm 250 (by decide +kernel) (by decide +kernel)
theorem zt251 : Cond.methodLink RL 33 yX6_clock ∈ zW := zm 251 (by decide +kernel) (by decide +kernel)
theorem zt252 : Cond.instanceMethod yX6_clock ∈ zW := zm 252 (by decide +kernel) (by decide +kernel)
theorem zt253 : Cond.selects RX6 yX6_clock yX6_clock ∈ zW := zm 253 (by decide +kernel) (by decide +kernel)
theorem zt254 : Cond.code yX6_clock cX6_clock 3 (some .int) ∈ zW := zm 254 (by decide +kernel) (by decide +kernel)
theorem zt255 : Cond.methodLink RX6 83 yX0_tick ∈ zW := zm 255 (by decide +kernel) (by decide +kernel)
theorem zt256 : Cond.instanceMethod yX0_tick ∈ zW := zm 256 (by decide +kernel) (by decide +kernel)
theorem zt257 : Cond.selects RX0 yX0_tick yX0_tick ∈ zW := zm 257 (by decide +kernel) (by decide +kernel)
theorem zt258 : Cond.code yX0_tick cX0_tick 4 (some .int) ∈ zW := zm 258 (by decide +kernel) (by decide +kernel)
theorem zt259 : Cond.methodLink RX0 63 yX0_outputWith ∈ zW := zm 259 (by decide +kernel) (by decide +kernel)
theorem zt260 : Cond.instanceMethod yX0_outputWith ∈ zW := zm 260 (by decide +kernel) (by decide +kernel)
theorem zt261 : Cond.selects RX0 yX0_outputWith yX0_outputWith ∈ zW := zm 261 (by decide +kernel) (by decide +kernel)
theorem zt262 : Cond.code yX0_outputWith cX0_outputWith 3 (some .int) ∈ zW := zm 262 (by decide +kernel) (by decide +kernel)
theorem zt263 : Cond.methodLink RX0 75 yX1_dataOutput ∈ zW := zm 263 (by decide +kernel) (by decide +kernel)
theorem zt264 : Cond.instanceMethod yX1_dataOutput ∈ zW := zm 264 (by decide +kernel) (by decide +kernel)
theorem zt265 : Cond.selects RX1 yX1_dataOutput yX1_dataOutput ∈ zW := zm 265 (by decide +kernel) (by decide +kernel)
theorem zt266 : Cond.code yX1_dataOutput cX1_dataOutput 1 (some .int) ∈ zW := zm 266 (by decide +kernel) (by decide +kernel)
theorem zt267 : Cond.methodLink RX0 78 yX1_codeOutput ∈ zW := zm 267 (by decide +kernel) (by decide +kernel)
theorem zt268 : Cond.instanceMethod yX1_codeOutput ∈ zW := zm 268 (by decide +kernel) (by decide +kernel)
theorem zt269 : Cond.selects RX1 yX1_codeOutput yX1_codeOutput ∈ zW := zm 269 (by decide +kernel) (by decide +kernel)
theorem zt270 : Cond.code yX1_codeOutput cX1_codeOutput 1 (some .int) ∈ zW := zm 270 (by decide +kernel) (by decide +kernel)
theorem zt271 : Cond.methodLink RX0 67 yX0_work ∈ zW := zm 271 (by decide +kernel) (by decide +kernel)
theorem zt273 : Cond.instanceMethod yX0_work ∈ zW := zm 273 (by decide +kernel) (by decide +kernel)
theorem zt274 : Cond.code yX0_work cX0_work 3 none ∈ zW := zm 274 (by decide +kernel) (by decide +kernel)
theorem zt275 : Cond.methodLink RX0 81 yX0_shiftAllData ∈ zW := zm 275 (by decide +kernel) (by decide +kernel)
theorem zt277 : Cond.instanceMethod yX0_shiftAllData ∈ zW := zm 277 (by decide +kernel) (by decide +kernel)
theorem zt278 : Cond.code yX0_shiftAllData cX0_shiftAllData 5 none ∈ zW := zm 278 (by decide +kernel) (by decide +kernel)
theorem zt279 : Cond.methodLink RX0 105 yX1_shiftData ∈ zW := zm 279 (by decide +kernel) (by decide +kernel)
theorem zt280 : Cond.instanceMethod yX1_shiftData ∈ zW := zm 280 (by decide +kernel) (by decide +kernel)
theorem zt281 : Cond.selects RX1 yX1_shiftData yX1_shiftData ∈ zW := zm 281 (by decide +kernel) (by decide +kernel)
theorem zt282 : Cond.code yX1_shiftData cX1_shiftData 2 none ∈ zW := zm 282 (by decide +kernel) (by decide +kernel)
theorem zt283 : Cond.methodLink RX1 58 yX1_dataBits ∈ zW := zm 283 (by decide +kernel) (by decide +kernel)
theorem zt284 : Cond.instanceMethod yX1_dataBits ∈ zW := zm 284 (by decide +kernel) (by decide +kernel)
theorem zt285 : Cond.selects RX1 yX1_dataBits yX1_dataBits ∈ zW := zm 285 (by decide +kernel) (by decide +kernel)
theorem zt286 : Cond.code yX1_dataBits cX1_dataBits 1 (some .int) ∈ zW := zm 286 (by decide +kernel) (by decide +kernel)
theorem zt287 : Cond.methodLink RX1 47 yX1_selectsCells ∈ zW := zm 287 (by decide +kernel) (by decide +kernel)
theorem zt288 : Cond.instanceMethod yX1_selectsCells ∈ zW := zm 288 (by decide +kernel) (by decide +kernel)
theorem zt289 : Cond.selects RX1 yX1_selectsCells yX1_selectsCells ∈ zW := zm 289 (by decide +kernel) (by decide +kernel)
theorem zt290 : Cond.code yX1_selectsCells cX1_selectsCells 1 (some .boolean) ∈ zW := zm 290 (by decide +kernel) (by decide +kernel)
theorem zt291 : Cond.methodLink RX1 51 yX1_selectsIdentity ∈ zW := zm 291 (by decide +kernel) (by decide +kernel)
theorem zt292 : Cond.instanceMethod yX1_selectsIdentity ∈ zW := zm 292 (by decide +kernel) (by decide +kernel)
theorem zt293 : Cond.selects RX1 yX1_selectsIdentity yX1_selectsIdentity ∈ zW := zm 293 (by decide +kernel) (by decide +kernel)
theorem zt294 : Cond.code yX1_selectsIdentity cX1_selectsIdentity 1 (some .boolean) ∈ zW := zm 294 (by decide +kernel) (by decide +kernel)
theorem zt295 : Cond.methodLink RX1 62 yX1_shifted ∈ zW := zm 295 (by decide +kernel) (by decide +kernel)
theorem zt296 : Cond.static yX1_shifted ∈ zW := zm 296 (by decide +kernel) (by decide +kernel)
theorem zt297 : Cond.code yX1_shifted cX1_shifted 3 (some .int) ∈ zW := zm 297 (by decide +kernel) (by decide +kernel)
theorem zt298 : Cond.methodLink RX0 84 yX0_shiftAllCodes ∈ zW := zm 298 (by decide +kernel) (by decide +kernel)
theorem zt300 : Cond.instanceMethod yX0_shiftAllCodes ∈ zW := zm 300 (by decide +kernel) (by decide +kernel)
theorem zt301 : Cond.code yX0_shiftAllCodes cX0_shiftAllCodes 5 none ∈ zW := zm 301 (by decide +kernel) (by decide +kernel)
theorem zt302 : Cond.methodLink RX0 108 yX1_shiftCode ∈ zW := zm 302 (by decide +kernel) (by decide +kernel)
theorem zt303 : Cond.instanceMethod yX1_shiftCode ∈ zW := zm 303 (by decide +kernel) (by decide +kernel)
theorem zt304 : Cond.selects RX1 yX1_shiftCode yX1_shiftCode ∈ zW := zm 304 (by decide +kernel) (by decide +kernel)
theorem zt305 : Cond.code yX1_shiftCode cX1_shiftCode 2 none ∈ zW := zm 305 (by decide +kernel) (by decide +kernel)
theorem zt306 : Cond.methodLink RX0 87 yX0_workOf ∈ zW := zm 306 (by decide +kernel) (by decide +kernel)
theorem zt308 : Cond.instanceMethod yX0_workOf ∈ zW := zm 308 (by decide +kernel) (by decide +kernel)
theorem zt309 : Cond.code yX0_workOf cX0_workOf 2 none ∈ zW := zm 309 (by decide +kernel) (by decide +kernel)
theorem zt310 : Cond.methodLink RX0 90 yX1_giveFirstInstruction ∈ zW := zm 310 (by decide +kernel) (by decide +kernel)
theorem zt311 : Cond.methodLink RX0 93 yX1_captureData ∈ zW := zm 311 (by decide +kernel) (by decide +kernel)
theorem zt312 : Cond.instanceMethod yX1_captureData ∈ zW := zm 312 (by decide +kernel) (by decide +kernel)
theorem zt313 : Cond.selects RX1 yX1_captureData yX1_captureData ∈ zW := zm 313 (by decide +kernel) (by decide +kernel)
theorem zt314 : Cond.code yX1_captureData cX1_captureData 1 none ∈ zW := zm 314 (by decide +kernel) (by decide +kernel)
theorem zt315 : Cond.methodLink RX0 96 yX1_updateData ∈ zW := zm 315 (by decide +kernel) (by decide +kernel)
theorem zt316 : Cond.instanceMethod yX1_updateData ∈ zW := zm 316 (by decide +kernel) (by decide +kernel)
theorem zt317 : Cond.selects RX1 yX1_updateData yX1_updateData ∈ zW := zm 317 (by decide +kernel) (by decide +kernel)
theorem zt318 : Cond.code yX1_updateData cX1_updateData 1 none ∈ zW := zm 318 (by decide +kernel) (by decide +kernel)
theorem zt319 : Cond.methodLink RX0 102 yX1_giveInstruction ∈ zW := zm 319 (by decide +kernel) (by decide +kernel)
theorem zt320 : Cond.methodLink RX0 71 yX2_next ∈ zW := zm 320 (by decide +kernel) (by decide +kernel)
theorem zt321 : Cond.static yX2_next ∈ zW := zm 321 (by decide +kernel) (by decide +kernel)
theorem zt322 : Cond.code yX2_next cX2_next 2 (some .int) ∈ zW := zm 322 (by decide +kernel) (by decide +kernel)
theorem zt323 : Cond.methodLink RX2 9 yX2_isState ∈ zW := zm 323 (by decide +kernel) (by decide +kernel)
theorem zt324 : Cond.static yX2_isState ∈ zW := zm 324 (by decide +kernel) (by decide +kernel)
theorem zt325 : Cond.code yX2_isState cX2_isState 1 (some .boolean) ∈ zW := zm 325 (by decide +kernel) (by decide +kernel)
theorem zt326 : Cond.fieldLink RX2 13 "ScanChain$Controller" "NEXT_BY_MODE_0" "[I" ∈ zW := zm 326 (by decide +kernel) (by decide +kernel)
theorem zt328 : Cond.fieldLink RX2 17 "ScanChain$Controller" "NEXT_BY_MODE_1" "[I" ∈ zW := zm 328 (by decide +kernel) (by decide +kernel)
theorem zt330 : Cond.methodLink RL 37 yX6_move ∈ zW := zm 330 (by decide +kernel) (by decide +kernel)
theorem zt331 : Cond.instanceMethod yX6_move ∈ zW := zm 331 (by decide +kernel) (by decide +kernel)
theorem zt332 : Cond.selects RX6 yX6_move yX6_move ∈ zW := zm 332 (by decide +kernel) (by decide +kernel)
theorem zt333 : Cond.code yX6_move cX6_move 2 (some .int) ∈ zW := zm 333 (by decide +kernel) (by decide +kernel)
theorem zt334 : Cond.methodLink RX6 87 yX2_isState ∈ zW := zm 334 (by decide +kernel) (by decide +kernel)
theorem zt335 : Cond.methodLink RX6 92 yX4_goTo ∈ zW := zm 335 (by decide +kernel) (by decide +kernel)
theorem zt336 : Cond.static yX4_goTo ∈ zW := zm 336 (by decide +kernel) (by decide +kernel)
theorem zt337 : Cond.code yX4_goTo cX4_goTo 6 (some .int) ∈ zW := zm 337 (by decide +kernel) (by decide +kernel)
theorem zt338 : Cond.methodLink RX4 15 yX2_clocksBetween ∈ zW := zm 338 (by decide +kernel) (by decide +kernel)
theorem zt339 : Cond.static yX2_clocksBetween ∈ zW := zm 339 (by decide +kernel) (by decide +kernel)
theorem zt340 : Cond.code yX2_clocksBetween cX2_clocksBetween 4 (some .int) ∈ zW := zm 340 (by decide +kernel) (by decide +kernel)
theorem zt341 : Cond.methodLink RX2 20 yX2_nextOfAll ∈ zW := zm 341 (by decide +kernel) (by decide +kernel)
theorem zt342 : Cond.static yX2_nextOfAll ∈ zW := zm 342 (by decide +kernel) (by decide +kernel)
theorem zt343 : Cond.code yX2_nextOfAll cX2_nextOfAll 3 (some .int) ∈ zW := zm 343 (by decide +kernel) (by decide +kernel)
theorem zt344 : Cond.methodLink RX2 24 yX2_next ∈ zW := zm 344 (by decide +kernel) (by decide +kernel)
theorem zt345 : Cond.methodLink RX4 21 yX2_next ∈ zW := zm 345 (by decide +kernel) (by decide +kernel)
theorem zt346 : Cond.methodLink RX4 24 yX0_tick ∈ zW := zm 346 (by decide +kernel) (by decide +kernel)
theorem zt347 : Cond.methodLink RL 41 yX6_identify ∈ zW := zm 347 (by decide +kernel) (by decide +kernel)
theorem zt348 : Cond.instanceMethod yX6_identify ∈ zW := zm 348 (by decide +kernel) (by decide +kernel)
theorem zt349 : Cond.selects RX6 yX6_identify yX6_identify ∈ zW := zm 349 (by decide +kernel) (by decide +kernel)
theorem zt350 : Cond.code yX6_identify cX6_identify 1 (some .int) ∈ zW := zm 350 (by decide +kernel) (by decide +kernel)
theorem zt351 : Cond.methodLink RX6 98 yX4_readIdentities ∈ zW := zm 351 (by decide +kernel) (by decide +kernel)
theorem zt352 : Cond.static yX4_readIdentities ∈ zW := zm 352 (by decide +kernel) (by decide +kernel)
theorem zt353 : Cond.code yX4_readIdentities cX4_readIdentities 3 (some .int) ∈ zW := zm 353 (by decide +kernel) (by decide +kernel)
theorem zt354 : Cond.methodLink RX4 29 yX4_goTo ∈ zW := zm 354 (by decide +kernel) (by decide +kernel)
theorem zt355 : Cond.methodLink RX4 33 yX0_forgetIdentities ∈ zW := zm 355 (by decide +kernel) (by decide +kernel)
theorem zt356 : Cond.instanceMethod yX0_forgetIdentities ∈ zW := zm 356 (by decide +kernel) (by decide +kernel)
theorem zt357 : Cond.selects RX0 yX0_forgetIdentities yX0_forgetIdentities ∈ zW := zm 357 (by decide +kernel) (by decide +kernel)
theorem zt358 : Cond.code yX0_forgetIdentities cX0_forgetIdentities 1 none ∈ zW := zm 358 (by decide +kernel) (by decide +kernel)
theorem zt359 : Cond.methodLink RX4 36 yX4_readIdentity ∈ zW := zm 359 (by decide +kernel) (by decide +kernel)
theorem zt360 : Cond.static yX4_readIdentity ∈ zW := zm 360 (by decide +kernel) (by decide +kernel)
theorem zt361 : Cond.code yX4_readIdentity cX4_readIdentity 2 (some .int) ∈ zW := zm 361 (by decide +kernel) (by decide +kernel)
theorem zt363 : Cond.methodLink RX4 51 yX4_shiftThrough ∈ zW := zm 363 (by decide +kernel) (by decide +kernel)
theorem zt364 : Cond.static yX4_shiftThrough ∈ zW := zm 364 (by decide +kernel) (by decide +kernel)
theorem zt365 : Cond.code yX4_shiftThrough cX4_shiftThrough 7 (some .int) ∈ zW := zm 365 (by decide +kernel) (by decide +kernel)
theorem zt366 : Cond.methodLink RX4 40 yX0_keepIdentity ∈ zW := zm 366 (by decide +kernel) (by decide +kernel)
theorem zt367 : Cond.instanceMethod yX0_keepIdentity ∈ zW := zm 367 (by decide +kernel) (by decide +kernel)
theorem zt368 : Cond.selects RX0 yX0_keepIdentity yX0_keepIdentity ∈ zW := zm 368 (by decide +kernel) (by decide +kernel)
theorem zt369 : Cond.code yX0_keepIdentity cX0_keepIdentity 2 none ∈ zW := zm 369 (by decide +kernel) (by decide +kernel)
theorem zt370 : Cond.methodLink RL 46 yX6_load ∈ zW := zm 370 (by decide +kernel) (by decide +kernel)
theorem zt371 : Cond.instanceMethod yX6_load ∈ zW := zm 371 (by decide +kernel) (by decide +kernel)
theorem zt372 : Cond.selects RX6 yX6_load yX6_load ∈ zW := zm 372 (by decide +kernel) (by decide +kernel)
theorem zt373 : Cond.code yX6_load cX6_load 3 (some .int) ∈ zW := zm 373 (by decide +kernel) (by decide +kernel)
theorem zt374 : Cond.methodLink RX6 102 yX4_loadInstruction ∈ zW := zm 374 (by decide +kernel) (by decide +kernel)
theorem zt375 : Cond.static yX4_loadInstruction ∈ zW := zm 375 (by decide +kernel) (by decide +kernel)
theorem zt376 : Cond.code yX4_loadInstruction cX4_loadInstruction 6 none ∈ zW := zm 376 (by decide +kernel) (by decide +kernel)
theorem zt377 : Cond.methodLink RX6 106 yX1_dataBits ∈ zW := zm 377 (by decide +kernel) (by decide +kernel)
theorem zt378 : Cond.methodLink RL 50 yX6_exchange ∈ zW := zm 378 (by decide +kernel) (by decide +kernel)
theorem zt379 : Cond.instanceMethod yX6_exchange ∈ zW := zm 379 (by decide +kernel) (by decide +kernel)
theorem zt380 : Cond.selects RX6 yX6_exchange yX6_exchange ∈ zW := zm 380 (by decide +kernel) (by decide +kernel)
theorem zt381 : Cond.code yX6_exchange cX6_exchange 4 (some .int) ∈ zW := zm 381 (by decide +kernel) (by decide +kernel)
theorem zt382 : Cond.methodLink RX6 109 yX6_exchangeError ∈ zW := zm 382 (by decide +kernel) (by decide +kernel)
theorem zt384 : Cond.instanceMethod yX6_exchangeError ∈ zW := zm 384 (by decide +kernel) (by decide +kernel)
theorem zt385 : Cond.code yX6_exchangeError cX6_exchangeError 3 (some .int) ∈ zW := zm 385 (by decide +kernel) (by decide +kernel)
theorem zt386 : Cond.methodLink RX6 112 yX4_exchangeData ∈ zW := zm 386 (by decide +kernel) (by decide +kernel)
theorem zt387 : Cond.static yX4_exchangeData ∈ zW := zm 387 (by decide +kernel) (by decide +kernel)
theorem zt388 : Cond.code yX4_exchangeData cX4_exchangeData 7 (some .int) ∈ zW := zm 388 (by decide +kernel) (by decide +kernel)
theorem zt389 : Cond.methodLink RX4 67 yX1_dataBits ∈ zW := zm 389 (by decide +kernel) (by decide +kernel)
theorem zt390 : Cond.methodLink RL 54 yX6_append ∈ zW := zm 390 (by decide +kernel) (by decide +kernel)
theorem zt391 : Cond.instanceMethod yX6_append ∈ zW := zm 391 (by decide +kernel) (by decide +kernel)
theorem zt392 : Cond.selects RX6 yX6_append yX6_append ∈ zW := zm 392 (by decide +kernel) (by decide +kernel)
theorem zt393 : Cond.code yX6_append cX6_append 2 (some .int) ∈ zW := zm 393 (by decide +kernel) (by decide +kernel)
theorem zt394 : Cond.methodLink RX6 119 yX5_write ∈ zW := zm 394 (by decide +kernel) (by decide +kernel)
theorem zt395 : Cond.instanceMethod yX5_write ∈ zW := zm 395 (by decide +kernel) (by decide +kernel)
theorem zt396 : Cond.selects RX5 yX5_write yX5_write ∈ zW := zm 396 (by decide +kernel) (by decide +kernel)
theorem zt397 : Cond.code yX5_write cX5_write 2 (some .int) ∈ zW := zm 397 (by decide +kernel) (by decide +kernel)
theorem zt398 : Cond.methodLink RL 58 yX6_clearText ∈ zW := zm 398 (by decide +kernel) (by decide +kernel)
theorem zt399 : Cond.instanceMethod yX6_clearText ∈ zW := zm 399 (by decide +kernel) (by decide +kernel)
theorem zt400 : Cond.selects RX6 yX6_clearText yX6_clearText ∈ zW := zm 400 (by decide +kernel) (by decide +kernel)
theorem zt401 : Cond.code yX6_clearText cX6_clearText 1 (some .int) ∈ zW := zm 401 (by decide +kernel) (by decide +kernel)
theorem zt402 : Cond.methodLink RX6 122 yX5_wipe ∈ zW := zm 402 (by decide +kernel) (by decide +kernel)
theorem zt403 : Cond.instanceMethod yX5_wipe ∈ zW := zm 403 (by decide +kernel) (by decide +kernel)
theorem zt404 : Cond.selects RX5 yX5_wipe yX5_wipe ∈ zW := zm 404 (by decide +kernel) (by decide +kernel)
theorem zt405 : Cond.code yX5_wipe cX5_wipe 2 (some .int) ∈ zW := zm 405 (by decide +kernel) (by decide +kernel)
theorem zt406 : Cond.methodLink RL 62 yX6_fault ∈ zW := zm 406 (by decide +kernel) (by decide +kernel)
theorem zt407 : Cond.instanceMethod yX6_fault ∈ zW := zm 407 (by decide +kernel) (by decide +kernel)
theorem zt408 : Cond.selects RX6 yX6_fault yX6_fault ∈ zW := zm 408 (by decide +kernel) (by decide +kernel)
theorem zt409 : Cond.code yX6_fault cX6_fault 1 (some .int) ∈ zW := zm 409 (by decide +kernel) (by decide +kernel)
theorem zt410 : Cond.methodLink RX6 125 yX5_firstFault ∈ zW := zm 410 (by decide +kernel) (by decide +kernel)
theorem zt411 : Cond.instanceMethod yX5_firstFault ∈ zW := zm 411 (by decide +kernel) (by decide +kernel)
theorem zt412 : Cond.selects RX5 yX5_firstFault yX5_firstFault ∈ zW := zm 412 (by decide +kernel) (by decide +kernel)
theorem zt413 : Cond.code yX5_firstFault cX5_firstFault 5 (some .int) ∈ zW := zm 413 (by decide +kernel) (by decide +kernel)
theorem zt414 : Cond.methodLink RX5 19 yX5_hexValue ∈ zW := zm 414 (by decide +kernel) (by decide +kernel)
theorem zt415 : Cond.static yX5_hexValue ∈ zW := zm 415 (by decide +kernel) (by decide +kernel)
theorem zt416 : Cond.code yX5_hexValue cX5_hexValue 1 (some .int) ∈ zW := zm 416 (by decide +kernel) (by decide +kernel)
theorem zt417 : Cond.methodLink RX5 23 yX5_startsItem ∈ zW := zm 417 (by decide +kernel) (by decide +kernel)
theorem zt418 : Cond.static yX5_startsItem ∈ zW := zm 418 (by decide +kernel) (by decide +kernel)
theorem zt419 : Cond.code yX5_startsItem cX5_startsItem 1 (some .boolean) ∈ zW := zm 419 (by decide +kernel) (by decide +kernel)
theorem zt420 : Cond.methodLink RL 66 yX6_run ∈ zW := zm 420 (by decide +kernel) (by decide +kernel)
theorem zt421 : Cond.instanceMethod yX6_run ∈ zW := zm 421 (by decide +kernel) (by decide +kernel)
theorem zt422 : Cond.selects RX6 yX6_run yX6_run ∈ zW := zm 422 (by decide +kernel) (by decide +kernel)
theorem zt423 : Cond.code yX6_run cX6_run 2 (some .int) ∈ zW := zm 423 (by decide +kernel) (by decide +kernel)
theorem zt424 : Cond.methodLink RX6 128 yX4_carryOut ∈ zW := zm 424 (by decide +kernel) (by decide +kernel)
theorem zt425 : Cond.static yX4_carryOut ∈ zW := zm 425 (by decide +kernel) (by decide +kernel)
theorem zt426 : Cond.code yX4_carryOut cX4_carryOut 7 (some .int) ∈ zW := zm 426 (by decide +kernel) (by decide +kernel)
theorem zt427 : Cond.methodLink RX4 80 yX5_hexAt ∈ zW := zm 427 (by decide +kernel) (by decide +kernel)
theorem zt428 : Cond.instanceMethod yX5_hexAt ∈ zW := zm 428 (by decide +kernel) (by decide +kernel)
theorem zt429 : Cond.selects RX5 yX5_hexAt yX5_hexAt ∈ zW := zm 429 (by decide +kernel) (by decide +kernel)
theorem zt430 : Cond.code yX5_hexAt cX5_hexAt 2 (some .int) ∈ zW := zm 430 (by decide +kernel) (by decide +kernel)
theorem zt431 : Cond.methodLink RX4 83 yX4_clockItem ∈ zW := zm 431 (by decide +kernel) (by decide +kernel)
theorem zt432 : Cond.static yX4_clockItem ∈ zW := zm 432 (by decide +kernel) (by decide +kernel)
theorem zt433 : Cond.code yX4_clockItem cX4_clockItem 4 none ∈ zW := zm 433 (by decide +kernel) (by decide +kernel)
theorem zt434 : Cond.methodLink RL 70 yX6_undo ∈ zW := zm 434 (by decide +kernel) (by decide +kernel)
theorem zt435 : Cond.instanceMethod yX6_undo ∈ zW := zm 435 (by decide +kernel) (by decide +kernel)
theorem zt436 : Cond.selects RX6 yX6_undo yX6_undo ∈ zW := zm 436 (by decide +kernel) (by decide +kernel)
theorem zt437 : Cond.code yX6_undo cX6_undo 1 (some .int) ∈ zW := zm 437 (by decide +kernel) (by decide +kernel)
theorem zt438 : Cond.methodLink RX6 132 yX3_takeBack ∈ zW := zm 438 (by decide +kernel) (by decide +kernel)
theorem zt439 : Cond.instanceMethod yX3_takeBack ∈ zW := zm 439 (by decide +kernel) (by decide +kernel)
theorem zt440 : Cond.selects RX3 yX3_takeBack yX3_takeBack ∈ zW := zm 440 (by decide +kernel) (by decide +kernel)
theorem zt441 : Cond.code yX3_takeBack cX3_takeBack 2 (some .int) ∈ zW := zm 441 (by decide +kernel) (by decide +kernel)
theorem zt442 : Cond.methodLink RL 74 yX6_save ∈ zW := zm 442 (by decide +kernel) (by decide +kernel)
theorem zt443 : Cond.instanceMethod yX6_save ∈ zW := zm 443 (by decide +kernel) (by decide +kernel)
theorem zt444 : Cond.selects RX6 yX6_save yX6_save ∈ zW := zm 444 (by decide +kernel) (by decide +kernel)
theorem zt445 : Cond.code yX6_save cX6_save 1 (some .int) ∈ zW := zm 445 (by decide +kernel) (by decide +kernel)
theorem zt446 : Cond.methodLink RX6 135 yX0_becomeCopyOf ∈ zW := zm 446 (by decide +kernel) (by decide +kernel)
theorem zt447 : Cond.methodLink RL 78 yX6_restore ∈ zW := zm 447 (by decide +kernel) (by decide +kernel)
theorem zt448 : Cond.instanceMethod yX6_restore ∈ zW := zm 448 (by decide +kernel) (by decide +kernel)
theorem zt449 : Cond.selects RX6 yX6_restore yX6_restore ∈ zW := zm 449 (by decide +kernel) (by decide +kernel)
theorem zt450 : Cond.code yX6_restore cX6_restore 1 (some .int) ∈ zW := zm 450 (by decide +kernel) (by decide +kernel)
theorem zt451 : Cond.methodLink RL 82 yX6_chip ∈ zW := zm 451 (by decide +kernel) (by decide +kernel)
theorem zt452 : Cond.instanceMethod yX6_chip ∈ zW := zm 452 (by decide +kernel) (by decide +kernel)
theorem zt453 : Cond.selects RX6 yX6_chip yX6_chip ∈ zW := zm 453 (by decide +kernel) (by decide +kernel)
theorem zt454 : Cond.code yX6_chip cX6_chip 3 (some .int) ∈ zW := zm 454 (by decide +kernel) (by decide +kernel)
theorem zt455 : Cond.methodLink RX6 138 yX1_tell ∈ zW := zm 455 (by decide +kernel) (by decide +kernel)
theorem zt456 : Cond.instanceMethod yX1_tell ∈ zW := zm 456 (by decide +kernel) (by decide +kernel)
theorem zt457 : Cond.selects RX1 yX1_tell yX1_tell ∈ zW := zm 457 (by decide +kernel) (by decide +kernel)
theorem zt458 : Cond.code yX1_tell cX1_tell 2 (some .int) ∈ zW := zm 458 (by decide +kernel) (by decide +kernel)
theorem zt459 : Cond.methodLink RL 86 yX6_count ∈ zW := zm 459 (by decide +kernel) (by decide +kernel)
theorem zt460 : Cond.instanceMethod yX6_count ∈ zW := zm 460 (by decide +kernel) (by decide +kernel)
theorem zt461 : Cond.selects RX6 yX6_count yX6_count ∈ zW := zm 461 (by decide +kernel) (by decide +kernel)
theorem zt462 : Cond.code yX6_count cX6_count 2 (some .int) ∈ zW := zm 462 (by decide +kernel) (by decide +kernel)
theorem zt463 : Cond.methodLink RX6 147 yX0_sumOfCodeLengths ∈ zW := zm 463 (by decide +kernel) (by decide +kernel)
theorem zt464 : Cond.instanceMethod yX0_sumOfCodeLengths ∈ zW := zm 464 (by decide +kernel) (by decide +kernel)
theorem zt465 : Cond.selects RX0 yX0_sumOfCodeLengths yX0_sumOfCodeLengths ∈ zW := zm 465 (by decide +kernel) (by decide +kernel)
theorem zt466 : Cond.code yX0_sumOfCodeLengths cX0_sumOfCodeLengths 3 (some .int) ∈ zW := zm 466 (by decide +kernel) (by decide +kernel)
theorem zt467 : Cond.methodLink RX6 150 yX0_sumOfDataBits ∈ zW := zm 467 (by decide +kernel) (by decide +kernel)
theorem zt468 : Cond.instanceMethod yX0_sumOfDataBits ∈ zW := zm 468 (by decide +kernel) (by decide +kernel)
theorem zt469 : Cond.selects RX0 yX0_sumOfDataBits yX0_sumOfDataBits ∈ zW := zm 469 (by decide +kernel) (by decide +kernel)
theorem zt470 : Cond.code yX0_sumOfDataBits cX0_sumOfDataBits 3 (some .int) ∈ zW := zm 470 (by decide +kernel) (by decide +kernel)
theorem zt471 : Cond.methodLink RX0 59 yX1_dataBits ∈ zW := zm 471 (by decide +kernel) (by decide +kernel)
theorem zt472 : Cond.methodLink RL 90 yX6_found ∈ zW := zm 472 (by decide +kernel) (by decide +kernel)
theorem zt473 : Cond.instanceMethod yX6_found ∈ zW := zm 473 (by decide +kernel) (by decide +kernel)
theorem zt474 : Cond.selects RX6 yX6_found yX6_found ∈ zW := zm 474 (by decide +kernel) (by decide +kernel)
theorem zt475 : Cond.code yX6_found cX6_found 2 (some .int) ∈ zW := zm 475 (by decide +kernel) (by decide +kernel)
theorem zt476 : Cond.methodLink RL 94 yX6_distance ∈ zW := zm 476 (by decide +kernel) (by decide +kernel)
theorem zt477 : Cond.instanceMethod yX6_distance ∈ zW := zm 477 (by decide +kernel) (by decide +kernel)
theorem zt478 : Cond.selects RX6 yX6_distance yX6_distance ∈ zW := zm 478 (by decide +kernel) (by decide +kernel)
theorem zt479 : Cond.code yX6_distance cX6_distance 3 (some .int) ∈ zW := zm 479 (by decide +kernel) (by decide +kernel)
theorem zt480 : Cond.methodLink RX6 161 yX2_clocksBetween ∈ zW := zm 480 (by decide +kernel) (by decide +kernel)
theorem zt481 : Cond.methodLink RL 98 yX6_peek ∈ zW := zm 481 (by decide +kernel) (by decide +kernel)
theorem zt482 : Cond.instanceMethod yX6_peek ∈ zW := zm 482 (by decide +kernel) (by decide +kernel)
theorem zt483 : Cond.selects RX6 yX6_peek yX6_peek ∈ zW := zm 483 (by decide +kernel) (by decide +kernel)
theorem zt484 : Cond.code yX6_peek cX6_peek 2 (some .int) ∈ zW := zm 484 (by decide +kernel) (by decide +kernel)
theorem zt485 : Cond.methodLink RX6 164 yX0_outputWith ∈ zW := zm 485 (by decide +kernel) (by decide +kernel)
theorem zt486 : Cond.methodLink RL 102 yX6_ifIdentified ∈ zW := zm 486 (by decide +kernel) (by decide +kernel)
theorem zt487 : Cond.instanceMethod yX6_ifIdentified ∈ zW := zm 487 (by decide +kernel) (by decide +kernel)
theorem zt488 : Cond.selects RX6 yX6_ifIdentified yX6_ifIdentified ∈ zW := zm 488 (by decide +kernel) (by decide +kernel)
theorem zt489 : Cond.code yX6_ifIdentified cX6_ifIdentified 1 (some .int) ∈ zW := zm 489 (by decide +kernel) (by decide +kernel)
theorem zt490 : Cond.methodLink RL 106 yX6_ifExchanged ∈ zW := zm 490 (by decide +kernel) (by decide +kernel)
theorem zt491 : Cond.instanceMethod yX6_ifExchanged ∈ zW := zm 491 (by decide +kernel) (by decide +kernel)
theorem zt492 : Cond.selects RX6 yX6_ifExchanged yX6_ifExchanged ∈ zW := zm 492 (by decide +kernel) (by decide +kernel)
theorem zt493 : Cond.code yX6_ifExchanged cX6_ifExchanged 4 (some .int) ∈ zW := zm 493 (by decide +kernel) (by decide +kernel)
theorem zt494 : Cond.methodLink RL 110 yX6_bypassed ∈ zW := zm 494 (by decide +kernel) (by decide +kernel)
theorem zt495 : Cond.instanceMethod yX6_bypassed ∈ zW := zm 495 (by decide +kernel) (by decide +kernel)
theorem zt496 : Cond.selects RX6 yX6_bypassed yX6_bypassed ∈ zW := zm 496 (by decide +kernel) (by decide +kernel)
theorem zt497 : Cond.code yX6_bypassed cX6_bypassed 1 (some .float) ∈ zW := zm 497 (by decide +kernel) (by decide +kernel)
theorem zt498 : Cond.methodLink RX6 167 yX0_bypassedChips ∈ zW := zm 498 (by decide +kernel) (by decide +kernel)
theorem zt499 : Cond.instanceMethod yX0_bypassedChips ∈ zW := zm 499 (by decide +kernel) (by decide +kernel)
theorem zt500 : Cond.selects RX0 yX0_bypassedChips yX0_bypassedChips ∈ zW := zm 500 (by decide +kernel) (by decide +kernel)
theorem zt501 : Cond.code yX0_bypassedChips cX0_bypassedChips 3 (some .int) ∈ zW := zm 501 (by decide +kernel) (by decide +kernel)
theorem zt502 : Cond.methodLink RX0 52 yX1_selectsBypass ∈ zW := zm 502 (by decide +kernel) (by decide +kernel)
theorem zt503 : Cond.instanceMethod yX1_selectsBypass ∈ zW := zm 503 (by decide +kernel) (by decide +kernel)
theorem zt504 : Cond.selects RX1 yX1_selectsBypass yX1_selectsBypass ∈ zW := zm 504 (by decide +kernel) (by decide +kernel)
theorem zt505 : Cond.code yX1_selectsBypass cX1_selectsBypass 1 (some .boolean) ∈ zW := zm 505 (by decide +kernel) (by decide +kernel)
theorem zt506 : Cond.classLink RL 10 RX7 ∈ zW := zm 506 (by decide +kernel) (by decide +kernel)
theorem zt507 : Cond.instantiable RX7 9 ∈ zW := zm 507 (by decide +kernel) (by decide +kernel)
theorem zt508 : Cond.methodLink RL 12 yX7_init ∈ zW := zm 508 (by decide +kernel) (by decide +kernel)
theorem zt509 : Cond.instanceMethod yX7_init ∈ zW := zm 509 (by decide +kernel) (by decide +kernel)
theorem zt510 : Cond.code yX7_init cX7_init 1 none ∈ zW := zm 510 (by decide +kernel) (by decide +kernel)
theorem zt511 : Cond.methodLink RX7 1 objectInit ∈ zW := zm 511 (by decide +kernel) (by decide +kernel)
theorem zt512 : Cond.fieldLink RX7 7 "ScanChainModel" "z" "[I" ∈ zW := zm 512 (by decide +kernel) (by decide +kernel)
theorem zt513 : Cond.fieldLink RX7 13 "ScanChainModel" "spare" "[I" ∈ zW := zm 513 (by decide +kernel) (by decide +kernel)
theorem zt514 : Cond.fieldLink RX7 16 "ScanChainModel" "past" "[I" ∈ zW := zm 514 (by decide +kernel) (by decide +kernel)
theorem zt515 : Cond.fieldLink RX7 32 "ScanChainModel" "states" "I" ∈ zW := zm 515 (by decide +kernel) (by decide +kernel)
theorem zt516 : Cond.fieldLink RX7 19 "ScanChainModel" "kept" "[I" ∈ zW := zm 516 (by decide +kernel) (by decide +kernel)
theorem zt517 : Cond.fieldLink RX7 40 "ScanChainModel" "isKept" "Z" ∈ zW := zm 517 (by decide +kernel) (by decide +kernel)
theorem zt518 : Cond.fieldLink RX7 22 "ScanChainModel" "text" "[I" ∈ zW := zm 518 (by decide +kernel) (by decide +kernel)
theorem zt519 : Cond.fieldLink RX7 131 "ScanChainModel" "length" "I" ∈ zW := zm 519 (by decide +kernel) (by decide +kernel)
theorem zt520 : Cond.fieldLink RX7 25 "ScanChainModel" "far" "[I" ∈ zW := zm 520 (by decide +kernel) (by decide +kernel)
theorem zt540 : Cond.methodLink RL 73 yX7_undo ∈ zW := zm 540 (by decide +kernel) (by decide +kernel)
theorem zt541 : Cond.instanceMethod yX7_undo ∈ zW := zm 541 (by decide +kernel) (by decide +kernel)
theorem zt542 : Cond.selects RX7 yX7_undo yX7_undo ∈ zW := zm 542 (by decide +kernel) (by decide +kernel)
theorem zt543 : Cond.code yX7_undo cX7_undo 1 (some .int) ∈ zW := zm 543 (by decide +kernel) (by decide +kernel)
theorem zt544 : Cond.methodLink RX7 36 yX7_copyRow ∈ zW := zm 544 (by decide +kernel) (by decide +kernel)
theorem zt545 : Cond.static yX7_copyRow ∈ zW := zm 545 (by decide +kernel) (by decide +kernel)
theorem zt546 : Cond.code yX7_copyRow cX7_copyRow 5 none ∈ zW := zm 546 (by decide +kernel) (by decide +kernel)
theorem zt547 : Cond.methodLink RL 77 yX7_save ∈ zW := zm 547 (by decide +kernel) (by decide +kernel)
theorem zt548 : Cond.instanceMethod yX7_save ∈ zW := zm 548 (by decide +kernel) (by decide +kernel)
theorem zt549 : Cond.selects RX7 yX7_save yX7_save ∈ zW := zm 549 (by decide +kernel) (by decide +kernel)
theorem zt550 : Cond.code yX7_save cX7_save 1 (some .int) ∈ zW := zm 550 (by decide +kernel) (by decide +kernel)
theorem zt551 : Cond.methodLink RL 81 yX7_restore ∈ zW := zm 551 (by decide +kernel) (by decide +kernel)
theorem zt552 : Cond.instanceMethod yX7_restore ∈ zW := zm 552 (by decide +kernel) (by decide +kernel)
theorem zt553 : Cond.selects RX7 yX7_restore yX7_restore ∈ zW := zm 553 (by decide +kernel) (by decide +kernel)
theorem zt554 : Cond.code yX7_restore cX7_restore 1 (some .int) ∈ zW := zm 554 (by decide +kernel) (by decide +kernel)
theorem zt555 : Cond.methodLink RX7 44 yX7_record ∈ zW := zm 555 (by decide +kernel) (by decide +kernel)
theorem zt557 : Cond.instanceMethod yX7_record ∈ zW := zm 557 (by decide +kernel) (by decide +kernel)
theorem zt558 : Cond.code yX7_record cX7_record 2 none ∈ zW := zm 558 (by decide +kernel) (by decide +kernel)
theorem zt559 : Cond.methodLink RL 17 yX7_add ∈ zW := zm 559 (by decide +kernel) (by decide +kernel)
theorem zt560 : Cond.instanceMethod yX7_add ∈ zW := zm 560 (by decide +kernel) (by decide +kernel)
theorem zt561 : Cond.selects RX7 yX7_add yX7_add ∈ zW := zm 561 (by decide +kernel) (by decide +kernel)
theorem zt562 : Cond.code yX7_add cX7_add 7 (some .int) ∈ zW := zm 562 (by decide +kernel) (by decide +kernel)
theorem zt563 : Cond.methodLink RX7 28 yX7_in ∈ zW := zm 563 (by decide +kernel) (by decide +kernel)
theorem zt564 : Cond.static yX7_in ∈ zW := zm 564 (by decide +kernel) (by decide +kernel)
theorem zt565 : Cond.code yX7_in cX7_in 3 (some .boolean) ∈ zW := zm 565 (by decide +kernel) (by decide +kernel)
theorem zt566 : Cond.methodLink RX7 58 yX7_lay ∈ zW := zm 566 (by decide +kernel) (by decide +kernel)
theorem zt568 : Cond.instanceMethod yX7_lay ∈ zW := zm 568 (by decide +kernel) (by decide +kernel)
theorem zt569 : Cond.code yX7_lay cX7_lay 4 none ∈ zW := zm 569 (by decide +kernel) (by decide +kernel)
theorem zt570 : Cond.methodLink RX7 70 yX7_giveFirst ∈ zW := zm 570 (by decide +kernel) (by decide +kernel)
theorem zt572 : Cond.instanceMethod yX7_giveFirst ∈ zW := zm 572 (by decide +kernel) (by decide +kernel)
theorem zt573 : Cond.code yX7_giveFirst cX7_giveFirst 2 none ∈ zW := zm 573 (by decide +kernel) (by decide +kernel)
theorem zt574 : Cond.methodLink RX7 47 yX7_of ∈ zW := zm 574 (by decide +kernel) (by decide +kernel)
theorem zt576 : Cond.instanceMethod yX7_of ∈ zW := zm 576 (by decide +kernel) (by decide +kernel)
theorem zt577 : Cond.code yX7_of cX7_of 3 (some .int) ∈ zW := zm 577 (by decide +kernel) (by decide +kernel)
theorem zt578 : Cond.methodLink RX7 62 yX7_ones ∈ zW := zm 578 (by decide +kernel) (by decide +kernel)
theorem zt579 : Cond.static yX7_ones ∈ zW := zm 579 (by decide +kernel) (by decide +kernel)
theorem zt580 : Cond.code yX7_ones cX7_ones 1 (some .int) ∈ zW := zm 580 (by decide +kernel) (by decide +kernel)
theorem zt581 : Cond.methodLink RX7 66 yX7_give ∈ zW := zm 581 (by decide +kernel) (by decide +kernel)
theorem zt583 : Cond.instanceMethod yX7_give ∈ zW := zm 583 (by decide +kernel) (by decide +kernel)
theorem zt584 : Cond.code yX7_give cX7_give 3 none ∈ zW := zm 584 (by decide +kernel) (by decide +kernel)
theorem zt585 : Cond.methodLink RL 22 yX7_take ∈ zW := zm 585 (by decide +kernel) (by decide +kernel)
theorem zt586 : Cond.instanceMethod yX7_take ∈ zW := zm 586 (by decide +kernel) (by decide +kernel)
theorem zt587 : Cond.selects RX7 yX7_take yX7_take ∈ zW := zm 587 (by decide +kernel) (by decide +kernel)
theorem zt588 : Cond.code yX7_take cX7_take 4 (some .int) ∈ zW := zm 588 (by decide +kernel) (by decide +kernel)
theorem zt589 : Cond.methodLink RX7 74 yX7_isChip ∈ zW := zm 589 (by decide +kernel) (by decide +kernel)
theorem zt591 : Cond.instanceMethod yX7_isChip ∈ zW := zm 591 (by decide +kernel) (by decide +kernel)
theorem zt592 : Cond.code yX7_isChip cX7_isChip 2 (some .boolean) ∈ zW := zm 592 (by decide +kernel) (by decide +kernel)
theorem zt593 : Cond.methodLink RL 27 yX7_setPins ∈ zW := zm 593 (by decide +kernel) (by decide +kernel)
theorem zt594 : Cond.instanceMethod yX7_setPins ∈ zW := zm 594 (by decide +kernel) (by decide +kernel)
theorem zt595 : Cond.selects RX7 yX7_setPins yX7_setPins ∈ zW := zm 595 (by decide +kernel) (by decide +kernel)
theorem zt596 : Cond.code yX7_setPins cX7_setPins 4 (some .int) ∈ zW := zm 596 (by decide +kernel) (by decide +kernel)
theorem zt597 : Cond.methodLink RL 32 yX7_breakChip ∈ zW := zm 597 (by decide +kernel) (by decide +kernel)
theorem zt598 : Cond.instanceMethod yX7_breakChip ∈ zW := zm 598 (by decide +kernel) (by decide +kernel)
theorem zt599 : Cond.selects RX7 yX7_breakChip yX7_breakChip ∈ zW := zm 599 (by decide +kernel) (by decide +kernel)
theorem zt600 : Cond.code yX7_breakChip cX7_breakChip 3 (some .int) ∈ zW := zm 600 (by decide +kernel) (by decide +kernel)
theorem zt601 : Cond.methodLink RX7 77 yX7_sum ∈ zW := zm 601 (by decide +kernel) (by decide +kernel)
theorem zt603 : Cond.instanceMethod yX7_sum ∈ zW := zm 603 (by decide +kernel) (by decide +kernel)
theorem zt604 : Cond.code yX7_sum cX7_sum 4 (some .int) ∈ zW := zm 604 (by decide +kernel) (by decide +kernel)
theorem zt605 : Cond.methodLink RL 36 yX7_clock ∈ zW := zm 605 (by decide +kernel) (by decide +kernel)
theorem zt606 : Cond.instanceMethod yX7_clock ∈ zW := zm 606 (by decide +kernel) (by decide +kernel)
theorem zt607 : Cond.selects RX7 yX7_clock yX7_clock ∈ zW := zm 607 (by decide +kernel) (by decide +kernel)
theorem zt608 : Cond.code yX7_clock cX7_clock 3 (some .int) ∈ zW := zm 608 (by decide +kernel) (by decide +kernel)
theorem zt609 : Cond.methodLink RX7 106 yX7_clockNow ∈ zW := zm 609 (by decide +kernel) (by decide +kernel)
theorem zt611 : Cond.instanceMethod yX7_clockNow ∈ zW := zm 611 (by decide +kernel) (by decide +kernel)
theorem zt612 : Cond.code yX7_clockNow cX7_clockNow 5 (some .int) ∈ zW := zm 612 (by decide +kernel) (by decide +kernel)
theorem zt613 : Cond.methodLink RX7 94 yX7_output ∈ zW := zm 613 (by decide +kernel) (by decide +kernel)
theorem zt615 : Cond.instanceMethod yX7_output ∈ zW := zm 615 (by decide +kernel) (by decide +kernel)
theorem zt616 : Cond.code yX7_output cX7_output 2 (some .int) ∈ zW := zm 616 (by decide +kernel) (by decide +kernel)
theorem zt617 : Cond.methodLink RX7 84 yX7_isShifting ∈ zW := zm 617 (by decide +kernel) (by decide +kernel)
theorem zt619 : Cond.instanceMethod yX7_isShifting ∈ zW := zm 619 (by decide +kernel) (by decide +kernel)
theorem zt620 : Cond.code yX7_isShifting cX7_isShifting 1 (some .boolean) ∈ zW := zm 620 (by decide +kernel) (by decide +kernel)
theorem zt621 : Cond.methodLink RX7 88 yX7_outputOf ∈ zW := zm 621 (by decide +kernel) (by decide +kernel)
theorem zt623 : Cond.instanceMethod yX7_outputOf ∈ zW := zm 623 (by decide +kernel) (by decide +kernel)
theorem zt624 : Cond.code yX7_outputOf cX7_outputOf 2 (some .int) ∈ zW := zm 624 (by decide +kernel) (by decide +kernel)
theorem zt625 : Cond.methodLink RX7 80 yX7_shifted ∈ zW := zm 625 (by decide +kernel) (by decide +kernel)
theorem zt627 : Cond.instanceMethod yX7_shifted ∈ zW := zm 627 (by decide +kernel) (by decide +kernel)
theorem zt628 : Cond.code yX7_shifted cX7_shifted 1 (some .int) ∈ zW := zm 628 (by decide +kernel) (by decide +kernel)
theorem zt629 : Cond.methodLink RX7 97 yX7_shift ∈ zW := zm 629 (by decide +kernel) (by decide +kernel)
theorem zt631 : Cond.instanceMethod yX7_shift ∈ zW := zm 631 (by decide +kernel) (by decide +kernel)
theorem zt632 : Cond.code yX7_shift cX7_shift 6 none ∈ zW := zm 632 (by decide +kernel) (by decide +kernel)
theorem zt633 : Cond.methodLink RX7 91 yX7_bits ∈ zW := zm 633 (by decide +kernel) (by decide +kernel)
theorem zt635 : Cond.instanceMethod yX7_bits ∈ zW := zm 635 (by decide +kernel) (by decide +kernel)
theorem zt636 : Cond.code yX7_bits cX7_bits 2 (some .int) ∈ zW := zm 636 (by decide +kernel) (by decide +kernel)
theorem zt637 : Cond.methodLink RX7 51 yX7_selectsCells ∈ zW := zm 637 (by decide +kernel) (by decide +kernel)
theorem zt639 : Cond.instanceMethod yX7_selectsCells ∈ zW := zm 639 (by decide +kernel) (by decide +kernel)
theorem zt640 : Cond.code yX7_selectsCells cX7_selectsCells 2 (some .boolean) ∈ zW := zm 640 (by decide +kernel) (by decide +kernel)
theorem zt641 : Cond.methodLink RX7 55 yX7_selectsIdentity ∈ zW := zm 641 (by decide +kernel) (by decide +kernel)
theorem zt643 : Cond.instanceMethod yX7_selectsIdentity ∈ zW := zm 643 (by decide +kernel) (by decide +kernel)
theorem zt644 : Cond.code yX7_selectsIdentity cX7_selectsIdentity 2 (some .boolean) ∈ zW := zm 644 (by decide +kernel) (by decide +kernel)
theorem zt645 : Cond.methodLink RX7 100 yX7_work ∈ zW := zm 645 (by decide +kernel) (by decide +kernel)
theorem zt647 : Cond.instanceMethod yX7_work ∈ zW := zm 647 (by decide +kernel) (by decide +kernel)
theorem zt648 : Cond.code yX7_work cX7_work 2 none ∈ zW := zm 648 (by decide +kernel) (by decide +kernel)
theorem zt649 : Cond.methodLink RX7 103 yX7_next ∈ zW := zm 649 (by decide +kernel) (by decide +kernel)
theorem zt650 : Cond.static yX7_next ∈ zW := zm 650 (by decide +kernel) (by decide +kernel)
theorem zt651 : Cond.code yX7_next cX7_next 2 (some .int) ∈ zW := zm 651 (by decide +kernel) (by decide +kernel)
theorem zt652 : Cond.methodLink RL 40 yX7_move ∈ zW := zm 652 (by decide +kernel) (by decide +kernel)
theorem zt653 : Cond.instanceMethod yX7_move ∈ zW := zm 653 (by decide +kernel) (by decide +kernel)
theorem zt654 : Cond.selects RX7 yX7_move yX7_move ∈ zW := zm 654 (by decide +kernel) (by decide +kernel)
theorem zt655 : Cond.code yX7_move cX7_move 2 (some .int) ∈ zW := zm 655 (by decide +kernel) (by decide +kernel)
theorem zt656 : Cond.methodLink RX7 112 yX7_moveNow ∈ zW := zm 656 (by decide +kernel) (by decide +kernel)
theorem zt658 : Cond.instanceMethod yX7_moveNow ∈ zW := zm 658 (by decide +kernel) (by decide +kernel)
theorem zt659 : Cond.code yX7_moveNow cX7_moveNow 4 (some .int) ∈ zW := zm 659 (by decide +kernel) (by decide +kernel)
theorem zt660 : Cond.methodLink RX7 109 yX7_measure ∈ zW := zm 660 (by decide +kernel) (by decide +kernel)
theorem zt662 : Cond.instanceMethod yX7_measure ∈ zW := zm 662 (by decide +kernel) (by decide +kernel)
theorem zt663 : Cond.code yX7_measure cX7_measure 6 none ∈ zW := zm 663 (by decide +kernel) (by decide +kernel)
theorem zt664 : Cond.methodLink RL 45 yX7_identify ∈ zW := zm 664 (by decide +kernel) (by decide +kernel)
theorem zt665 : Cond.instanceMethod yX7_identify ∈ zW := zm 665 (by decide +kernel) (by decide +kernel)
theorem zt666 : Cond.selects RX7 yX7_identify yX7_identify ∈ zW := zm 666 (by decide +kernel) (by decide +kernel)
theorem zt667 : Cond.code yX7_identify cX7_identify 1 (some .int) ∈ zW := zm 667 (by decide +kernel) (by decide +kernel)
theorem zt668 : Cond.methodLink RX7 118 yX7_identifyNow ∈ zW := zm 668 (by decide +kernel) (by decide +kernel)
theorem zt670 : Cond.instanceMethod yX7_identifyNow ∈ zW := zm 670 (by decide +kernel) (by decide +kernel)
theorem zt671 : Cond.code yX7_identifyNow cX7_identifyNow 3 none ∈ zW := zm 671 (by decide +kernel) (by decide +kernel)
theorem zt672 : Cond.methodLink RX7 115 yX7_readOne ∈ zW := zm 672 (by decide +kernel) (by decide +kernel)
theorem zt674 : Cond.instanceMethod yX7_readOne ∈ zW := zm 674 (by decide +kernel) (by decide +kernel)
theorem zt675 : Cond.code yX7_readOne cX7_readOne 3 (some .int) ∈ zW := zm 675 (by decide +kernel) (by decide +kernel)
theorem zt676 : Cond.methodLink RL 49 yX7_load ∈ zW := zm 676 (by decide +kernel) (by decide +kernel)
theorem zt677 : Cond.instanceMethod yX7_load ∈ zW := zm 677 (by decide +kernel) (by decide +kernel)
theorem zt678 : Cond.selects RX7 yX7_load yX7_load ∈ zW := zm 678 (by decide +kernel) (by decide +kernel)
theorem zt679 : Cond.code yX7_load cX7_load 5 (some .int) ∈ zW := zm 679 (by decide +kernel) (by decide +kernel)
theorem zt680 : Cond.methodLink RX7 121 yX7_clockBits ∈ zW := zm 680 (by decide +kernel) (by decide +kernel)
theorem zt682 : Cond.instanceMethod yX7_clockBits ∈ zW := zm 682 (by decide +kernel) (by decide +kernel)
theorem zt683 : Cond.code yX7_clockBits cX7_clockBits 7 (some .int) ∈ zW := zm 683 (by decide +kernel) (by decide +kernel)
theorem zt684 : Cond.methodLink RL 53 yX7_exchange ∈ zW := zm 684 (by decide +kernel) (by decide +kernel)
theorem zt685 : Cond.instanceMethod yX7_exchange ∈ zW := zm 685 (by decide +kernel) (by decide +kernel)
theorem zt686 : Cond.selects RX7 yX7_exchange yX7_exchange ∈ zW := zm 686 (by decide +kernel) (by decide +kernel)
theorem zt687 : Cond.code yX7_exchange cX7_exchange 4 (some .int) ∈ zW := zm 687 (by decide +kernel) (by decide +kernel)
theorem zt688 : Cond.methodLink RX7 125 yX7_whyNotExchange ∈ zW := zm 688 (by decide +kernel) (by decide +kernel)
theorem zt690 : Cond.instanceMethod yX7_whyNotExchange ∈ zW := zm 690 (by decide +kernel) (by decide +kernel)
theorem zt691 : Cond.code yX7_whyNotExchange cX7_whyNotExchange 3 (some .int) ∈ zW := zm 691 (by decide +kernel) (by decide +kernel)
theorem zt692 : Cond.methodLink RX7 128 yX7_exchangeNow ∈ zW := zm 692 (by decide +kernel) (by decide +kernel)
theorem zt694 : Cond.instanceMethod yX7_exchangeNow ∈ zW := zm 694 (by decide +kernel) (by decide +kernel)
theorem zt695 : Cond.code yX7_exchangeNow cX7_exchangeNow 6 (some .int) ∈ zW := zm 695 (by decide +kernel) (by decide +kernel)
theorem zt696 : Cond.methodLink RL 57 yX7_append ∈ zW := zm 696 (by decide +kernel) (by decide +kernel)
theorem zt697 : Cond.instanceMethod yX7_append ∈ zW := zm 697 (by decide +kernel) (by decide +kernel)
theorem zt698 : Cond.selects RX7 yX7_append yX7_append ∈ zW := zm 698 (by decide +kernel) (by decide +kernel)
theorem zt699 : Cond.code yX7_append cX7_append 2 (some .int) ∈ zW := zm 699 (by decide +kernel) (by decide +kernel)
theorem zt700 : Cond.methodLink RL 61 yX7_clearText ∈ zW := zm 700 (by decide +kernel) (by decide +kernel)
theorem zt701 : Cond.instanceMethod yX7_clearText ∈ zW := zm 701 (by decide +kernel) (by decide +kernel)
theorem zt702 : Cond.selects RX7 yX7_clearText yX7_clearText ∈ zW := zm 702 (by decide +kernel) (by decide +kernel)
theorem zt703 : Cond.code yX7_clearText cX7_clearText 2 (some .int) ∈ zW := zm 703 (by decide +kernel) (by decide +kernel)
theorem zt704 : Cond.methodLink RL 65 yX7_fault ∈ zW := zm 704 (by decide +kernel) (by decide +kernel)
theorem zt705 : Cond.instanceMethod yX7_fault ∈ zW := zm 705 (by decide +kernel) (by decide +kernel)
theorem zt706 : Cond.selects RX7 yX7_fault yX7_fault ∈ zW := zm 706 (by decide +kernel) (by decide +kernel)
theorem zt707 : Cond.code yX7_fault cX7_fault 5 (some .int) ∈ zW := zm 707 (by decide +kernel) (by decide +kernel)
theorem zt708 : Cond.methodLink RX7 134 yX7_digit ∈ zW := zm 708 (by decide +kernel) (by decide +kernel)
theorem zt709 : Cond.static yX7_digit ∈ zW := zm 709 (by decide +kernel) (by decide +kernel)
theorem zt710 : Cond.code yX7_digit cX7_digit 1 (some .int) ∈ zW := zm 710 (by decide +kernel) (by decide +kernel)
theorem zt711 : Cond.methodLink RL 69 yX7_run ∈ zW := zm 711 (by decide +kernel) (by decide +kernel)
theorem zt712 : Cond.instanceMethod yX7_run ∈ zW := zm 712 (by decide +kernel) (by decide +kernel)
theorem zt713 : Cond.selects RX7 yX7_run yX7_run ∈ zW := zm 713 (by decide +kernel) (by decide +kernel)
theorem zt714 : Cond.code yX7_run cX7_run 8 (some .int) ∈ zW := zm 714 (by decide +kernel) (by decide +kernel)
theorem zt715 : Cond.methodLink RX7 137 yX7_fault ∈ zW := zm 715 (by decide +kernel) (by decide +kernel)
theorem zt716 : Cond.methodLink RL 85 yX7_chip ∈ zW := zm 716 (by decide +kernel) (by decide +kernel)
theorem zt717 : Cond.instanceMethod yX7_chip ∈ zW := zm 717 (by decide +kernel) (by decide +kernel)
theorem zt718 : Cond.selects RX7 yX7_chip yX7_chip ∈ zW := zm 718 (by decide +kernel) (by decide +kernel)
theorem zt719 : Cond.code yX7_chip cX7_chip 3 (some .int) ∈ zW := zm 719 (by decide +kernel) (by decide +kernel)
theorem zt720 : Cond.methodLink RL 89 yX7_count ∈ zW := zm 720 (by decide +kernel) (by decide +kernel)
theorem zt721 : Cond.instanceMethod yX7_count ∈ zW := zm 721 (by decide +kernel) (by decide +kernel)
theorem zt722 : Cond.selects RX7 yX7_count yX7_count ∈ zW := zm 722 (by decide +kernel) (by decide +kernel)
theorem zt723 : Cond.code yX7_count cX7_count 2 (some .int) ∈ zW := zm 723 (by decide +kernel) (by decide +kernel)
theorem zt724 : Cond.methodLink RX7 140 yX7_allBits ∈ zW := zm 724 (by decide +kernel) (by decide +kernel)
theorem zt726 : Cond.instanceMethod yX7_allBits ∈ zW := zm 726 (by decide +kernel) (by decide +kernel)
theorem zt727 : Cond.code yX7_allBits cX7_allBits 3 (some .int) ∈ zW := zm 727 (by decide +kernel) (by decide +kernel)
theorem zt728 : Cond.methodLink RL 93 yX7_found ∈ zW := zm 728 (by decide +kernel) (by decide +kernel)
theorem zt729 : Cond.instanceMethod yX7_found ∈ zW := zm 729 (by decide +kernel) (by decide +kernel)
theorem zt730 : Cond.selects RX7 yX7_found yX7_found ∈ zW := zm 730 (by decide +kernel) (by decide +kernel)
theorem zt731 : Cond.code yX7_found cX7_found 2 (some .int) ∈ zW := zm 731 (by decide +kernel) (by decide +kernel)
theorem zt732 : Cond.methodLink RL 97 yX7_distance ∈ zW := zm 732 (by decide +kernel) (by decide +kernel)
theorem zt733 : Cond.instanceMethod yX7_distance ∈ zW := zm 733 (by decide +kernel) (by decide +kernel)
theorem zt734 : Cond.selects RX7 yX7_distance yX7_distance ∈ zW := zm 734 (by decide +kernel) (by decide +kernel)
theorem zt735 : Cond.code yX7_distance cX7_distance 3 (some .int) ∈ zW := zm 735 (by decide +kernel) (by decide +kernel)
theorem zt736 : Cond.methodLink RL 101 yX7_peek ∈ zW := zm 736 (by decide +kernel) (by decide +kernel)
theorem zt737 : Cond.instanceMethod yX7_peek ∈ zW := zm 737 (by decide +kernel) (by decide +kernel)
theorem zt738 : Cond.selects RX7 yX7_peek yX7_peek ∈ zW := zm 738 (by decide +kernel) (by decide +kernel)
theorem zt739 : Cond.code yX7_peek cX7_peek 2 (some .int) ∈ zW := zm 739 (by decide +kernel) (by decide +kernel)
theorem zt740 : Cond.methodLink RL 105 yX7_ifIdentified ∈ zW := zm 740 (by decide +kernel) (by decide +kernel)
theorem zt741 : Cond.instanceMethod yX7_ifIdentified ∈ zW := zm 741 (by decide +kernel) (by decide +kernel)
theorem zt742 : Cond.selects RX7 yX7_ifIdentified yX7_ifIdentified ∈ zW := zm 742 (by decide +kernel) (by decide +kernel)
theorem zt743 : Cond.code yX7_ifIdentified cX7_ifIdentified 2 (some .int) ∈ zW := zm 743 (by decide +kernel) (by decide +kernel)
theorem zt744 : Cond.methodLink RL 109 yX7_ifExchanged ∈ zW := zm 744 (by decide +kernel) (by decide +kernel)
theorem zt745 : Cond.instanceMethod yX7_ifExchanged ∈ zW := zm 745 (by decide +kernel) (by decide +kernel)
theorem zt746 : Cond.selects RX7 yX7_ifExchanged yX7_ifExchanged ∈ zW := zm 746 (by decide +kernel) (by decide +kernel)
theorem zt747 : Cond.code yX7_ifExchanged cX7_ifExchanged 5 (some .int) ∈ zW := zm 747 (by decide +kernel) (by decide +kernel)
theorem zt748 : Cond.methodLink RL 114 yX7_bypassed ∈ zW := zm 748 (by decide +kernel) (by decide +kernel)
theorem zt749 : Cond.instanceMethod yX7_bypassed ∈ zW := zm 749 (by decide +kernel) (by decide +kernel)
theorem zt750 : Cond.selects RX7 yX7_bypassed yX7_bypassed ∈ zW := zm 750 (by decide +kernel) (by decide +kernel)
theorem zt751 : Cond.code yX7_bypassed cX7_bypassed 4 (some .float) ∈ zW := zm 751 (by decide +kernel) (by decide +kernel)
theorem zinX0 : ∀ w ∈ wsX00, w ∈ zW := zWr _ [111, 113, 115, 117, 119, 121] (by decide +kernel) (by decide +kernel)
theorem zinX1 : ∀ w ∈ wsX10, w ∈ zW := zWr _ [76, 78, 80, 82, 84, 86, 88, 90, 92] (by decide +kernel) (by decide +kernel)
theorem zinX3 : ∀ w ∈ wsX30, w ∈ zW := zWr _ [137, 139] (by decide +kernel) (by decide +kernel)
theorem zinX5 : ∀ w ∈ wsX50, w ∈ zW := zWr _ [153, 155] (by decide +kernel) (by decide +kernel)
theorem zinX6 : ∀ w ∈ wsX60, w ∈ zW := zWr _ [165, 167, 169, 171, 173, 175] (by decide +kernel) (by decide +kernel)
theorem zinX7 : ∀ w ∈ wsX70, w ∈ zW := zWr _ [521, 523, 525, 527, 529, 531, 533, 535, 537] (by decide +kernel) (by decide +kernel)
theorem zNest_in : zNest = [57, 62, 63, 65, 70, 71, 74, 96, 97, 99, 100, 102, 103, 105, 107, 109, 110, 136, 149, 151, 152, 216, 362].filterMap (fun i => lw_tbl[i]?) := by decide +kernel
theorem ndX6_init : yX6_init.cls ≠ "java/lang/invoke/MethodHandle" ∧ yX6_init.cls ≠ "java/lang/invoke/VarHandle" ∧ (parseMethodDescriptor yX6_init.desc).map (fun d => d.parameters.length) = some 0 := by decide +kernel
theorem npX6_init : plainName yX6_init.cls = true := by decide +kernel
theorem ndX6_add : yX6_add.cls ≠ "java/lang/invoke/MethodHandle" ∧ yX6_add.cls ≠ "java/lang/invoke/VarHandle" ∧ (parseMethodDescriptor yX6_add.desc).map (fun d => d.parameters.length) = some 3 := by decide +kernel
theorem npX6_add : plainName yX6_add.cls = true := by decide +kernel
theorem ndX6_allOnes : yX6_allOnes.cls ≠ "java/lang/invoke/MethodHandle" ∧ yX6_allOnes.cls ≠ "java/lang/invoke/VarHandle" ∧ (parseMethodDescriptor yX6_allOnes.desc).map (fun d => d.parameters.length) = some 1 := by decide +kernel
theorem npX6_allOnes : plainName yX6_allOnes.cls = true := by decide +kernel
theorem ndX6_append : yX6_append.cls ≠ "java/lang/invoke/MethodHandle" ∧ yX6_append.cls ≠ "java/lang/invoke/VarHandle" ∧ (parseMethodDescriptor yX6_append.desc).map (fun d => d.parameters.length) = some 1 := by decide +kernel
theorem npX6_append : plainName yX6_append.cls = true := by decide +kernel
theorem ndX6_breakChip : yX6_breakChip.cls ≠ "java/lang/invoke/MethodHandle" ∧ yX6_breakChip.cls ≠ "java/lang/invoke/VarHandle" ∧ (parseMethodDescriptor yX6_breakChip.desc).map (fun d => d.parameters.length) = some 2 := by decide +kernel
theorem npX6_breakChip : plainName yX6_breakChip.cls = true := by decide +kernel
theorem ndX6_bypassed : yX6_bypassed.cls ≠ "java/lang/invoke/MethodHandle" ∧ yX6_bypassed.cls ≠ "java/lang/invoke/VarHandle" ∧ (parseMethodDescriptor yX6_bypassed.desc).map (fun d => d.parameters.length) = some 0 := by decide +kernel
theorem npX6_bypassed : plainName yX6_bypassed.cls = true := by decide +kernel
theorem ndX6_chip : yX6_chip.cls ≠ "java/lang/invoke/MethodHandle" ∧ yX6_chip.cls ≠ "java/lang/invoke/VarHandle" ∧ (parseMethodDescriptor yX6_chip.desc).map (fun d => d.parameters.length) = some 2 := by decide +kernel
theorem npX6_chip : plainName yX6_chip.cls = true := by decide +kernel
theorem ndX6_clearText : yX6_clearText.cls ≠ "java/lang/invoke/MethodHandle" ∧ yX6_clearText.cls ≠ "java/lang/invoke/VarHandle" ∧ (parseMethodDescriptor yX6_clearText.desc).map (fun d => d.parameters.length) = some 0 := by decide +kernel
theorem npX6_clearText : plainName yX6_clearText.cls = true := by decide +kernel
theorem ndX6_clock : yX6_clock.cls ≠ "java/lang/invoke/MethodHandle" ∧ yX6_clock.cls ≠ "java/lang/invoke/VarHandle" ∧ (parseMethodDescriptor yX6_clock.desc).map (fun d => d.parameters.length) = some 2 := by decide +kernel
theorem npX6_clock : plainName yX6_clock.cls = true := by decide +kernel
theorem ndX6_count : yX6_count.cls ≠ "java/lang/invoke/MethodHandle" ∧ yX6_count.cls ≠ "java/lang/invoke/VarHandle" ∧ (parseMethodDescriptor yX6_count.desc).map (fun d => d.parameters.length) = some 1 := by decide +kernel
theorem npX6_count : plainName yX6_count.cls = true := by decide +kernel
theorem ndX6_distance : yX6_distance.cls ≠ "java/lang/invoke/MethodHandle" ∧ yX6_distance.cls ≠ "java/lang/invoke/VarHandle" ∧ (parseMethodDescriptor yX6_distance.desc).map (fun d => d.parameters.length) = some 2 := by decide +kernel
theorem npX6_distance : plainName yX6_distance.cls = true := by decide +kernel
theorem ndX6_exchange : yX6_exchange.cls ≠ "java/lang/invoke/MethodHandle" ∧ yX6_exchange.cls ≠ "java/lang/invoke/VarHandle" ∧ (parseMethodDescriptor yX6_exchange.desc).map (fun d => d.parameters.length) = some 2 := by decide +kernel
theorem npX6_exchange : plainName yX6_exchange.cls = true := by decide +kernel
theorem ndX6_exchangeError : yX6_exchangeError.cls ≠ "java/lang/invoke/MethodHandle" ∧ yX6_exchangeError.cls ≠ "java/lang/invoke/VarHandle" ∧ (parseMethodDescriptor yX6_exchangeError.desc).map (fun d => d.parameters.length) = some 2 := by decide +kernel
theorem npX6_exchangeError : plainName yX6_exchangeError.cls = true := by decide +kernel
theorem ndX6_fault : yX6_fault.cls ≠ "java/lang/invoke/MethodHandle" ∧ yX6_fault.cls ≠ "java/lang/invoke/VarHandle" ∧ (parseMethodDescriptor yX6_fault.desc).map (fun d => d.parameters.length) = some 0 := by decide +kernel
theorem npX6_fault : plainName yX6_fault.cls = true := by decide +kernel
theorem ndX6_found : yX6_found.cls ≠ "java/lang/invoke/MethodHandle" ∧ yX6_found.cls ≠ "java/lang/invoke/VarHandle" ∧ (parseMethodDescriptor yX6_found.desc).map (fun d => d.parameters.length) = some 1 := by decide +kernel
theorem npX6_found : plainName yX6_found.cls = true := by decide +kernel
theorem ndX6_identify : yX6_identify.cls ≠ "java/lang/invoke/MethodHandle" ∧ yX6_identify.cls ≠ "java/lang/invoke/VarHandle" ∧ (parseMethodDescriptor yX6_identify.desc).map (fun d => d.parameters.length) = some 0 := by decide +kernel
theorem npX6_identify : plainName yX6_identify.cls = true := by decide +kernel
theorem ndX6_ifExchanged : yX6_ifExchanged.cls ≠ "java/lang/invoke/MethodHandle" ∧ yX6_ifExchanged.cls ≠ "java/lang/invoke/VarHandle" ∧ (parseMethodDescriptor yX6_ifExchanged.desc).map (fun d => d.parameters.length) = some 2 := by decide +kernel
theorem npX6_ifExchanged : plainName yX6_ifExchanged.cls = true := by decide +kernel
theorem ndX6_ifIdentified : yX6_ifIdentified.cls ≠ "java/lang/invoke/MethodHandle" ∧ yX6_ifIdentified.cls ≠ "java/lang/invoke/VarHandle" ∧ (parseMethodDescriptor yX6_ifIdentified.desc).map (fun d => d.parameters.length) = some 0 := by decide +kernel
theorem npX6_ifIdentified : plainName yX6_ifIdentified.cls = true := by decide +kernel
theorem ndX6_isIdentity : yX6_isIdentity.cls ≠ "java/lang/invoke/MethodHandle" ∧ yX6_isIdentity.cls ≠ "java/lang/invoke/VarHandle" ∧ (parseMethodDescriptor yX6_isIdentity.desc).map (fun d => d.parameters.length) = some 1 := by decide +kernel
theorem npX6_isIdentity : plainName yX6_isIdentity.cls = true := by decide +kernel
theorem ndX6_isWithin : yX6_isWithin.cls ≠ "java/lang/invoke/MethodHandle" ∧ yX6_isWithin.cls ≠ "java/lang/invoke/VarHandle" ∧ (parseMethodDescriptor yX6_isWithin.desc).map (fun d => d.parameters.length) = some 3 := by decide +kernel
theorem npX6_isWithin : plainName yX6_isWithin.cls = true := by decide +kernel
theorem ndX6_load : yX6_load.cls ≠ "java/lang/invoke/MethodHandle" ∧ yX6_load.cls ≠ "java/lang/invoke/VarHandle" ∧ (parseMethodDescriptor yX6_load.desc).map (fun d => d.parameters.length) = some 2 := by decide +kernel
theorem npX6_load : plainName yX6_load.cls = true := by decide +kernel
theorem ndX6_move : yX6_move.cls ≠ "java/lang/invoke/MethodHandle" ∧ yX6_move.cls ≠ "java/lang/invoke/VarHandle" ∧ (parseMethodDescriptor yX6_move.desc).map (fun d => d.parameters.length) = some 1 := by decide +kernel
theorem npX6_move : plainName yX6_move.cls = true := by decide +kernel
theorem ndX6_peek : yX6_peek.cls ≠ "java/lang/invoke/MethodHandle" ∧ yX6_peek.cls ≠ "java/lang/invoke/VarHandle" ∧ (parseMethodDescriptor yX6_peek.desc).map (fun d => d.parameters.length) = some 1 := by decide +kernel
theorem npX6_peek : plainName yX6_peek.cls = true := by decide +kernel
theorem ndX6_restore : yX6_restore.cls ≠ "java/lang/invoke/MethodHandle" ∧ yX6_restore.cls ≠ "java/lang/invoke/VarHandle" ∧ (parseMethodDescriptor yX6_restore.desc).map (fun d => d.parameters.length) = some 0 := by decide +kernel
theorem npX6_restore : plainName yX6_restore.cls = true := by decide +kernel
theorem ndX6_run : yX6_run.cls ≠ "java/lang/invoke/MethodHandle" ∧ yX6_run.cls ≠ "java/lang/invoke/VarHandle" ∧ (parseMethodDescriptor yX6_run.desc).map (fun d => d.parameters.length) = some 0 := by decide +kernel
theorem npX6_run : plainName yX6_run.cls = true := by decide +kernel
theorem ndX6_save : yX6_save.cls ≠ "java/lang/invoke/MethodHandle" ∧ yX6_save.cls ≠ "java/lang/invoke/VarHandle" ∧ (parseMethodDescriptor yX6_save.desc).map (fun d => d.parameters.length) = some 0 := by decide +kernel
theorem npX6_save : plainName yX6_save.cls = true := by decide +kernel
theorem ndX6_setPins : yX6_setPins.cls ≠ "java/lang/invoke/MethodHandle" ∧ yX6_setPins.cls ≠ "java/lang/invoke/VarHandle" ∧ (parseMethodDescriptor yX6_setPins.desc).map (fun d => d.parameters.length) = some 2 := by decide +kernel
theorem npX6_setPins : plainName yX6_setPins.cls = true := by decide +kernel
theorem ndX6_take : yX6_take.cls ≠ "java/lang/invoke/MethodHandle" ∧ yX6_take.cls ≠ "java/lang/invoke/VarHandle" ∧ (parseMethodDescriptor yX6_take.desc).map (fun d => d.parameters.length) = some 1 := by decide +kernel
theorem npX6_take : plainName yX6_take.cls = true := by decide +kernel
theorem ndX6_undo : yX6_undo.cls ≠ "java/lang/invoke/MethodHandle" ∧ yX6_undo.cls ≠ "java/lang/invoke/VarHandle" ∧ (parseMethodDescriptor yX6_undo.desc).map (fun d => d.parameters.length) = some 0 := by decide +kernel
theorem npX6_undo : plainName yX6_undo.cls = true := by decide +kernel
theorem ndX0_init : yX0_init.cls ≠ "java/lang/invoke/MethodHandle" ∧ yX0_init.cls ≠ "java/lang/invoke/VarHandle" ∧ (parseMethodDescriptor yX0_init.desc).map (fun d => d.parameters.length) = some 0 := by decide +kernel
theorem npX0_init : plainName yX0_init.cls = true := by decide +kernel
theorem ndX0_becomeCopyOf : yX0_becomeCopyOf.cls ≠ "java/lang/invoke/MethodHandle" ∧ yX0_becomeCopyOf.cls ≠ "java/lang/invoke/VarHandle" ∧ (parseMethodDescriptor yX0_becomeCopyOf.desc).map (fun d => d.parameters.length) = some 1 := by decide +kernel
theorem npX0_becomeCopyOf : plainName yX0_becomeCopyOf.cls = true := by decide +kernel
theorem ndX0_brokenChips : yX0_brokenChips.cls ≠ "java/lang/invoke/MethodHandle" ∧ yX0_brokenChips.cls ≠ "java/lang/invoke/VarHandle" ∧ (parseMethodDescriptor yX0_brokenChips.desc).map (fun d => d.parameters.length) = some 0 := by decide +kernel
theorem npX0_brokenChips : plainName yX0_brokenChips.cls = true := by decide +kernel
theorem ndX0_bypassedChips : yX0_bypassedChips.cls ≠ "java/lang/invoke/MethodHandle" ∧ yX0_bypassedChips.cls ≠ "java/lang/invoke/VarHandle" ∧ (parseMethodDescriptor yX0_bypassedChips.desc).map (fun d => d.parameters.length) = some 0 := by decide +kernel
theorem npX0_bypassedChips : plainName yX0_bypassedChips.cls = true := by decide +kernel
theorem ndX0_forgetIdentities : yX0_forgetIdentities.cls ≠ "java/lang/invoke/MethodHandle" ∧ yX0_forgetIdentities.cls ≠ "java/lang/invoke/VarHandle" ∧ (parseMethodDescriptor yX0_forgetIdentities.desc).map (fun d => d.parameters.length) = some 0 := by decide +kernel
theorem npX0_forgetIdentities : plainName yX0_forgetIdentities.cls = true := by decide +kernel
theorem ndX0_has : yX0_has.cls ≠ "java/lang/invoke/MethodHandle" ∧ yX0_has.cls ≠ "java/lang/invoke/VarHandle" ∧ (parseMethodDescriptor yX0_has.desc).map (fun d => d.parameters.length) = some 1 := by decide +kernel
theorem npX0_has : plainName yX0_has.cls = true := by decide +kernel
theorem ndX0_keepIdentity : yX0_keepIdentity.cls ≠ "java/lang/invoke/MethodHandle" ∧ yX0_keepIdentity.cls ≠ "java/lang/invoke/VarHandle" ∧ (parseMethodDescriptor yX0_keepIdentity.desc).map (fun d => d.parameters.length) = some 1 := by decide +kernel
theorem npX0_keepIdentity : plainName yX0_keepIdentity.cls = true := by decide +kernel
theorem ndX0_outputWith : yX0_outputWith.cls ≠ "java/lang/invoke/MethodHandle" ∧ yX0_outputWith.cls ≠ "java/lang/invoke/VarHandle" ∧ (parseMethodDescriptor yX0_outputWith.desc).map (fun d => d.parameters.length) = some 1 := by decide +kernel
theorem npX0_outputWith : plainName yX0_outputWith.cls = true := by decide +kernel
theorem ndX0_putBehind : yX0_putBehind.cls ≠ "java/lang/invoke/MethodHandle" ∧ yX0_putBehind.cls ≠ "java/lang/invoke/VarHandle" ∧ (parseMethodDescriptor yX0_putBehind.desc).map (fun d => d.parameters.length) = some 3 := by decide +kernel
theorem npX0_putBehind : plainName yX0_putBehind.cls = true := by decide +kernel
theorem ndX0_shiftAllCodes : yX0_shiftAllCodes.cls ≠ "java/lang/invoke/MethodHandle" ∧ yX0_shiftAllCodes.cls ≠ "java/lang/invoke/VarHandle" ∧ (parseMethodDescriptor yX0_shiftAllCodes.desc).map (fun d => d.parameters.length) = some 1 := by decide +kernel
theorem npX0_shiftAllCodes : plainName yX0_shiftAllCodes.cls = true := by decide +kernel
theorem ndX0_shiftAllData : yX0_shiftAllData.cls ≠ "java/lang/invoke/MethodHandle" ∧ yX0_shiftAllData.cls ≠ "java/lang/invoke/VarHandle" ∧ (parseMethodDescriptor yX0_shiftAllData.desc).map (fun d => d.parameters.length) = some 1 := by decide +kernel
theorem npX0_shiftAllData : plainName yX0_shiftAllData.cls = true := by decide +kernel
theorem ndX0_sumOfCodeLengths : yX0_sumOfCodeLengths.cls ≠ "java/lang/invoke/MethodHandle" ∧ yX0_sumOfCodeLengths.cls ≠ "java/lang/invoke/VarHandle" ∧ (parseMethodDescriptor yX0_sumOfCodeLengths.desc).map (fun d => d.parameters.length) = some 0 := by decide +kernel
theorem npX0_sumOfCodeLengths : plainName yX0_sumOfCodeLengths.cls = true := by decide +kernel
theorem ndX0_sumOfDataBits : yX0_sumOfDataBits.cls ≠ "java/lang/invoke/MethodHandle" ∧ yX0_sumOfDataBits.cls ≠ "java/lang/invoke/VarHandle" ∧ (parseMethodDescriptor yX0_sumOfDataBits.desc).map (fun d => d.parameters.length) = some 0 := by decide +kernel
theorem npX0_sumOfDataBits : plainName yX0_sumOfDataBits.cls = true := by decide +kernel
theorem ndX0_takeOut : yX0_takeOut.cls ≠ "java/lang/invoke/MethodHandle" ∧ yX0_takeOut.cls ≠ "java/lang/invoke/VarHandle" ∧ (parseMethodDescriptor yX0_takeOut.desc).map (fun d => d.parameters.length) = some 1 := by decide +kernel
theorem npX0_takeOut : plainName yX0_takeOut.cls = true := by decide +kernel
theorem ndX0_tick : yX0_tick.cls ≠ "java/lang/invoke/MethodHandle" ∧ yX0_tick.cls ≠ "java/lang/invoke/VarHandle" ∧ (parseMethodDescriptor yX0_tick.desc).map (fun d => d.parameters.length) = some 2 := by decide +kernel
theorem npX0_tick : plainName yX0_tick.cls = true := by decide +kernel
theorem ndX0_work : yX0_work.cls ≠ "java/lang/invoke/MethodHandle" ∧ yX0_work.cls ≠ "java/lang/invoke/VarHandle" ∧ (parseMethodDescriptor yX0_work.desc).map (fun d => d.parameters.length) = some 1 := by decide +kernel
theorem npX0_work : plainName yX0_work.cls = true := by decide +kernel
theorem ndX0_workOf : yX0_workOf.cls ≠ "java/lang/invoke/MethodHandle" ∧ yX0_workOf.cls ≠ "java/lang/invoke/VarHandle" ∧ (parseMethodDescriptor yX0_workOf.desc).map (fun d => d.parameters.length) = some 1 := by decide +kernel
theorem npX0_workOf : plainName yX0_workOf.cls = true := by decide +kernel
theorem ndX1_init : yX1_init.cls ≠ "java/lang/invoke/MethodHandle" ∧ yX1_init.cls ≠ "java/lang/invoke/VarHandle" ∧ (parseMethodDescriptor yX1_init.desc).map (fun d => d.parameters.length) = some 0 := by decide +kernel
theorem npX1_init : plainName yX1_init.cls = true := by decide +kernel
theorem ndX1_beNew : yX1_beNew.cls ≠ "java/lang/invoke/MethodHandle" ∧ yX1_beNew.cls ≠ "java/lang/invoke/VarHandle" ∧ (parseMethodDescriptor yX1_beNew.desc).map (fun d => d.parameters.length) = some 3 := by decide +kernel
theorem npX1_beNew : plainName yX1_beNew.cls = true := by decide +kernel
theorem ndX1_becomeCopyOf : yX1_becomeCopyOf.cls ≠ "java/lang/invoke/MethodHandle" ∧ yX1_becomeCopyOf.cls ≠ "java/lang/invoke/VarHandle" ∧ (parseMethodDescriptor yX1_becomeCopyOf.desc).map (fun d => d.parameters.length) = some 1 := by decide +kernel
theorem npX1_becomeCopyOf : plainName yX1_becomeCopyOf.cls = true := by decide +kernel
theorem ndX1_captureData : yX1_captureData.cls ≠ "java/lang/invoke/MethodHandle" ∧ yX1_captureData.cls ≠ "java/lang/invoke/VarHandle" ∧ (parseMethodDescriptor yX1_captureData.desc).map (fun d => d.parameters.length) = some 0 := by decide +kernel
theorem npX1_captureData : plainName yX1_captureData.cls = true := by decide +kernel
theorem ndX1_changePins : yX1_changePins.cls ≠ "java/lang/invoke/MethodHandle" ∧ yX1_changePins.cls ≠ "java/lang/invoke/VarHandle" ∧ (parseMethodDescriptor yX1_changePins.desc).map (fun d => d.parameters.length) = some 1 := by decide +kernel
theorem npX1_changePins : plainName yX1_changePins.cls = true := by decide +kernel
theorem ndX1_codeOutput : yX1_codeOutput.cls ≠ "java/lang/invoke/MethodHandle" ∧ yX1_codeOutput.cls ≠ "java/lang/invoke/VarHandle" ∧ (parseMethodDescriptor yX1_codeOutput.desc).map (fun d => d.parameters.length) = some 0 := by decide +kernel
theorem npX1_codeOutput : plainName yX1_codeOutput.cls = true := by decide +kernel
theorem ndX1_dataBits : yX1_dataBits.cls ≠ "java/lang/invoke/MethodHandle" ∧ yX1_dataBits.cls ≠ "java/lang/invoke/VarHandle" ∧ (parseMethodDescriptor yX1_dataBits.desc).map (fun d => d.parameters.length) = some 0 := by decide +kernel
theorem npX1_dataBits : plainName yX1_dataBits.cls = true := by decide +kernel
theorem ndX1_dataOutput : yX1_dataOutput.cls ≠ "java/lang/invoke/MethodHandle" ∧ yX1_dataOutput.cls ≠ "java/lang/invoke/VarHandle" ∧ (parseMethodDescriptor yX1_dataOutput.desc).map (fun d => d.parameters.length) = some 0 := by decide +kernel
theorem npX1_dataOutput : plainName yX1_dataOutput.cls = true := by decide +kernel
theorem ndX1_giveFirstInstruction : yX1_giveFirstInstruction.cls ≠ "java/lang/invoke/MethodHandle" ∧ yX1_giveFirstInstruction.cls ≠ "java/lang/invoke/VarHandle" ∧ (parseMethodDescriptor yX1_giveFirstInstruction.desc).map (fun d => d.parameters.length) = some 0 := by decide +kernel
theorem npX1_giveFirstInstruction : plainName yX1_giveFirstInstruction.cls = true := by decide +kernel
theorem ndX1_giveInstruction : yX1_giveInstruction.cls ≠ "java/lang/invoke/MethodHandle" ∧ yX1_giveInstruction.cls ≠ "java/lang/invoke/VarHandle" ∧ (parseMethodDescriptor yX1_giveInstruction.desc).map (fun d => d.parameters.length) = some 1 := by decide +kernel
theorem npX1_giveInstruction : plainName yX1_giveInstruction.cls = true := by decide +kernel
theorem ndX1_selectsBypass : yX1_selectsBypass.cls ≠ "java/lang/invoke/MethodHandle" ∧ yX1_selectsBypass.cls ≠ "java/lang/invoke/VarHandle" ∧ (parseMethodDescriptor yX1_selectsBypass.desc).map (fun d => d.parameters.length) = some 0 := by decide +kernel
theorem npX1_selectsBypass : plainName yX1_selectsBypass.cls = true := by decide +kernel
theorem ndX1_selectsCells : yX1_selectsCells.cls ≠ "java/lang/invoke/MethodHandle" ∧ yX1_selectsCells.cls ≠ "java/lang/invoke/VarHandle" ∧ (parseMethodDescriptor yX1_selectsCells.desc).map (fun d => d.parameters.length) = some 0 := by decide +kernel
theorem npX1_selectsCells : plainName yX1_selectsCells.cls = true := by decide +kernel
theorem ndX1_selectsIdentity : yX1_selectsIdentity.cls ≠ "java/lang/invoke/MethodHandle" ∧ yX1_selectsIdentity.cls ≠ "java/lang/invoke/VarHandle" ∧ (parseMethodDescriptor yX1_selectsIdentity.desc).map (fun d => d.parameters.length) = some 0 := by decide +kernel
theorem npX1_selectsIdentity : plainName yX1_selectsIdentity.cls = true := by decide +kernel
theorem ndX1_shiftCode : yX1_shiftCode.cls ≠ "java/lang/invoke/MethodHandle" ∧ yX1_shiftCode.cls ≠ "java/lang/invoke/VarHandle" ∧ (parseMethodDescriptor yX1_shiftCode.desc).map (fun d => d.parameters.length) = some 1 := by decide +kernel
theorem npX1_shiftCode : plainName yX1_shiftCode.cls = true := by decide +kernel
theorem ndX1_shiftData : yX1_shiftData.cls ≠ "java/lang/invoke/MethodHandle" ∧ yX1_shiftData.cls ≠ "java/lang/invoke/VarHandle" ∧ (parseMethodDescriptor yX1_shiftData.desc).map (fun d => d.parameters.length) = some 1 := by decide +kernel
theorem npX1_shiftData : plainName yX1_shiftData.cls = true := by decide +kernel
theorem ndX1_shifted : yX1_shifted.cls ≠ "java/lang/invoke/MethodHandle" ∧ yX1_shifted.cls ≠ "java/lang/invoke/VarHandle" ∧ (parseMethodDescriptor yX1_shifted.desc).map (fun d => d.parameters.length) = some 3 := by decide +kernel
theorem npX1_shifted : plainName yX1_shifted.cls = true := by decide +kernel
theorem ndX1_tell : yX1_tell.cls ≠ "java/lang/invoke/MethodHandle" ∧ yX1_tell.cls ≠ "java/lang/invoke/VarHandle" ∧ (parseMethodDescriptor yX1_tell.desc).map (fun d => d.parameters.length) = some 1 := by decide +kernel
theorem npX1_tell : plainName yX1_tell.cls = true := by decide +kernel
theorem ndX1_updateData : yX1_updateData.cls ≠ "java/lang/invoke/MethodHandle" ∧ yX1_updateData.cls ≠ "java/lang/invoke/VarHandle" ∧ (parseMethodDescriptor yX1_updateData.desc).map (fun d => d.parameters.length) = some 0 := by decide +kernel
theorem npX1_updateData : plainName yX1_updateData.cls = true := by decide +kernel
theorem ndX2_clocksBetween : yX2_clocksBetween.cls ≠ "java/lang/invoke/MethodHandle" ∧ yX2_clocksBetween.cls ≠ "java/lang/invoke/VarHandle" ∧ (parseMethodDescriptor yX2_clocksBetween.desc).map (fun d => d.parameters.length) = some 2 := by decide +kernel
theorem npX2_clocksBetween : plainName yX2_clocksBetween.cls = true := by decide +kernel
theorem ndX2_isState : yX2_isState.cls ≠ "java/lang/invoke/MethodHandle" ∧ yX2_isState.cls ≠ "java/lang/invoke/VarHandle" ∧ (parseMethodDescriptor yX2_isState.desc).map (fun d => d.parameters.length) = some 1 := by decide +kernel
theorem npX2_isState : plainName yX2_isState.cls = true := by decide +kernel
theorem ndX2_next : yX2_next.cls ≠ "java/lang/invoke/MethodHandle" ∧ yX2_next.cls ≠ "java/lang/invoke/VarHandle" ∧ (parseMethodDescriptor yX2_next.desc).map (fun d => d.parameters.length) = some 2 := by decide +kernel
theorem npX2_next : plainName yX2_next.cls = true := by decide +kernel
theorem ndX2_nextOfAll : yX2_nextOfAll.cls ≠ "java/lang/invoke/MethodHandle" ∧ yX2_nextOfAll.cls ≠ "java/lang/invoke/VarHandle" ∧ (parseMethodDescriptor yX2_nextOfAll.desc).map (fun d => d.parameters.length) = some 1 := by decide +kernel
theorem npX2_nextOfAll : plainName yX2_nextOfAll.cls = true := by decide +kernel
theorem ndX3_init : yX3_init.cls ≠ "java/lang/invoke/MethodHandle" ∧ yX3_init.cls ≠ "java/lang/invoke/VarHandle" ∧ (parseMethodDescriptor yX3_init.desc).map (fun d => d.parameters.length) = some 0 := by decide +kernel
theorem npX3_init : plainName yX3_init.cls = true := by decide +kernel
theorem ndX3_dropOldest : yX3_dropOldest.cls ≠ "java/lang/invoke/MethodHandle" ∧ yX3_dropOldest.cls ≠ "java/lang/invoke/VarHandle" ∧ (parseMethodDescriptor yX3_dropOldest.desc).map (fun d => d.parameters.length) = some 0 := by decide +kernel
theorem npX3_dropOldest : plainName yX3_dropOldest.cls = true := by decide +kernel
theorem ndX3_record : yX3_record.cls ≠ "java/lang/invoke/MethodHandle" ∧ yX3_record.cls ≠ "java/lang/invoke/VarHandle" ∧ (parseMethodDescriptor yX3_record.desc).map (fun d => d.parameters.length) = some 1 := by decide +kernel
theorem npX3_record : plainName yX3_record.cls = true := by decide +kernel
theorem ndX3_takeBack : yX3_takeBack.cls ≠ "java/lang/invoke/MethodHandle" ∧ yX3_takeBack.cls ≠ "java/lang/invoke/VarHandle" ∧ (parseMethodDescriptor yX3_takeBack.desc).map (fun d => d.parameters.length) = some 1 := by decide +kernel
theorem npX3_takeBack : plainName yX3_takeBack.cls = true := by decide +kernel
theorem ndX4_carryOut : yX4_carryOut.cls ≠ "java/lang/invoke/MethodHandle" ∧ yX4_carryOut.cls ≠ "java/lang/invoke/VarHandle" ∧ (parseMethodDescriptor yX4_carryOut.desc).map (fun d => d.parameters.length) = some 2 := by decide +kernel
theorem npX4_carryOut : plainName yX4_carryOut.cls = true := by decide +kernel
theorem ndX4_clockItem : yX4_clockItem.cls ≠ "java/lang/invoke/MethodHandle" ∧ yX4_clockItem.cls ≠ "java/lang/invoke/VarHandle" ∧ (parseMethodDescriptor yX4_clockItem.desc).map (fun d => d.parameters.length) = some 2 := by decide +kernel
theorem npX4_clockItem : plainName yX4_clockItem.cls = true := by decide +kernel
theorem ndX4_exchangeData : yX4_exchangeData.cls ≠ "java/lang/invoke/MethodHandle" ∧ yX4_exchangeData.cls ≠ "java/lang/invoke/VarHandle" ∧ (parseMethodDescriptor yX4_exchangeData.desc).map (fun d => d.parameters.length) = some 3 := by decide +kernel
theorem npX4_exchangeData : plainName yX4_exchangeData.cls = true := by decide +kernel
theorem ndX4_goTo : yX4_goTo.cls ≠ "java/lang/invoke/MethodHandle" ∧ yX4_goTo.cls ≠ "java/lang/invoke/VarHandle" ∧ (parseMethodDescriptor yX4_goTo.desc).map (fun d => d.parameters.length) = some 2 := by decide +kernel
theorem npX4_goTo : plainName yX4_goTo.cls = true := by decide +kernel
theorem ndX4_loadInstruction : yX4_loadInstruction.cls ≠ "java/lang/invoke/MethodHandle" ∧ yX4_loadInstruction.cls ≠ "java/lang/invoke/VarHandle" ∧ (parseMethodDescriptor yX4_loadInstruction.desc).map (fun d => d.parameters.length) = some 3 := by decide +kernel
theorem npX4_loadInstruction : plainName yX4_loadInstruction.cls = true := by decide +kernel
theorem ndX4_readIdentities : yX4_readIdentities.cls ≠ "java/lang/invoke/MethodHandle" ∧ yX4_readIdentities.cls ≠ "java/lang/invoke/VarHandle" ∧ (parseMethodDescriptor yX4_readIdentities.desc).map (fun d => d.parameters.length) = some 1 := by decide +kernel
theorem npX4_readIdentities : plainName yX4_readIdentities.cls = true := by decide +kernel
theorem ndX4_readIdentity : yX4_readIdentity.cls ≠ "java/lang/invoke/MethodHandle" ∧ yX4_readIdentity.cls ≠ "java/lang/invoke/VarHandle" ∧ (parseMethodDescriptor yX4_readIdentity.desc).map (fun d => d.parameters.length) = some 1 := by decide +kernel
theorem npX4_readIdentity : plainName yX4_readIdentity.cls = true := by decide +kernel
theorem ndX4_shiftThrough : yX4_shiftThrough.cls ≠ "java/lang/invoke/MethodHandle" ∧ yX4_shiftThrough.cls ≠ "java/lang/invoke/VarHandle" ∧ (parseMethodDescriptor yX4_shiftThrough.desc).map (fun d => d.parameters.length) = some 4 := by decide +kernel
theorem npX4_shiftThrough : plainName yX4_shiftThrough.cls = true := by decide +kernel
theorem ndX5_init : yX5_init.cls ≠ "java/lang/invoke/MethodHandle" ∧ yX5_init.cls ≠ "java/lang/invoke/VarHandle" ∧ (parseMethodDescriptor yX5_init.desc).map (fun d => d.parameters.length) = some 0 := by decide +kernel
theorem npX5_init : plainName yX5_init.cls = true := by decide +kernel
theorem ndX5_firstFault : yX5_firstFault.cls ≠ "java/lang/invoke/MethodHandle" ∧ yX5_firstFault.cls ≠ "java/lang/invoke/VarHandle" ∧ (parseMethodDescriptor yX5_firstFault.desc).map (fun d => d.parameters.length) = some 0 := by decide +kernel
theorem npX5_firstFault : plainName yX5_firstFault.cls = true := by decide +kernel
theorem ndX5_hexAt : yX5_hexAt.cls ≠ "java/lang/invoke/MethodHandle" ∧ yX5_hexAt.cls ≠ "java/lang/invoke/VarHandle" ∧ (parseMethodDescriptor yX5_hexAt.desc).map (fun d => d.parameters.length) = some 1 := by decide +kernel
theorem npX5_hexAt : plainName yX5_hexAt.cls = true := by decide +kernel
theorem ndX5_hexValue : yX5_hexValue.cls ≠ "java/lang/invoke/MethodHandle" ∧ yX5_hexValue.cls ≠ "java/lang/invoke/VarHandle" ∧ (parseMethodDescriptor yX5_hexValue.desc).map (fun d => d.parameters.length) = some 1 := by decide +kernel
theorem npX5_hexValue : plainName yX5_hexValue.cls = true := by decide +kernel
theorem ndX5_startsItem : yX5_startsItem.cls ≠ "java/lang/invoke/MethodHandle" ∧ yX5_startsItem.cls ≠ "java/lang/invoke/VarHandle" ∧ (parseMethodDescriptor yX5_startsItem.desc).map (fun d => d.parameters.length) = some 1 := by decide +kernel
theorem npX5_startsItem : plainName yX5_startsItem.cls = true := by decide +kernel
theorem ndX5_wipe : yX5_wipe.cls ≠ "java/lang/invoke/MethodHandle" ∧ yX5_wipe.cls ≠ "java/lang/invoke/VarHandle" ∧ (parseMethodDescriptor yX5_wipe.desc).map (fun d => d.parameters.length) = some 0 := by decide +kernel
theorem npX5_wipe : plainName yX5_wipe.cls = true := by decide +kernel
theorem ndX5_write : yX5_write.cls ≠ "java/lang/invoke/MethodHandle" ∧ yX5_write.cls ≠ "java/lang/invoke/VarHandle" ∧ (parseMethodDescriptor yX5_write.desc).map (fun d => d.parameters.length) = some 1 := by decide +kernel
theorem npX5_write : plainName yX5_write.cls = true := by decide +kernel
theorem ndX7_init : yX7_init.cls ≠ "java/lang/invoke/MethodHandle" ∧ yX7_init.cls ≠ "java/lang/invoke/VarHandle" ∧ (parseMethodDescriptor yX7_init.desc).map (fun d => d.parameters.length) = some 0 := by decide +kernel
theorem npX7_init : plainName yX7_init.cls = true := by decide +kernel
theorem ndX7_add : yX7_add.cls ≠ "java/lang/invoke/MethodHandle" ∧ yX7_add.cls ≠ "java/lang/invoke/VarHandle" ∧ (parseMethodDescriptor yX7_add.desc).map (fun d => d.parameters.length) = some 3 := by decide +kernel
theorem npX7_add : plainName yX7_add.cls = true := by decide +kernel
theorem ndX7_allBits : yX7_allBits.cls ≠ "java/lang/invoke/MethodHandle" ∧ yX7_allBits.cls ≠ "java/lang/invoke/VarHandle" ∧ (parseMethodDescriptor yX7_allBits.desc).map (fun d => d.parameters.length) = some 0 := by decide +kernel
theorem npX7_allBits : plainName yX7_allBits.cls = true := by decide +kernel
theorem ndX7_append : yX7_append.cls ≠ "java/lang/invoke/MethodHandle" ∧ yX7_append.cls ≠ "java/lang/invoke/VarHandle" ∧ (parseMethodDescriptor yX7_append.desc).map (fun d => d.parameters.length) = some 1 := by decide +kernel
theorem npX7_append : plainName yX7_append.cls = true := by decide +kernel
theorem ndX7_bits : yX7_bits.cls ≠ "java/lang/invoke/MethodHandle" ∧ yX7_bits.cls ≠ "java/lang/invoke/VarHandle" ∧ (parseMethodDescriptor yX7_bits.desc).map (fun d => d.parameters.length) = some 1 := by decide +kernel
theorem npX7_bits : plainName yX7_bits.cls = true := by decide +kernel
theorem ndX7_breakChip : yX7_breakChip.cls ≠ "java/lang/invoke/MethodHandle" ∧ yX7_breakChip.cls ≠ "java/lang/invoke/VarHandle" ∧ (parseMethodDescriptor yX7_breakChip.desc).map (fun d => d.parameters.length) = some 2 := by decide +kernel
theorem npX7_breakChip : plainName yX7_breakChip.cls = true := by decide +kernel
theorem ndX7_bypassed : yX7_bypassed.cls ≠ "java/lang/invoke/MethodHandle" ∧ yX7_bypassed.cls ≠ "java/lang/invoke/VarHandle" ∧ (parseMethodDescriptor yX7_bypassed.desc).map (fun d => d.parameters.length) = some 0 := by decide +kernel
theorem npX7_bypassed : plainName yX7_bypassed.cls = true := by decide +kernel
theorem ndX7_chip : yX7_chip.cls ≠ "java/lang/invoke/MethodHandle" ∧ yX7_chip.cls ≠ "java/lang/invoke/VarHandle" ∧ (parseMethodDescriptor yX7_chip.desc).map (fun d => d.parameters.length) = some 2 := by decide +kernel
theorem npX7_chip : plainName yX7_chip.cls = true := by decide +kernel
theorem ndX7_clearText : yX7_clearText.cls ≠ "java/lang/invoke/MethodHandle" ∧ yX7_clearText.cls ≠ "java/lang/invoke/VarHandle" ∧ (parseMethodDescriptor yX7_clearText.desc).map (fun d => d.parameters.length) = some 0 := by decide +kernel
theorem npX7_clearText : plainName yX7_clearText.cls = true := by decide +kernel
theorem ndX7_clock : yX7_clock.cls ≠ "java/lang/invoke/MethodHandle" ∧ yX7_clock.cls ≠ "java/lang/invoke/VarHandle" ∧ (parseMethodDescriptor yX7_clock.desc).map (fun d => d.parameters.length) = some 2 := by decide +kernel
theorem npX7_clock : plainName yX7_clock.cls = true := by decide +kernel
theorem ndX7_clockBits : yX7_clockBits.cls ≠ "java/lang/invoke/MethodHandle" ∧ yX7_clockBits.cls ≠ "java/lang/invoke/VarHandle" ∧ (parseMethodDescriptor yX7_clockBits.desc).map (fun d => d.parameters.length) = some 3 := by decide +kernel
theorem npX7_clockBits : plainName yX7_clockBits.cls = true := by decide +kernel
theorem ndX7_clockNow : yX7_clockNow.cls ≠ "java/lang/invoke/MethodHandle" ∧ yX7_clockNow.cls ≠ "java/lang/invoke/VarHandle" ∧ (parseMethodDescriptor yX7_clockNow.desc).map (fun d => d.parameters.length) = some 2 := by decide +kernel
theorem npX7_clockNow : plainName yX7_clockNow.cls = true := by decide +kernel
theorem ndX7_copyRow : yX7_copyRow.cls ≠ "java/lang/invoke/MethodHandle" ∧ yX7_copyRow.cls ≠ "java/lang/invoke/VarHandle" ∧ (parseMethodDescriptor yX7_copyRow.desc).map (fun d => d.parameters.length) = some 4 := by decide +kernel
theorem npX7_copyRow : plainName yX7_copyRow.cls = true := by decide +kernel
theorem ndX7_count : yX7_count.cls ≠ "java/lang/invoke/MethodHandle" ∧ yX7_count.cls ≠ "java/lang/invoke/VarHandle" ∧ (parseMethodDescriptor yX7_count.desc).map (fun d => d.parameters.length) = some 1 := by decide +kernel
theorem npX7_count : plainName yX7_count.cls = true := by decide +kernel
theorem ndX7_digit : yX7_digit.cls ≠ "java/lang/invoke/MethodHandle" ∧ yX7_digit.cls ≠ "java/lang/invoke/VarHandle" ∧ (parseMethodDescriptor yX7_digit.desc).map (fun d => d.parameters.length) = some 1 := by decide +kernel
theorem npX7_digit : plainName yX7_digit.cls = true := by decide +kernel
theorem ndX7_distance : yX7_distance.cls ≠ "java/lang/invoke/MethodHandle" ∧ yX7_distance.cls ≠ "java/lang/invoke/VarHandle" ∧ (parseMethodDescriptor yX7_distance.desc).map (fun d => d.parameters.length) = some 2 := by decide +kernel
theorem npX7_distance : plainName yX7_distance.cls = true := by decide +kernel
theorem ndX7_exchange : yX7_exchange.cls ≠ "java/lang/invoke/MethodHandle" ∧ yX7_exchange.cls ≠ "java/lang/invoke/VarHandle" ∧ (parseMethodDescriptor yX7_exchange.desc).map (fun d => d.parameters.length) = some 2 := by decide +kernel
theorem npX7_exchange : plainName yX7_exchange.cls = true := by decide +kernel
theorem ndX7_exchangeNow : yX7_exchangeNow.cls ≠ "java/lang/invoke/MethodHandle" ∧ yX7_exchangeNow.cls ≠ "java/lang/invoke/VarHandle" ∧ (parseMethodDescriptor yX7_exchangeNow.desc).map (fun d => d.parameters.length) = some 2 := by decide +kernel
theorem npX7_exchangeNow : plainName yX7_exchangeNow.cls = true := by decide +kernel
theorem ndX7_fault : yX7_fault.cls ≠ "java/lang/invoke/MethodHandle" ∧ yX7_fault.cls ≠ "java/lang/invoke/VarHandle" ∧ (parseMethodDescriptor yX7_fault.desc).map (fun d => d.parameters.length) = some 0 := by decide +kernel
theorem npX7_fault : plainName yX7_fault.cls = true := by decide +kernel
theorem ndX7_found : yX7_found.cls ≠ "java/lang/invoke/MethodHandle" ∧ yX7_found.cls ≠ "java/lang/invoke/VarHandle" ∧ (parseMethodDescriptor yX7_found.desc).map (fun d => d.parameters.length) = some 1 := by decide +kernel
theorem npX7_found : plainName yX7_found.cls = true := by decide +kernel
theorem ndX7_give : yX7_give.cls ≠ "java/lang/invoke/MethodHandle" ∧ yX7_give.cls ≠ "java/lang/invoke/VarHandle" ∧ (parseMethodDescriptor yX7_give.desc).map (fun d => d.parameters.length) = some 2 := by decide +kernel
theorem npX7_give : plainName yX7_give.cls = true := by decide +kernel
theorem ndX7_giveFirst : yX7_giveFirst.cls ≠ "java/lang/invoke/MethodHandle" ∧ yX7_giveFirst.cls ≠ "java/lang/invoke/VarHandle" ∧ (parseMethodDescriptor yX7_giveFirst.desc).map (fun d => d.parameters.length) = some 1 := by decide +kernel
theorem npX7_giveFirst : plainName yX7_giveFirst.cls = true := by decide +kernel
theorem ndX7_identify : yX7_identify.cls ≠ "java/lang/invoke/MethodHandle" ∧ yX7_identify.cls ≠ "java/lang/invoke/VarHandle" ∧ (parseMethodDescriptor yX7_identify.desc).map (fun d => d.parameters.length) = some 0 := by decide +kernel
theorem npX7_identify : plainName yX7_identify.cls = true := by decide +kernel
theorem ndX7_identifyNow : yX7_identifyNow.cls ≠ "java/lang/invoke/MethodHandle" ∧ yX7_identifyNow.cls ≠ "java/lang/invoke/VarHandle" ∧ (parseMethodDescriptor yX7_identifyNow.desc).map (fun d => d.parameters.length) = some 0 := by decide +kernel
theorem npX7_identifyNow : plainName yX7_identifyNow.cls = true := by decide +kernel
theorem ndX7_ifExchanged : yX7_ifExchanged.cls ≠ "java/lang/invoke/MethodHandle" ∧ yX7_ifExchanged.cls ≠ "java/lang/invoke/VarHandle" ∧ (parseMethodDescriptor yX7_ifExchanged.desc).map (fun d => d.parameters.length) = some 2 := by decide +kernel
theorem npX7_ifExchanged : plainName yX7_ifExchanged.cls = true := by decide +kernel
theorem ndX7_ifIdentified : yX7_ifIdentified.cls ≠ "java/lang/invoke/MethodHandle" ∧ yX7_ifIdentified.cls ≠ "java/lang/invoke/VarHandle" ∧ (parseMethodDescriptor yX7_ifIdentified.desc).map (fun d => d.parameters.length) = some 0 := by decide +kernel
theorem npX7_ifIdentified : plainName yX7_ifIdentified.cls = true := by decide +kernel
theorem ndX7_in : yX7_in.cls ≠ "java/lang/invoke/MethodHandle" ∧ yX7_in.cls ≠ "java/lang/invoke/VarHandle" ∧ (parseMethodDescriptor yX7_in.desc).map (fun d => d.parameters.length) = some 3 := by decide +kernel
theorem npX7_in : plainName yX7_in.cls = true := by decide +kernel
theorem ndX7_isChip : yX7_isChip.cls ≠ "java/lang/invoke/MethodHandle" ∧ yX7_isChip.cls ≠ "java/lang/invoke/VarHandle" ∧ (parseMethodDescriptor yX7_isChip.desc).map (fun d => d.parameters.length) = some 1 := by decide +kernel
theorem npX7_isChip : plainName yX7_isChip.cls = true := by decide +kernel
theorem ndX7_isShifting : yX7_isShifting.cls ≠ "java/lang/invoke/MethodHandle" ∧ yX7_isShifting.cls ≠ "java/lang/invoke/VarHandle" ∧ (parseMethodDescriptor yX7_isShifting.desc).map (fun d => d.parameters.length) = some 0 := by decide +kernel
theorem npX7_isShifting : plainName yX7_isShifting.cls = true := by decide +kernel
theorem ndX7_lay : yX7_lay.cls ≠ "java/lang/invoke/MethodHandle" ∧ yX7_lay.cls ≠ "java/lang/invoke/VarHandle" ∧ (parseMethodDescriptor yX7_lay.desc).map (fun d => d.parameters.length) = some 3 := by decide +kernel
theorem npX7_lay : plainName yX7_lay.cls = true := by decide +kernel
theorem ndX7_load : yX7_load.cls ≠ "java/lang/invoke/MethodHandle" ∧ yX7_load.cls ≠ "java/lang/invoke/VarHandle" ∧ (parseMethodDescriptor yX7_load.desc).map (fun d => d.parameters.length) = some 2 := by decide +kernel
theorem npX7_load : plainName yX7_load.cls = true := by decide +kernel
theorem ndX7_measure : yX7_measure.cls ≠ "java/lang/invoke/MethodHandle" ∧ yX7_measure.cls ≠ "java/lang/invoke/VarHandle" ∧ (parseMethodDescriptor yX7_measure.desc).map (fun d => d.parameters.length) = some 1 := by decide +kernel
theorem npX7_measure : plainName yX7_measure.cls = true := by decide +kernel
theorem ndX7_move : yX7_move.cls ≠ "java/lang/invoke/MethodHandle" ∧ yX7_move.cls ≠ "java/lang/invoke/VarHandle" ∧ (parseMethodDescriptor yX7_move.desc).map (fun d => d.parameters.length) = some 1 := by decide +kernel
theorem npX7_move : plainName yX7_move.cls = true := by decide +kernel
theorem ndX7_moveNow : yX7_moveNow.cls ≠ "java/lang/invoke/MethodHandle" ∧ yX7_moveNow.cls ≠ "java/lang/invoke/VarHandle" ∧ (parseMethodDescriptor yX7_moveNow.desc).map (fun d => d.parameters.length) = some 1 := by decide +kernel
theorem npX7_moveNow : plainName yX7_moveNow.cls = true := by decide +kernel
theorem ndX7_next : yX7_next.cls ≠ "java/lang/invoke/MethodHandle" ∧ yX7_next.cls ≠ "java/lang/invoke/VarHandle" ∧ (parseMethodDescriptor yX7_next.desc).map (fun d => d.parameters.length) = some 2 := by decide +kernel
theorem npX7_next : plainName yX7_next.cls = true := by decide +kernel
theorem ndX7_of : yX7_of.cls ≠ "java/lang/invoke/MethodHandle" ∧ yX7_of.cls ≠ "java/lang/invoke/VarHandle" ∧ (parseMethodDescriptor yX7_of.desc).map (fun d => d.parameters.length) = some 2 := by decide +kernel
theorem npX7_of : plainName yX7_of.cls = true := by decide +kernel
theorem ndX7_ones : yX7_ones.cls ≠ "java/lang/invoke/MethodHandle" ∧ yX7_ones.cls ≠ "java/lang/invoke/VarHandle" ∧ (parseMethodDescriptor yX7_ones.desc).map (fun d => d.parameters.length) = some 1 := by decide +kernel
theorem npX7_ones : plainName yX7_ones.cls = true := by decide +kernel
theorem ndX7_output : yX7_output.cls ≠ "java/lang/invoke/MethodHandle" ∧ yX7_output.cls ≠ "java/lang/invoke/VarHandle" ∧ (parseMethodDescriptor yX7_output.desc).map (fun d => d.parameters.length) = some 1 := by decide +kernel
theorem npX7_output : plainName yX7_output.cls = true := by decide +kernel
theorem ndX7_outputOf : yX7_outputOf.cls ≠ "java/lang/invoke/MethodHandle" ∧ yX7_outputOf.cls ≠ "java/lang/invoke/VarHandle" ∧ (parseMethodDescriptor yX7_outputOf.desc).map (fun d => d.parameters.length) = some 1 := by decide +kernel
theorem npX7_outputOf : plainName yX7_outputOf.cls = true := by decide +kernel
theorem ndX7_peek : yX7_peek.cls ≠ "java/lang/invoke/MethodHandle" ∧ yX7_peek.cls ≠ "java/lang/invoke/VarHandle" ∧ (parseMethodDescriptor yX7_peek.desc).map (fun d => d.parameters.length) = some 1 := by decide +kernel
theorem npX7_peek : plainName yX7_peek.cls = true := by decide +kernel
theorem ndX7_readOne : yX7_readOne.cls ≠ "java/lang/invoke/MethodHandle" ∧ yX7_readOne.cls ≠ "java/lang/invoke/VarHandle" ∧ (parseMethodDescriptor yX7_readOne.desc).map (fun d => d.parameters.length) = some 0 := by decide +kernel
theorem npX7_readOne : plainName yX7_readOne.cls = true := by decide +kernel
theorem ndX7_record : yX7_record.cls ≠ "java/lang/invoke/MethodHandle" ∧ yX7_record.cls ≠ "java/lang/invoke/VarHandle" ∧ (parseMethodDescriptor yX7_record.desc).map (fun d => d.parameters.length) = some 0 := by decide +kernel
theorem npX7_record : plainName yX7_record.cls = true := by decide +kernel
theorem ndX7_restore : yX7_restore.cls ≠ "java/lang/invoke/MethodHandle" ∧ yX7_restore.cls ≠ "java/lang/invoke/VarHandle" ∧ (parseMethodDescriptor yX7_restore.desc).map (fun d => d.parameters.length) = some 0 := by decide +kernel
theorem npX7_restore : plainName yX7_restore.cls = true := by decide +kernel
theorem ndX7_run : yX7_run.cls ≠ "java/lang/invoke/MethodHandle" ∧ yX7_run.cls ≠ "java/lang/invoke/VarHandle" ∧ (parseMethodDescriptor yX7_run.desc).map (fun d => d.parameters.length) = some 0 := by decide +kernel
theorem npX7_run : plainName yX7_run.cls = true := by decide +kernel
theorem ndX7_save : yX7_save.cls ≠ "java/lang/invoke/MethodHandle" ∧ yX7_save.cls ≠ "java/lang/invoke/VarHandle" ∧ (parseMethodDescriptor yX7_save.desc).map (fun d => d.parameters.length) = some 0 := by decide +kernel
theorem npX7_save : plainName yX7_save.cls = true := by decide +kernel
theorem ndX7_selectsCells : yX7_selectsCells.cls ≠ "java/lang/invoke/MethodHandle" ∧ yX7_selectsCells.cls ≠ "java/lang/invoke/VarHandle" ∧ (parseMethodDescriptor yX7_selectsCells.desc).map (fun d => d.parameters.length) = some 1 := by decide +kernel
theorem npX7_selectsCells : plainName yX7_selectsCells.cls = true := by decide +kernel
theorem ndX7_selectsIdentity : yX7_selectsIdentity.cls ≠ "java/lang/invoke/MethodHandle" ∧ yX7_selectsIdentity.cls ≠ "java/lang/invoke/VarHandle" ∧ (parseMethodDescriptor yX7_selectsIdentity.desc).map (fun d => d.parameters.length) = some 1 := by decide +kernel
theorem npX7_selectsIdentity : plainName yX7_selectsIdentity.cls = true := by decide +kernel
theorem ndX7_setPins : yX7_setPins.cls ≠ "java/lang/invoke/MethodHandle" ∧ yX7_setPins.cls ≠ "java/lang/invoke/VarHandle" ∧ (parseMethodDescriptor yX7_setPins.desc).map (fun d => d.parameters.length) = some 2 := by decide +kernel
theorem npX7_setPins : plainName yX7_setPins.cls = true := by decide +kernel
theorem ndX7_shift : yX7_shift.cls ≠ "java/lang/invoke/MethodHandle" ∧ yX7_shift.cls ≠ "java/lang/invoke/VarHandle" ∧ (parseMethodDescriptor yX7_shift.desc).map (fun d => d.parameters.length) = some 1 := by decide +kernel
theorem npX7_shift : plainName yX7_shift.cls = true := by decide +kernel
theorem ndX7_shifted : yX7_shifted.cls ≠ "java/lang/invoke/MethodHandle" ∧ yX7_shifted.cls ≠ "java/lang/invoke/VarHandle" ∧ (parseMethodDescriptor yX7_shifted.desc).map (fun d => d.parameters.length) = some 0 := by decide +kernel
theorem npX7_shifted : plainName yX7_shifted.cls = true := by decide +kernel
theorem ndX7_sum : yX7_sum.cls ≠ "java/lang/invoke/MethodHandle" ∧ yX7_sum.cls ≠ "java/lang/invoke/VarHandle" ∧ (parseMethodDescriptor yX7_sum.desc).map (fun d => d.parameters.length) = some 1 := by decide +kernel
theorem npX7_sum : plainName yX7_sum.cls = true := by decide +kernel
theorem ndX7_take : yX7_take.cls ≠ "java/lang/invoke/MethodHandle" ∧ yX7_take.cls ≠ "java/lang/invoke/VarHandle" ∧ (parseMethodDescriptor yX7_take.desc).map (fun d => d.parameters.length) = some 1 := by decide +kernel
theorem npX7_take : plainName yX7_take.cls = true := by decide +kernel
theorem ndX7_undo : yX7_undo.cls ≠ "java/lang/invoke/MethodHandle" ∧ yX7_undo.cls ≠ "java/lang/invoke/VarHandle" ∧ (parseMethodDescriptor yX7_undo.desc).map (fun d => d.parameters.length) = some 0 := by decide +kernel
theorem npX7_undo : plainName yX7_undo.cls = true := by decide +kernel
theorem ndX7_whyNotExchange : yX7_whyNotExchange.cls ≠ "java/lang/invoke/MethodHandle" ∧ yX7_whyNotExchange.cls ≠ "java/lang/invoke/VarHandle" ∧ (parseMethodDescriptor yX7_whyNotExchange.desc).map (fun d => d.parameters.length) = some 2 := by decide +kernel
theorem npX7_whyNotExchange : plainName yX7_whyNotExchange.cls = true := by decide +kernel
theorem ndX7_work : yX7_work.cls ≠ "java/lang/invoke/MethodHandle" ∧ yX7_work.cls ≠ "java/lang/invoke/VarHandle" ∧ (parseMethodDescriptor yX7_work.desc).map (fun d => d.parameters.length) = some 1 := by decide +kernel
theorem npX7_work : plainName yX7_work.cls = true := by decide +kernel
theorem gV_L_13 : GoodIn zW (wsV RL 13 RX6 yX6_add (zws yX6_add cX6_add 4 (some .int))) := zGV zt178 zt179 zt180 zt32 zt181
theorem gS_X6_40 : GoodIn zW (va_wsS RX6 40 yX6_isWithin (zws yX6_isWithin cX6_isWithin 3 (some .boolean))) := zGS zt182 zt183 zt32 zt184
theorem gS_X6_44 : GoodIn zW (va_wsS RX6 44 yX6_isIdentity (zws yX6_isIdentity cX6_isIdentity 1 (some .boolean))) := zGS zt185 zt186 zt32 zt187
theorem gV_X6_52 : GoodIn zW (wsV RX6 52 RX3 yX3_record (zws yX3_record cX3_record 2 none)) := zGV zt188 zt189 zt190 zt35 zt191
theorem gV_X3_22 : GoodIn zW (wsV RX3 22 RX3 yX3_dropOldest (zws yX3_dropOldest cX3_dropOldest 3 none)) := zGV zt192 zt194 zt0 zt35 zt195
theorem gV_X3_25 : GoodIn zW (wsV RX3 25 RX0 yX0_becomeCopyOf (zws yX0_becomeCopyOf cX0_becomeCopyOf 3 none)) := zGV zt196 zt197 zt198 zt33 zt199
theorem gV_X0_37 : GoodIn zW (wsV RX0 37 RX1 yX1_becomeCopyOf (zws yX1_becomeCopyOf cX1_becomeCopyOf 2 none)) := zGV zt200 zt201 zt202 zt34 zt203
theorem gV_X6_56 : GoodIn zW (wsV RX6 56 RX0 yX0_putBehind (zws yX0_putBehind cX0_putBehind 5 (some .int))) := zGV zt204 zt205 zt206 zt33 zt207
theorem gV_X0_41 : GoodIn zW (wsV RX0 41 RX1 yX1_beNew (zws yX1_beNew cX1_beNew 4 none)) := zGV zt208 zt209 zt210 zt34 zt211
theorem gV_X1_34 : GoodIn zW (wsV RX1 34 RX1 yX1_giveFirstInstruction (zws yX1_giveFirstInstruction cX1_giveFirstInstruction 1 none)) := zGV zt212 zt213 zt214 zt34 zt215
theorem gV_X1_54 : GoodIn zW (wsV RX1 54 RX1 yX1_giveInstruction (zws yX1_giveInstruction cX1_giveInstruction 2 none)) := zGV zt219 zt220 zt221 zt34 zt222
theorem gV_L_18 : GoodIn zW (wsV RL 18 RX6 yX6_take (zws yX6_take cX6_take 2 (some .int))) := zGV zt223 zt224 zt225 zt32 zt226
theorem gV_X6_60 : GoodIn zW (wsV RX6 60 RX0 yX0_has (zws yX0_has cX0_has 2 (some .boolean))) := zGV zt227 zt228 zt229 zt33 zt230
theorem gV_X6_63 : GoodIn zW (wsV RX6 63 RX0 yX0_takeOut (zws yX0_takeOut cX0_takeOut 4 (some .int))) := zGV zt231 zt232 zt233 zt33 zt234
theorem gV_L_23 : GoodIn zW (wsV RL 23 RX6 yX6_setPins (zws yX6_setPins cX6_setPins 3 (some .int))) := zGV zt235 zt236 zt237 zt32 zt238
theorem gV_X6_71 : GoodIn zW (wsV RX6 71 RX1 yX1_changePins (zws yX1_changePins cX1_changePins 3 (some .int))) := zGV zt239 zt240 zt241 zt34 zt242
theorem gV_L_28 : GoodIn zW (wsV RL 28 RX6 yX6_breakChip (zws yX6_breakChip cX6_breakChip 3 (some .int))) := zGV zt243 zt244 zt245 zt32 zt246
theorem gV_X6_79 : GoodIn zW (wsV RX6 79 RX0 yX0_brokenChips (zws yX0_brokenChips cX0_brokenChips 3 (some .int))) := zGV zt247 zt248 zt249 zt33 zt250
theorem gV_L_33 : GoodIn zW (wsV RL 33 RX6 yX6_clock (zws yX6_clock cX6_clock 3 (some .int))) := zGV zt251 zt252 zt253 zt32 zt254
theorem gV_X6_83 : GoodIn zW (wsV RX6 83 RX0 yX0_tick (zws yX0_tick cX0_tick 4 (some .int))) := zGV zt255 zt256 zt257 zt33 zt258
theorem gV_X0_63 : GoodIn zW (wsV RX0 63 RX0 yX0_outputWith (zws yX0_outputWith cX0_outputWith 3 (some .int))) := zGV zt259 zt260 zt261 zt33 zt262
theorem gV_X0_75 : GoodIn zW (wsV RX0 75 RX1 yX1_dataOutput (zws yX1_dataOutput cX1_dataOutput 1 (some .int))) := zGV zt263 zt264 zt265 zt34 zt266
theorem gV_X0_78 : GoodIn zW (wsV RX0 78 RX1 yX1_codeOutput (zws yX1_codeOutput cX1_codeOutput 1 (some .int))) := zGV zt267 zt268 zt269 zt34 zt270
theorem gV_X0_67 : GoodIn zW (wsV RX0 67 RX0 yX0_work (zws yX0_work cX0_work 3 none)) := zGV zt271 zt273 zt1 zt33 zt274
theorem gV_X0_81 : GoodIn zW (wsV RX0 81 RX0 yX0_shiftAllData (zws yX0_shiftAllData cX0_shiftAllData 5 none)) := zGV zt275 zt277 zt2 zt33 zt278
theorem gV_X0_105 : GoodIn zW (wsV RX0 105 RX1 yX1_shiftData (zws yX1_shiftData cX1_shiftData 2 none)) := zGV zt279 zt280 zt281 zt34 zt282
theorem gV_X1_58 : GoodIn zW (wsV RX1 58 RX1 yX1_dataBits (zws yX1_dataBits cX1_dataBits 1 (some .int))) := zGV zt283 zt284 zt285 zt34 zt286
theorem gV_X1_47 : GoodIn zW (wsV RX1 47 RX1 yX1_selectsCells (zws yX1_selectsCells cX1_selectsCells 1 (some .boolean))) := zGV zt287 zt288 zt289 zt34 zt290
theorem gV_X1_51 : GoodIn zW (wsV RX1 51 RX1 yX1_selectsIdentity (zws yX1_selectsIdentity cX1_selectsIdentity 1 (some .boolean))) := zGV zt291 zt292 zt293 zt34 zt294
theorem gS_X1_62 : GoodIn zW (va_wsS RX1 62 yX1_shifted (zws yX1_shifted cX1_shifted 3 (some .int))) := zGS zt295 zt296 zt34 zt297
theorem gV_X0_84 : GoodIn zW (wsV RX0 84 RX0 yX0_shiftAllCodes (zws yX0_shiftAllCodes cX0_shiftAllCodes 5 none)) := zGV zt298 zt300 zt3 zt33 zt301
theorem gV_X0_108 : GoodIn zW (wsV RX0 108 RX1 yX1_shiftCode (zws yX1_shiftCode cX1_shiftCode 2 none)) := zGV zt302 zt303 zt304 zt34 zt305
theorem gV_X0_87 : GoodIn zW (wsV RX0 87 RX0 yX0_workOf (zws yX0_workOf cX0_workOf 2 none)) := zGV zt306 zt308 zt4 zt33 zt309
theorem gV_X0_90 : GoodIn zW (wsV RX0 90 RX1 yX1_giveFirstInstruction (zws yX1_giveFirstInstruction cX1_giveFirstInstruction 1 none)) := zGV zt310 zt213 zt214 zt34 zt215
theorem gV_X0_93 : GoodIn zW (wsV RX0 93 RX1 yX1_captureData (zws yX1_captureData cX1_captureData 1 none)) := zGV zt311 zt312 zt313 zt34 zt314
theorem gV_X0_96 : GoodIn zW (wsV RX0 96 RX1 yX1_updateData (zws yX1_updateData cX1_updateData 1 none)) := zGV zt315 zt316 zt317 zt34 zt318
theorem gV_X0_102 : GoodIn zW (wsV RX0 102 RX1 yX1_giveInstruction (zws yX1_giveInstruction cX1_giveInstruction 2 none)) := zGV zt319 zt220 zt221 zt34 zt222
theorem gS_X0_71 : GoodIn zW (va_wsS RX0 71 yX2_next (zws yX2_next cX2_next 2 (some .int))) := zGS zt320 zt321 zt38 zt322
theorem gS_X2_9 : GoodIn zW (va_wsS RX2 9 yX2_isState (zws yX2_isState cX2_isState 1 (some .boolean))) := zGS zt323 zt324 zt38 zt325
theorem gV_L_37 : GoodIn zW (wsV RL 37 RX6 yX6_move (zws yX6_move cX6_move 2 (some .int))) := zGV zt330 zt331 zt332 zt32 zt333
theorem gS_X6_87 : GoodIn zW (va_wsS RX6 87 yX2_isState (zws yX2_isState cX2_isState 1 (some .boolean))) := zGS zt334 zt324 zt38 zt325
theorem gS_X6_92 : GoodIn zW (va_wsS RX6 92 yX4_goTo (zws yX4_goTo cX4_goTo 6 (some .int))) := zGS zt335 zt336 zt39 zt337
theorem gS_X4_15 : GoodIn zW (va_wsS RX4 15 yX2_clocksBetween (zws yX2_clocksBetween cX2_clocksBetween 4 (some .int))) := zGS zt338 zt339 zt38 zt340
theorem gS_X2_20 : GoodIn zW (va_wsS RX2 20 yX2_nextOfAll (zws yX2_nextOfAll cX2_nextOfAll 3 (some .int))) := zGS zt341 zt342 zt38 zt343
theorem gS_X2_24 : GoodIn zW (va_wsS RX2 24 yX2_next (zws yX2_next cX2_next 2 (some .int))) := zGS zt344 zt321 zt38 zt322
theorem gS_X4_21 : GoodIn zW (va_wsS RX4 21 yX2_next (zws yX2_next cX2_next 2 (some .int))) := zGS zt345 zt321 zt38 zt322
theorem gV_X4_24 : GoodIn zW (wsV RX4 24 RX0 yX0_tick (zws yX0_tick cX0_tick 4 (some .int))) := zGV zt346 zt256 zt257 zt33 zt258
theorem gV_L_41 : GoodIn zW (wsV RL 41 RX6 yX6_identify (zws yX6_identify cX6_identify 1 (some .int))) := zGV zt347 zt348 zt349 zt32 zt350
theorem gS_X6_98 : GoodIn zW (va_wsS RX6 98 yX4_readIdentities (zws yX4_readIdentities cX4_readIdentities 3 (some .int))) := zGS zt351 zt352 zt39 zt353
theorem gS_X4_29 : GoodIn zW (va_wsS RX4 29 yX4_goTo (zws yX4_goTo cX4_goTo 6 (some .int))) := zGS zt354 zt336 zt39 zt337
theorem gV_X4_33 : GoodIn zW (wsV RX4 33 RX0 yX0_forgetIdentities (zws yX0_forgetIdentities cX0_forgetIdentities 1 none)) := zGV zt355 zt356 zt357 zt33 zt358
theorem gS_X4_36 : GoodIn zW (va_wsS RX4 36 yX4_readIdentity (zws yX4_readIdentity cX4_readIdentity 2 (some .int))) := zGS zt359 zt360 zt39 zt361
theorem gS_X4_51 : GoodIn zW (va_wsS RX4 51 yX4_shiftThrough (zws yX4_shiftThrough cX4_shiftThrough 7 (some .int))) := zGS zt363 zt364 zt39 zt365
theorem gV_X4_40 : GoodIn zW (wsV RX4 40 RX0 yX0_keepIdentity (zws yX0_keepIdentity cX0_keepIdentity 2 none)) := zGV zt366 zt367 zt368 zt33 zt369
theorem gV_L_46 : GoodIn zW (wsV RL 46 RX6 yX6_load (zws yX6_load cX6_load 3 (some .int))) := zGV zt370 zt371 zt372 zt32 zt373
theorem gS_X6_102 : GoodIn zW (va_wsS RX6 102 yX4_loadInstruction (zws yX4_loadInstruction cX4_loadInstruction 6 none)) := zGS zt374 zt375 zt39 zt376
theorem gV_X6_106 : GoodIn zW (wsV RX6 106 RX1 yX1_dataBits (zws yX1_dataBits cX1_dataBits 1 (some .int))) := zGV zt377 zt284 zt285 zt34 zt286
theorem gV_L_50 : GoodIn zW (wsV RL 50 RX6 yX6_exchange (zws yX6_exchange cX6_exchange 4 (some .int))) := zGV zt378 zt379 zt380 zt32 zt381
theorem gV_X6_109 : GoodIn zW (wsV RX6 109 RX6 yX6_exchangeError (zws yX6_exchangeError cX6_exchangeError 3 (some .int))) := zGV zt382 zt384 zt5 zt32 zt385
theorem gS_X6_112 : GoodIn zW (va_wsS RX6 112 yX4_exchangeData (zws yX4_exchangeData cX4_exchangeData 7 (some .int))) := zGS zt386 zt387 zt39 zt388
theorem gV_X4_67 : GoodIn zW (wsV RX4 67 RX1 yX1_dataBits (zws yX1_dataBits cX1_dataBits 1 (some .int))) := zGV zt389 zt284 zt285 zt34 zt286
theorem gV_L_54 : GoodIn zW (wsV RL 54 RX6 yX6_append (zws yX6_append cX6_append 2 (some .int))) := zGV zt390 zt391 zt392 zt32 zt393
theorem gV_X6_119 : GoodIn zW (wsV RX6 119 RX5 yX5_write (zws yX5_write cX5_write 2 (some .int))) := zGV zt394 zt395 zt396 zt36 zt397
theorem gV_L_58 : GoodIn zW (wsV RL 58 RX6 yX6_clearText (zws yX6_clearText cX6_clearText 1 (some .int))) := zGV zt398 zt399 zt400 zt32 zt401
theorem gV_X6_122 : GoodIn zW (wsV RX6 122 RX5 yX5_wipe (zws yX5_wipe cX5_wipe 2 (some .int))) := zGV zt402 zt403 zt404 zt36 zt405
theorem gV_L_62 : GoodIn zW (wsV RL 62 RX6 yX6_fault (zws yX6_fault cX6_fault 1 (some .int))) := zGV zt406 zt407 zt408 zt32 zt409
theorem gV_X6_125 : GoodIn zW (wsV RX6 125 RX5 yX5_firstFault (zws yX5_firstFault cX5_firstFault 5 (some .int))) := zGV zt410 zt411 zt412 zt36 zt413
theorem gS_X5_19 : GoodIn zW (va_wsS RX5 19 yX5_hexValue (zws yX5_hexValue cX5_hexValue 1 (some .int))) := zGS zt414 zt415 zt36 zt416
theorem gS_X5_23 : GoodIn zW (va_wsS RX5 23 yX5_startsItem (zws yX5_startsItem cX5_startsItem 1 (some .boolean))) := zGS zt417 zt418 zt36 zt419
theorem gV_L_66 : GoodIn zW (wsV RL 66 RX6 yX6_run (zws yX6_run cX6_run 2 (some .int))) := zGV zt420 zt421 zt422 zt32 zt423
theorem gS_X6_128 : GoodIn zW (va_wsS RX6 128 yX4_carryOut (zws yX4_carryOut cX4_carryOut 7 (some .int))) := zGS zt424 zt425 zt39 zt426
theorem gV_X4_80 : GoodIn zW (wsV RX4 80 RX5 yX5_hexAt (zws yX5_hexAt cX5_hexAt 2 (some .int))) := zGV zt427 zt428 zt429 zt36 zt430
theorem gS_X4_83 : GoodIn zW (va_wsS RX4 83 yX4_clockItem (zws yX4_clockItem cX4_clockItem 4 none)) := zGS zt431 zt432 zt39 zt433
theorem gV_L_70 : GoodIn zW (wsV RL 70 RX6 yX6_undo (zws yX6_undo cX6_undo 1 (some .int))) := zGV zt434 zt435 zt436 zt32 zt437
theorem gV_X6_132 : GoodIn zW (wsV RX6 132 RX3 yX3_takeBack (zws yX3_takeBack cX3_takeBack 2 (some .int))) := zGV zt438 zt439 zt440 zt35 zt441
theorem gV_L_74 : GoodIn zW (wsV RL 74 RX6 yX6_save (zws yX6_save cX6_save 1 (some .int))) := zGV zt442 zt443 zt444 zt32 zt445
theorem gV_X6_135 : GoodIn zW (wsV RX6 135 RX0 yX0_becomeCopyOf (zws yX0_becomeCopyOf cX0_becomeCopyOf 3 none)) := zGV zt446 zt197 zt198 zt33 zt199
theorem gV_L_78 : GoodIn zW (wsV RL 78 RX6 yX6_restore (zws yX6_restore cX6_restore 1 (some .int))) := zGV zt447 zt448 zt449 zt32 zt450
theorem gV_L_82 : GoodIn zW (wsV RL 82 RX6 yX6_chip (zws yX6_chip cX6_chip 3 (some .int))) := zGV zt451 zt452 zt453 zt32 zt454
theorem gV_X6_138 : GoodIn zW (wsV RX6 138 RX1 yX1_tell (zws yX1_tell cX1_tell 2 (some .int))) := zGV zt455 zt456 zt457 zt34 zt458
theorem gV_L_86 : GoodIn zW (wsV RL 86 RX6 yX6_count (zws yX6_count cX6_count 2 (some .int))) := zGV zt459 zt460 zt461 zt32 zt462
theorem gV_X6_147 : GoodIn zW (wsV RX6 147 RX0 yX0_sumOfCodeLengths (zws yX0_sumOfCodeLengths cX0_sumOfCodeLengths 3 (some .int))) := zGV zt463 zt464 zt465 zt33 zt466
theorem gV_X6_150 : GoodIn zW (wsV RX6 150 RX0 yX0_sumOfDataBits (zws yX0_sumOfDataBits cX0_sumOfDataBits 3 (some .int))) := zGV zt467 zt468 zt469 zt33 zt470
theorem gV_X0_59 : GoodIn zW (wsV RX0 59 RX1 yX1_dataBits (zws yX1_dataBits cX1_dataBits 1 (some .int))) := zGV zt471 zt284 zt285 zt34 zt286
theorem gV_L_90 : GoodIn zW (wsV RL 90 RX6 yX6_found (zws yX6_found cX6_found 2 (some .int))) := zGV zt472 zt473 zt474 zt32 zt475
theorem gV_L_94 : GoodIn zW (wsV RL 94 RX6 yX6_distance (zws yX6_distance cX6_distance 3 (some .int))) := zGV zt476 zt477 zt478 zt32 zt479
theorem gS_X6_161 : GoodIn zW (va_wsS RX6 161 yX2_clocksBetween (zws yX2_clocksBetween cX2_clocksBetween 4 (some .int))) := zGS zt480 zt339 zt38 zt340
theorem gV_L_98 : GoodIn zW (wsV RL 98 RX6 yX6_peek (zws yX6_peek cX6_peek 2 (some .int))) := zGV zt481 zt482 zt483 zt32 zt484
theorem gV_X6_164 : GoodIn zW (wsV RX6 164 RX0 yX0_outputWith (zws yX0_outputWith cX0_outputWith 3 (some .int))) := zGV zt485 zt260 zt261 zt33 zt262
theorem gV_L_102 : GoodIn zW (wsV RL 102 RX6 yX6_ifIdentified (zws yX6_ifIdentified cX6_ifIdentified 1 (some .int))) := zGV zt486 zt487 zt488 zt32 zt489
theorem gV_L_106 : GoodIn zW (wsV RL 106 RX6 yX6_ifExchanged (zws yX6_ifExchanged cX6_ifExchanged 4 (some .int))) := zGV zt490 zt491 zt492 zt32 zt493
theorem gV_L_110 : GoodIn zW (wsV RL 110 RX6 yX6_bypassed (zws yX6_bypassed cX6_bypassed 1 (some .float))) := zGV zt494 zt495 zt496 zt32 zt497
theorem gV_X6_167 : GoodIn zW (wsV RX6 167 RX0 yX0_bypassedChips (zws yX0_bypassedChips cX0_bypassedChips 3 (some .int))) := zGV zt498 zt499 zt500 zt33 zt501
theorem gV_X0_52 : GoodIn zW (wsV RX0 52 RX1 yX1_selectsBypass (zws yX1_selectsBypass cX1_selectsBypass 1 (some .boolean))) := zGV zt502 zt503 zt504 zt34 zt505
theorem gV_L_73 : GoodIn zW (wsV RL 73 RX7 yX7_undo (zws yX7_undo cX7_undo 1 (some .int))) := zGV zt540 zt541 zt542 zt37 zt543
theorem gS_X7_36 : GoodIn zW (va_wsS RX7 36 yX7_copyRow (zws yX7_copyRow cX7_copyRow 5 none)) := zGS zt544 zt545 zt37 zt546
theorem gV_L_77 : GoodIn zW (wsV RL 77 RX7 yX7_save (zws yX7_save cX7_save 1 (some .int))) := zGV zt547 zt548 zt549 zt37 zt550
theorem gV_L_81 : GoodIn zW (wsV RL 81 RX7 yX7_restore (zws yX7_restore cX7_restore 1 (some .int))) := zGV zt551 zt552 zt553 zt37 zt554
theorem gV_X7_44 : GoodIn zW (wsV RX7 44 RX7 yX7_record (zws yX7_record cX7_record 2 none)) := zGV zt555 zt557 zt6 zt37 zt558
theorem gV_L_17 : GoodIn zW (wsV RL 17 RX7 yX7_add (zws yX7_add cX7_add 7 (some .int))) := zGV zt559 zt560 zt561 zt37 zt562
theorem gS_X7_28 : GoodIn zW (va_wsS RX7 28 yX7_in (zws yX7_in cX7_in 3 (some .boolean))) := zGS zt563 zt564 zt37 zt565
theorem gV_X7_58 : GoodIn zW (wsV RX7 58 RX7 yX7_lay (zws yX7_lay cX7_lay 4 none)) := zGV zt566 zt568 zt7 zt37 zt569
theorem gV_X7_70 : GoodIn zW (wsV RX7 70 RX7 yX7_giveFirst (zws yX7_giveFirst cX7_giveFirst 2 none)) := zGV zt570 zt572 zt8 zt37 zt573
theorem gV_X7_47 : GoodIn zW (wsV RX7 47 RX7 yX7_of (zws yX7_of cX7_of 3 (some .int))) := zGV zt574 zt576 zt9 zt37 zt577
theorem gS_X7_62 : GoodIn zW (va_wsS RX7 62 yX7_ones (zws yX7_ones cX7_ones 1 (some .int))) := zGS zt578 zt579 zt37 zt580
theorem gV_X7_66 : GoodIn zW (wsV RX7 66 RX7 yX7_give (zws yX7_give cX7_give 3 none)) := zGV zt581 zt583 zt10 zt37 zt584
theorem gV_L_22 : GoodIn zW (wsV RL 22 RX7 yX7_take (zws yX7_take cX7_take 4 (some .int))) := zGV zt585 zt586 zt587 zt37 zt588
theorem gV_X7_74 : GoodIn zW (wsV RX7 74 RX7 yX7_isChip (zws yX7_isChip cX7_isChip 2 (some .boolean))) := zGV zt589 zt591 zt11 zt37 zt592
theorem gV_L_27 : GoodIn zW (wsV RL 27 RX7 yX7_setPins (zws yX7_setPins cX7_setPins 4 (some .int))) := zGV zt593 zt594 zt595 zt37 zt596
theorem gV_L_32 : GoodIn zW (wsV RL 32 RX7 yX7_breakChip (zws yX7_breakChip cX7_breakChip 3 (some .int))) := zGV zt597 zt598 zt599 zt37 zt600
theorem gV_X7_77 : GoodIn zW (wsV RX7 77 RX7 yX7_sum (zws yX7_sum cX7_sum 4 (some .int))) := zGV zt601 zt603 zt12 zt37 zt604
theorem gV_L_36 : GoodIn zW (wsV RL 36 RX7 yX7_clock (zws yX7_clock cX7_clock 3 (some .int))) := zGV zt605 zt606 zt607 zt37 zt608
theorem gV_X7_106 : GoodIn zW (wsV RX7 106 RX7 yX7_clockNow (zws yX7_clockNow cX7_clockNow 5 (some .int))) := zGV zt609 zt611 zt13 zt37 zt612
theorem gV_X7_94 : GoodIn zW (wsV RX7 94 RX7 yX7_output (zws yX7_output cX7_output 2 (some .int))) := zGV zt613 zt615 zt14 zt37 zt616
theorem gV_X7_84 : GoodIn zW (wsV RX7 84 RX7 yX7_isShifting (zws yX7_isShifting cX7_isShifting 1 (some .boolean))) := zGV zt617 zt619 zt15 zt37 zt620
theorem gV_X7_88 : GoodIn zW (wsV RX7 88 RX7 yX7_outputOf (zws yX7_outputOf cX7_outputOf 2 (some .int))) := zGV zt621 zt623 zt16 zt37 zt624
theorem gV_X7_80 : GoodIn zW (wsV RX7 80 RX7 yX7_shifted (zws yX7_shifted cX7_shifted 1 (some .int))) := zGV zt625 zt627 zt17 zt37 zt628
theorem gV_X7_97 : GoodIn zW (wsV RX7 97 RX7 yX7_shift (zws yX7_shift cX7_shift 6 none)) := zGV zt629 zt631 zt18 zt37 zt632
theorem gV_X7_91 : GoodIn zW (wsV RX7 91 RX7 yX7_bits (zws yX7_bits cX7_bits 2 (some .int))) := zGV zt633 zt635 zt19 zt37 zt636
theorem gV_X7_51 : GoodIn zW (wsV RX7 51 RX7 yX7_selectsCells (zws yX7_selectsCells cX7_selectsCells 2 (some .boolean))) := zGV zt637 zt639 zt20 zt37 zt640
theorem gV_X7_55 : GoodIn zW (wsV RX7 55 RX7 yX7_selectsIdentity (zws yX7_selectsIdentity cX7_selectsIdentity 2 (some .boolean))) := zGV zt641 zt643 zt21 zt37 zt644
theorem gV_X7_100 : GoodIn zW (wsV RX7 100 RX7 yX7_work (zws yX7_work cX7_work 2 none)) := zGV zt645 zt647 zt22 zt37 zt648
theorem gS_X7_103 : GoodIn zW (va_wsS RX7 103 yX7_next (zws yX7_next cX7_next 2 (some .int))) := zGS zt649 zt650 zt37 zt651
theorem gV_L_40 : GoodIn zW (wsV RL 40 RX7 yX7_move (zws yX7_move cX7_move 2 (some .int))) := zGV zt652 zt653 zt654 zt37 zt655
theorem gV_X7_112 : GoodIn zW (wsV RX7 112 RX7 yX7_moveNow (zws yX7_moveNow cX7_moveNow 4 (some .int))) := zGV zt656 zt658 zt23 zt37 zt659
theorem gV_X7_109 : GoodIn zW (wsV RX7 109 RX7 yX7_measure (zws yX7_measure cX7_measure 6 none)) := zGV zt660 zt662 zt24 zt37 zt663
theorem gV_L_45 : GoodIn zW (wsV RL 45 RX7 yX7_identify (zws yX7_identify cX7_identify 1 (some .int))) := zGV zt664 zt665 zt666 zt37 zt667
theorem gV_X7_118 : GoodIn zW (wsV RX7 118 RX7 yX7_identifyNow (zws yX7_identifyNow cX7_identifyNow 3 none)) := zGV zt668 zt670 zt25 zt37 zt671
theorem gV_X7_115 : GoodIn zW (wsV RX7 115 RX7 yX7_readOne (zws yX7_readOne cX7_readOne 3 (some .int))) := zGV zt672 zt674 zt26 zt37 zt675
theorem gV_L_49 : GoodIn zW (wsV RL 49 RX7 yX7_load (zws yX7_load cX7_load 5 (some .int))) := zGV zt676 zt677 zt678 zt37 zt679
theorem gV_X7_121 : GoodIn zW (wsV RX7 121 RX7 yX7_clockBits (zws yX7_clockBits cX7_clockBits 7 (some .int))) := zGV zt680 zt682 zt27 zt37 zt683
theorem gV_L_53 : GoodIn zW (wsV RL 53 RX7 yX7_exchange (zws yX7_exchange cX7_exchange 4 (some .int))) := zGV zt684 zt685 zt686 zt37 zt687
theorem gV_X7_125 : GoodIn zW (wsV RX7 125 RX7 yX7_whyNotExchange (zws yX7_whyNotExchange cX7_whyNotExchange 3 (some .int))) := zGV zt688 zt690 zt28 zt37 zt691
theorem gV_X7_128 : GoodIn zW (wsV RX7 128 RX7 yX7_exchangeNow (zws yX7_exchangeNow cX7_exchangeNow 6 (some .int))) := zGV zt692 zt694 zt29 zt37 zt695
theorem gV_L_57 : GoodIn zW (wsV RL 57 RX7 yX7_append (zws yX7_append cX7_append 2 (some .int))) := zGV zt696 zt697 zt698 zt37 zt699
theorem gV_L_61 : GoodIn zW (wsV RL 61 RX7 yX7_clearText (zws yX7_clearText cX7_clearText 2 (some .int))) := zGV zt700 zt701 zt702 zt37 zt703
theorem gV_L_65 : GoodIn zW (wsV RL 65 RX7 yX7_fault (zws yX7_fault cX7_fault 5 (some .int))) := zGV zt704 zt705 zt706 zt37 zt707
theorem gS_X7_134 : GoodIn zW (va_wsS RX7 134 yX7_digit (zws yX7_digit cX7_digit 1 (some .int))) := zGS zt708 zt709 zt37 zt710
theorem gV_L_69 : GoodIn zW (wsV RL 69 RX7 yX7_run (zws yX7_run cX7_run 8 (some .int))) := zGV zt711 zt712 zt713 zt37 zt714
theorem gV_X7_137 : GoodIn zW (wsV RX7 137 RX7 yX7_fault (zws yX7_fault cX7_fault 5 (some .int))) := zGV zt715 zt705 zt706 zt37 zt707
theorem gV_L_85 : GoodIn zW (wsV RL 85 RX7 yX7_chip (zws yX7_chip cX7_chip 3 (some .int))) := zGV zt716 zt717 zt718 zt37 zt719
theorem gV_L_89 : GoodIn zW (wsV RL 89 RX7 yX7_count (zws yX7_count cX7_count 2 (some .int))) := zGV zt720 zt721 zt722 zt37 zt723
theorem gV_X7_140 : GoodIn zW (wsV RX7 140 RX7 yX7_allBits (zws yX7_allBits cX7_allBits 3 (some .int))) := zGV zt724 zt726 zt30 zt37 zt727
theorem gV_L_93 : GoodIn zW (wsV RL 93 RX7 yX7_found (zws yX7_found cX7_found 2 (some .int))) := zGV zt728 zt729 zt730 zt37 zt731
theorem gV_L_97 : GoodIn zW (wsV RL 97 RX7 yX7_distance (zws yX7_distance cX7_distance 3 (some .int))) := zGV zt732 zt733 zt734 zt37 zt735
theorem gV_L_101 : GoodIn zW (wsV RL 101 RX7 yX7_peek (zws yX7_peek cX7_peek 2 (some .int))) := zGV zt736 zt737 zt738 zt37 zt739
theorem gV_L_105 : GoodIn zW (wsV RL 105 RX7 yX7_ifIdentified (zws yX7_ifIdentified cX7_ifIdentified 2 (some .int))) := zGV zt740 zt741 zt742 zt37 zt743
theorem gV_L_109 : GoodIn zW (wsV RL 109 RX7 yX7_ifExchanged (zws yX7_ifExchanged cX7_ifExchanged 5 (some .int))) := zGV zt744 zt745 zt746 zt37 zt747
theorem gV_L_114 : GoodIn zW (wsV RL 114 RX7 yX7_bypassed (zws yX7_bypassed cX7_bypassed 4 (some .float))) := zGV zt748 zt749 zt750 zt37 zt751
theorem fl_X1_9 {p s m args meth c cc nL own G} (cx : Cx p s m args meth c cc nL own G) : zFL s args RX1 9 "ScanChain$Chip" "codeLength" "I" := Or.inl (cx.1.2.2.2.2 _ zt61)
theorem fl_X1_15 {p s m args meth c cc nL own G} (cx : Cx p s m args meth c cc nL own G) : zFL s args RX1 15 "ScanChain$Chip" "identity" "I" := Or.inl (cx.1.2.2.2.2 _ zt64)
theorem fl_X1_18 {p s m args meth c cc nL own G} (cx : Cx p s m args meth c cc nL own G) : zFL s args RX1 18 "ScanChain$Chip" "cells" "I" := Or.inl (cx.1.2.2.2.2 _ zt66)
theorem fl_X1_21 {p s m args meth c cc nL own G} (cx : Cx p s m args meth c cc nL own G) : zFL s args RX1 21 "ScanChain$Chip" "pins" "I" := Or.inl (cx.1.2.2.2.2 _ zt67)
theorem fl_X1_24 {p s m args meth c cc nL own G} (cx : Cx p s m args meth c cc nL own G) : zFL s args RX1 24 "ScanChain$Chip" "outputs" "I" := Or.inl (cx.1.2.2.2.2 _ zt68)
theorem fl_X1_27 {p s m args meth c cc nL own G} (cx : Cx p s m args meth c cc nL own G) : zFL s args RX1 27 "ScanChain$Chip" "isBroken" "Z" := Or.inl (cx.1.2.2.2.2 _ zt69)
theorem fl_X1_37 {p s m args meth c cc nL own G} (cx : Cx p s m args meth c cc nL own G) : zFL s args RX1 37 "ScanChain$Chip" "instruction" "I" := Or.inl (cx.1.2.2.2.2 _ zt72)
theorem fl_X1_31 {p s m args meth c cc nL own G} (cx : Cx p s m args meth c cc nL own G) : zFL s args RX1 31 "ScanChain$Chip" "codeRegister" "I" := Or.inl (cx.1.2.2.2.2 _ zt73)
theorem fl_X1_40 {p s m args meth c cc nL own G} (cx : Cx p s m args meth c cc nL own G) : zFL s args RX1 40 "ScanChain$Chip" "dataRegister" "I" := Or.inl (cx.1.2.2.2.2 _ zt75)
theorem fl_X0_11 {p s m args meth c cc nL own G} (cx : Cx p s m args meth c cc nL own G) : zFL s args RX0 11 "ScanChain$Chain" "chips" "[LScanChain$Chip;" := Or.inl (cx.1.2.2.2.2 _ zt95)
theorem fl_X0_18 {p s m args meth c cc nL own G} (cx : Cx p s m args meth c cc nL own G) : zFL s args RX0 18 "ScanChain$Chain" "size" "I" := Or.inl (cx.1.2.2.2.2 _ zt98)
theorem fl_X0_24 {p s m args meth c cc nL own G} (cx : Cx p s m args meth c cc nL own G) : zFL s args RX0 24 "ScanChain$Chain" "state" "I" := Or.inl (cx.1.2.2.2.2 _ zt101)
theorem fl_X0_27 {p s m args meth c cc nL own G} (cx : Cx p s m args meth c cc nL own G) : zFL s args RX0 27 "ScanChain$Chain" "clocks" "I" := Or.inl (cx.1.2.2.2.2 _ zt104)
theorem fl_X0_30 {p s m args meth c cc nL own G} (cx : Cx p s m args meth c cc nL own G) : zFL s args RX0 30 "ScanChain$Chain" "identities" "[I" := Or.inl (cx.1.2.2.2.2 _ zt106)
theorem fl_X0_34 {p s m args meth c cc nL own G} (cx : Cx p s m args meth c cc nL own G) : zFL s args RX0 34 "ScanChain$Chain" "identityCount" "I" := Or.inl (cx.1.2.2.2.2 _ zt108)
theorem fl_X3_11 {p s m args meth c cc nL own G} (cx : Cx p s m args meth c cc nL own G) : zFL s args RX3 11 "ScanChain$History" "records" "[LScanChain$Chain;" := Or.inl (cx.1.2.2.2.2 _ zt134)
theorem fl_X3_18 {p s m args meth c cc nL own G} (cx : Cx p s m args meth c cc nL own G) : zFL s args RX3 18 "ScanChain$History" "size" "I" := Or.inl (cx.1.2.2.2.2 _ zt135)
theorem fl_X5_9 {p s m args meth c cc nL own G} (cx : Cx p s m args meth c cc nL own G) : zFL s args RX5 9 "ScanChain$Script" "characters" "[C" := Or.inl (cx.1.2.2.2.2 _ zt148)
theorem fl_X5_15 {p s m args meth c cc nL own G} (cx : Cx p s m args meth c cc nL own G) : zFL s args RX5 15 "ScanChain$Script" "length" "I" := Or.inl (cx.1.2.2.2.2 _ zt150)
theorem fl_X6_10 {p s m args meth c cc nL own G} (cx : Cx p s m args meth c cc nL own G) : zFL s args RX6 10 "ScanChain" "chain" "LScanChain$Chain;" := Or.inl (cx.1.2.2.2.2 _ zt159)
theorem fl_X6_16 {p s m args meth c cc nL own G} (cx : Cx p s m args meth c cc nL own G) : zFL s args RX6 16 "ScanChain" "trial" "LScanChain$Chain;" := Or.inl (cx.1.2.2.2.2 _ zt160)
theorem fl_X6_19 {p s m args meth c cc nL own G} (cx : Cx p s m args meth c cc nL own G) : zFL s args RX6 19 "ScanChain" "snapshot" "LScanChain$Chain;" := Or.inl (cx.1.2.2.2.2 _ zt161)
theorem fl_X6_22 {p s m args meth c cc nL own G} (cx : Cx p s m args meth c cc nL own G) : zFL s args RX6 22 "ScanChain" "hasSnapshot" "Z" := Or.inl (cx.1.2.2.2.2 _ zt162)
theorem fl_X6_29 {p s m args meth c cc nL own G} (cx : Cx p s m args meth c cc nL own G) : zFL s args RX6 29 "ScanChain" "history" "LScanChain$History;" := Or.inl (cx.1.2.2.2.2 _ zt163)
theorem fl_X6_36 {p s m args meth c cc nL own G} (cx : Cx p s m args meth c cc nL own G) : zFL s args RX6 36 "ScanChain" "script" "LScanChain$Script;" := Or.inl (cx.1.2.2.2.2 _ zt164)
theorem fl_X2_13 {p s m args meth c cc nL own G} (cx : Cx p s m args meth c cc nL own G) : zFL s args RX2 13 "ScanChain$Controller" "NEXT_BY_MODE_0" "[I" := Or.inl (cx.1.2.2.2.2 _ zt326)
theorem fl_X2_17 {p s m args meth c cc nL own G} (cx : Cx p s m args meth c cc nL own G) : zFL s args RX2 17 "ScanChain$Controller" "NEXT_BY_MODE_1" "[I" := Or.inl (cx.1.2.2.2.2 _ zt328)
theorem fl_X7_7 {p s m args meth c cc nL own G} (cx : Cx p s m args meth c cc nL own G) : zFL s args RX7 7 "ScanChainModel" "z" "[I" := Or.inl (cx.1.2.2.2.2 _ zt512)
theorem fl_X7_13 {p s m args meth c cc nL own G} (cx : Cx p s m args meth c cc nL own G) : zFL s args RX7 13 "ScanChainModel" "spare" "[I" := Or.inl (cx.1.2.2.2.2 _ zt513)
theorem fl_X7_16 {p s m args meth c cc nL own G} (cx : Cx p s m args meth c cc nL own G) : zFL s args RX7 16 "ScanChainModel" "past" "[I" := Or.inl (cx.1.2.2.2.2 _ zt514)
theorem fl_X7_32 {p s m args meth c cc nL own G} (cx : Cx p s m args meth c cc nL own G) : zFL s args RX7 32 "ScanChainModel" "states" "I" := Or.inl (cx.1.2.2.2.2 _ zt515)
theorem fl_X7_19 {p s m args meth c cc nL own G} (cx : Cx p s m args meth c cc nL own G) : zFL s args RX7 19 "ScanChainModel" "kept" "[I" := Or.inl (cx.1.2.2.2.2 _ zt516)
theorem fl_X7_40 {p s m args meth c cc nL own G} (cx : Cx p s m args meth c cc nL own G) : zFL s args RX7 40 "ScanChainModel" "isKept" "Z" := Or.inl (cx.1.2.2.2.2 _ zt517)
theorem fl_X7_22 {p s m args meth c cc nL own G} (cx : Cx p s m args meth c cc nL own G) : zFL s args RX7 22 "ScanChainModel" "text" "[I" := Or.inl (cx.1.2.2.2.2 _ zt518)
theorem fl_X7_131 {p s m args meth c cc nL own G} (cx : Cx p s m args meth c cc nL own G) : zFL s args RX7 131 "ScanChainModel" "length" "I" := Or.inl (cx.1.2.2.2.2 _ zt519)
theorem fl_X7_25 {p s m args meth c cc nL own G} (cx : Cx p s m args meth c cc nL own G) : zFL s args RX7 25 "ScanChainModel" "far" "[I" := Or.inl (cx.1.2.2.2.2 _ zt520)
theorem ml_X0_17 {p s m args meth c cc nL own G} (cx : Cx p s m args meth c cc nL own G) : va_Nw (.methodLinkNest RX0 17 yX1_init "ScanChain") s := cx.2.1.2.1 _ (List.mem_of_getElem? (i := 0) rfl)
theorem fl_X4_62 {p s m args meth c cc nL own G} (cx : Cx p s m args meth c cc nL own G) : zFL s args RX4 62 "ScanChain$Chip" "codeLength" "I" := Or.inr ⟨_, va_Nw.use rfl (cx.2.1.2.1 _ (List.mem_of_getElem? (i := 1) rfl))⟩
theorem fl_X0_56 {p s m args meth c cc nL own G} (cx : Cx p s m args meth c cc nL own G) : zFL s args RX0 56 "ScanChain$Chip" "codeLength" "I" := Or.inr ⟨_, va_Nw.use rfl (cx.2.1.2.1 _ (List.mem_of_getElem? (i := 2) rfl))⟩
theorem fl_X0_45 {p s m args meth c cc nL own G} (cx : Cx p s m args meth c cc nL own G) : zFL s args RX0 45 "ScanChain$Chip" "identity" "I" := Or.inr ⟨_, va_Nw.use rfl (cx.2.1.2.1 _ (List.mem_of_getElem? (i := 3) rfl))⟩
theorem fl_X6_76 {p s m args meth c cc nL own G} (cx : Cx p s m args meth c cc nL own G) : zFL s args RX6 76 "ScanChain$Chip" "isBroken" "Z" := Or.inr ⟨_, va_Nw.use rfl (cx.2.1.2.1 _ (List.mem_of_getElem? (i := 4) rfl))⟩
theorem fl_X0_48 {p s m args meth c cc nL own G} (cx : Cx p s m args meth c cc nL own G) : zFL s args RX0 48 "ScanChain$Chip" "isBroken" "Z" := Or.inr ⟨_, va_Nw.use rfl (cx.2.1.2.1 _ (List.mem_of_getElem? (i := 5) rfl))⟩
theorem fl_X0_99 {p s m args meth c cc nL own G} (cx : Cx p s m args meth c cc nL own G) : zFL s args RX0 99 "ScanChain$Chip" "codeRegister" "I" := Or.inr ⟨_, va_Nw.use rfl (cx.2.1.2.1 _ (List.mem_of_getElem? (i := 6) rfl))⟩
theorem fl_X6_67 {p s m args meth c cc nL own G} (cx : Cx p s m args meth c cc nL own G) : zFL s args RX6 67 "ScanChain$Chain" "chips" "[LScanChain$Chip;" := Or.inr ⟨_, va_Nw.use rfl (cx.2.1.2.1 _ (List.mem_of_getElem? (i := 7) rfl))⟩
theorem fl_X4_58 {p s m args meth c cc nL own G} (cx : Cx p s m args meth c cc nL own G) : zFL s args RX4 58 "ScanChain$Chain" "chips" "[LScanChain$Chip;" := Or.inr ⟨_, va_Nw.use rfl (cx.2.1.2.1 _ (List.mem_of_getElem? (i := 8) rfl))⟩
theorem fl_X6_48 {p s m args meth c cc nL own G} (cx : Cx p s m args meth c cc nL own G) : zFL s args RX6 48 "ScanChain$Chain" "size" "I" := Or.inr ⟨_, va_Nw.use rfl (cx.2.1.2.1 _ (List.mem_of_getElem? (i := 9) rfl))⟩
theorem fl_X4_55 {p s m args meth c cc nL own G} (cx : Cx p s m args meth c cc nL own G) : zFL s args RX4 55 "ScanChain$Chain" "size" "I" := Or.inr ⟨_, va_Nw.use rfl (cx.2.1.2.1 _ (List.mem_of_getElem? (i := 10) rfl))⟩
theorem fl_X4_9 {p s m args meth c cc nL own G} (cx : Cx p s m args meth c cc nL own G) : zFL s args RX4 9 "ScanChain$Chain" "state" "I" := Or.inr ⟨_, va_Nw.use rfl (cx.2.1.2.1 _ (List.mem_of_getElem? (i := 11) rfl))⟩
theorem fl_X6_141 {p s m args meth c cc nL own G} (cx : Cx p s m args meth c cc nL own G) : zFL s args RX6 141 "ScanChain$Chain" "state" "I" := Or.inr ⟨_, va_Nw.use rfl (cx.2.1.2.1 _ (List.mem_of_getElem? (i := 12) rfl))⟩
theorem fl_X6_144 {p s m args meth c cc nL own G} (cx : Cx p s m args meth c cc nL own G) : zFL s args RX6 144 "ScanChain$Chain" "clocks" "I" := Or.inr ⟨_, va_Nw.use rfl (cx.2.1.2.1 _ (List.mem_of_getElem? (i := 13) rfl))⟩
theorem fl_X6_157 {p s m args meth c cc nL own G} (cx : Cx p s m args meth c cc nL own G) : zFL s args RX6 157 "ScanChain$Chain" "identities" "[I" := Or.inr ⟨_, va_Nw.use rfl (cx.2.1.2.1 _ (List.mem_of_getElem? (i := 14) rfl))⟩
theorem fl_X4_44 {p s m args meth c cc nL own G} (cx : Cx p s m args meth c cc nL own G) : zFL s args RX4 44 "ScanChain$Chain" "identityCount" "I" := Or.inr ⟨_, va_Nw.use rfl (cx.2.1.2.1 _ (List.mem_of_getElem? (i := 15) rfl))⟩
theorem fl_X6_153 {p s m args meth c cc nL own G} (cx : Cx p s m args meth c cc nL own G) : zFL s args RX6 153 "ScanChain$Chain" "identityCount" "I" := Or.inr ⟨_, va_Nw.use rfl (cx.2.1.2.1 _ (List.mem_of_getElem? (i := 16) rfl))⟩
theorem fl_X6_156 {p s m args meth c cc nL own G} (cx : Cx p s m args meth c cc nL own G) : zFL s args RX6 156 "ScanChain$History" "size" "I" := Or.inr ⟨_, va_Nw.use rfl (cx.2.1.2.1 _ (List.mem_of_getElem? (i := 17) rfl))⟩
theorem fl_X4_76 {p s m args meth c cc nL own G} (cx : Cx p s m args meth c cc nL own G) : zFL s args RX4 76 "ScanChain$Script" "characters" "[C" := Or.inr ⟨_, va_Nw.use rfl (cx.2.1.2.1 _ (List.mem_of_getElem? (i := 18) rfl))⟩
theorem fl_X4_71 {p s m args meth c cc nL own G} (cx : Cx p s m args meth c cc nL own G) : zFL s args RX4 71 "ScanChain$Script" "length" "I" := Or.inr ⟨_, va_Nw.use rfl (cx.2.1.2.1 _ (List.mem_of_getElem? (i := 19) rfl))⟩
theorem fl_X6_116 {p s m args meth c cc nL own G} (cx : Cx p s m args meth c cc nL own G) : zFL s args RX6 116 "ScanChain$Script" "length" "I" := Or.inr ⟨_, va_Nw.use rfl (cx.2.1.2.1 _ (List.mem_of_getElem? (i := 20) rfl))⟩
theorem ml_X1_43 {p s m args meth c cc nL own G} (cx : Cx p s m args meth c cc nL own G) : va_Nw (.methodLinkNest RX1 43 yX6_allOnes "ScanChain") s := cx.2.1.2.1 _ (List.mem_of_getElem? (i := 21) rfl)
theorem ml_X4_47 {p s m args meth c cc nL own G} (cx : Cx p s m args meth c cc nL own G) : va_Nw (.methodLinkNest RX4 47 yX6_allOnes "ScanChain") s := cx.2.1.2.1 _ (List.mem_of_getElem? (i := 22) rfl)
