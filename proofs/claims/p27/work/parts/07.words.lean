theorem zt0 : Cond.selects RX3 yX3_dropOldest yX3_dropOldest ∈ zW := zm 0 (by decide +kernel) (by decide +kernel)
theorem zt1 : Cond.selects RX0 yX0_shiftAllData yX0_shiftAllData ∈ zW := zm 1 (by decide +kernel) (by decide +kernel)
theorem zt2 : Cond.selects RX0 yX0_shiftAllCodes yX0_shiftAllCodes ∈ zW := zm 2 (by decide +kernel) (by decide +kernel)
theorem zt3 : Cond.selects RX0 yX0_workOf yX0_workOf ∈ zW := zm 3 (by decide +kernel) (by decide +kernel)
theorem zt4 : Cond.selects RX6 yX6_exchangeError yX6_exchangeError ∈ zW := zm 4 (by decide +kernel) (by decide +kernel)
theorem zt5 : Cond.initialized RL ∈ zW := zm 5 (by decide +kernel) (by decide +kernel)
theorem zt6 : Cond.initialized RX6 ∈ zW := zm 6 (by decide +kernel) (by decide +kernel)
theorem zt7 : Cond.initialized RX0 ∈ zW := zm 7 (by decide +kernel) (by decide +kernel)
theorem zt8 : Cond.initialized RX1 ∈ zW := zm 8 (by decide +kernel) (by decide +kernel)
theorem zt9 : Cond.initialized RX3 ∈ zW := zm 9 (by decide +kernel) (by decide +kernel)
theorem zt10 : Cond.initialized RX5 ∈ zW := zm 10 (by decide +kernel) (by decide +kernel)
theorem zt11 : Cond.initialized RX2 ∈ zW := zm 11 (by decide +kernel) (by decide +kernel)
theorem zt12 : Cond.initialized RX4 ∈ zW := zm 12 (by decide +kernel) (by decide +kernel)
theorem zt13 : Cond.classLink RL 15 RX6 ∈ zW := zm 13 (by decide +kernel) (by decide +kernel)
theorem zt14 : Cond.instantiable RX6 6 ∈ zW := zm 14 (by decide +kernel) (by decide +kernel)
theorem zt15 : Cond.methodLink RL 101 yX6_init ∈ zW := zm 15 (by decide +kernel) (by decide +kernel)
theorem zt16 : Cond.instanceMethod yX6_init ∈ zW := zm 16 (by decide +kernel) (by decide +kernel)
theorem zt17 : Cond.code yX6_init cX6_init 1 none ∈ zW := zm 17 (by decide +kernel) (by decide +kernel)
theorem zt18 : Cond.methodLink RX6 1 objectInit ∈ zW := zm 18 (by decide +kernel) (by decide +kernel)
theorem zt19 : Cond.instanceMethod objectInit ∈ zW := zm 19 (by decide +kernel) (by decide +kernel)
theorem zt20 : Cond.code objectInit ⟨#[0xb1]⟩ 1 none ∈ zW := zm 20 (by decide +kernel) (by decide +kernel)
theorem zt21 : Cond.classLink RX6 7 RX0 ∈ zW := zm 21 (by decide +kernel) (by decide +kernel)
theorem zt22 : Cond.instantiable RX0 6 ∈ zW := zm 22 (by decide +kernel) (by decide +kernel)
theorem zt23 : Cond.methodLink RX6 9 yX0_init ∈ zW := zm 23 (by decide +kernel) (by decide +kernel)
theorem zt24 : Cond.instanceMethod yX0_init ∈ zW := zm 24 (by decide +kernel) (by decide +kernel)
theorem zt25 : Cond.code yX0_init cX0_init 2 none ∈ zW := zm 25 (by decide +kernel) (by decide +kernel)
theorem zt26 : Cond.methodLink RX0 3 objectInit ∈ zW := zm 26 (by decide +kernel) (by decide +kernel)
theorem zt27 : Cond.classLink RX0 9 RX1 ∈ zW := zm 27 (by decide +kernel) (by decide +kernel)
theorem zt29 : Cond.instantiable RX1 9 ∈ zW := zm 29 (by decide +kernel) (by decide +kernel)
theorem zt31 : Cond.instanceMethod yX1_init ∈ zW := zm 31 (by decide +kernel) (by decide +kernel)
theorem zt32 : Cond.code yX1_init cX1_init 1 none ∈ zW := zm 32 (by decide +kernel) (by decide +kernel)
theorem zt33 : Cond.methodLink RX1 3 objectInit ∈ zW := zm 33 (by decide +kernel) (by decide +kernel)
theorem zt34 : Cond.fieldLink RX1 9 "ScanChain$Chip" "codeLength" "I" ∈ zW := zm 34 (by decide +kernel) (by decide +kernel)
theorem zt37 : Cond.fieldLink RX1 15 "ScanChain$Chip" "identity" "I" ∈ zW := zm 37 (by decide +kernel) (by decide +kernel)
theorem zt39 : Cond.fieldLink RX1 18 "ScanChain$Chip" "cells" "I" ∈ zW := zm 39 (by decide +kernel) (by decide +kernel)
theorem zt40 : Cond.fieldLink RX1 21 "ScanChain$Chip" "pins" "I" ∈ zW := zm 40 (by decide +kernel) (by decide +kernel)
theorem zt41 : Cond.fieldLink RX1 24 "ScanChain$Chip" "outputs" "I" ∈ zW := zm 41 (by decide +kernel) (by decide +kernel)
theorem zt42 : Cond.fieldLink RX1 27 "ScanChain$Chip" "isBroken" "Z" ∈ zW := zm 42 (by decide +kernel) (by decide +kernel)
theorem zt45 : Cond.fieldLink RX1 37 "ScanChain$Chip" "instruction" "I" ∈ zW := zm 45 (by decide +kernel) (by decide +kernel)
theorem zt46 : Cond.fieldLink RX1 31 "ScanChain$Chip" "codeRegister" "I" ∈ zW := zm 46 (by decide +kernel) (by decide +kernel)
theorem zt48 : Cond.fieldLink RX1 40 "ScanChain$Chip" "dataRegister" "I" ∈ zW := zm 48 (by decide +kernel) (by decide +kernel)
theorem zt68 : Cond.fieldLink RX0 11 "ScanChain$Chain" "chips" "[LScanChain$Chip;" ∈ zW := zm 68 (by decide +kernel) (by decide +kernel)
theorem zt71 : Cond.fieldLink RX0 18 "ScanChain$Chain" "size" "I" ∈ zW := zm 71 (by decide +kernel) (by decide +kernel)
theorem zt74 : Cond.fieldLink RX0 24 "ScanChain$Chain" "state" "I" ∈ zW := zm 74 (by decide +kernel) (by decide +kernel)
theorem zt77 : Cond.fieldLink RX0 27 "ScanChain$Chain" "clocks" "I" ∈ zW := zm 77 (by decide +kernel) (by decide +kernel)
theorem zt79 : Cond.fieldLink RX0 30 "ScanChain$Chain" "identities" "[I" ∈ zW := zm 79 (by decide +kernel) (by decide +kernel)
theorem zt81 : Cond.fieldLink RX0 34 "ScanChain$Chain" "identityCount" "I" ∈ zW := zm 81 (by decide +kernel) (by decide +kernel)
theorem zt97 : Cond.arrayClass .int ∈ zW := zm 97 (by decide +kernel) (by decide +kernel)
theorem zt98 : Cond.classLink RX6 26 RX3 ∈ zW := zm 98 (by decide +kernel) (by decide +kernel)
theorem zt99 : Cond.instantiable RX3 2 ∈ zW := zm 99 (by decide +kernel) (by decide +kernel)
theorem zt100 : Cond.methodLink RX6 28 yX3_init ∈ zW := zm 100 (by decide +kernel) (by decide +kernel)
theorem zt101 : Cond.instanceMethod yX3_init ∈ zW := zm 101 (by decide +kernel) (by decide +kernel)
theorem zt102 : Cond.code yX3_init cX3_init 2 none ∈ zW := zm 102 (by decide +kernel) (by decide +kernel)
theorem zt103 : Cond.methodLink RX3 3 objectInit ∈ zW := zm 103 (by decide +kernel) (by decide +kernel)
theorem zt104 : Cond.classLink RX3 9 RX0 ∈ zW := zm 104 (by decide +kernel) (by decide +kernel)
theorem zt106 : Cond.methodLink RX3 17 yX0_init ∈ zW := zm 106 (by decide +kernel) (by decide +kernel)
theorem zt107 : Cond.fieldLink RX3 11 "ScanChain$History" "records" "[LScanChain$Chain;" ∈ zW := zm 107 (by decide +kernel) (by decide +kernel)
theorem zt108 : Cond.fieldLink RX3 18 "ScanChain$History" "size" "I" ∈ zW := zm 108 (by decide +kernel) (by decide +kernel)
theorem zt115 : Cond.classLink RX6 33 RX5 ∈ zW := zm 115 (by decide +kernel) (by decide +kernel)
theorem zt116 : Cond.instantiable RX5 2 ∈ zW := zm 116 (by decide +kernel) (by decide +kernel)
theorem zt117 : Cond.methodLink RX6 35 yX5_init ∈ zW := zm 117 (by decide +kernel) (by decide +kernel)
theorem zt118 : Cond.instanceMethod yX5_init ∈ zW := zm 118 (by decide +kernel) (by decide +kernel)
theorem zt119 : Cond.code yX5_init cX5_init 1 none ∈ zW := zm 119 (by decide +kernel) (by decide +kernel)
theorem zt120 : Cond.methodLink RX5 3 objectInit ∈ zW := zm 120 (by decide +kernel) (by decide +kernel)
theorem zt121 : Cond.fieldLink RX5 9 "ScanChain$Script" "characters" "[C" ∈ zW := zm 121 (by decide +kernel) (by decide +kernel)
theorem zt123 : Cond.fieldLink RX5 15 "ScanChain$Script" "length" "I" ∈ zW := zm 123 (by decide +kernel) (by decide +kernel)
theorem zt131 : Cond.arrayClass .char ∈ zW := zm 131 (by decide +kernel) (by decide +kernel)
theorem zt132 : Cond.fieldLink RX6 10 "ScanChain" "chain" "LScanChain$Chain;" ∈ zW := zm 132 (by decide +kernel) (by decide +kernel)
theorem zt133 : Cond.fieldLink RX6 16 "ScanChain" "trial" "LScanChain$Chain;" ∈ zW := zm 133 (by decide +kernel) (by decide +kernel)
theorem zt134 : Cond.fieldLink RX6 19 "ScanChain" "snapshot" "LScanChain$Chain;" ∈ zW := zm 134 (by decide +kernel) (by decide +kernel)
theorem zt135 : Cond.fieldLink RX6 22 "ScanChain" "hasSnapshot" "Z" ∈ zW := zm 135 (by decide +kernel) (by decide +kernel)
theorem zt136 : Cond.fieldLink RX6 29 "ScanChain" "history" "LScanChain$History;" ∈ zW := zm 136 (by decide +kernel) (by decide +kernel)
theorem zt137 : Cond.fieldLink RX6 36 "ScanChain" "script" "LScanChain$Script;" ∈ zW := zm 137 (by decide +kernel) (by decide +kernel)
theorem zt151 : Cond.methodLink RL 102 yX6_undo ∈ zW := zm 151 (by decide +kernel) (by decide +kernel)
theorem zt152 : Cond.instanceMethod yX6_undo ∈ zW := zm 152 (by decide +kernel) (by decide +kernel)
theorem zt153 : Cond.selects RX6 yX6_undo yX6_undo ∈ zW := zm 153 (by decide +kernel) (by decide +kernel)
theorem zt154 : Cond.code yX6_undo cX6_undo 1 (some .int) ∈ zW := zm 154 (by decide +kernel) (by decide +kernel)
theorem zt155 : Cond.methodLink RX6 132 yX3_takeBack ∈ zW := zm 155 (by decide +kernel) (by decide +kernel)
theorem zt156 : Cond.instanceMethod yX3_takeBack ∈ zW := zm 156 (by decide +kernel) (by decide +kernel)
theorem zt157 : Cond.selects RX3 yX3_takeBack yX3_takeBack ∈ zW := zm 157 (by decide +kernel) (by decide +kernel)
theorem zt158 : Cond.code yX3_takeBack cX3_takeBack 2 (some .int) ∈ zW := zm 158 (by decide +kernel) (by decide +kernel)
theorem zt159 : Cond.methodLink RX3 25 yX0_becomeCopyOf ∈ zW := zm 159 (by decide +kernel) (by decide +kernel)
theorem zt160 : Cond.instanceMethod yX0_becomeCopyOf ∈ zW := zm 160 (by decide +kernel) (by decide +kernel)
theorem zt161 : Cond.selects RX0 yX0_becomeCopyOf yX0_becomeCopyOf ∈ zW := zm 161 (by decide +kernel) (by decide +kernel)
theorem zt162 : Cond.code yX0_becomeCopyOf cX0_becomeCopyOf 3 none ∈ zW := zm 162 (by decide +kernel) (by decide +kernel)
theorem zt163 : Cond.methodLink RX0 37 yX1_becomeCopyOf ∈ zW := zm 163 (by decide +kernel) (by decide +kernel)
theorem zt164 : Cond.instanceMethod yX1_becomeCopyOf ∈ zW := zm 164 (by decide +kernel) (by decide +kernel)
theorem zt165 : Cond.selects RX1 yX1_becomeCopyOf yX1_becomeCopyOf ∈ zW := zm 165 (by decide +kernel) (by decide +kernel)
theorem zt166 : Cond.code yX1_becomeCopyOf cX1_becomeCopyOf 2 none ∈ zW := zm 166 (by decide +kernel) (by decide +kernel)
theorem zt167 : Cond.methodLink RL 111 yX6_save ∈ zW := zm 167 (by decide +kernel) (by decide +kernel)
theorem zt168 : Cond.instanceMethod yX6_save ∈ zW := zm 168 (by decide +kernel) (by decide +kernel)
theorem zt169 : Cond.selects RX6 yX6_save yX6_save ∈ zW := zm 169 (by decide +kernel) (by decide +kernel)
theorem zt170 : Cond.code yX6_save cX6_save 1 (some .int) ∈ zW := zm 170 (by decide +kernel) (by decide +kernel)
theorem zt171 : Cond.methodLink RX6 135 yX0_becomeCopyOf ∈ zW := zm 171 (by decide +kernel) (by decide +kernel)
theorem zt172 : Cond.methodLink RL 105 yX6_restore ∈ zW := zm 172 (by decide +kernel) (by decide +kernel)
theorem zt173 : Cond.instanceMethod yX6_restore ∈ zW := zm 173 (by decide +kernel) (by decide +kernel)
theorem zt174 : Cond.selects RX6 yX6_restore yX6_restore ∈ zW := zm 174 (by decide +kernel) (by decide +kernel)
theorem zt175 : Cond.code yX6_restore cX6_restore 1 (some .int) ∈ zW := zm 175 (by decide +kernel) (by decide +kernel)
theorem zt176 : Cond.methodLink RX6 52 yX3_record ∈ zW := zm 176 (by decide +kernel) (by decide +kernel)
theorem zt177 : Cond.instanceMethod yX3_record ∈ zW := zm 177 (by decide +kernel) (by decide +kernel)
theorem zt178 : Cond.selects RX3 yX3_record yX3_record ∈ zW := zm 178 (by decide +kernel) (by decide +kernel)
theorem zt179 : Cond.code yX3_record cX3_record 2 none ∈ zW := zm 179 (by decide +kernel) (by decide +kernel)
theorem zt180 : Cond.methodLink RX3 22 yX3_dropOldest ∈ zW := zm 180 (by decide +kernel) (by decide +kernel)
theorem zt182 : Cond.instanceMethod yX3_dropOldest ∈ zW := zm 182 (by decide +kernel) (by decide +kernel)
theorem zt183 : Cond.code yX3_dropOldest cX3_dropOldest 3 none ∈ zW := zm 183 (by decide +kernel) (by decide +kernel)
theorem zt184 : Cond.methodLink RL 14 yX6_count ∈ zW := zm 184 (by decide +kernel) (by decide +kernel)
theorem zt185 : Cond.instanceMethod yX6_count ∈ zW := zm 185 (by decide +kernel) (by decide +kernel)
theorem zt186 : Cond.selects RX6 yX6_count yX6_count ∈ zW := zm 186 (by decide +kernel) (by decide +kernel)
theorem zt187 : Cond.code yX6_count cX6_count 2 (some .int) ∈ zW := zm 187 (by decide +kernel) (by decide +kernel)
theorem zt188 : Cond.methodLink RX6 79 yX0_brokenChips ∈ zW := zm 188 (by decide +kernel) (by decide +kernel)
theorem zt189 : Cond.instanceMethod yX0_brokenChips ∈ zW := zm 189 (by decide +kernel) (by decide +kernel)
theorem zt190 : Cond.selects RX0 yX0_brokenChips yX0_brokenChips ∈ zW := zm 190 (by decide +kernel) (by decide +kernel)
theorem zt191 : Cond.code yX0_brokenChips cX0_brokenChips 3 (some .int) ∈ zW := zm 191 (by decide +kernel) (by decide +kernel)
theorem zt192 : Cond.methodLink RX6 147 yX0_sumOfCodeLengths ∈ zW := zm 192 (by decide +kernel) (by decide +kernel)
theorem zt193 : Cond.instanceMethod yX0_sumOfCodeLengths ∈ zW := zm 193 (by decide +kernel) (by decide +kernel)
theorem zt194 : Cond.selects RX0 yX0_sumOfCodeLengths yX0_sumOfCodeLengths ∈ zW := zm 194 (by decide +kernel) (by decide +kernel)
theorem zt195 : Cond.code yX0_sumOfCodeLengths cX0_sumOfCodeLengths 3 (some .int) ∈ zW := zm 195 (by decide +kernel) (by decide +kernel)
theorem zt196 : Cond.methodLink RX6 150 yX0_sumOfDataBits ∈ zW := zm 196 (by decide +kernel) (by decide +kernel)
theorem zt197 : Cond.instanceMethod yX0_sumOfDataBits ∈ zW := zm 197 (by decide +kernel) (by decide +kernel)
theorem zt198 : Cond.selects RX0 yX0_sumOfDataBits yX0_sumOfDataBits ∈ zW := zm 198 (by decide +kernel) (by decide +kernel)
theorem zt199 : Cond.code yX0_sumOfDataBits cX0_sumOfDataBits 3 (some .int) ∈ zW := zm 199 (by decide +kernel) (by decide +kernel)
theorem zt200 : Cond.methodLink RX0 59 yX1_dataBits ∈ zW := zm 200 (by decide +kernel) (by decide +kernel)
theorem zt201 : Cond.instanceMethod yX1_dataBits ∈ zW := zm 201 (by decide +kernel) (by decide +kernel)
theorem zt202 : Cond.selects RX1 yX1_dataBits yX1_dataBits ∈ zW := zm 202 (by decide +kernel) (by decide +kernel)
theorem zt203 : Cond.code yX1_dataBits cX1_dataBits 1 (some .int) ∈ zW := zm 203 (by decide +kernel) (by decide +kernel)
theorem zt204 : Cond.methodLink RX1 47 yX1_selectsCells ∈ zW := zm 204 (by decide +kernel) (by decide +kernel)
theorem zt205 : Cond.instanceMethod yX1_selectsCells ∈ zW := zm 205 (by decide +kernel) (by decide +kernel)
theorem zt206 : Cond.selects RX1 yX1_selectsCells yX1_selectsCells ∈ zW := zm 206 (by decide +kernel) (by decide +kernel)
theorem zt207 : Cond.code yX1_selectsCells cX1_selectsCells 1 (some .boolean) ∈ zW := zm 207 (by decide +kernel) (by decide +kernel)
theorem zt208 : Cond.methodLink RX1 51 yX1_selectsIdentity ∈ zW := zm 208 (by decide +kernel) (by decide +kernel)
theorem zt209 : Cond.instanceMethod yX1_selectsIdentity ∈ zW := zm 209 (by decide +kernel) (by decide +kernel)
theorem zt210 : Cond.selects RX1 yX1_selectsIdentity yX1_selectsIdentity ∈ zW := zm 210 (by decide +kernel) (by decide +kernel)
theorem zt211 : Cond.code yX1_selectsIdentity cX1_selectsIdentity 1 (some .boolean) ∈ zW := zm 211 (by decide +kernel) (by decide +kernel)
theorem zt212 : Cond.methodLink RL 114 yL_cell ∈ zW := zm 212 (by decide +kernel) (by decide +kernel)
theorem zt213 : Cond.static yL_cell ∈ zW := zm 213 (by decide +kernel) (by decide +kernel)
theorem zt214 : Cond.code yL_cell cL_cell 2 (some .int) ∈ zW := zm 214 rfl (by decide +kernel)
theorem zt215 : Cond.constant RL 7 (883997877 : Int32) ∈ zW := zm 215 (by decide +kernel) (by decide +kernel)
theorem zt216 : Cond.constant RL 8 (35023 : Int32) ∈ zW := zm 216 (by decide +kernel) (by decide +kernel)
theorem zt217 : Cond.constant RL 9 (2147483647 : Int32) ∈ zW := zm 217 (by decide +kernel) (by decide +kernel)
theorem zt218 : Cond.methodLink RL 81 yL_seen ∈ zW := zm 218 (by decide +kernel) (by decide +kernel)
theorem zt219 : Cond.static yL_seen ∈ zW := zm 219 (by decide +kernel) (by decide +kernel)
theorem zt220 : Cond.code yL_seen cL_seen 4 (some .long) ∈ zW := zm 220 rfl (by decide +kernel)
theorem zt221 : Cond.constantLong RL 10 (109 : Int64) ∈ zW := zm 221 (by decide +kernel) (by decide +kernel)
theorem zt222 : Cond.constantLong RL 12 (31 : Int64) ∈ zW := zm 222 (by decide +kernel) (by decide +kernel)
theorem zt223 : Cond.methodLink RL 20 yX6_chip ∈ zW := zm 223 (by decide +kernel) (by decide +kernel)
theorem zt224 : Cond.instanceMethod yX6_chip ∈ zW := zm 224 (by decide +kernel) (by decide +kernel)
theorem zt225 : Cond.selects RX6 yX6_chip yX6_chip ∈ zW := zm 225 (by decide +kernel) (by decide +kernel)
theorem zt226 : Cond.code yX6_chip cX6_chip 3 (some .int) ∈ zW := zm 226 (by decide +kernel) (by decide +kernel)
theorem zt227 : Cond.methodLink RX6 60 yX0_has ∈ zW := zm 227 (by decide +kernel) (by decide +kernel)
theorem zt228 : Cond.instanceMethod yX0_has ∈ zW := zm 228 (by decide +kernel) (by decide +kernel)
theorem zt229 : Cond.selects RX0 yX0_has yX0_has ∈ zW := zm 229 (by decide +kernel) (by decide +kernel)
theorem zt230 : Cond.code yX0_has cX0_has 2 (some .boolean) ∈ zW := zm 230 (by decide +kernel) (by decide +kernel)
theorem zt231 : Cond.methodLink RX6 138 yX1_tell ∈ zW := zm 231 (by decide +kernel) (by decide +kernel)
theorem zt232 : Cond.instanceMethod yX1_tell ∈ zW := zm 232 (by decide +kernel) (by decide +kernel)
theorem zt233 : Cond.selects RX1 yX1_tell yX1_tell ∈ zW := zm 233 (by decide +kernel) (by decide +kernel)
theorem zt234 : Cond.code yX1_tell cX1_tell 2 (some .int) ∈ zW := zm 234 (by decide +kernel) (by decide +kernel)
theorem zt235 : Cond.methodLink RX1 58 yX1_dataBits ∈ zW := zm 235 (by decide +kernel) (by decide +kernel)
theorem zt236 : Cond.methodLink RL 24 yX6_found ∈ zW := zm 236 (by decide +kernel) (by decide +kernel)
theorem zt237 : Cond.instanceMethod yX6_found ∈ zW := zm 237 (by decide +kernel) (by decide +kernel)
theorem zt238 : Cond.selects RX6 yX6_found yX6_found ∈ zW := zm 238 (by decide +kernel) (by decide +kernel)
theorem zt239 : Cond.code yX6_found cX6_found 2 (some .int) ∈ zW := zm 239 (by decide +kernel) (by decide +kernel)
theorem zt240 : Cond.methodLink RL 122 yL_isWhole ∈ zW := zm 240 (by decide +kernel) (by decide +kernel)
theorem zt241 : Cond.static yL_isWhole ∈ zW := zm 241 (by decide +kernel) (by decide +kernel)
theorem zt242 : Cond.code yL_isWhole cL_isWhole 15 (some .boolean) ∈ zW := zm 242 rfl (by decide +kernel)
theorem zt243 : Cond.methodLink RL 27 yX6_peek ∈ zW := zm 243 (by decide +kernel) (by decide +kernel)
theorem zt244 : Cond.instanceMethod yX6_peek ∈ zW := zm 244 (by decide +kernel) (by decide +kernel)
theorem zt245 : Cond.selects RX6 yX6_peek yX6_peek ∈ zW := zm 245 (by decide +kernel) (by decide +kernel)
theorem zt246 : Cond.code yX6_peek cX6_peek 2 (some .int) ∈ zW := zm 246 (by decide +kernel) (by decide +kernel)
theorem zt247 : Cond.methodLink RX6 40 yX6_isWithin ∈ zW := zm 247 (by decide +kernel) (by decide +kernel)
theorem zt248 : Cond.static yX6_isWithin ∈ zW := zm 248 (by decide +kernel) (by decide +kernel)
theorem zt249 : Cond.code yX6_isWithin cX6_isWithin 3 (some .boolean) ∈ zW := zm 249 (by decide +kernel) (by decide +kernel)
theorem zt250 : Cond.methodLink RX6 164 yX0_outputWith ∈ zW := zm 250 (by decide +kernel) (by decide +kernel)
theorem zt251 : Cond.instanceMethod yX0_outputWith ∈ zW := zm 251 (by decide +kernel) (by decide +kernel)
theorem zt252 : Cond.selects RX0 yX0_outputWith yX0_outputWith ∈ zW := zm 252 (by decide +kernel) (by decide +kernel)
theorem zt253 : Cond.code yX0_outputWith cX0_outputWith 3 (some .int) ∈ zW := zm 253 (by decide +kernel) (by decide +kernel)
theorem zt254 : Cond.methodLink RX0 81 yX1_dataOutput ∈ zW := zm 254 (by decide +kernel) (by decide +kernel)
theorem zt255 : Cond.instanceMethod yX1_dataOutput ∈ zW := zm 255 (by decide +kernel) (by decide +kernel)
theorem zt256 : Cond.selects RX1 yX1_dataOutput yX1_dataOutput ∈ zW := zm 256 (by decide +kernel) (by decide +kernel)
theorem zt257 : Cond.code yX1_dataOutput cX1_dataOutput 1 (some .int) ∈ zW := zm 257 (by decide +kernel) (by decide +kernel)
theorem zt258 : Cond.methodLink RX0 84 yX1_codeOutput ∈ zW := zm 258 (by decide +kernel) (by decide +kernel)
theorem zt259 : Cond.instanceMethod yX1_codeOutput ∈ zW := zm 259 (by decide +kernel) (by decide +kernel)
theorem zt260 : Cond.selects RX1 yX1_codeOutput yX1_codeOutput ∈ zW := zm 260 (by decide +kernel) (by decide +kernel)
theorem zt261 : Cond.code yX1_codeOutput cX1_codeOutput 1 (some .int) ∈ zW := zm 261 (by decide +kernel) (by decide +kernel)
theorem zt262 : Cond.methodLink RL 30 yX6_bypassed ∈ zW := zm 262 (by decide +kernel) (by decide +kernel)
theorem zt263 : Cond.instanceMethod yX6_bypassed ∈ zW := zm 263 (by decide +kernel) (by decide +kernel)
theorem zt264 : Cond.selects RX6 yX6_bypassed yX6_bypassed ∈ zW := zm 264 (by decide +kernel) (by decide +kernel)
theorem zt265 : Cond.code yX6_bypassed cX6_bypassed 1 (some .float) ∈ zW := zm 265 (by decide +kernel) (by decide +kernel)
theorem zt266 : Cond.methodLink RX6 167 yX0_bypassedChips ∈ zW := zm 266 (by decide +kernel) (by decide +kernel)
theorem zt267 : Cond.instanceMethod yX0_bypassedChips ∈ zW := zm 267 (by decide +kernel) (by decide +kernel)
theorem zt268 : Cond.selects RX0 yX0_bypassedChips yX0_bypassedChips ∈ zW := zm 268 (by decide +kernel) (by decide +kernel)
theorem zt269 : Cond.code yX0_bypassedChips cX0_bypassedChips 3 (some .int) ∈ zW := zm 269 (by decide +kernel) (by decide +kernel)
theorem zt270 : Cond.methodLink RX0 52 yX1_selectsBypass ∈ zW := zm 270 (by decide +kernel) (by decide +kernel)
theorem zt271 : Cond.instanceMethod yX1_selectsBypass ∈ zW := zm 271 (by decide +kernel) (by decide +kernel)
theorem zt272 : Cond.selects RX1 yX1_selectsBypass yX1_selectsBypass ∈ zW := zm 272 (by decide +kernel) (by decide +kernel)
theorem zt273 : Cond.code yX1_selectsBypass cX1_selectsBypass 1 (some .boolean) ∈ zW := zm 273 (by decide +kernel) (by decide +kernel)
theorem zt274 : Cond.methodLink RL 108 yL_refuses ∈ zW := zm 274 (by decide +kernel) (by decide +kernel)
theorem zt275 : Cond.static yL_refuses ∈ zW := zm 275 (by decide +kernel) (by decide +kernel)
theorem zt276 : Cond.code yL_refuses cL_refuses 5 (some .boolean) ∈ zW := zm 276 rfl (by decide +kernel)
theorem zt277 : Cond.methodLink RL 85 yL_refusesAny ∈ zW := zm 277 (by decide +kernel) (by decide +kernel)
theorem zt278 : Cond.static yL_refusesAny ∈ zW := zm 278 (by decide +kernel) (by decide +kernel)
theorem zt279 : Cond.code yL_refusesAny cL_refusesAny 7 (some .boolean) ∈ zW := zm 279 rfl (by decide +kernel)
theorem zt280 : Cond.methodLink RL 34 yX6_add ∈ zW := zm 280 (by decide +kernel) (by decide +kernel)
theorem zt281 : Cond.instanceMethod yX6_add ∈ zW := zm 281 (by decide +kernel) (by decide +kernel)
theorem zt282 : Cond.selects RX6 yX6_add yX6_add ∈ zW := zm 282 (by decide +kernel) (by decide +kernel)
theorem zt283 : Cond.code yX6_add cX6_add 4 (some .int) ∈ zW := zm 283 (by decide +kernel) (by decide +kernel)
theorem zt284 : Cond.methodLink RX6 44 yX6_isIdentity ∈ zW := zm 284 (by decide +kernel) (by decide +kernel)
theorem zt285 : Cond.static yX6_isIdentity ∈ zW := zm 285 (by decide +kernel) (by decide +kernel)
theorem zt286 : Cond.code yX6_isIdentity cX6_isIdentity 1 (some .boolean) ∈ zW := zm 286 (by decide +kernel) (by decide +kernel)
theorem zt287 : Cond.methodLink RX6 56 yX0_putBehind ∈ zW := zm 287 (by decide +kernel) (by decide +kernel)
theorem zt288 : Cond.instanceMethod yX0_putBehind ∈ zW := zm 288 (by decide +kernel) (by decide +kernel)
theorem zt289 : Cond.selects RX0 yX0_putBehind yX0_putBehind ∈ zW := zm 289 (by decide +kernel) (by decide +kernel)
theorem zt290 : Cond.code yX0_putBehind cX0_putBehind 5 (some .int) ∈ zW := zm 290 (by decide +kernel) (by decide +kernel)
theorem zt291 : Cond.methodLink RX0 41 yX1_beNew ∈ zW := zm 291 (by decide +kernel) (by decide +kernel)
theorem zt292 : Cond.instanceMethod yX1_beNew ∈ zW := zm 292 (by decide +kernel) (by decide +kernel)
theorem zt293 : Cond.selects RX1 yX1_beNew yX1_beNew ∈ zW := zm 293 (by decide +kernel) (by decide +kernel)
theorem zt294 : Cond.code yX1_beNew cX1_beNew 4 none ∈ zW := zm 294 (by decide +kernel) (by decide +kernel)
theorem zt295 : Cond.methodLink RX1 34 yX1_giveFirstInstruction ∈ zW := zm 295 (by decide +kernel) (by decide +kernel)
theorem zt296 : Cond.instanceMethod yX1_giveFirstInstruction ∈ zW := zm 296 (by decide +kernel) (by decide +kernel)
theorem zt297 : Cond.selects RX1 yX1_giveFirstInstruction yX1_giveFirstInstruction ∈ zW := zm 297 (by decide +kernel) (by decide +kernel)
theorem zt298 : Cond.code yX1_giveFirstInstruction cX1_giveFirstInstruction 1 none ∈ zW := zm 298 (by decide +kernel) (by decide +kernel)
theorem zt300 : Cond.static yX6_allOnes ∈ zW := zm 300 (by decide +kernel) (by decide +kernel)
theorem zt301 : Cond.code yX6_allOnes cX6_allOnes 1 (some .int) ∈ zW := zm 301 (by decide +kernel) (by decide +kernel)
theorem zt302 : Cond.methodLink RX1 54 yX1_giveInstruction ∈ zW := zm 302 (by decide +kernel) (by decide +kernel)
theorem zt303 : Cond.instanceMethod yX1_giveInstruction ∈ zW := zm 303 (by decide +kernel) (by decide +kernel)
theorem zt304 : Cond.selects RX1 yX1_giveInstruction yX1_giveInstruction ∈ zW := zm 304 (by decide +kernel) (by decide +kernel)
theorem zt305 : Cond.code yX1_giveInstruction cX1_giveInstruction 2 none ∈ zW := zm 305 (by decide +kernel) (by decide +kernel)
theorem zt306 : Cond.methodLink RL 40 yX6_take ∈ zW := zm 306 (by decide +kernel) (by decide +kernel)
theorem zt307 : Cond.instanceMethod yX6_take ∈ zW := zm 307 (by decide +kernel) (by decide +kernel)
theorem zt308 : Cond.selects RX6 yX6_take yX6_take ∈ zW := zm 308 (by decide +kernel) (by decide +kernel)
theorem zt309 : Cond.code yX6_take cX6_take 2 (some .int) ∈ zW := zm 309 (by decide +kernel) (by decide +kernel)
theorem zt310 : Cond.methodLink RX6 63 yX0_takeOut ∈ zW := zm 310 (by decide +kernel) (by decide +kernel)
theorem zt311 : Cond.instanceMethod yX0_takeOut ∈ zW := zm 311 (by decide +kernel) (by decide +kernel)
theorem zt312 : Cond.selects RX0 yX0_takeOut yX0_takeOut ∈ zW := zm 312 (by decide +kernel) (by decide +kernel)
theorem zt313 : Cond.code yX0_takeOut cX0_takeOut 4 (some .int) ∈ zW := zm 313 (by decide +kernel) (by decide +kernel)
theorem zt314 : Cond.methodLink RL 43 yX6_setPins ∈ zW := zm 314 (by decide +kernel) (by decide +kernel)
theorem zt315 : Cond.instanceMethod yX6_setPins ∈ zW := zm 315 (by decide +kernel) (by decide +kernel)
theorem zt316 : Cond.selects RX6 yX6_setPins yX6_setPins ∈ zW := zm 316 (by decide +kernel) (by decide +kernel)
theorem zt317 : Cond.code yX6_setPins cX6_setPins 3 (some .int) ∈ zW := zm 317 (by decide +kernel) (by decide +kernel)
theorem zt318 : Cond.methodLink RX6 71 yX1_changePins ∈ zW := zm 318 (by decide +kernel) (by decide +kernel)
theorem zt319 : Cond.instanceMethod yX1_changePins ∈ zW := zm 319 (by decide +kernel) (by decide +kernel)
theorem zt320 : Cond.selects RX1 yX1_changePins yX1_changePins ∈ zW := zm 320 (by decide +kernel) (by decide +kernel)
theorem zt321 : Cond.code yX1_changePins cX1_changePins 3 (some .int) ∈ zW := zm 321 (by decide +kernel) (by decide +kernel)
theorem zt322 : Cond.methodLink RL 46 yX6_breakChip ∈ zW := zm 322 (by decide +kernel) (by decide +kernel)
theorem zt323 : Cond.instanceMethod yX6_breakChip ∈ zW := zm 323 (by decide +kernel) (by decide +kernel)
theorem zt324 : Cond.selects RX6 yX6_breakChip yX6_breakChip ∈ zW := zm 324 (by decide +kernel) (by decide +kernel)
theorem zt325 : Cond.code yX6_breakChip cX6_breakChip 3 (some .int) ∈ zW := zm 325 (by decide +kernel) (by decide +kernel)
theorem zt326 : Cond.methodLink RL 50 yX6_clock ∈ zW := zm 326 (by decide +kernel) (by decide +kernel)
theorem zt327 : Cond.instanceMethod yX6_clock ∈ zW := zm 327 (by decide +kernel) (by decide +kernel)
theorem zt328 : Cond.selects RX6 yX6_clock yX6_clock ∈ zW := zm 328 (by decide +kernel) (by decide +kernel)
theorem zt329 : Cond.code yX6_clock cX6_clock 3 (some .int) ∈ zW := zm 329 (by decide +kernel) (by decide +kernel)
theorem zt330 : Cond.methodLink RX6 83 yX0_tick ∈ zW := zm 330 (by decide +kernel) (by decide +kernel)
theorem zt331 : Cond.instanceMethod yX0_tick ∈ zW := zm 331 (by decide +kernel) (by decide +kernel)
theorem zt332 : Cond.selects RX0 yX0_tick yX0_tick ∈ zW := zm 332 (by decide +kernel) (by decide +kernel)
theorem zt333 : Cond.code yX0_tick cX0_tick 5 (some .int) ∈ zW := zm 333 (by decide +kernel) (by decide +kernel)
theorem zt334 : Cond.methodLink RX0 63 yX0_outputWith ∈ zW := zm 334 (by decide +kernel) (by decide +kernel)
theorem zt335 : Cond.methodLink RX0 67 yX0_shiftAllData ∈ zW := zm 335 (by decide +kernel) (by decide +kernel)
theorem zt337 : Cond.instanceMethod yX0_shiftAllData ∈ zW := zm 337 (by decide +kernel) (by decide +kernel)
theorem zt338 : Cond.code yX0_shiftAllData cX0_shiftAllData 5 none ∈ zW := zm 338 (by decide +kernel) (by decide +kernel)
theorem zt339 : Cond.methodLink RX0 102 yX1_shiftData ∈ zW := zm 339 (by decide +kernel) (by decide +kernel)
theorem zt340 : Cond.instanceMethod yX1_shiftData ∈ zW := zm 340 (by decide +kernel) (by decide +kernel)
theorem zt341 : Cond.selects RX1 yX1_shiftData yX1_shiftData ∈ zW := zm 341 (by decide +kernel) (by decide +kernel)
theorem zt342 : Cond.code yX1_shiftData cX1_shiftData 2 none ∈ zW := zm 342 (by decide +kernel) (by decide +kernel)
theorem zt343 : Cond.methodLink RX1 62 yX1_shifted ∈ zW := zm 343 (by decide +kernel) (by decide +kernel)
theorem zt344 : Cond.static yX1_shifted ∈ zW := zm 344 (by decide +kernel) (by decide +kernel)
theorem zt345 : Cond.code yX1_shifted cX1_shifted 3 (some .int) ∈ zW := zm 345 (by decide +kernel) (by decide +kernel)
theorem zt346 : Cond.methodLink RX0 71 yX0_shiftAllCodes ∈ zW := zm 346 (by decide +kernel) (by decide +kernel)
theorem zt348 : Cond.instanceMethod yX0_shiftAllCodes ∈ zW := zm 348 (by decide +kernel) (by decide +kernel)
theorem zt349 : Cond.code yX0_shiftAllCodes cX0_shiftAllCodes 5 none ∈ zW := zm 349 (by decide +kernel) (by decide +kernel)
theorem zt350 : Cond.methodLink RX0 105 yX1_shiftCode ∈ zW := zm 350 (by decide +kernel) (by decide +kernel)
theorem zt351 : Cond.instanceMethod yX1_shiftCode ∈ zW := zm 351 (by decide +kernel) (by decide +kernel)
theorem zt352 : Cond.selects RX1 yX1_shiftCode yX1_shiftCode ∈ zW := zm 352 (by decide +kernel) (by decide +kernel)
theorem zt353 : Cond.code yX1_shiftCode cX1_shiftCode 2 none ∈ zW := zm 353 (by decide +kernel) (by decide +kernel)
theorem zt354 : Cond.methodLink RX0 74 yX0_workOf ∈ zW := zm 354 (by decide +kernel) (by decide +kernel)
theorem zt356 : Cond.instanceMethod yX0_workOf ∈ zW := zm 356 (by decide +kernel) (by decide +kernel)
theorem zt357 : Cond.code yX0_workOf cX0_workOf 2 none ∈ zW := zm 357 (by decide +kernel) (by decide +kernel)
theorem zt358 : Cond.methodLink RX0 87 yX1_giveFirstInstruction ∈ zW := zm 358 (by decide +kernel) (by decide +kernel)
theorem zt359 : Cond.methodLink RX0 90 yX1_captureData ∈ zW := zm 359 (by decide +kernel) (by decide +kernel)
theorem zt360 : Cond.instanceMethod yX1_captureData ∈ zW := zm 360 (by decide +kernel) (by decide +kernel)
theorem zt361 : Cond.selects RX1 yX1_captureData yX1_captureData ∈ zW := zm 361 (by decide +kernel) (by decide +kernel)
theorem zt362 : Cond.code yX1_captureData cX1_captureData 1 none ∈ zW := zm 362 (by decide +kernel) (by decide +kernel)
theorem zt363 : Cond.methodLink RX0 93 yX1_updateData ∈ zW := zm 363 (by decide +kernel) (by decide +kernel)
theorem zt364 : Cond.instanceMethod yX1_updateData ∈ zW := zm 364 (by decide +kernel) (by decide +kernel)
theorem zt365 : Cond.selects RX1 yX1_updateData yX1_updateData ∈ zW := zm 365 (by decide +kernel) (by decide +kernel)
theorem zt366 : Cond.code yX1_updateData cX1_updateData 1 none ∈ zW := zm 366 (by decide +kernel) (by decide +kernel)
theorem zt367 : Cond.methodLink RX0 99 yX1_giveInstruction ∈ zW := zm 367 (by decide +kernel) (by decide +kernel)
theorem zt368 : Cond.methodLink RX0 77 yX2_next ∈ zW := zm 368 (by decide +kernel) (by decide +kernel)
theorem zt369 : Cond.static yX2_next ∈ zW := zm 369 (by decide +kernel) (by decide +kernel)
theorem zt370 : Cond.code yX2_next cX2_next 2 (some .int) ∈ zW := zm 370 (by decide +kernel) (by decide +kernel)
theorem zt371 : Cond.methodLink RX2 9 yX2_isState ∈ zW := zm 371 (by decide +kernel) (by decide +kernel)
theorem zt372 : Cond.static yX2_isState ∈ zW := zm 372 (by decide +kernel) (by decide +kernel)
theorem zt373 : Cond.code yX2_isState cX2_isState 1 (some .boolean) ∈ zW := zm 373 (by decide +kernel) (by decide +kernel)
theorem zt374 : Cond.fieldLink RX2 13 "ScanChain$Controller" "NEXT_BY_MODE_0" "[I" ∈ zW := zm 374 (by decide +kernel) (by decide +kernel)
theorem zt376 : Cond.fieldLink RX2 17 "ScanChain$Controller" "NEXT_BY_MODE_1" "[I" ∈ zW := zm 376 (by decide +kernel) (by decide +kernel)
theorem zt378 : Cond.methodLink RL 53 yX6_move ∈ zW := zm 378 (by decide +kernel) (by decide +kernel)
theorem zt379 : Cond.instanceMethod yX6_move ∈ zW := zm 379 (by decide +kernel) (by decide +kernel)
theorem zt380 : Cond.selects RX6 yX6_move yX6_move ∈ zW := zm 380 (by decide +kernel) (by decide +kernel)
theorem zt381 : Cond.code yX6_move cX6_move 2 (some .int) ∈ zW := zm 381 (by decide +kernel) (by decide +kernel)
theorem zt382 : Cond.methodLink RX6 87 yX2_isState ∈ zW := zm 382 (by decide +kernel) (by decide +kernel)
theorem zt383 : Cond.methodLink RX6 92 yX4_goTo ∈ zW := zm 383 (by decide +kernel) (by decide +kernel)
theorem zt384 : Cond.static yX4_goTo ∈ zW := zm 384 (by decide +kernel) (by decide +kernel)
theorem zt385 : Cond.code yX4_goTo cX4_goTo 6 (some .int) ∈ zW := zm 385 (by decide +kernel) (by decide +kernel)
theorem zt386 : Cond.methodLink RX4 15 yX2_clocksBetween ∈ zW := zm 386 (by decide +kernel) (by decide +kernel)
theorem zt387 : Cond.static yX2_clocksBetween ∈ zW := zm 387 (by decide +kernel) (by decide +kernel)
theorem zt388 : Cond.code yX2_clocksBetween cX2_clocksBetween 4 (some .int) ∈ zW := zm 388 (by decide +kernel) (by decide +kernel)
theorem zt389 : Cond.methodLink RX2 20 yX2_nextOfAll ∈ zW := zm 389 (by decide +kernel) (by decide +kernel)
theorem zt390 : Cond.static yX2_nextOfAll ∈ zW := zm 390 (by decide +kernel) (by decide +kernel)
theorem zt391 : Cond.code yX2_nextOfAll cX2_nextOfAll 3 (some .int) ∈ zW := zm 391 (by decide +kernel) (by decide +kernel)
theorem zt392 : Cond.methodLink RX2 24 yX2_next ∈ zW := zm 392 (by decide +kernel) (by decide +kernel)
theorem zt393 : Cond.methodLink RX4 21 yX2_next ∈ zW := zm 393 (by decide +kernel) (by decide +kernel)
theorem zt394 : Cond.methodLink RX4 24 yX0_tick ∈ zW := zm 394 (by decide +kernel) (by decide +kernel)
theorem zt395 : Cond.methodLink RL 56 yX6_load ∈ zW := zm 395 (by decide +kernel) (by decide +kernel)
theorem zt396 : Cond.instanceMethod yX6_load ∈ zW := zm 396 (by decide +kernel) (by decide +kernel)
theorem zt397 : Cond.selects RX6 yX6_load yX6_load ∈ zW := zm 397 (by decide +kernel) (by decide +kernel)
theorem zt398 : Cond.code yX6_load cX6_load 3 (some .int) ∈ zW := zm 398 (by decide +kernel) (by decide +kernel)
theorem zt399 : Cond.methodLink RX6 102 yX4_loadInstruction ∈ zW := zm 399 (by decide +kernel) (by decide +kernel)
theorem zt400 : Cond.static yX4_loadInstruction ∈ zW := zm 400 (by decide +kernel) (by decide +kernel)
theorem zt401 : Cond.code yX4_loadInstruction cX4_loadInstruction 6 none ∈ zW := zm 401 (by decide +kernel) (by decide +kernel)
theorem zt402 : Cond.methodLink RX4 29 yX4_goTo ∈ zW := zm 402 (by decide +kernel) (by decide +kernel)
theorem zt404 : Cond.methodLink RX4 63 yX4_shiftThrough ∈ zW := zm 404 (by decide +kernel) (by decide +kernel)
theorem zt405 : Cond.static yX4_shiftThrough ∈ zW := zm 405 (by decide +kernel) (by decide +kernel)
theorem zt406 : Cond.code yX4_shiftThrough cX4_shiftThrough 7 (some .int) ∈ zW := zm 406 (by decide +kernel) (by decide +kernel)
theorem zt407 : Cond.methodLink RX6 106 yX1_dataBits ∈ zW := zm 407 (by decide +kernel) (by decide +kernel)
theorem zt408 : Cond.methodLink RL 59 yX6_exchange ∈ zW := zm 408 (by decide +kernel) (by decide +kernel)
theorem zt409 : Cond.instanceMethod yX6_exchange ∈ zW := zm 409 (by decide +kernel) (by decide +kernel)
theorem zt410 : Cond.selects RX6 yX6_exchange yX6_exchange ∈ zW := zm 410 (by decide +kernel) (by decide +kernel)
theorem zt411 : Cond.code yX6_exchange cX6_exchange 4 (some .int) ∈ zW := zm 411 (by decide +kernel) (by decide +kernel)
theorem zt412 : Cond.methodLink RX6 109 yX6_exchangeError ∈ zW := zm 412 (by decide +kernel) (by decide +kernel)
theorem zt414 : Cond.instanceMethod yX6_exchangeError ∈ zW := zm 414 (by decide +kernel) (by decide +kernel)
theorem zt415 : Cond.code yX6_exchangeError cX6_exchangeError 3 (some .int) ∈ zW := zm 415 (by decide +kernel) (by decide +kernel)
theorem zt416 : Cond.methodLink RX6 112 yX4_exchangeData ∈ zW := zm 416 (by decide +kernel) (by decide +kernel)
theorem zt417 : Cond.static yX4_exchangeData ∈ zW := zm 417 (by decide +kernel) (by decide +kernel)
theorem zt418 : Cond.code yX4_exchangeData cX4_exchangeData 7 (some .int) ∈ zW := zm 418 (by decide +kernel) (by decide +kernel)
theorem zt419 : Cond.methodLink RX4 67 yX1_dataBits ∈ zW := zm 419 (by decide +kernel) (by decide +kernel)
theorem zt420 : Cond.methodLink RL 62 yX6_distance ∈ zW := zm 420 (by decide +kernel) (by decide +kernel)
theorem zt421 : Cond.instanceMethod yX6_distance ∈ zW := zm 421 (by decide +kernel) (by decide +kernel)
theorem zt422 : Cond.selects RX6 yX6_distance yX6_distance ∈ zW := zm 422 (by decide +kernel) (by decide +kernel)
theorem zt423 : Cond.code yX6_distance cX6_distance 3 (some .int) ∈ zW := zm 423 (by decide +kernel) (by decide +kernel)
theorem zt424 : Cond.methodLink RX6 161 yX2_clocksBetween ∈ zW := zm 424 (by decide +kernel) (by decide +kernel)
theorem zt425 : Cond.methodLink RL 65 yX6_ifExchanged ∈ zW := zm 425 (by decide +kernel) (by decide +kernel)
theorem zt426 : Cond.instanceMethod yX6_ifExchanged ∈ zW := zm 426 (by decide +kernel) (by decide +kernel)
theorem zt427 : Cond.selects RX6 yX6_ifExchanged yX6_ifExchanged ∈ zW := zm 427 (by decide +kernel) (by decide +kernel)
theorem zt428 : Cond.code yX6_ifExchanged cX6_ifExchanged 4 (some .int) ∈ zW := zm 428 (by decide +kernel) (by decide +kernel)
theorem zt429 : Cond.methodLink RL 68 yX6_append ∈ zW := zm 429 (by decide +kernel) (by decide +kernel)
theorem zt430 : Cond.instanceMethod yX6_append ∈ zW := zm 430 (by decide +kernel) (by decide +kernel)
theorem zt431 : Cond.selects RX6 yX6_append yX6_append ∈ zW := zm 431 (by decide +kernel) (by decide +kernel)
theorem zt432 : Cond.code yX6_append cX6_append 2 (some .int) ∈ zW := zm 432 (by decide +kernel) (by decide +kernel)
theorem zt433 : Cond.methodLink RX6 119 yX5_write ∈ zW := zm 433 (by decide +kernel) (by decide +kernel)
theorem zt434 : Cond.instanceMethod yX5_write ∈ zW := zm 434 (by decide +kernel) (by decide +kernel)
theorem zt435 : Cond.selects RX5 yX5_write yX5_write ∈ zW := zm 435 (by decide +kernel) (by decide +kernel)
theorem zt436 : Cond.code yX5_write cX5_write 2 (some .int) ∈ zW := zm 436 (by decide +kernel) (by decide +kernel)
theorem zt437 : Cond.methodLink RL 71 yX6_clearText ∈ zW := zm 437 (by decide +kernel) (by decide +kernel)
theorem zt438 : Cond.instanceMethod yX6_clearText ∈ zW := zm 438 (by decide +kernel) (by decide +kernel)
theorem zt439 : Cond.selects RX6 yX6_clearText yX6_clearText ∈ zW := zm 439 (by decide +kernel) (by decide +kernel)
theorem zt440 : Cond.code yX6_clearText cX6_clearText 1 (some .int) ∈ zW := zm 440 (by decide +kernel) (by decide +kernel)
theorem zt441 : Cond.methodLink RX6 122 yX5_wipe ∈ zW := zm 441 (by decide +kernel) (by decide +kernel)
theorem zt442 : Cond.instanceMethod yX5_wipe ∈ zW := zm 442 (by decide +kernel) (by decide +kernel)
theorem zt443 : Cond.selects RX5 yX5_wipe yX5_wipe ∈ zW := zm 443 (by decide +kernel) (by decide +kernel)
theorem zt444 : Cond.code yX5_wipe cX5_wipe 2 (some .int) ∈ zW := zm 444 (by decide +kernel) (by decide +kernel)
theorem zt445 : Cond.methodLink RL 75 yX6_fault ∈ zW := zm 445 (by decide +kernel) (by decide +kernel)
theorem zt446 : Cond.instanceMethod yX6_fault ∈ zW := zm 446 (by decide +kernel) (by decide +kernel)
theorem zt447 : Cond.selects RX6 yX6_fault yX6_fault ∈ zW := zm 447 (by decide +kernel) (by decide +kernel)
theorem zt448 : Cond.code yX6_fault cX6_fault 1 (some .int) ∈ zW := zm 448 (by decide +kernel) (by decide +kernel)
theorem zt449 : Cond.methodLink RX6 125 yX5_firstFault ∈ zW := zm 449 (by decide +kernel) (by decide +kernel)
theorem zt450 : Cond.instanceMethod yX5_firstFault ∈ zW := zm 450 (by decide +kernel) (by decide +kernel)
theorem zt451 : Cond.selects RX5 yX5_firstFault yX5_firstFault ∈ zW := zm 451 (by decide +kernel) (by decide +kernel)
theorem zt452 : Cond.code yX5_firstFault cX5_firstFault 5 (some .int) ∈ zW := zm 452 (by decide +kernel) (by decide +kernel)
theorem zt453 : Cond.methodLink RX5 19 yX5_hexValue ∈ zW := zm 453 (by decide +kernel) (by decide +kernel)
theorem zt454 : Cond.static yX5_hexValue ∈ zW := zm 454 (by decide +kernel) (by decide +kernel)
theorem zt455 : Cond.code yX5_hexValue cX5_hexValue 1 (some .int) ∈ zW := zm 455 (by decide +kernel) (by decide +kernel)
theorem zt456 : Cond.methodLink RX5 23 yX5_startsItem ∈ zW := zm 456 (by decide +kernel) (by decide +kernel)
theorem zt457 : Cond.static yX5_startsItem ∈ zW := zm 457 (by decide +kernel) (by decide +kernel)
theorem zt458 : Cond.code yX5_startsItem cX5_startsItem 1 (some .boolean) ∈ zW := zm 458 (by decide +kernel) (by decide +kernel)
theorem zt459 : Cond.methodLink RL 78 yX6_run ∈ zW := zm 459 (by decide +kernel) (by decide +kernel)
theorem zt460 : Cond.instanceMethod yX6_run ∈ zW := zm 460 (by decide +kernel) (by decide +kernel)
theorem zt461 : Cond.selects RX6 yX6_run yX6_run ∈ zW := zm 461 (by decide +kernel) (by decide +kernel)
theorem zt462 : Cond.code yX6_run cX6_run 2 (some .int) ∈ zW := zm 462 (by decide +kernel) (by decide +kernel)
theorem zt463 : Cond.methodLink RX6 128 yX4_carryOut ∈ zW := zm 463 (by decide +kernel) (by decide +kernel)
theorem zt464 : Cond.static yX4_carryOut ∈ zW := zm 464 (by decide +kernel) (by decide +kernel)
theorem zt465 : Cond.code yX4_carryOut cX4_carryOut 7 (some .int) ∈ zW := zm 465 (by decide +kernel) (by decide +kernel)
theorem zt466 : Cond.methodLink RX4 80 yX5_hexAt ∈ zW := zm 466 (by decide +kernel) (by decide +kernel)
theorem zt467 : Cond.instanceMethod yX5_hexAt ∈ zW := zm 467 (by decide +kernel) (by decide +kernel)
theorem zt468 : Cond.selects RX5 yX5_hexAt yX5_hexAt ∈ zW := zm 468 (by decide +kernel) (by decide +kernel)
theorem zt469 : Cond.code yX5_hexAt cX5_hexAt 2 (some .int) ∈ zW := zm 469 (by decide +kernel) (by decide +kernel)
theorem zt470 : Cond.methodLink RX4 83 yX4_clockItem ∈ zW := zm 470 (by decide +kernel) (by decide +kernel)
theorem zt471 : Cond.static yX4_clockItem ∈ zW := zm 471 (by decide +kernel) (by decide +kernel)
theorem zt472 : Cond.code yX4_clockItem cX4_clockItem 4 none ∈ zW := zm 472 (by decide +kernel) (by decide +kernel)
theorem zt473 : Cond.methodLink RL 126 yL_areWays ∈ zW := zm 473 (by decide +kernel) (by decide +kernel)
theorem zt474 : Cond.static yL_areWays ∈ zW := zm 474 (by decide +kernel) (by decide +kernel)
theorem zt475 : Cond.code yL_areWays cL_areWays 5 (some .boolean) ∈ zW := zm 475 rfl (by decide +kernel)
theorem zt476 : Cond.methodLink RL 118 yL_act ∈ zW := zm 476 (by decide +kernel) (by decide +kernel)
theorem zt477 : Cond.static yL_act ∈ zW := zm 477 (by decide +kernel) (by decide +kernel)
theorem zt478 : Cond.code yL_act cL_act 8 (some .int) ∈ zW := zm 478 rfl (by decide +kernel)
theorem zt479 : Cond.methodLink RL 89 yL_change ∈ zW := zm 479 (by decide +kernel) (by decide +kernel)
theorem zt480 : Cond.static yL_change ∈ zW := zm 480 (by decide +kernel) (by decide +kernel)
theorem zt481 : Cond.code yL_change cL_change 8 (some .int) ∈ zW := zm 481 rfl (by decide +kernel)
theorem zt482 : Cond.methodLink RL 93 yL_clock ∈ zW := zm 482 (by decide +kernel) (by decide +kernel)
theorem zt483 : Cond.static yL_clock ∈ zW := zm 483 (by decide +kernel) (by decide +kernel)
theorem zt484 : Cond.code yL_clock cL_clock 11 (some .int) ∈ zW := zm 484 rfl (by decide +kernel)
theorem zt485 : Cond.methodLink RL 95 yX6_ifIdentified ∈ zW := zm 485 (by decide +kernel) (by decide +kernel)
theorem zt486 : Cond.instanceMethod yX6_ifIdentified ∈ zW := zm 486 (by decide +kernel) (by decide +kernel)
theorem zt487 : Cond.selects RX6 yX6_ifIdentified yX6_ifIdentified ∈ zW := zm 487 (by decide +kernel) (by decide +kernel)
theorem zt488 : Cond.code yX6_ifIdentified cX6_ifIdentified 1 (some .int) ∈ zW := zm 488 (by decide +kernel) (by decide +kernel)
theorem zt489 : Cond.methodLink RX6 98 yX4_readIdentities ∈ zW := zm 489 (by decide +kernel) (by decide +kernel)
theorem zt490 : Cond.static yX4_readIdentities ∈ zW := zm 490 (by decide +kernel) (by decide +kernel)
theorem zt491 : Cond.code yX4_readIdentities cX4_readIdentities 3 (some .int) ∈ zW := zm 491 (by decide +kernel) (by decide +kernel)
theorem zt492 : Cond.methodLink RX4 33 yX0_forgetIdentities ∈ zW := zm 492 (by decide +kernel) (by decide +kernel)
theorem zt493 : Cond.instanceMethod yX0_forgetIdentities ∈ zW := zm 493 (by decide +kernel) (by decide +kernel)
theorem zt494 : Cond.selects RX0 yX0_forgetIdentities yX0_forgetIdentities ∈ zW := zm 494 (by decide +kernel) (by decide +kernel)
theorem zt495 : Cond.code yX0_forgetIdentities cX0_forgetIdentities 1 none ∈ zW := zm 495 (by decide +kernel) (by decide +kernel)
theorem zt496 : Cond.methodLink RX4 36 yX4_readIdentity ∈ zW := zm 496 (by decide +kernel) (by decide +kernel)
theorem zt497 : Cond.static yX4_readIdentity ∈ zW := zm 497 (by decide +kernel) (by decide +kernel)
theorem zt498 : Cond.code yX4_readIdentity cX4_readIdentity 3 (some .int) ∈ zW := zm 498 (by decide +kernel) (by decide +kernel)
theorem zt499 : Cond.methodLink RX4 40 yX0_keepIdentity ∈ zW := zm 499 (by decide +kernel) (by decide +kernel)
theorem zt500 : Cond.instanceMethod yX0_keepIdentity ∈ zW := zm 500 (by decide +kernel) (by decide +kernel)
theorem zt501 : Cond.selects RX0 yX0_keepIdentity yX0_keepIdentity ∈ zW := zm 501 (by decide +kernel) (by decide +kernel)
theorem zt502 : Cond.code yX0_keepIdentity cX0_keepIdentity 2 none ∈ zW := zm 502 (by decide +kernel) (by decide +kernel)
theorem zt503 : Cond.methodLink RL 98 yX6_identify ∈ zW := zm 503 (by decide +kernel) (by decide +kernel)
theorem zt504 : Cond.instanceMethod yX6_identify ∈ zW := zm 504 (by decide +kernel) (by decide +kernel)
theorem zt505 : Cond.selects RX6 yX6_identify yX6_identify ∈ zW := zm 505 (by decide +kernel) (by decide +kernel)
theorem zt506 : Cond.code yX6_identify cX6_identify 1 (some .int) ∈ zW := zm 506 (by decide +kernel) (by decide +kernel)
theorem zinX0 : ∀ w ∈ wsX00, w ∈ zW := zWr _ [84, 86, 88, 90, 92, 94] (by decide +kernel) (by decide +kernel)
theorem zinX1 : ∀ w ∈ wsX10, w ∈ zW := zWr _ [49, 51, 53, 55, 57, 59, 61, 63, 65] (by decide +kernel) (by decide +kernel)
theorem zinX3 : ∀ w ∈ wsX30, w ∈ zW := zWr _ [110, 112] (by decide +kernel) (by decide +kernel)
theorem zinX5 : ∀ w ∈ wsX50, w ∈ zW := zWr _ [126, 128] (by decide +kernel) (by decide +kernel)
theorem zinX6 : ∀ w ∈ wsX60, w ∈ zW := zWr _ [138, 140, 142, 144, 146, 148] (by decide +kernel) (by decide +kernel)
theorem zNest_in : zNest = [30, 35, 36, 38, 43, 44, 47, 69, 70, 72, 73, 75, 76, 78, 80, 82, 83, 109, 122, 124, 125, 299, 403].filterMap (fun i => lw_tbl[i]?) := by decide +kernel
theorem ndX6_init : yX6_init.cls ≠ "java/lang/invoke/MethodHandle" ∧ yX6_init.cls ≠ "java/lang/invoke/VarHandle" ∧ (parseMethodDescriptor yX6_init.desc).map (fun d => d.parameters.length) = some 0 := by decide +kernel
theorem npX6_init : plainName yX6_init.cls = true := by decide +kernel
theorem ndX6_add : yX6_add.cls ≠ "java/lang/invoke/MethodHandle" ∧ yX6_add.cls ≠ "java/lang/invoke/VarHandle" ∧ (parseMethodDescriptor yX6_add.desc).map (fun d => d.parameters.length) = some 3 := by decide +kernel
theorem npX6_add : plainName yX6_add.cls = true := by decide +kernel
theorem ndX6_allOnes : yX6_allOnes.cls ≠ "java/lang/invoke/MethodHandle" ∧ yX6_allOnes.cls ≠ "java/lang/invoke/VarHandle" ∧ (parseMethodDescriptor yX6_allOnes.desc).map (fun d => d.parameters.length) = some 1 := by decide +kernel
theorem npX6_allOnes : plainName yX6_allOnes.cls = true := by decide +kernel
theorem ndX6_append : yX6_append.cls ≠ "java/lang/invoke/MethodHandle" ∧ yX6_append.cls ≠ "java/lang/invoke/VarHandle" ∧ (parseMethodDescriptor yX6_append.desc).map (fun d => d.parameters.length) = some 1 := by decide +kernel
theorem npX6_append : plainName yX6_append.cls = true := by decide +kernel
theorem ndX6_breakChip : yX6_breakChip.cls ≠ "java/lang/invoke/MethodHandle" ∧ yX6_breakChip.cls ≠ "java/lang/invoke/VarHandle" ∧ (parseMethodDescriptor yX6_breakChip.desc).map (fun d => d.parameters.length) = some 2 := by decide +kernel
theorem npX6_breakChip : plainName yX6_breakChip.cls = true := by decide +kernel
theorem ndX6_bypassed : yX6_bypassed.cls ≠ "java/lang/invoke/MethodHandle" ∧ yX6_bypassed.cls ≠ "java/lang/invoke/VarHandle" ∧ (parseMethodDescriptor yX6_bypassed.desc).map (fun d => d.parameters.length) = some 0 := by decide +kernel
theorem npX6_bypassed : plainName yX6_bypassed.cls = true := by decide +kernel
theorem ndX6_chip : yX6_chip.cls ≠ "java/lang/invoke/MethodHandle" ∧ yX6_chip.cls ≠ "java/lang/invoke/VarHandle" ∧ (parseMethodDescriptor yX6_chip.desc).map (fun d => d.parameters.length) = some 2 := by decide +kernel
theorem npX6_chip : plainName yX6_chip.cls = true := by decide +kernel
theorem ndX6_clearText : yX6_clearText.cls ≠ "java/lang/invoke/MethodHandle" ∧ yX6_clearText.cls ≠ "java/lang/invoke/VarHandle" ∧ (parseMethodDescriptor yX6_clearText.desc).map (fun d => d.parameters.length) = some 0 := by decide +kernel
theorem npX6_clearText : plainName yX6_clearText.cls = true := by decide +kernel
theorem ndX6_clock : yX6_clock.cls ≠ "java/lang/invoke/MethodHandle" ∧ yX6_clock.cls ≠ "java/lang/invoke/VarHandle" ∧ (parseMethodDescriptor yX6_clock.desc).map (fun d => d.parameters.length) = some 2 := by decide +kernel
theorem npX6_clock : plainName yX6_clock.cls = true := by decide +kernel
theorem ndX6_count : yX6_count.cls ≠ "java/lang/invoke/MethodHandle" ∧ yX6_count.cls ≠ "java/lang/invoke/VarHandle" ∧ (parseMethodDescriptor yX6_count.desc).map (fun d => d.parameters.length) = some 1 := by decide +kernel
theorem npX6_count : plainName yX6_count.cls = true := by decide +kernel
theorem ndX6_distance : yX6_distance.cls ≠ "java/lang/invoke/MethodHandle" ∧ yX6_distance.cls ≠ "java/lang/invoke/VarHandle" ∧ (parseMethodDescriptor yX6_distance.desc).map (fun d => d.parameters.length) = some 2 := by decide +kernel
theorem npX6_distance : plainName yX6_distance.cls = true := by decide +kernel
theorem ndX6_exchange : yX6_exchange.cls ≠ "java/lang/invoke/MethodHandle" ∧ yX6_exchange.cls ≠ "java/lang/invoke/VarHandle" ∧ (parseMethodDescriptor yX6_exchange.desc).map (fun d => d.parameters.length) = some 2 := by decide +kernel
theorem npX6_exchange : plainName yX6_exchange.cls = true := by decide +kernel
theorem ndX6_exchangeError : yX6_exchangeError.cls ≠ "java/lang/invoke/MethodHandle" ∧ yX6_exchangeError.cls ≠ "java/lang/invoke/VarHandle" ∧ (parseMethodDescriptor yX6_exchangeError.desc).map (fun d => d.parameters.length) = some 2 := by decide +kernel
theorem npX6_exchangeError : plainName yX6_exchangeError.cls = true := by decide +kernel
theorem ndX6_fault : yX6_fault.cls ≠ "java/lang/invoke/MethodHandle" ∧ yX6_fault.cls ≠ "java/lang/invoke/VarHandle" ∧ (parseMethodDescriptor yX6_fault.desc).map (fun d => d.parameters.length) = some 0 := by decide +kernel
theorem npX6_fault : plainName yX6_fault.cls = true := by decide +kernel
theorem ndX6_found : yX6_found.cls ≠ "java/lang/invoke/MethodHandle" ∧ yX6_found.cls ≠ "java/lang/invoke/VarHandle" ∧ (parseMethodDescriptor yX6_found.desc).map (fun d => d.parameters.length) = some 1 := by decide +kernel
theorem npX6_found : plainName yX6_found.cls = true := by decide +kernel
theorem ndX6_identify : yX6_identify.cls ≠ "java/lang/invoke/MethodHandle" ∧ yX6_identify.cls ≠ "java/lang/invoke/VarHandle" ∧ (parseMethodDescriptor yX6_identify.desc).map (fun d => d.parameters.length) = some 0 := by decide +kernel
theorem npX6_identify : plainName yX6_identify.cls = true := by decide +kernel
theorem ndX6_ifExchanged : yX6_ifExchanged.cls ≠ "java/lang/invoke/MethodHandle" ∧ yX6_ifExchanged.cls ≠ "java/lang/invoke/VarHandle" ∧ (parseMethodDescriptor yX6_ifExchanged.desc).map (fun d => d.parameters.length) = some 2 := by decide +kernel
theorem npX6_ifExchanged : plainName yX6_ifExchanged.cls = true := by decide +kernel
theorem ndX6_ifIdentified : yX6_ifIdentified.cls ≠ "java/lang/invoke/MethodHandle" ∧ yX6_ifIdentified.cls ≠ "java/lang/invoke/VarHandle" ∧ (parseMethodDescriptor yX6_ifIdentified.desc).map (fun d => d.parameters.length) = some 0 := by decide +kernel
theorem npX6_ifIdentified : plainName yX6_ifIdentified.cls = true := by decide +kernel
theorem ndX6_isIdentity : yX6_isIdentity.cls ≠ "java/lang/invoke/MethodHandle" ∧ yX6_isIdentity.cls ≠ "java/lang/invoke/VarHandle" ∧ (parseMethodDescriptor yX6_isIdentity.desc).map (fun d => d.parameters.length) = some 1 := by decide +kernel
theorem npX6_isIdentity : plainName yX6_isIdentity.cls = true := by decide +kernel
theorem ndX6_isWithin : yX6_isWithin.cls ≠ "java/lang/invoke/MethodHandle" ∧ yX6_isWithin.cls ≠ "java/lang/invoke/VarHandle" ∧ (parseMethodDescriptor yX6_isWithin.desc).map (fun d => d.parameters.length) = some 3 := by decide +kernel
theorem npX6_isWithin : plainName yX6_isWithin.cls = true := by decide +kernel
theorem ndX6_load : yX6_load.cls ≠ "java/lang/invoke/MethodHandle" ∧ yX6_load.cls ≠ "java/lang/invoke/VarHandle" ∧ (parseMethodDescriptor yX6_load.desc).map (fun d => d.parameters.length) = some 2 := by decide +kernel
theorem npX6_load : plainName yX6_load.cls = true := by decide +kernel
theorem ndX6_move : yX6_move.cls ≠ "java/lang/invoke/MethodHandle" ∧ yX6_move.cls ≠ "java/lang/invoke/VarHandle" ∧ (parseMethodDescriptor yX6_move.desc).map (fun d => d.parameters.length) = some 1 := by decide +kernel
theorem npX6_move : plainName yX6_move.cls = true := by decide +kernel
theorem ndX6_peek : yX6_peek.cls ≠ "java/lang/invoke/MethodHandle" ∧ yX6_peek.cls ≠ "java/lang/invoke/VarHandle" ∧ (parseMethodDescriptor yX6_peek.desc).map (fun d => d.parameters.length) = some 1 := by decide +kernel
theorem npX6_peek : plainName yX6_peek.cls = true := by decide +kernel
theorem ndX6_restore : yX6_restore.cls ≠ "java/lang/invoke/MethodHandle" ∧ yX6_restore.cls ≠ "java/lang/invoke/VarHandle" ∧ (parseMethodDescriptor yX6_restore.desc).map (fun d => d.parameters.length) = some 0 := by decide +kernel
theorem npX6_restore : plainName yX6_restore.cls = true := by decide +kernel
theorem ndX6_run : yX6_run.cls ≠ "java/lang/invoke/MethodHandle" ∧ yX6_run.cls ≠ "java/lang/invoke/VarHandle" ∧ (parseMethodDescriptor yX6_run.desc).map (fun d => d.parameters.length) = some 0 := by decide +kernel
theorem npX6_run : plainName yX6_run.cls = true := by decide +kernel
theorem ndX6_save : yX6_save.cls ≠ "java/lang/invoke/MethodHandle" ∧ yX6_save.cls ≠ "java/lang/invoke/VarHandle" ∧ (parseMethodDescriptor yX6_save.desc).map (fun d => d.parameters.length) = some 0 := by decide +kernel
theorem npX6_save : plainName yX6_save.cls = true := by decide +kernel
theorem ndX6_setPins : yX6_setPins.cls ≠ "java/lang/invoke/MethodHandle" ∧ yX6_setPins.cls ≠ "java/lang/invoke/VarHandle" ∧ (parseMethodDescriptor yX6_setPins.desc).map (fun d => d.parameters.length) = some 2 := by decide +kernel
theorem npX6_setPins : plainName yX6_setPins.cls = true := by decide +kernel
theorem ndX6_take : yX6_take.cls ≠ "java/lang/invoke/MethodHandle" ∧ yX6_take.cls ≠ "java/lang/invoke/VarHandle" ∧ (parseMethodDescriptor yX6_take.desc).map (fun d => d.parameters.length) = some 1 := by decide +kernel
theorem npX6_take : plainName yX6_take.cls = true := by decide +kernel
theorem ndX6_undo : yX6_undo.cls ≠ "java/lang/invoke/MethodHandle" ∧ yX6_undo.cls ≠ "java/lang/invoke/VarHandle" ∧ (parseMethodDescriptor yX6_undo.desc).map (fun d => d.parameters.length) = some 0 := by decide +kernel
theorem npX6_undo : plainName yX6_undo.cls = true := by decide +kernel
theorem ndX0_init : yX0_init.cls ≠ "java/lang/invoke/MethodHandle" ∧ yX0_init.cls ≠ "java/lang/invoke/VarHandle" ∧ (parseMethodDescriptor yX0_init.desc).map (fun d => d.parameters.length) = some 0 := by decide +kernel
theorem npX0_init : plainName yX0_init.cls = true := by decide +kernel
theorem ndX0_becomeCopyOf : yX0_becomeCopyOf.cls ≠ "java/lang/invoke/MethodHandle" ∧ yX0_becomeCopyOf.cls ≠ "java/lang/invoke/VarHandle" ∧ (parseMethodDescriptor yX0_becomeCopyOf.desc).map (fun d => d.parameters.length) = some 1 := by decide +kernel
theorem npX0_becomeCopyOf : plainName yX0_becomeCopyOf.cls = true := by decide +kernel
theorem ndX0_brokenChips : yX0_brokenChips.cls ≠ "java/lang/invoke/MethodHandle" ∧ yX0_brokenChips.cls ≠ "java/lang/invoke/VarHandle" ∧ (parseMethodDescriptor yX0_brokenChips.desc).map (fun d => d.parameters.length) = some 0 := by decide +kernel
theorem npX0_brokenChips : plainName yX0_brokenChips.cls = true := by decide +kernel
theorem ndX0_bypassedChips : yX0_bypassedChips.cls ≠ "java/lang/invoke/MethodHandle" ∧ yX0_bypassedChips.cls ≠ "java/lang/invoke/VarHandle" ∧ (parseMethodDescriptor yX0_bypassedChips.desc).map (fun d => d.parameters.length) = some 0 := by decide +kernel
theorem npX0_bypassedChips : plainName yX0_bypassedChips.cls = true := by decide +kernel
theorem ndX0_forgetIdentities : yX0_forgetIdentities.cls ≠ "java/lang/invoke/MethodHandle" ∧ yX0_forgetIdentities.cls ≠ "java/lang/invoke/VarHandle" ∧ (parseMethodDescriptor yX0_forgetIdentities.desc).map (fun d => d.parameters.length) = some 0 := by decide +kernel
theorem npX0_forgetIdentities : plainName yX0_forgetIdentities.cls = true := by decide +kernel
theorem ndX0_has : yX0_has.cls ≠ "java/lang/invoke/MethodHandle" ∧ yX0_has.cls ≠ "java/lang/invoke/VarHandle" ∧ (parseMethodDescriptor yX0_has.desc).map (fun d => d.parameters.length) = some 1 := by decide +kernel
theorem npX0_has : plainName yX0_has.cls = true := by decide +kernel
theorem ndX0_keepIdentity : yX0_keepIdentity.cls ≠ "java/lang/invoke/MethodHandle" ∧ yX0_keepIdentity.cls ≠ "java/lang/invoke/VarHandle" ∧ (parseMethodDescriptor yX0_keepIdentity.desc).map (fun d => d.parameters.length) = some 1 := by decide +kernel
theorem npX0_keepIdentity : plainName yX0_keepIdentity.cls = true := by decide +kernel
theorem ndX0_outputWith : yX0_outputWith.cls ≠ "java/lang/invoke/MethodHandle" ∧ yX0_outputWith.cls ≠ "java/lang/invoke/VarHandle" ∧ (parseMethodDescriptor yX0_outputWith.desc).map (fun d => d.parameters.length) = some 1 := by decide +kernel
theorem npX0_outputWith : plainName yX0_outputWith.cls = true := by decide +kernel
theorem ndX0_putBehind : yX0_putBehind.cls ≠ "java/lang/invoke/MethodHandle" ∧ yX0_putBehind.cls ≠ "java/lang/invoke/VarHandle" ∧ (parseMethodDescriptor yX0_putBehind.desc).map (fun d => d.parameters.length) = some 3 := by decide +kernel
theorem npX0_putBehind : plainName yX0_putBehind.cls = true := by decide +kernel
theorem ndX0_shiftAllCodes : yX0_shiftAllCodes.cls ≠ "java/lang/invoke/MethodHandle" ∧ yX0_shiftAllCodes.cls ≠ "java/lang/invoke/VarHandle" ∧ (parseMethodDescriptor yX0_shiftAllCodes.desc).map (fun d => d.parameters.length) = some 1 := by decide +kernel
theorem npX0_shiftAllCodes : plainName yX0_shiftAllCodes.cls = true := by decide +kernel
theorem ndX0_shiftAllData : yX0_shiftAllData.cls ≠ "java/lang/invoke/MethodHandle" ∧ yX0_shiftAllData.cls ≠ "java/lang/invoke/VarHandle" ∧ (parseMethodDescriptor yX0_shiftAllData.desc).map (fun d => d.parameters.length) = some 1 := by decide +kernel
theorem npX0_shiftAllData : plainName yX0_shiftAllData.cls = true := by decide +kernel
theorem ndX0_sumOfCodeLengths : yX0_sumOfCodeLengths.cls ≠ "java/lang/invoke/MethodHandle" ∧ yX0_sumOfCodeLengths.cls ≠ "java/lang/invoke/VarHandle" ∧ (parseMethodDescriptor yX0_sumOfCodeLengths.desc).map (fun d => d.parameters.length) = some 0 := by decide +kernel
theorem npX0_sumOfCodeLengths : plainName yX0_sumOfCodeLengths.cls = true := by decide +kernel
theorem ndX0_sumOfDataBits : yX0_sumOfDataBits.cls ≠ "java/lang/invoke/MethodHandle" ∧ yX0_sumOfDataBits.cls ≠ "java/lang/invoke/VarHandle" ∧ (parseMethodDescriptor yX0_sumOfDataBits.desc).map (fun d => d.parameters.length) = some 0 := by decide +kernel
theorem npX0_sumOfDataBits : plainName yX0_sumOfDataBits.cls = true := by decide +kernel
theorem ndX0_takeOut : yX0_takeOut.cls ≠ "java/lang/invoke/MethodHandle" ∧ yX0_takeOut.cls ≠ "java/lang/invoke/VarHandle" ∧ (parseMethodDescriptor yX0_takeOut.desc).map (fun d => d.parameters.length) = some 1 := by decide +kernel
theorem npX0_takeOut : plainName yX0_takeOut.cls = true := by decide +kernel
theorem ndX0_tick : yX0_tick.cls ≠ "java/lang/invoke/MethodHandle" ∧ yX0_tick.cls ≠ "java/lang/invoke/VarHandle" ∧ (parseMethodDescriptor yX0_tick.desc).map (fun d => d.parameters.length) = some 2 := by decide +kernel
theorem npX0_tick : plainName yX0_tick.cls = true := by decide +kernel
theorem ndX0_workOf : yX0_workOf.cls ≠ "java/lang/invoke/MethodHandle" ∧ yX0_workOf.cls ≠ "java/lang/invoke/VarHandle" ∧ (parseMethodDescriptor yX0_workOf.desc).map (fun d => d.parameters.length) = some 1 := by decide +kernel
theorem npX0_workOf : plainName yX0_workOf.cls = true := by decide +kernel
theorem ndX1_init : yX1_init.cls ≠ "java/lang/invoke/MethodHandle" ∧ yX1_init.cls ≠ "java/lang/invoke/VarHandle" ∧ (parseMethodDescriptor yX1_init.desc).map (fun d => d.parameters.length) = some 0 := by decide +kernel
theorem npX1_init : plainName yX1_init.cls = true := by decide +kernel
theorem ndX1_beNew : yX1_beNew.cls ≠ "java/lang/invoke/MethodHandle" ∧ yX1_beNew.cls ≠ "java/lang/invoke/VarHandle" ∧ (parseMethodDescriptor yX1_beNew.desc).map (fun d => d.parameters.length) = some 3 := by decide +kernel
theorem npX1_beNew : plainName yX1_beNew.cls = true := by decide +kernel
theorem ndX1_becomeCopyOf : yX1_becomeCopyOf.cls ≠ "java/lang/invoke/MethodHandle" ∧ yX1_becomeCopyOf.cls ≠ "java/lang/invoke/VarHandle" ∧ (parseMethodDescriptor yX1_becomeCopyOf.desc).map (fun d => d.parameters.length) = some 1 := by decide +kernel
theorem npX1_becomeCopyOf : plainName yX1_becomeCopyOf.cls = true := by decide +kernel
theorem ndX1_captureData : yX1_captureData.cls ≠ "java/lang/invoke/MethodHandle" ∧ yX1_captureData.cls ≠ "java/lang/invoke/VarHandle" ∧ (parseMethodDescriptor yX1_captureData.desc).map (fun d => d.parameters.length) = some 0 := by decide +kernel
theorem npX1_captureData : plainName yX1_captureData.cls = true := by decide +kernel
theorem ndX1_changePins : yX1_changePins.cls ≠ "java/lang/invoke/MethodHandle" ∧ yX1_changePins.cls ≠ "java/lang/invoke/VarHandle" ∧ (parseMethodDescriptor yX1_changePins.desc).map (fun d => d.parameters.length) = some 1 := by decide +kernel
theorem npX1_changePins : plainName yX1_changePins.cls = true := by decide +kernel
theorem ndX1_codeOutput : yX1_codeOutput.cls ≠ "java/lang/invoke/MethodHandle" ∧ yX1_codeOutput.cls ≠ "java/lang/invoke/VarHandle" ∧ (parseMethodDescriptor yX1_codeOutput.desc).map (fun d => d.parameters.length) = some 0 := by decide +kernel
theorem npX1_codeOutput : plainName yX1_codeOutput.cls = true := by decide +kernel
theorem ndX1_dataBits : yX1_dataBits.cls ≠ "java/lang/invoke/MethodHandle" ∧ yX1_dataBits.cls ≠ "java/lang/invoke/VarHandle" ∧ (parseMethodDescriptor yX1_dataBits.desc).map (fun d => d.parameters.length) = some 0 := by decide +kernel
theorem npX1_dataBits : plainName yX1_dataBits.cls = true := by decide +kernel
theorem ndX1_dataOutput : yX1_dataOutput.cls ≠ "java/lang/invoke/MethodHandle" ∧ yX1_dataOutput.cls ≠ "java/lang/invoke/VarHandle" ∧ (parseMethodDescriptor yX1_dataOutput.desc).map (fun d => d.parameters.length) = some 0 := by decide +kernel
theorem npX1_dataOutput : plainName yX1_dataOutput.cls = true := by decide +kernel
theorem ndX1_giveFirstInstruction : yX1_giveFirstInstruction.cls ≠ "java/lang/invoke/MethodHandle" ∧ yX1_giveFirstInstruction.cls ≠ "java/lang/invoke/VarHandle" ∧ (parseMethodDescriptor yX1_giveFirstInstruction.desc).map (fun d => d.parameters.length) = some 0 := by decide +kernel
theorem npX1_giveFirstInstruction : plainName yX1_giveFirstInstruction.cls = true := by decide +kernel
theorem ndX1_giveInstruction : yX1_giveInstruction.cls ≠ "java/lang/invoke/MethodHandle" ∧ yX1_giveInstruction.cls ≠ "java/lang/invoke/VarHandle" ∧ (parseMethodDescriptor yX1_giveInstruction.desc).map (fun d => d.parameters.length) = some 1 := by decide +kernel
theorem npX1_giveInstruction : plainName yX1_giveInstruction.cls = true := by decide +kernel
theorem ndX1_selectsBypass : yX1_selectsBypass.cls ≠ "java/lang/invoke/MethodHandle" ∧ yX1_selectsBypass.cls ≠ "java/lang/invoke/VarHandle" ∧ (parseMethodDescriptor yX1_selectsBypass.desc).map (fun d => d.parameters.length) = some 0 := by decide +kernel
theorem npX1_selectsBypass : plainName yX1_selectsBypass.cls = true := by decide +kernel
theorem ndX1_selectsCells : yX1_selectsCells.cls ≠ "java/lang/invoke/MethodHandle" ∧ yX1_selectsCells.cls ≠ "java/lang/invoke/VarHandle" ∧ (parseMethodDescriptor yX1_selectsCells.desc).map (fun d => d.parameters.length) = some 0 := by decide +kernel
theorem npX1_selectsCells : plainName yX1_selectsCells.cls = true := by decide +kernel
theorem ndX1_selectsIdentity : yX1_selectsIdentity.cls ≠ "java/lang/invoke/MethodHandle" ∧ yX1_selectsIdentity.cls ≠ "java/lang/invoke/VarHandle" ∧ (parseMethodDescriptor yX1_selectsIdentity.desc).map (fun d => d.parameters.length) = some 0 := by decide +kernel
theorem npX1_selectsIdentity : plainName yX1_selectsIdentity.cls = true := by decide +kernel
theorem ndX1_shiftCode : yX1_shiftCode.cls ≠ "java/lang/invoke/MethodHandle" ∧ yX1_shiftCode.cls ≠ "java/lang/invoke/VarHandle" ∧ (parseMethodDescriptor yX1_shiftCode.desc).map (fun d => d.parameters.length) = some 1 := by decide +kernel
theorem npX1_shiftCode : plainName yX1_shiftCode.cls = true := by decide +kernel
theorem ndX1_shiftData : yX1_shiftData.cls ≠ "java/lang/invoke/MethodHandle" ∧ yX1_shiftData.cls ≠ "java/lang/invoke/VarHandle" ∧ (parseMethodDescriptor yX1_shiftData.desc).map (fun d => d.parameters.length) = some 1 := by decide +kernel
theorem npX1_shiftData : plainName yX1_shiftData.cls = true := by decide +kernel
theorem ndX1_shifted : yX1_shifted.cls ≠ "java/lang/invoke/MethodHandle" ∧ yX1_shifted.cls ≠ "java/lang/invoke/VarHandle" ∧ (parseMethodDescriptor yX1_shifted.desc).map (fun d => d.parameters.length) = some 3 := by decide +kernel
theorem npX1_shifted : plainName yX1_shifted.cls = true := by decide +kernel
theorem ndX1_tell : yX1_tell.cls ≠ "java/lang/invoke/MethodHandle" ∧ yX1_tell.cls ≠ "java/lang/invoke/VarHandle" ∧ (parseMethodDescriptor yX1_tell.desc).map (fun d => d.parameters.length) = some 1 := by decide +kernel
theorem npX1_tell : plainName yX1_tell.cls = true := by decide +kernel
theorem ndX1_updateData : yX1_updateData.cls ≠ "java/lang/invoke/MethodHandle" ∧ yX1_updateData.cls ≠ "java/lang/invoke/VarHandle" ∧ (parseMethodDescriptor yX1_updateData.desc).map (fun d => d.parameters.length) = some 0 := by decide +kernel
theorem npX1_updateData : plainName yX1_updateData.cls = true := by decide +kernel
theorem ndX2_clocksBetween : yX2_clocksBetween.cls ≠ "java/lang/invoke/MethodHandle" ∧ yX2_clocksBetween.cls ≠ "java/lang/invoke/VarHandle" ∧ (parseMethodDescriptor yX2_clocksBetween.desc).map (fun d => d.parameters.length) = some 2 := by decide +kernel
theorem npX2_clocksBetween : plainName yX2_clocksBetween.cls = true := by decide +kernel
theorem ndX2_isState : yX2_isState.cls ≠ "java/lang/invoke/MethodHandle" ∧ yX2_isState.cls ≠ "java/lang/invoke/VarHandle" ∧ (parseMethodDescriptor yX2_isState.desc).map (fun d => d.parameters.length) = some 1 := by decide +kernel
theorem npX2_isState : plainName yX2_isState.cls = true := by decide +kernel
theorem ndX2_next : yX2_next.cls ≠ "java/lang/invoke/MethodHandle" ∧ yX2_next.cls ≠ "java/lang/invoke/VarHandle" ∧ (parseMethodDescriptor yX2_next.desc).map (fun d => d.parameters.length) = some 2 := by decide +kernel
theorem npX2_next : plainName yX2_next.cls = true := by decide +kernel
theorem ndX2_nextOfAll : yX2_nextOfAll.cls ≠ "java/lang/invoke/MethodHandle" ∧ yX2_nextOfAll.cls ≠ "java/lang/invoke/VarHandle" ∧ (parseMethodDescriptor yX2_nextOfAll.desc).map (fun d => d.parameters.length) = some 1 := by decide +kernel
theorem npX2_nextOfAll : plainName yX2_nextOfAll.cls = true := by decide +kernel
theorem ndX3_init : yX3_init.cls ≠ "java/lang/invoke/MethodHandle" ∧ yX3_init.cls ≠ "java/lang/invoke/VarHandle" ∧ (parseMethodDescriptor yX3_init.desc).map (fun d => d.parameters.length) = some 0 := by decide +kernel
theorem npX3_init : plainName yX3_init.cls = true := by decide +kernel
theorem ndX3_dropOldest : yX3_dropOldest.cls ≠ "java/lang/invoke/MethodHandle" ∧ yX3_dropOldest.cls ≠ "java/lang/invoke/VarHandle" ∧ (parseMethodDescriptor yX3_dropOldest.desc).map (fun d => d.parameters.length) = some 0 := by decide +kernel
theorem npX3_dropOldest : plainName yX3_dropOldest.cls = true := by decide +kernel
theorem ndX3_record : yX3_record.cls ≠ "java/lang/invoke/MethodHandle" ∧ yX3_record.cls ≠ "java/lang/invoke/VarHandle" ∧ (parseMethodDescriptor yX3_record.desc).map (fun d => d.parameters.length) = some 1 := by decide +kernel
theorem npX3_record : plainName yX3_record.cls = true := by decide +kernel
theorem ndX3_takeBack : yX3_takeBack.cls ≠ "java/lang/invoke/MethodHandle" ∧ yX3_takeBack.cls ≠ "java/lang/invoke/VarHandle" ∧ (parseMethodDescriptor yX3_takeBack.desc).map (fun d => d.parameters.length) = some 1 := by decide +kernel
theorem npX3_takeBack : plainName yX3_takeBack.cls = true := by decide +kernel
theorem ndX4_carryOut : yX4_carryOut.cls ≠ "java/lang/invoke/MethodHandle" ∧ yX4_carryOut.cls ≠ "java/lang/invoke/VarHandle" ∧ (parseMethodDescriptor yX4_carryOut.desc).map (fun d => d.parameters.length) = some 2 := by decide +kernel
theorem npX4_carryOut : plainName yX4_carryOut.cls = true := by decide +kernel
theorem ndX4_clockItem : yX4_clockItem.cls ≠ "java/lang/invoke/MethodHandle" ∧ yX4_clockItem.cls ≠ "java/lang/invoke/VarHandle" ∧ (parseMethodDescriptor yX4_clockItem.desc).map (fun d => d.parameters.length) = some 2 := by decide +kernel
theorem npX4_clockItem : plainName yX4_clockItem.cls = true := by decide +kernel
theorem ndX4_exchangeData : yX4_exchangeData.cls ≠ "java/lang/invoke/MethodHandle" ∧ yX4_exchangeData.cls ≠ "java/lang/invoke/VarHandle" ∧ (parseMethodDescriptor yX4_exchangeData.desc).map (fun d => d.parameters.length) = some 3 := by decide +kernel
theorem npX4_exchangeData : plainName yX4_exchangeData.cls = true := by decide +kernel
theorem ndX4_goTo : yX4_goTo.cls ≠ "java/lang/invoke/MethodHandle" ∧ yX4_goTo.cls ≠ "java/lang/invoke/VarHandle" ∧ (parseMethodDescriptor yX4_goTo.desc).map (fun d => d.parameters.length) = some 2 := by decide +kernel
theorem npX4_goTo : plainName yX4_goTo.cls = true := by decide +kernel
theorem ndX4_loadInstruction : yX4_loadInstruction.cls ≠ "java/lang/invoke/MethodHandle" ∧ yX4_loadInstruction.cls ≠ "java/lang/invoke/VarHandle" ∧ (parseMethodDescriptor yX4_loadInstruction.desc).map (fun d => d.parameters.length) = some 3 := by decide +kernel
theorem npX4_loadInstruction : plainName yX4_loadInstruction.cls = true := by decide +kernel
theorem ndX4_readIdentities : yX4_readIdentities.cls ≠ "java/lang/invoke/MethodHandle" ∧ yX4_readIdentities.cls ≠ "java/lang/invoke/VarHandle" ∧ (parseMethodDescriptor yX4_readIdentities.desc).map (fun d => d.parameters.length) = some 1 := by decide +kernel
theorem npX4_readIdentities : plainName yX4_readIdentities.cls = true := by decide +kernel
theorem ndX4_readIdentity : yX4_readIdentity.cls ≠ "java/lang/invoke/MethodHandle" ∧ yX4_readIdentity.cls ≠ "java/lang/invoke/VarHandle" ∧ (parseMethodDescriptor yX4_readIdentity.desc).map (fun d => d.parameters.length) = some 1 := by decide +kernel
theorem npX4_readIdentity : plainName yX4_readIdentity.cls = true := by decide +kernel
theorem ndX4_shiftThrough : yX4_shiftThrough.cls ≠ "java/lang/invoke/MethodHandle" ∧ yX4_shiftThrough.cls ≠ "java/lang/invoke/VarHandle" ∧ (parseMethodDescriptor yX4_shiftThrough.desc).map (fun d => d.parameters.length) = some 4 := by decide +kernel
theorem npX4_shiftThrough : plainName yX4_shiftThrough.cls = true := by decide +kernel
theorem ndX5_init : yX5_init.cls ≠ "java/lang/invoke/MethodHandle" ∧ yX5_init.cls ≠ "java/lang/invoke/VarHandle" ∧ (parseMethodDescriptor yX5_init.desc).map (fun d => d.parameters.length) = some 0 := by decide +kernel
theorem npX5_init : plainName yX5_init.cls = true := by decide +kernel
theorem ndX5_firstFault : yX5_firstFault.cls ≠ "java/lang/invoke/MethodHandle" ∧ yX5_firstFault.cls ≠ "java/lang/invoke/VarHandle" ∧ (parseMethodDescriptor yX5_firstFault.desc).map (fun d => d.parameters.length) = some 0 := by decide +kernel
theorem npX5_firstFault : plainName yX5_firstFault.cls = true := by decide +kernel
theorem ndX5_hexAt : yX5_hexAt.cls ≠ "java/lang/invoke/MethodHandle" ∧ yX5_hexAt.cls ≠ "java/lang/invoke/VarHandle" ∧ (parseMethodDescriptor yX5_hexAt.desc).map (fun d => d.parameters.length) = some 1 := by decide +kernel
theorem npX5_hexAt : plainName yX5_hexAt.cls = true := by decide +kernel
theorem ndX5_hexValue : yX5_hexValue.cls ≠ "java/lang/invoke/MethodHandle" ∧ yX5_hexValue.cls ≠ "java/lang/invoke/VarHandle" ∧ (parseMethodDescriptor yX5_hexValue.desc).map (fun d => d.parameters.length) = some 1 := by decide +kernel
theorem npX5_hexValue : plainName yX5_hexValue.cls = true := by decide +kernel
theorem ndX5_startsItem : yX5_startsItem.cls ≠ "java/lang/invoke/MethodHandle" ∧ yX5_startsItem.cls ≠ "java/lang/invoke/VarHandle" ∧ (parseMethodDescriptor yX5_startsItem.desc).map (fun d => d.parameters.length) = some 1 := by decide +kernel
theorem npX5_startsItem : plainName yX5_startsItem.cls = true := by decide +kernel
theorem ndX5_wipe : yX5_wipe.cls ≠ "java/lang/invoke/MethodHandle" ∧ yX5_wipe.cls ≠ "java/lang/invoke/VarHandle" ∧ (parseMethodDescriptor yX5_wipe.desc).map (fun d => d.parameters.length) = some 0 := by decide +kernel
theorem npX5_wipe : plainName yX5_wipe.cls = true := by decide +kernel
theorem ndX5_write : yX5_write.cls ≠ "java/lang/invoke/MethodHandle" ∧ yX5_write.cls ≠ "java/lang/invoke/VarHandle" ∧ (parseMethodDescriptor yX5_write.desc).map (fun d => d.parameters.length) = some 1 := by decide +kernel
theorem npX5_write : plainName yX5_write.cls = true := by decide +kernel
theorem ndL_act : yL_act.cls ≠ "java/lang/invoke/MethodHandle" ∧ yL_act.cls ≠ "java/lang/invoke/VarHandle" ∧ (parseMethodDescriptor yL_act.desc).map (fun d => d.parameters.length) = some 2 := by decide +kernel
theorem npL_act : plainName yL_act.cls = true := by decide +kernel
theorem ndL_areWays : yL_areWays.cls ≠ "java/lang/invoke/MethodHandle" ∧ yL_areWays.cls ≠ "java/lang/invoke/VarHandle" ∧ (parseMethodDescriptor yL_areWays.desc).map (fun d => d.parameters.length) = some 2 := by decide +kernel
theorem npL_areWays : plainName yL_areWays.cls = true := by decide +kernel
theorem ndL_cell : yL_cell.cls ≠ "java/lang/invoke/MethodHandle" ∧ yL_cell.cls ≠ "java/lang/invoke/VarHandle" ∧ (parseMethodDescriptor yL_cell.desc).map (fun d => d.parameters.length) = some 2 := by decide +kernel
theorem npL_cell : plainName yL_cell.cls = true := by decide +kernel
theorem ndL_change : yL_change.cls ≠ "java/lang/invoke/MethodHandle" ∧ yL_change.cls ≠ "java/lang/invoke/VarHandle" ∧ (parseMethodDescriptor yL_change.desc).map (fun d => d.parameters.length) = some 3 := by decide +kernel
theorem npL_change : plainName yL_change.cls = true := by decide +kernel
theorem ndL_clock : yL_clock.cls ≠ "java/lang/invoke/MethodHandle" ∧ yL_clock.cls ≠ "java/lang/invoke/VarHandle" ∧ (parseMethodDescriptor yL_clock.desc).map (fun d => d.parameters.length) = some 3 := by decide +kernel
theorem npL_clock : plainName yL_clock.cls = true := by decide +kernel
theorem ndL_isWhole : yL_isWhole.cls ≠ "java/lang/invoke/MethodHandle" ∧ yL_isWhole.cls ≠ "java/lang/invoke/VarHandle" ∧ (parseMethodDescriptor yL_isWhole.desc).map (fun d => d.parameters.length) = some 1 := by decide +kernel
theorem npL_isWhole : plainName yL_isWhole.cls = true := by decide +kernel
theorem ndL_refuses : yL_refuses.cls ≠ "java/lang/invoke/MethodHandle" ∧ yL_refuses.cls ≠ "java/lang/invoke/VarHandle" ∧ (parseMethodDescriptor yL_refuses.desc).map (fun d => d.parameters.length) = some 2 := by decide +kernel
theorem npL_refuses : plainName yL_refuses.cls = true := by decide +kernel
theorem ndL_refusesAny : yL_refusesAny.cls ≠ "java/lang/invoke/MethodHandle" ∧ yL_refusesAny.cls ≠ "java/lang/invoke/VarHandle" ∧ (parseMethodDescriptor yL_refusesAny.desc).map (fun d => d.parameters.length) = some 2 := by decide +kernel
theorem npL_refusesAny : plainName yL_refusesAny.cls = true := by decide +kernel
theorem ndL_seen : yL_seen.cls ≠ "java/lang/invoke/MethodHandle" ∧ yL_seen.cls ≠ "java/lang/invoke/VarHandle" ∧ (parseMethodDescriptor yL_seen.desc).map (fun d => d.parameters.length) = some 1 := by decide +kernel
theorem npL_seen : plainName yL_seen.cls = true := by decide +kernel
theorem gV_L_102 : GoodIn zW (wsV RL 102 RX6 yX6_undo (zws yX6_undo cX6_undo 1 (some .int))) := zGV zt151 zt152 zt153 zt6 zt154
theorem gV_X6_132 : GoodIn zW (wsV RX6 132 RX3 yX3_takeBack (zws yX3_takeBack cX3_takeBack 2 (some .int))) := zGV zt155 zt156 zt157 zt9 zt158
theorem gV_X3_25 : GoodIn zW (wsV RX3 25 RX0 yX0_becomeCopyOf (zws yX0_becomeCopyOf cX0_becomeCopyOf 3 none)) := zGV zt159 zt160 zt161 zt7 zt162
theorem gV_X0_37 : GoodIn zW (wsV RX0 37 RX1 yX1_becomeCopyOf (zws yX1_becomeCopyOf cX1_becomeCopyOf 2 none)) := zGV zt163 zt164 zt165 zt8 zt166
theorem gV_L_111 : GoodIn zW (wsV RL 111 RX6 yX6_save (zws yX6_save cX6_save 1 (some .int))) := zGV zt167 zt168 zt169 zt6 zt170
theorem gV_X6_135 : GoodIn zW (wsV RX6 135 RX0 yX0_becomeCopyOf (zws yX0_becomeCopyOf cX0_becomeCopyOf 3 none)) := zGV zt171 zt160 zt161 zt7 zt162
theorem gV_L_105 : GoodIn zW (wsV RL 105 RX6 yX6_restore (zws yX6_restore cX6_restore 1 (some .int))) := zGV zt172 zt173 zt174 zt6 zt175
theorem gV_X6_52 : GoodIn zW (wsV RX6 52 RX3 yX3_record (zws yX3_record cX3_record 2 none)) := zGV zt176 zt177 zt178 zt9 zt179
theorem gV_X3_22 : GoodIn zW (wsV RX3 22 RX3 yX3_dropOldest (zws yX3_dropOldest cX3_dropOldest 3 none)) := zGV zt180 zt182 zt0 zt9 zt183
theorem gV_L_14 : GoodIn zW (wsV RL 14 RX6 yX6_count (zws yX6_count cX6_count 2 (some .int))) := zGV zt184 zt185 zt186 zt6 zt187
theorem gV_X6_79 : GoodIn zW (wsV RX6 79 RX0 yX0_brokenChips (zws yX0_brokenChips cX0_brokenChips 3 (some .int))) := zGV zt188 zt189 zt190 zt7 zt191
theorem gV_X6_147 : GoodIn zW (wsV RX6 147 RX0 yX0_sumOfCodeLengths (zws yX0_sumOfCodeLengths cX0_sumOfCodeLengths 3 (some .int))) := zGV zt192 zt193 zt194 zt7 zt195
theorem gV_X6_150 : GoodIn zW (wsV RX6 150 RX0 yX0_sumOfDataBits (zws yX0_sumOfDataBits cX0_sumOfDataBits 3 (some .int))) := zGV zt196 zt197 zt198 zt7 zt199
theorem gV_X0_59 : GoodIn zW (wsV RX0 59 RX1 yX1_dataBits (zws yX1_dataBits cX1_dataBits 1 (some .int))) := zGV zt200 zt201 zt202 zt8 zt203
theorem gV_X1_47 : GoodIn zW (wsV RX1 47 RX1 yX1_selectsCells (zws yX1_selectsCells cX1_selectsCells 1 (some .boolean))) := zGV zt204 zt205 zt206 zt8 zt207
theorem gV_X1_51 : GoodIn zW (wsV RX1 51 RX1 yX1_selectsIdentity (zws yX1_selectsIdentity cX1_selectsIdentity 1 (some .boolean))) := zGV zt208 zt209 zt210 zt8 zt211
theorem gS_L_114 : GoodIn zW (va_wsS RL 114 yL_cell (zws yL_cell cL_cell 2 (some .int))) := zGS zt212 zt213 zt5 zt214
theorem gS_L_81 : GoodIn zW (va_wsS RL 81 yL_seen (zws yL_seen cL_seen 4 (some .long))) := zGS zt218 zt219 zt5 zt220
theorem gV_L_20 : GoodIn zW (wsV RL 20 RX6 yX6_chip (zws yX6_chip cX6_chip 3 (some .int))) := zGV zt223 zt224 zt225 zt6 zt226
theorem gV_X6_60 : GoodIn zW (wsV RX6 60 RX0 yX0_has (zws yX0_has cX0_has 2 (some .boolean))) := zGV zt227 zt228 zt229 zt7 zt230
theorem gV_X6_138 : GoodIn zW (wsV RX6 138 RX1 yX1_tell (zws yX1_tell cX1_tell 2 (some .int))) := zGV zt231 zt232 zt233 zt8 zt234
theorem gV_X1_58 : GoodIn zW (wsV RX1 58 RX1 yX1_dataBits (zws yX1_dataBits cX1_dataBits 1 (some .int))) := zGV zt235 zt201 zt202 zt8 zt203
theorem gV_L_24 : GoodIn zW (wsV RL 24 RX6 yX6_found (zws yX6_found cX6_found 2 (some .int))) := zGV zt236 zt237 zt238 zt6 zt239
theorem gS_L_122 : GoodIn zW (va_wsS RL 122 yL_isWhole (zws yL_isWhole cL_isWhole 15 (some .boolean))) := zGS zt240 zt241 zt5 zt242
theorem gV_L_27 : GoodIn zW (wsV RL 27 RX6 yX6_peek (zws yX6_peek cX6_peek 2 (some .int))) := zGV zt243 zt244 zt245 zt6 zt246
theorem gS_X6_40 : GoodIn zW (va_wsS RX6 40 yX6_isWithin (zws yX6_isWithin cX6_isWithin 3 (some .boolean))) := zGS zt247 zt248 zt6 zt249
theorem gV_X6_164 : GoodIn zW (wsV RX6 164 RX0 yX0_outputWith (zws yX0_outputWith cX0_outputWith 3 (some .int))) := zGV zt250 zt251 zt252 zt7 zt253
theorem gV_X0_81 : GoodIn zW (wsV RX0 81 RX1 yX1_dataOutput (zws yX1_dataOutput cX1_dataOutput 1 (some .int))) := zGV zt254 zt255 zt256 zt8 zt257
theorem gV_X0_84 : GoodIn zW (wsV RX0 84 RX1 yX1_codeOutput (zws yX1_codeOutput cX1_codeOutput 1 (some .int))) := zGV zt258 zt259 zt260 zt8 zt261
theorem gV_L_30 : GoodIn zW (wsV RL 30 RX6 yX6_bypassed (zws yX6_bypassed cX6_bypassed 1 (some .float))) := zGV zt262 zt263 zt264 zt6 zt265
theorem gV_X6_167 : GoodIn zW (wsV RX6 167 RX0 yX0_bypassedChips (zws yX0_bypassedChips cX0_bypassedChips 3 (some .int))) := zGV zt266 zt267 zt268 zt7 zt269
theorem gV_X0_52 : GoodIn zW (wsV RX0 52 RX1 yX1_selectsBypass (zws yX1_selectsBypass cX1_selectsBypass 1 (some .boolean))) := zGV zt270 zt271 zt272 zt8 zt273
theorem gS_L_108 : GoodIn zW (va_wsS RL 108 yL_refuses (zws yL_refuses cL_refuses 5 (some .boolean))) := zGS zt274 zt275 zt5 zt276
theorem gS_L_85 : GoodIn zW (va_wsS RL 85 yL_refusesAny (zws yL_refusesAny cL_refusesAny 7 (some .boolean))) := zGS zt277 zt278 zt5 zt279
theorem gV_L_34 : GoodIn zW (wsV RL 34 RX6 yX6_add (zws yX6_add cX6_add 4 (some .int))) := zGV zt280 zt281 zt282 zt6 zt283
theorem gS_X6_44 : GoodIn zW (va_wsS RX6 44 yX6_isIdentity (zws yX6_isIdentity cX6_isIdentity 1 (some .boolean))) := zGS zt284 zt285 zt6 zt286
theorem gV_X6_56 : GoodIn zW (wsV RX6 56 RX0 yX0_putBehind (zws yX0_putBehind cX0_putBehind 5 (some .int))) := zGV zt287 zt288 zt289 zt7 zt290
theorem gV_X0_41 : GoodIn zW (wsV RX0 41 RX1 yX1_beNew (zws yX1_beNew cX1_beNew 4 none)) := zGV zt291 zt292 zt293 zt8 zt294
theorem gV_X1_34 : GoodIn zW (wsV RX1 34 RX1 yX1_giveFirstInstruction (zws yX1_giveFirstInstruction cX1_giveFirstInstruction 1 none)) := zGV zt295 zt296 zt297 zt8 zt298
theorem gV_X1_54 : GoodIn zW (wsV RX1 54 RX1 yX1_giveInstruction (zws yX1_giveInstruction cX1_giveInstruction 2 none)) := zGV zt302 zt303 zt304 zt8 zt305
theorem gV_L_40 : GoodIn zW (wsV RL 40 RX6 yX6_take (zws yX6_take cX6_take 2 (some .int))) := zGV zt306 zt307 zt308 zt6 zt309
theorem gV_X6_63 : GoodIn zW (wsV RX6 63 RX0 yX0_takeOut (zws yX0_takeOut cX0_takeOut 4 (some .int))) := zGV zt310 zt311 zt312 zt7 zt313
theorem gV_L_43 : GoodIn zW (wsV RL 43 RX6 yX6_setPins (zws yX6_setPins cX6_setPins 3 (some .int))) := zGV zt314 zt315 zt316 zt6 zt317
theorem gV_X6_71 : GoodIn zW (wsV RX6 71 RX1 yX1_changePins (zws yX1_changePins cX1_changePins 3 (some .int))) := zGV zt318 zt319 zt320 zt8 zt321
theorem gV_L_46 : GoodIn zW (wsV RL 46 RX6 yX6_breakChip (zws yX6_breakChip cX6_breakChip 3 (some .int))) := zGV zt322 zt323 zt324 zt6 zt325
theorem gV_L_50 : GoodIn zW (wsV RL 50 RX6 yX6_clock (zws yX6_clock cX6_clock 3 (some .int))) := zGV zt326 zt327 zt328 zt6 zt329
theorem gV_X6_83 : GoodIn zW (wsV RX6 83 RX0 yX0_tick (zws yX0_tick cX0_tick 5 (some .int))) := zGV zt330 zt331 zt332 zt7 zt333
theorem gV_X0_63 : GoodIn zW (wsV RX0 63 RX0 yX0_outputWith (zws yX0_outputWith cX0_outputWith 3 (some .int))) := zGV zt334 zt251 zt252 zt7 zt253
theorem gV_X0_67 : GoodIn zW (wsV RX0 67 RX0 yX0_shiftAllData (zws yX0_shiftAllData cX0_shiftAllData 5 none)) := zGV zt335 zt337 zt1 zt7 zt338
theorem gV_X0_102 : GoodIn zW (wsV RX0 102 RX1 yX1_shiftData (zws yX1_shiftData cX1_shiftData 2 none)) := zGV zt339 zt340 zt341 zt8 zt342
theorem gS_X1_62 : GoodIn zW (va_wsS RX1 62 yX1_shifted (zws yX1_shifted cX1_shifted 3 (some .int))) := zGS zt343 zt344 zt8 zt345
theorem gV_X0_71 : GoodIn zW (wsV RX0 71 RX0 yX0_shiftAllCodes (zws yX0_shiftAllCodes cX0_shiftAllCodes 5 none)) := zGV zt346 zt348 zt2 zt7 zt349
theorem gV_X0_105 : GoodIn zW (wsV RX0 105 RX1 yX1_shiftCode (zws yX1_shiftCode cX1_shiftCode 2 none)) := zGV zt350 zt351 zt352 zt8 zt353
theorem gV_X0_74 : GoodIn zW (wsV RX0 74 RX0 yX0_workOf (zws yX0_workOf cX0_workOf 2 none)) := zGV zt354 zt356 zt3 zt7 zt357
theorem gV_X0_87 : GoodIn zW (wsV RX0 87 RX1 yX1_giveFirstInstruction (zws yX1_giveFirstInstruction cX1_giveFirstInstruction 1 none)) := zGV zt358 zt296 zt297 zt8 zt298
theorem gV_X0_90 : GoodIn zW (wsV RX0 90 RX1 yX1_captureData (zws yX1_captureData cX1_captureData 1 none)) := zGV zt359 zt360 zt361 zt8 zt362
theorem gV_X0_93 : GoodIn zW (wsV RX0 93 RX1 yX1_updateData (zws yX1_updateData cX1_updateData 1 none)) := zGV zt363 zt364 zt365 zt8 zt366
theorem gV_X0_99 : GoodIn zW (wsV RX0 99 RX1 yX1_giveInstruction (zws yX1_giveInstruction cX1_giveInstruction 2 none)) := zGV zt367 zt303 zt304 zt8 zt305
theorem gS_X0_77 : GoodIn zW (va_wsS RX0 77 yX2_next (zws yX2_next cX2_next 2 (some .int))) := zGS zt368 zt369 zt11 zt370
theorem gS_X2_9 : GoodIn zW (va_wsS RX2 9 yX2_isState (zws yX2_isState cX2_isState 1 (some .boolean))) := zGS zt371 zt372 zt11 zt373
theorem gV_L_53 : GoodIn zW (wsV RL 53 RX6 yX6_move (zws yX6_move cX6_move 2 (some .int))) := zGV zt378 zt379 zt380 zt6 zt381
theorem gS_X6_87 : GoodIn zW (va_wsS RX6 87 yX2_isState (zws yX2_isState cX2_isState 1 (some .boolean))) := zGS zt382 zt372 zt11 zt373
theorem gS_X6_92 : GoodIn zW (va_wsS RX6 92 yX4_goTo (zws yX4_goTo cX4_goTo 6 (some .int))) := zGS zt383 zt384 zt12 zt385
theorem gS_X4_15 : GoodIn zW (va_wsS RX4 15 yX2_clocksBetween (zws yX2_clocksBetween cX2_clocksBetween 4 (some .int))) := zGS zt386 zt387 zt11 zt388
theorem gS_X2_20 : GoodIn zW (va_wsS RX2 20 yX2_nextOfAll (zws yX2_nextOfAll cX2_nextOfAll 3 (some .int))) := zGS zt389 zt390 zt11 zt391
theorem gS_X2_24 : GoodIn zW (va_wsS RX2 24 yX2_next (zws yX2_next cX2_next 2 (some .int))) := zGS zt392 zt369 zt11 zt370
theorem gS_X4_21 : GoodIn zW (va_wsS RX4 21 yX2_next (zws yX2_next cX2_next 2 (some .int))) := zGS zt393 zt369 zt11 zt370
theorem gV_X4_24 : GoodIn zW (wsV RX4 24 RX0 yX0_tick (zws yX0_tick cX0_tick 5 (some .int))) := zGV zt394 zt331 zt332 zt7 zt333
theorem gV_L_56 : GoodIn zW (wsV RL 56 RX6 yX6_load (zws yX6_load cX6_load 3 (some .int))) := zGV zt395 zt396 zt397 zt6 zt398
theorem gS_X6_102 : GoodIn zW (va_wsS RX6 102 yX4_loadInstruction (zws yX4_loadInstruction cX4_loadInstruction 6 none)) := zGS zt399 zt400 zt12 zt401
theorem gS_X4_29 : GoodIn zW (va_wsS RX4 29 yX4_goTo (zws yX4_goTo cX4_goTo 6 (some .int))) := zGS zt402 zt384 zt12 zt385
theorem gS_X4_63 : GoodIn zW (va_wsS RX4 63 yX4_shiftThrough (zws yX4_shiftThrough cX4_shiftThrough 7 (some .int))) := zGS zt404 zt405 zt12 zt406
theorem gV_X6_106 : GoodIn zW (wsV RX6 106 RX1 yX1_dataBits (zws yX1_dataBits cX1_dataBits 1 (some .int))) := zGV zt407 zt201 zt202 zt8 zt203
theorem gV_L_59 : GoodIn zW (wsV RL 59 RX6 yX6_exchange (zws yX6_exchange cX6_exchange 4 (some .int))) := zGV zt408 zt409 zt410 zt6 zt411
theorem gV_X6_109 : GoodIn zW (wsV RX6 109 RX6 yX6_exchangeError (zws yX6_exchangeError cX6_exchangeError 3 (some .int))) := zGV zt412 zt414 zt4 zt6 zt415
theorem gS_X6_112 : GoodIn zW (va_wsS RX6 112 yX4_exchangeData (zws yX4_exchangeData cX4_exchangeData 7 (some .int))) := zGS zt416 zt417 zt12 zt418
theorem gV_X4_67 : GoodIn zW (wsV RX4 67 RX1 yX1_dataBits (zws yX1_dataBits cX1_dataBits 1 (some .int))) := zGV zt419 zt201 zt202 zt8 zt203
theorem gV_L_62 : GoodIn zW (wsV RL 62 RX6 yX6_distance (zws yX6_distance cX6_distance 3 (some .int))) := zGV zt420 zt421 zt422 zt6 zt423
theorem gS_X6_161 : GoodIn zW (va_wsS RX6 161 yX2_clocksBetween (zws yX2_clocksBetween cX2_clocksBetween 4 (some .int))) := zGS zt424 zt387 zt11 zt388
theorem gV_L_65 : GoodIn zW (wsV RL 65 RX6 yX6_ifExchanged (zws yX6_ifExchanged cX6_ifExchanged 4 (some .int))) := zGV zt425 zt426 zt427 zt6 zt428
theorem gV_L_68 : GoodIn zW (wsV RL 68 RX6 yX6_append (zws yX6_append cX6_append 2 (some .int))) := zGV zt429 zt430 zt431 zt6 zt432
theorem gV_X6_119 : GoodIn zW (wsV RX6 119 RX5 yX5_write (zws yX5_write cX5_write 2 (some .int))) := zGV zt433 zt434 zt435 zt10 zt436
theorem gV_L_71 : GoodIn zW (wsV RL 71 RX6 yX6_clearText (zws yX6_clearText cX6_clearText 1 (some .int))) := zGV zt437 zt438 zt439 zt6 zt440
theorem gV_X6_122 : GoodIn zW (wsV RX6 122 RX5 yX5_wipe (zws yX5_wipe cX5_wipe 2 (some .int))) := zGV zt441 zt442 zt443 zt10 zt444
theorem gV_L_75 : GoodIn zW (wsV RL 75 RX6 yX6_fault (zws yX6_fault cX6_fault 1 (some .int))) := zGV zt445 zt446 zt447 zt6 zt448
theorem gV_X6_125 : GoodIn zW (wsV RX6 125 RX5 yX5_firstFault (zws yX5_firstFault cX5_firstFault 5 (some .int))) := zGV zt449 zt450 zt451 zt10 zt452
theorem gS_X5_19 : GoodIn zW (va_wsS RX5 19 yX5_hexValue (zws yX5_hexValue cX5_hexValue 1 (some .int))) := zGS zt453 zt454 zt10 zt455
theorem gS_X5_23 : GoodIn zW (va_wsS RX5 23 yX5_startsItem (zws yX5_startsItem cX5_startsItem 1 (some .boolean))) := zGS zt456 zt457 zt10 zt458
theorem gV_L_78 : GoodIn zW (wsV RL 78 RX6 yX6_run (zws yX6_run cX6_run 2 (some .int))) := zGV zt459 zt460 zt461 zt6 zt462
theorem gS_X6_128 : GoodIn zW (va_wsS RX6 128 yX4_carryOut (zws yX4_carryOut cX4_carryOut 7 (some .int))) := zGS zt463 zt464 zt12 zt465
theorem gV_X4_80 : GoodIn zW (wsV RX4 80 RX5 yX5_hexAt (zws yX5_hexAt cX5_hexAt 2 (some .int))) := zGV zt466 zt467 zt468 zt10 zt469
theorem gS_X4_83 : GoodIn zW (va_wsS RX4 83 yX4_clockItem (zws yX4_clockItem cX4_clockItem 4 none)) := zGS zt470 zt471 zt12 zt472
theorem gS_L_126 : GoodIn zW (va_wsS RL 126 yL_areWays (zws yL_areWays cL_areWays 5 (some .boolean))) := zGS zt473 zt474 zt5 zt475
theorem gS_L_118 : GoodIn zW (va_wsS RL 118 yL_act (zws yL_act cL_act 8 (some .int))) := zGS zt476 zt477 zt5 zt478
theorem gS_L_89 : GoodIn zW (va_wsS RL 89 yL_change (zws yL_change cL_change 8 (some .int))) := zGS zt479 zt480 zt5 zt481
theorem gS_L_93 : GoodIn zW (va_wsS RL 93 yL_clock (zws yL_clock cL_clock 11 (some .int))) := zGS zt482 zt483 zt5 zt484
theorem gV_L_95 : GoodIn zW (wsV RL 95 RX6 yX6_ifIdentified (zws yX6_ifIdentified cX6_ifIdentified 1 (some .int))) := zGV zt485 zt486 zt487 zt6 zt488
theorem gS_X6_98 : GoodIn zW (va_wsS RX6 98 yX4_readIdentities (zws yX4_readIdentities cX4_readIdentities 3 (some .int))) := zGS zt489 zt490 zt12 zt491
theorem gV_X4_33 : GoodIn zW (wsV RX4 33 RX0 yX0_forgetIdentities (zws yX0_forgetIdentities cX0_forgetIdentities 1 none)) := zGV zt492 zt493 zt494 zt7 zt495
theorem gS_X4_36 : GoodIn zW (va_wsS RX4 36 yX4_readIdentity (zws yX4_readIdentity cX4_readIdentity 3 (some .int))) := zGS zt496 zt497 zt12 zt498
theorem gV_X4_40 : GoodIn zW (wsV RX4 40 RX0 yX0_keepIdentity (zws yX0_keepIdentity cX0_keepIdentity 2 none)) := zGV zt499 zt500 zt501 zt7 zt502
theorem gV_L_98 : GoodIn zW (wsV RL 98 RX6 yX6_identify (zws yX6_identify cX6_identify 1 (some .int))) := zGV zt503 zt504 zt505 zt6 zt506
theorem fl_X1_9 {p s m args meth c cc nL own G} (cx : Cx p s m args meth c cc nL own G) : zFL s args RX1 9 "ScanChain$Chip" "codeLength" "I" := Or.inl (cx.1.2.2.2.2 _ zt34)
theorem fl_X1_15 {p s m args meth c cc nL own G} (cx : Cx p s m args meth c cc nL own G) : zFL s args RX1 15 "ScanChain$Chip" "identity" "I" := Or.inl (cx.1.2.2.2.2 _ zt37)
theorem fl_X1_18 {p s m args meth c cc nL own G} (cx : Cx p s m args meth c cc nL own G) : zFL s args RX1 18 "ScanChain$Chip" "cells" "I" := Or.inl (cx.1.2.2.2.2 _ zt39)
theorem fl_X1_21 {p s m args meth c cc nL own G} (cx : Cx p s m args meth c cc nL own G) : zFL s args RX1 21 "ScanChain$Chip" "pins" "I" := Or.inl (cx.1.2.2.2.2 _ zt40)
theorem fl_X1_24 {p s m args meth c cc nL own G} (cx : Cx p s m args meth c cc nL own G) : zFL s args RX1 24 "ScanChain$Chip" "outputs" "I" := Or.inl (cx.1.2.2.2.2 _ zt41)
theorem fl_X1_27 {p s m args meth c cc nL own G} (cx : Cx p s m args meth c cc nL own G) : zFL s args RX1 27 "ScanChain$Chip" "isBroken" "Z" := Or.inl (cx.1.2.2.2.2 _ zt42)
theorem fl_X1_37 {p s m args meth c cc nL own G} (cx : Cx p s m args meth c cc nL own G) : zFL s args RX1 37 "ScanChain$Chip" "instruction" "I" := Or.inl (cx.1.2.2.2.2 _ zt45)
theorem fl_X1_31 {p s m args meth c cc nL own G} (cx : Cx p s m args meth c cc nL own G) : zFL s args RX1 31 "ScanChain$Chip" "codeRegister" "I" := Or.inl (cx.1.2.2.2.2 _ zt46)
theorem fl_X1_40 {p s m args meth c cc nL own G} (cx : Cx p s m args meth c cc nL own G) : zFL s args RX1 40 "ScanChain$Chip" "dataRegister" "I" := Or.inl (cx.1.2.2.2.2 _ zt48)
theorem fl_X0_11 {p s m args meth c cc nL own G} (cx : Cx p s m args meth c cc nL own G) : zFL s args RX0 11 "ScanChain$Chain" "chips" "[LScanChain$Chip;" := Or.inl (cx.1.2.2.2.2 _ zt68)
theorem fl_X0_18 {p s m args meth c cc nL own G} (cx : Cx p s m args meth c cc nL own G) : zFL s args RX0 18 "ScanChain$Chain" "size" "I" := Or.inl (cx.1.2.2.2.2 _ zt71)
theorem fl_X0_24 {p s m args meth c cc nL own G} (cx : Cx p s m args meth c cc nL own G) : zFL s args RX0 24 "ScanChain$Chain" "state" "I" := Or.inl (cx.1.2.2.2.2 _ zt74)
theorem fl_X0_27 {p s m args meth c cc nL own G} (cx : Cx p s m args meth c cc nL own G) : zFL s args RX0 27 "ScanChain$Chain" "clocks" "I" := Or.inl (cx.1.2.2.2.2 _ zt77)
theorem fl_X0_30 {p s m args meth c cc nL own G} (cx : Cx p s m args meth c cc nL own G) : zFL s args RX0 30 "ScanChain$Chain" "identities" "[I" := Or.inl (cx.1.2.2.2.2 _ zt79)
theorem fl_X0_34 {p s m args meth c cc nL own G} (cx : Cx p s m args meth c cc nL own G) : zFL s args RX0 34 "ScanChain$Chain" "identityCount" "I" := Or.inl (cx.1.2.2.2.2 _ zt81)
theorem fl_X3_11 {p s m args meth c cc nL own G} (cx : Cx p s m args meth c cc nL own G) : zFL s args RX3 11 "ScanChain$History" "records" "[LScanChain$Chain;" := Or.inl (cx.1.2.2.2.2 _ zt107)
theorem fl_X3_18 {p s m args meth c cc nL own G} (cx : Cx p s m args meth c cc nL own G) : zFL s args RX3 18 "ScanChain$History" "size" "I" := Or.inl (cx.1.2.2.2.2 _ zt108)
theorem fl_X5_9 {p s m args meth c cc nL own G} (cx : Cx p s m args meth c cc nL own G) : zFL s args RX5 9 "ScanChain$Script" "characters" "[C" := Or.inl (cx.1.2.2.2.2 _ zt121)
theorem fl_X5_15 {p s m args meth c cc nL own G} (cx : Cx p s m args meth c cc nL own G) : zFL s args RX5 15 "ScanChain$Script" "length" "I" := Or.inl (cx.1.2.2.2.2 _ zt123)
theorem fl_X6_10 {p s m args meth c cc nL own G} (cx : Cx p s m args meth c cc nL own G) : zFL s args RX6 10 "ScanChain" "chain" "LScanChain$Chain;" := Or.inl (cx.1.2.2.2.2 _ zt132)
theorem fl_X6_16 {p s m args meth c cc nL own G} (cx : Cx p s m args meth c cc nL own G) : zFL s args RX6 16 "ScanChain" "trial" "LScanChain$Chain;" := Or.inl (cx.1.2.2.2.2 _ zt133)
theorem fl_X6_19 {p s m args meth c cc nL own G} (cx : Cx p s m args meth c cc nL own G) : zFL s args RX6 19 "ScanChain" "snapshot" "LScanChain$Chain;" := Or.inl (cx.1.2.2.2.2 _ zt134)
theorem fl_X6_22 {p s m args meth c cc nL own G} (cx : Cx p s m args meth c cc nL own G) : zFL s args RX6 22 "ScanChain" "hasSnapshot" "Z" := Or.inl (cx.1.2.2.2.2 _ zt135)
theorem fl_X6_29 {p s m args meth c cc nL own G} (cx : Cx p s m args meth c cc nL own G) : zFL s args RX6 29 "ScanChain" "history" "LScanChain$History;" := Or.inl (cx.1.2.2.2.2 _ zt136)
theorem fl_X6_36 {p s m args meth c cc nL own G} (cx : Cx p s m args meth c cc nL own G) : zFL s args RX6 36 "ScanChain" "script" "LScanChain$Script;" := Or.inl (cx.1.2.2.2.2 _ zt137)
theorem fl_X2_13 {p s m args meth c cc nL own G} (cx : Cx p s m args meth c cc nL own G) : zFL s args RX2 13 "ScanChain$Controller" "NEXT_BY_MODE_0" "[I" := Or.inl (cx.1.2.2.2.2 _ zt374)
theorem fl_X2_17 {p s m args meth c cc nL own G} (cx : Cx p s m args meth c cc nL own G) : zFL s args RX2 17 "ScanChain$Controller" "NEXT_BY_MODE_1" "[I" := Or.inl (cx.1.2.2.2.2 _ zt376)
theorem ml_X0_17 {p s m args meth c cc nL own G} (cx : Cx p s m args meth c cc nL own G) : va_Nw (.methodLinkNest RX0 17 yX1_init "ScanChain") s := cx.2.1.2.1 _ (List.mem_of_getElem? (i := 0) rfl)
theorem fl_X4_54 {p s m args meth c cc nL own G} (cx : Cx p s m args meth c cc nL own G) : zFL s args RX4 54 "ScanChain$Chip" "codeLength" "I" := Or.inr ⟨_, va_Nw.use rfl (cx.2.1.2.1 _ (List.mem_of_getElem? (i := 1) rfl))⟩
theorem fl_X0_56 {p s m args meth c cc nL own G} (cx : Cx p s m args meth c cc nL own G) : zFL s args RX0 56 "ScanChain$Chip" "codeLength" "I" := Or.inr ⟨_, va_Nw.use rfl (cx.2.1.2.1 _ (List.mem_of_getElem? (i := 2) rfl))⟩
theorem fl_X0_45 {p s m args meth c cc nL own G} (cx : Cx p s m args meth c cc nL own G) : zFL s args RX0 45 "ScanChain$Chip" "identity" "I" := Or.inr ⟨_, va_Nw.use rfl (cx.2.1.2.1 _ (List.mem_of_getElem? (i := 3) rfl))⟩
theorem fl_X6_76 {p s m args meth c cc nL own G} (cx : Cx p s m args meth c cc nL own G) : zFL s args RX6 76 "ScanChain$Chip" "isBroken" "Z" := Or.inr ⟨_, va_Nw.use rfl (cx.2.1.2.1 _ (List.mem_of_getElem? (i := 4) rfl))⟩
theorem fl_X0_48 {p s m args meth c cc nL own G} (cx : Cx p s m args meth c cc nL own G) : zFL s args RX0 48 "ScanChain$Chip" "isBroken" "Z" := Or.inr ⟨_, va_Nw.use rfl (cx.2.1.2.1 _ (List.mem_of_getElem? (i := 5) rfl))⟩
theorem fl_X0_96 {p s m args meth c cc nL own G} (cx : Cx p s m args meth c cc nL own G) : zFL s args RX0 96 "ScanChain$Chip" "codeRegister" "I" := Or.inr ⟨_, va_Nw.use rfl (cx.2.1.2.1 _ (List.mem_of_getElem? (i := 6) rfl))⟩
theorem fl_X6_67 {p s m args meth c cc nL own G} (cx : Cx p s m args meth c cc nL own G) : zFL s args RX6 67 "ScanChain$Chain" "chips" "[LScanChain$Chip;" := Or.inr ⟨_, va_Nw.use rfl (cx.2.1.2.1 _ (List.mem_of_getElem? (i := 7) rfl))⟩
theorem fl_X4_50 {p s m args meth c cc nL own G} (cx : Cx p s m args meth c cc nL own G) : zFL s args RX4 50 "ScanChain$Chain" "chips" "[LScanChain$Chip;" := Or.inr ⟨_, va_Nw.use rfl (cx.2.1.2.1 _ (List.mem_of_getElem? (i := 8) rfl))⟩
theorem fl_X6_48 {p s m args meth c cc nL own G} (cx : Cx p s m args meth c cc nL own G) : zFL s args RX6 48 "ScanChain$Chain" "size" "I" := Or.inr ⟨_, va_Nw.use rfl (cx.2.1.2.1 _ (List.mem_of_getElem? (i := 9) rfl))⟩
theorem fl_X4_47 {p s m args meth c cc nL own G} (cx : Cx p s m args meth c cc nL own G) : zFL s args RX4 47 "ScanChain$Chain" "size" "I" := Or.inr ⟨_, va_Nw.use rfl (cx.2.1.2.1 _ (List.mem_of_getElem? (i := 10) rfl))⟩
theorem fl_X4_9 {p s m args meth c cc nL own G} (cx : Cx p s m args meth c cc nL own G) : zFL s args RX4 9 "ScanChain$Chain" "state" "I" := Or.inr ⟨_, va_Nw.use rfl (cx.2.1.2.1 _ (List.mem_of_getElem? (i := 11) rfl))⟩
theorem fl_X6_141 {p s m args meth c cc nL own G} (cx : Cx p s m args meth c cc nL own G) : zFL s args RX6 141 "ScanChain$Chain" "state" "I" := Or.inr ⟨_, va_Nw.use rfl (cx.2.1.2.1 _ (List.mem_of_getElem? (i := 12) rfl))⟩
theorem fl_X6_144 {p s m args meth c cc nL own G} (cx : Cx p s m args meth c cc nL own G) : zFL s args RX6 144 "ScanChain$Chain" "clocks" "I" := Or.inr ⟨_, va_Nw.use rfl (cx.2.1.2.1 _ (List.mem_of_getElem? (i := 13) rfl))⟩
theorem fl_X6_157 {p s m args meth c cc nL own G} (cx : Cx p s m args meth c cc nL own G) : zFL s args RX6 157 "ScanChain$Chain" "identities" "[I" := Or.inr ⟨_, va_Nw.use rfl (cx.2.1.2.1 _ (List.mem_of_getElem? (i := 14) rfl))⟩
theorem fl_X4_44 {p s m args meth c cc nL own G} (cx : Cx p s m args meth c cc nL own G) : zFL s args RX4 44 "ScanChain$Chain" "identityCount" "I" := Or.inr ⟨_, va_Nw.use rfl (cx.2.1.2.1 _ (List.mem_of_getElem? (i := 15) rfl))⟩
theorem fl_X6_153 {p s m args meth c cc nL own G} (cx : Cx p s m args meth c cc nL own G) : zFL s args RX6 153 "ScanChain$Chain" "identityCount" "I" := Or.inr ⟨_, va_Nw.use rfl (cx.2.1.2.1 _ (List.mem_of_getElem? (i := 16) rfl))⟩
theorem fl_X6_156 {p s m args meth c cc nL own G} (cx : Cx p s m args meth c cc nL own G) : zFL s args RX6 156 "ScanChain$History" "size" "I" := Or.inr ⟨_, va_Nw.use rfl (cx.2.1.2.1 _ (List.mem_of_getElem? (i := 17) rfl))⟩
theorem fl_X4_76 {p s m args meth c cc nL own G} (cx : Cx p s m args meth c cc nL own G) : zFL s args RX4 76 "ScanChain$Script" "characters" "[C" := Or.inr ⟨_, va_Nw.use rfl (cx.2.1.2.1 _ (List.mem_of_getElem? (i := 18) rfl))⟩
theorem fl_X4_71 {p s m args meth c cc nL own G} (cx : Cx p s m args meth c cc nL own G) : zFL s args RX4 71 "ScanChain$Script" "length" "I" := Or.inr ⟨_, va_Nw.use rfl (cx.2.1.2.1 _ (List.mem_of_getElem? (i := 19) rfl))⟩
theorem fl_X6_116 {p s m args meth c cc nL own G} (cx : Cx p s m args meth c cc nL own G) : zFL s args RX6 116 "ScanChain$Script" "length" "I" := Or.inr ⟨_, va_Nw.use rfl (cx.2.1.2.1 _ (List.mem_of_getElem? (i := 20) rfl))⟩
theorem ml_X1_43 {p s m args meth c cc nL own G} (cx : Cx p s m args meth c cc nL own G) : va_Nw (.methodLinkNest RX1 43 yX6_allOnes "ScanChain") s := cx.2.1.2.1 _ (List.mem_of_getElem? (i := 21) rfl)
theorem ml_X4_59 {p s m args meth c cc nL own G} (cx : Cx p s m args meth c cc nL own G) : va_Nw (.methodLinkNest RX4 59 yX6_allOnes "ScanChain") s := cx.2.1.2.1 _ (List.mem_of_getElem? (i := 22) rfl)
