def mX11_init : am_M := (yX11_init, cX11_init, 2, none, 3, 66, 59, 6711)
theorem zX11_init : am_YI mX11_init 0 := ⟨⟨am_i1 19 rfl rfl, am_i1 1 rfl rfl, by decide +kernel, by decide +kernel, by decide +kernel⟩, am_i1 18 rfl rfl, rfl⟩
def mX11_feed : am_M := (yX11_feed, cX11_feed, 7, (some FieldType.int), 1, 21, 0, 0)
theorem zX11_feed : am_YV mX11_feed 11 3 := ⟨⟨am_i2 129 rfl rfl, am_i1 1 rfl rfl, by decide +kernel, by decide +kernel, by decide +kernel⟩, am_i2 127 rfl rfl, am_i2 128 rfl rfl, _, _, rfl⟩
def mX11_fill : am_M := (yX11_fill, cX11_fill, 7, (some FieldType.int), 1, 21, 0, 0)
theorem zX11_fill : am_YV mX11_fill 11 3 := ⟨⟨am_i2 149 rfl rfl, am_i1 1 rfl rfl, by decide +kernel, by decide +kernel, by decide +kernel⟩, am_i2 147 rfl rfl, am_i2 148 rfl rfl, _, _, rfl⟩
def mX11_alter : am_M := (yX11_alter, cX11_alter, 6, (some FieldType.int), 1, 22, 0, 0)
theorem zX11_alter : am_YV mX11_alter 11 3 := ⟨⟨am_i2 155 rfl rfl, am_i1 1 rfl rfl, by decide +kernel, by decide +kernel, by decide +kernel⟩, am_i2 153 rfl rfl, am_i2 154 rfl rfl, _, _, rfl⟩
def mX11_octet : am_M := (yX11_octet, cX11_octet, 4, (some FieldType.int), 1, 21, 0, 0)
theorem zX11_octet : am_YV mX11_octet 11 2 := ⟨⟨am_i2 171 rfl rfl, am_i1 1 rfl rfl, by decide +kernel, by decide +kernel, by decide +kernel⟩, am_i2 169 rfl rfl, am_i2 170 rfl rfl, _, _, rfl⟩
def mX11_cut : am_M := (yX11_cut, cX11_cut, 5, (some FieldType.int), 1, 21, 0, 0)
theorem zX11_cut : am_YV mX11_cut 11 2 := ⟨⟨am_i2 175 rfl rfl, am_i1 1 rfl rfl, by decide +kernel, by decide +kernel, by decide +kernel⟩, am_i2 173 rfl rfl, am_i2 174 rfl rfl, _, _, rfl⟩
def mX11_tag : am_M := (yX11_tag, cX11_tag, 3, (some FieldType.int), 0, 0, 0, 0)
theorem zX11_tag : am_YV mX11_tag 11 1 := ⟨⟨am_i2 179 rfl rfl, am_i1 1 rfl rfl, by decide +kernel, by decide +kernel, by decide +kernel⟩, am_i2 177 rfl rfl, am_i2 178 rfl rfl, _, _, rfl⟩
def mX11_seal : am_M := (yX11_seal, cX11_seal, 3, (some FieldType.int), 6, 243, 0, 0)
theorem zX11_seal : am_YV mX11_seal 11 1 := ⟨⟨am_i2 183 rfl rfl, am_i1 1 rfl rfl, by decide +kernel, by decide +kernel, by decide +kernel⟩, am_i2 181 rfl rfl, am_i2 182 rfl rfl, _, _, rfl⟩
def mX11_open : am_M := (yX11_open, cX11_open, 5, (some FieldType.int), 6, 243, 0, 0)
theorem zX11_open : am_YV mX11_open 11 1 := ⟨⟨am_i4 186 rfl rfl, am_i1 1 rfl rfl, by decide +kernel, by decide +kernel, by decide +kernel⟩, am_i4 184 rfl rfl, am_i4 185 rfl rfl, _, _, rfl⟩
def mX11_sum : am_M := (yX11_sum, cX11_sum, 2, (some FieldType.int), 5, 194, 0, 0)
theorem zX11_sum : am_YV mX11_sum 11 1 := ⟨⟨am_i5 18 rfl rfl, am_i1 1 rfl rfl, by decide +kernel, by decide +kernel, by decide +kernel⟩, am_i5 16 rfl rfl, am_i5 17 rfl rfl, _, _, rfl⟩
def mX11_out : am_M := (yX11_out, cX11_out, 2, (some FieldType.int), 1, 21, 0, 0)
theorem zX11_out : am_YV mX11_out 11 1 := ⟨⟨am_i5 28 rfl rfl, am_i1 1 rfl rfl, by decide +kernel, by decide +kernel, by decide +kernel⟩, am_i5 26 rfl rfl, am_i5 27 rfl rfl, _, _, rfl⟩
def mX11_take : am_M := (yX11_take, cX11_take, 3, (some FieldType.int), 2, 45, 0, 0)
theorem zX11_take : am_YV mX11_take 11 1 := ⟨⟨am_i5 32 rfl rfl, am_i1 1 rfl rfl, by decide +kernel, by decide +kernel, by decide +kernel⟩, am_i5 30 rfl rfl, am_i5 31 rfl rfl, _, _, rfl⟩
def mX11_roundKey : am_M := (yX11_roundKey, cX11_roundKey, 2, (some FieldType.int), 4, 180, 0, 0)
theorem zX11_roundKey : am_YV mX11_roundKey 11 1 := ⟨⟨am_i5 40 rfl rfl, am_i1 1 rfl rfl, by decide +kernel, by decide +kernel, by decide +kernel⟩, am_i5 38 rfl rfl, am_i5 39 rfl rfl, _, _, rfl⟩
def mX11_rowOf : am_M := (yX11_rowOf, cX11_rowOf, 2, (some (FieldType.object "SlicedModes$Row")), 0, 0, 0, 0)
theorem zX11_rowOf : am_YV mX11_rowOf 11 1 := ⟨⟨am_i2 133 rfl rfl, am_i1 1 rfl rfl, by decide +kernel, by decide +kernel, by decide +kernel⟩, am_i2 132 rfl rfl, am_ip1 (q := (yX11_rowOf, 19)) 0 rfl rfl, _, _, rfl⟩
def mX11_isTagged : am_M := (yX11_isTagged, cX11_isTagged, 1, (some FieldType.boolean), 0, 0, 0, 0)
theorem zX11_isTagged : am_YS mX11_isTagged 1 := ⟨⟨am_i2 204 rfl rfl, am_i1 1 rfl rfl, by decide +kernel, by decide +kernel, by decide +kernel⟩, am_i2 203 rfl rfl⟩
def mX11_wantsTwoKeys : am_M := (yX11_wantsTwoKeys, cX11_wantsTwoKeys, 1, (some FieldType.boolean), 0, 0, 0, 0)
theorem zX11_wantsTwoKeys : am_YS mX11_wantsTwoKeys 1 := ⟨⟨am_i2 190 rfl rfl, am_i1 1 rfl rfl, by decide +kernel, by decide +kernel, by decide +kernel⟩, am_i2 189 rfl rfl⟩
def mX11_isKeySize : am_M := (yX11_isKeySize, cX11_isKeySize, 1, (some FieldType.boolean), 0, 0, 0, 0)
theorem zX11_isKeySize : am_YS mX11_isKeySize 1 := ⟨⟨am_i2 193 rfl rfl, am_i1 1 rfl rfl, by decide +kernel, by decide +kernel, by decide +kernel⟩, am_i2 192 rfl rfl⟩
def mX11_refusalOf : am_M := (yX11_refusalOf, cX11_refusalOf, 4, (some FieldType.int), 2, 43, 0, 0)
theorem zX11_refusalOf : am_YV mX11_refusalOf 11 2 := ⟨⟨am_i2 187 rfl rfl, am_i1 1 rfl rfl, by decide +kernel, by decide +kernel, by decide +kernel⟩, am_i2 186 rfl rfl, am_ip1 (q := (yX11_refusalOf, 19)) 1 rfl rfl, _, _, rfl⟩
def mX11_startFits : am_M := (yX11_startFits, cX11_startFits, 3, (some FieldType.boolean), 0, 0, 0, 0)
theorem zX11_startFits : am_YV mX11_startFits 11 1 := ⟨⟨am_i2 197 rfl rfl, am_i1 1 rfl rfl, by decide +kernel, by decide +kernel, by decide +kernel⟩, am_i2 196 rfl rfl, am_ip1 (q := (yX11_startFits, 19)) 2 rfl rfl, _, _, rfl⟩
def mX11_dataFits : am_M := (yX11_dataFits, cX11_dataFits, 4, (some FieldType.boolean), 1, 20, 0, 0)
theorem zX11_dataFits : am_YV mX11_dataFits 11 2 := ⟨⟨am_i2 201 rfl rfl, am_i1 1 rfl rfl, by decide +kernel, by decide +kernel, by decide +kernel⟩, am_i2 200 rfl rfl, am_ip1 (q := (yX11_dataFits, 19)) 3 rfl rfl, _, _, rfl⟩
def mX11_expandKeys : am_M := (yX11_expandKeys, cX11_expandKeys, 3, none, 4, 180, 0, 0)
theorem zX11_expandKeys : am_YV mX11_expandKeys 11 1 := ⟨⟨am_i2 208 rfl rfl, am_i1 1 rfl rfl, by decide +kernel, by decide +kernel, by decide +kernel⟩, am_i2 207 rfl rfl, am_ip1 (q := (yX11_expandKeys, 19)) 4 rfl rfl, _, _, rfl⟩
def mX11_publish : am_M := (yX11_publish, cX11_publish, 2, (some FieldType.int), 0, 0, 0, 0)
theorem zX11_publish : am_YV mX11_publish 11 0 := ⟨⟨am_i4 182 rfl rfl, am_i1 1 rfl rfl, by decide +kernel, by decide +kernel, by decide +kernel⟩, am_i4 181 rfl rfl, am_ip3 (q := (yX11_publish, 19)) 0 rfl rfl, _, _, rfl⟩
def mX11_lockBare : am_M := (yX11_lockBare, cX11_lockBare, 2, none, 5, 204, 0, 0)
theorem zX11_lockBare : am_YV mX11_lockBare 11 1 := ⟨⟨am_i4 65 rfl rfl, am_i1 1 rfl rfl, by decide +kernel, by decide +kernel, by decide +kernel⟩, am_i4 64 rfl rfl, am_ip2 (q := (yX11_lockBare, 19)) 10 rfl rfl, _, _, rfl⟩
def mX11_unlockBare : am_M := (yX11_unlockBare, cX11_unlockBare, 2, (some FieldType.boolean), 5, 222, 0, 0)
theorem zX11_unlockBare : am_YV mX11_unlockBare 11 1 := ⟨⟨am_i4 201 rfl rfl, am_i1 1 rfl rfl, by decide +kernel, by decide +kernel, by decide +kernel⟩, am_i4 200 rfl rfl, am_ip3 (q := (yX11_unlockBare, 19)) 1 rfl rfl, _, _, rfl⟩
def mX11_runStream : am_M := (yX11_runStream, cX11_runStream, 3, none, 4, 178, 0, 0)
theorem zX11_runStream : am_YV mX11_runStream 11 2 := ⟨⟨am_i4 157 rfl rfl, am_i1 1 rfl rfl, by decide +kernel, by decide +kernel, by decide +kernel⟩, am_i4 156 rfl rfl, am_ip2 (q := (yX11_runStream, 19)) 15 rfl rfl, _, _, rfl⟩
def mX11_runTagged : am_M := (yX11_runTagged, cX11_runTagged, 4, none, 5, 220, 0, 0)
theorem zX11_runTagged : am_YV mX11_runTagged 11 3 := ⟨⟨am_i3 28 rfl rfl, am_i1 1 rfl rfl, by decide +kernel, by decide +kernel, by decide +kernel⟩, am_i3 27 rfl rfl, am_ip1 (q := (yX11_runTagged, 19)) 8 rfl rfl, _, _, rfl⟩
def mX12_init : am_M := (yX12_init, cX12_init, 7, none, 1, 24, 29, 6590)
theorem zX12_init : am_YI mX12_init 0 := ⟨⟨am_i5 53 rfl rfl, am_i1 14 rfl rfl, by decide +kernel, by decide +kernel, by decide +kernel⟩, am_i5 52 rfl rfl, rfl⟩
def mX12_in : am_M := (yX12_in, cX12_in, 3, (some FieldType.boolean), 0, 0, 0, 0)
theorem zX12_in : am_YS mX12_in 3 := ⟨⟨am_i5 176 rfl rfl, am_i1 14 rfl rfl, by decide +kernel, by decide +kernel, by decide +kernel⟩, am_i5 175 rfl rfl⟩
def mX12_times : am_M := (yX12_times, cX12_times, 5, (some FieldType.int), 0, 0, 0, 0)
theorem zX12_times : am_YS mX12_times 2 := ⟨⟨am_i5 57 rfl rfl, am_i1 14 rfl rfl, by decide +kernel, by decide +kernel, by decide +kernel⟩, am_i5 56 rfl rfl⟩
def mX12_room : am_M := (yX12_room, cX12_room, 1, (some FieldType.int), 0, 0, 0, 0)
theorem zX12_room : am_YS mX12_room 1 := ⟨⟨am_i5 179 rfl rfl, am_i1 14 rfl rfl, by decide +kernel, by decide +kernel, by decide +kernel⟩, am_i5 178 rfl rfl⟩
def mX12_feed : am_M := (yX12_feed, cX12_feed, 6, (some FieldType.int), 1, 22, 0, 0)
theorem zX12_feed : am_YV mX12_feed 12 3 := ⟨⟨am_i5 173 rfl rfl, am_i1 14 rfl rfl, by decide +kernel, by decide +kernel, by decide +kernel⟩, am_i5 171 rfl rfl, am_i5 172 rfl rfl, _, _, rfl⟩
def mX12_fill : am_M := (yX12_fill, cX12_fill, 6, (some FieldType.int), 1, 22, 0, 0)
theorem zX12_fill : am_YV mX12_fill 12 3 := ⟨⟨am_i5 183 rfl rfl, am_i1 14 rfl rfl, by decide +kernel, by decide +kernel, by decide +kernel⟩, am_i5 181 rfl rfl, am_i5 182 rfl rfl, _, _, rfl⟩
def mX12_none : am_M := (yX12_none, cX12_none, 3, (some FieldType.boolean), 1, 22, 0, 0)
theorem zX12_none : am_YV mX12_none 12 2 := ⟨⟨am_i5 193 rfl rfl, am_i1 14 rfl rfl, by decide +kernel, by decide +kernel, by decide +kernel⟩, am_i5 192 rfl rfl, am_ip3 (q := (yX12_none, 37)) 4 rfl rfl, _, _, rfl⟩
def mX12_alter : am_M := (yX12_alter, cX12_alter, 5, (some FieldType.int), 2, 44, 0, 0)
theorem zX12_alter : am_YV mX12_alter 12 3 := ⟨⟨am_i5 189 rfl rfl, am_i1 14 rfl rfl, by decide +kernel, by decide +kernel, by decide +kernel⟩, am_i5 187 rfl rfl, am_i5 188 rfl rfl, _, _, rfl⟩
def mX12_octet : am_M := (yX12_octet, cX12_octet, 3, (some FieldType.int), 2, 44, 0, 0)
theorem zX12_octet : am_YV mX12_octet 12 2 := ⟨⟨am_i5 197 rfl rfl, am_i1 14 rfl rfl, by decide +kernel, by decide +kernel, by decide +kernel⟩, am_i5 195 rfl rfl, am_i5 196 rfl rfl, _, _, rfl⟩
def mX12_cut : am_M := (yX12_cut, cX12_cut, 4, (some FieldType.int), 1, 22, 0, 0)
theorem zX12_cut : am_YV mX12_cut 12 2 := ⟨⟨am_i5 201 rfl rfl, am_i1 14 rfl rfl, by decide +kernel, by decide +kernel, by decide +kernel⟩, am_i5 199 rfl rfl, am_i5 200 rfl rfl, _, _, rfl⟩
def mX12_tag : am_M := (yX12_tag, cX12_tag, 3, (some FieldType.int), 1, 22, 0, 0)
theorem zX12_tag : am_YV mX12_tag 12 1 := ⟨⟨am_i5 205 rfl rfl, am_i1 14 rfl rfl, by decide +kernel, by decide +kernel, by decide +kernel⟩, am_i5 203 rfl rfl, am_i5 204 rfl rfl, _, _, rfl⟩
def mX12_expand : am_M := (yX12_expand, cX12_expand, 12, none, 1, 24, 0, 0)
theorem zX12_expand : am_YV mX12_expand 12 3 := ⟨⟨am_i5 221 rfl rfl, am_i1 14 rfl rfl, by decide +kernel, by decide +kernel, by decide +kernel⟩, am_i5 220 rfl rfl, am_ip3 (q := (yX12_expand, 37)) 7 rfl rfl, _, _, rfl⟩
def mX12_addRound : am_M := (yX12_addRound, cX12_addRound, 4, none, 0, 0, 0, 0)
theorem zX12_addRound : am_YV mX12_addRound 12 2 := ⟨⟨am_i6 4 rfl rfl, am_i1 14 rfl rfl, by decide +kernel, by decide +kernel, by decide +kernel⟩, am_i6 3 rfl rfl, am_ip3 (q := (yX12_addRound, 37)) 12 rfl rfl, _, _, rfl⟩
def mX12_mix : am_M := (yX12_mix, cX12_mix, 7, none, 1, 24, 0, 0)
theorem zX12_mix : am_YV mX12_mix 12 4 := ⟨⟨am_i6 8 rfl rfl, am_i1 14 rfl rfl, by decide +kernel, by decide +kernel, by decide +kernel⟩, am_i6 7 rfl rfl, am_ip3 (q := (yX12_mix, 37)) 13 rfl rfl, _, _, rfl⟩
def mX12_sealBlock : am_M := (yX12_sealBlock, cX12_sealBlock, 6, none, 2, 50, 0, 0)
theorem zX12_sealBlock : am_YV mX12_sealBlock 12 3 := ⟨⟨am_i6 12 rfl rfl, am_i1 14 rfl rfl, by decide +kernel, by decide +kernel, by decide +kernel⟩, am_i6 11 rfl rfl, am_ip3 (q := (yX12_sealBlock, 37)) 14 rfl rfl, _, _, rfl⟩
def mX12_openBlock : am_M := (yX12_openBlock, cX12_openBlock, 6, none, 2, 50, 0, 0)
theorem zX12_openBlock : am_YV mX12_openBlock 12 3 := ⟨⟨am_i6 0 rfl rfl, am_i1 14 rfl rfl, by decide +kernel, by decide +kernel, by decide +kernel⟩, am_i5 239 rfl rfl, am_ip3 (q := (yX12_openBlock, 37)) 11 rfl rfl, _, _, rfl⟩
def mX12_copy : am_M := (yX12_copy, cX12_copy, 6, none, 0, 0, 0, 0)
theorem zX12_copy : am_YS mX12_copy 5 := ⟨⟨am_i5 232 rfl rfl, am_i1 14 rfl rfl, by decide +kernel, by decide +kernel, by decide +kernel⟩, am_i5 231 rfl rfl⟩
def mX12_add : am_M := (yX12_add, cX12_add, 6, none, 0, 0, 0, 0)
theorem zX12_add : am_YS mX12_add 5 := ⟨⟨am_i6 19 rfl rfl, am_i1 14 rfl rfl, by decide +kernel, by decide +kernel, by decide +kernel⟩, am_i6 18 rfl rfl⟩
def mX12_clear : am_M := (yX12_clear, cX12_clear, 4, none, 0, 0, 0, 0)
theorem zX12_clear : am_YS mX12_clear 3 := ⟨⟨am_i6 34 rfl rfl, am_i1 14 rfl rfl, by decide +kernel, by decide +kernel, by decide +kernel⟩, am_i6 33 rfl rfl⟩
def mX12_doubled : am_M := (yX12_doubled, cX12_doubled, 3, none, 0, 0, 0, 0)
theorem zX12_doubled : am_YS mX12_doubled 1 := ⟨⟨am_i6 100 rfl rfl, am_i1 14 rfl rfl, by decide +kernel, by decide +kernel, by decide +kernel⟩, am_i6 99 rfl rfl⟩
def mX12_oneMore : am_M := (yX12_oneMore, cX12_oneMore, 4, none, 0, 0, 0, 0)
theorem zX12_oneMore : am_YS mX12_oneMore 2 := ⟨⟨am_i6 53 rfl rfl, am_i1 14 rfl rfl, by decide +kernel, by decide +kernel, by decide +kernel⟩, am_i6 52 rfl rfl⟩
def mX12_load : am_M := (yX12_load, cX12_load, 1, none, 1, 25, 0, 0)
theorem zX12_load : am_YV mX12_load 12 0 := ⟨⟨am_i5 229 rfl rfl, am_i1 14 rfl rfl, by decide +kernel, by decide +kernel, by decide +kernel⟩, am_i5 228 rfl rfl, am_ip3 (q := (yX12_load, 37)) 9 rfl rfl, _, _, rfl⟩
def mX12_chain : am_M := (yX12_chain, cX12_chain, 5, none, 3, 75, 0, 0)
theorem zX12_chain : am_YV mX12_chain 12 3 := ⟨⟨am_i6 23 rfl rfl, am_i1 14 rfl rfl, by decide +kernel, by decide +kernel, by decide +kernel⟩, am_i6 22 rfl rfl, am_ip4 (q := (yX12_chain, 37)) 0 rfl rfl, _, _, rfl⟩
def mX12_unchain : am_M := (yX12_unchain, cX12_unchain, 3, none, 3, 75, 0, 0)
theorem zX12_unchain : am_YV mX12_unchain 12 1 := ⟨⟨am_i6 16 rfl rfl, am_i1 14 rfl rfl, by decide +kernel, by decide +kernel, by decide +kernel⟩, am_i6 15 rfl rfl, am_ip3 (q := (yX12_unchain, 37)) 15 rfl rfl, _, _, rfl⟩
def mX12_book : am_M := (yX12_book, cX12_book, 3, none, 3, 75, 0, 0)
theorem zX12_book : am_YV mX12_book 12 1 := ⟨⟨am_i5 236 rfl rfl, am_i1 14 rfl rfl, by decide +kernel, by decide +kernel, by decide +kernel⟩, am_i5 235 rfl rfl, am_ip3 (q := (yX12_book, 37)) 10 rfl rfl, _, _, rfl⟩
def mX12_padded : am_M := (yX12_padded, cX12_padded, 5, (some FieldType.int), 4, 99, 0, 0)
theorem zX12_padded : am_YV mX12_padded 12 1 := ⟨⟨am_i6 27 rfl rfl, am_i1 14 rfl rfl, by decide +kernel, by decide +kernel, by decide +kernel⟩, am_i6 26 rfl rfl, am_ip4 (q := (yX12_padded, 37)) 1 rfl rfl, _, _, rfl⟩
def mX12_stolen : am_M := (yX12_stolen, cX12_stolen, 7, none, 4, 99, 0, 0)
theorem zX12_stolen : am_YV mX12_stolen 12 1 := ⟨⟨am_i6 31 rfl rfl, am_i1 14 rfl rfl, by decide +kernel, by decide +kernel, by decide +kernel⟩, am_i6 30 rfl rfl, am_ip4 (q := (yX12_stolen, 37)) 2 rfl rfl, _, _, rfl⟩
def mX12_fed : am_M := (yX12_fed, cX12_fed, 3, none, 3, 75, 0, 0)
theorem zX12_fed : am_YV mX12_fed 12 1 := ⟨⟨am_i6 38 rfl rfl, am_i1 14 rfl rfl, by decide +kernel, by decide +kernel, by decide +kernel⟩, am_i6 37 rfl rfl, am_ip4 (q := (yX12_fed, 37)) 3 rfl rfl, _, _, rfl⟩
def mX12_fedOne : am_M := (yX12_fedOne, cX12_fedOne, 3, none, 3, 75, 0, 0)
theorem zX12_fedOne : am_YV mX12_fedOne 12 1 := ⟨⟨am_i6 42 rfl rfl, am_i1 14 rfl rfl, by decide +kernel, by decide +kernel, by decide +kernel⟩, am_i6 41 rfl rfl, am_ip4 (q := (yX12_fedOne, 37)) 4 rfl rfl, _, _, rfl⟩
def mX12_outFed : am_M := (yX12_outFed, cX12_outFed, 2, none, 3, 75, 0, 0)
theorem zX12_outFed : am_YV mX12_outFed 12 0 := ⟨⟨am_i6 46 rfl rfl, am_i1 14 rfl rfl, by decide +kernel, by decide +kernel, by decide +kernel⟩, am_i6 45 rfl rfl, am_ip4 (q := (yX12_outFed, 37)) 5 rfl rfl, _, _, rfl⟩
def mX12_count : am_M := (yX12_count, cX12_count, 7, none, 3, 75, 0, 0)
theorem zX12_count : am_YV mX12_count 12 5 := ⟨⟨am_i6 50 rfl rfl, am_i1 14 rfl rfl, by decide +kernel, by decide +kernel, by decide +kernel⟩, am_i6 49 rfl rfl, am_ip4 (q := (yX12_count, 37)) 6 rfl rfl, _, _, rfl⟩
def mX12_nextSector : am_M := (yX12_nextSector, cX12_nextSector, 4, none, 0, 0, 0, 0)
theorem zX12_nextSector : am_YV mX12_nextSector 12 1 := ⟨⟨am_i6 61 rfl rfl, am_i1 14 rfl rfl, by decide +kernel, by decide +kernel, by decide +kernel⟩, am_i6 60 rfl rfl, am_ip4 (q := (yX12_nextSector, 37)) 8 rfl rfl, _, _, rfl⟩
def mX12_sectorBlock : am_M := (yX12_sectorBlock, cX12_sectorBlock, 3, none, 3, 75, 0, 0)
theorem zX12_sectorBlock : am_YV mX12_sectorBlock 12 2 := ⟨⟨am_i6 65 rfl rfl, am_i1 14 rfl rfl, by decide +kernel, by decide +kernel, by decide +kernel⟩, am_i6 64 rfl rfl, am_ip4 (q := (yX12_sectorBlock, 37)) 9 rfl rfl, _, _, rfl⟩
def mX12_sector : am_M := (yX12_sector, cX12_sector, 7, none, 4, 97, 0, 0)
theorem zX12_sector : am_YV mX12_sector 12 1 := ⟨⟨am_i6 57 rfl rfl, am_i1 14 rfl rfl, by decide +kernel, by decide +kernel, by decide +kernel⟩, am_i6 56 rfl rfl, am_ip4 (q := (yX12_sector, 37)) 7 rfl rfl, _, _, rfl⟩
def mX12_wrapAll : am_M := (yX12_wrapAll, cX12_wrapAll, 4, none, 3, 75, 0, 0)
theorem zX12_wrapAll : am_YV mX12_wrapAll 12 1 := ⟨⟨am_i6 73 rfl rfl, am_i1 14 rfl rfl, by decide +kernel, by decide +kernel, by decide +kernel⟩, am_i6 72 rfl rfl, am_ip4 (q := (yX12_wrapAll, 37)) 11 rfl rfl, _, _, rfl⟩
def mX12_addNumber : am_M := (yX12_addNumber, cX12_addNumber, 3, none, 0, 0, 0, 0)
theorem zX12_addNumber : am_YV mX12_addNumber 12 1 := ⟨⟨am_i6 77 rfl rfl, am_i1 14 rfl rfl, by decide +kernel, by decide +kernel, by decide +kernel⟩, am_i6 76 rfl rfl, am_ip4 (q := (yX12_addNumber, 37)) 12 rfl rfl, _, _, rfl⟩
def mX12_unwrapAll : am_M := (yX12_unwrapAll, cX12_unwrapAll, 4, none, 3, 75, 0, 0)
theorem zX12_unwrapAll : am_YV mX12_unwrapAll 12 1 := ⟨⟨am_i6 81 rfl rfl, am_i1 14 rfl rfl, by decide +kernel, by decide +kernel, by decide +kernel⟩, am_i6 80 rfl rfl, am_ip4 (q := (yX12_unwrapAll, 37)) 13 rfl rfl, _, _, rfl⟩
def mX12_wrap : am_M := (yX12_wrap, cX12_wrap, 4, (some FieldType.int), 4, 98, 0, 0)
theorem zX12_wrap : am_YV mX12_wrap 12 1 := ⟨⟨am_i6 69 rfl rfl, am_i1 14 rfl rfl, by decide +kernel, by decide +kernel, by decide +kernel⟩, am_i6 68 rfl rfl, am_ip4 (q := (yX12_wrap, 37)) 10 rfl rfl, _, _, rfl⟩
def mX12_paddedWrap : am_M := (yX12_paddedWrap, cX12_paddedWrap, 5, (some FieldType.int), 4, 98, 0, 0)
theorem zX12_paddedWrap : am_YV mX12_paddedWrap 12 1 := ⟨⟨am_i6 85 rfl rfl, am_i1 14 rfl rfl, by decide +kernel, by decide +kernel, by decide +kernel⟩, am_i6 84 rfl rfl, am_ip4 (q := (yX12_paddedWrap, 37)) 14 rfl rfl, _, _, rfl⟩
def mX12_timesH : am_M := (yX12_timesH, cX12_timesH, 4, none, 1, 25, 0, 0)
theorem zX12_timesH : am_YV mX12_timesH 12 0 := ⟨⟨am_i6 120 rfl rfl, am_i1 14 rfl rfl, by decide +kernel, by decide +kernel, by decide +kernel⟩, am_i6 119 rfl rfl, am_ip5 (q := (yX12_timesH, 37)) 6 rfl rfl, _, _, rfl⟩
def mX12_sumRow : am_M := (yX12_sumRow, cX12_sumRow, 5, none, 2, 48, 0, 0)
theorem zX12_sumRow : am_YV mX12_sumRow 12 3 := ⟨⟨am_i6 116 rfl rfl, am_i1 14 rfl rfl, by decide +kernel, by decide +kernel, by decide +kernel⟩, am_i6 115 rfl rfl, am_ip5 (q := (yX12_sumRow, 37)) 5 rfl rfl, _, _, rfl⟩
def mX12_sumLengths : am_M := (yX12_sumLengths, cX12_sumLengths, 4, none, 2, 48, 0, 0)
theorem zX12_sumLengths : am_YV mX12_sumLengths 12 2 := ⟨⟨am_i6 124 rfl rfl, am_i1 14 rfl rfl, by decide +kernel, by decide +kernel, by decide +kernel⟩, am_i6 123 rfl rfl, am_ip5 (q := (yX12_sumLengths, 37)) 7 rfl rfl, _, _, rfl⟩
def mX12_macOf : am_M := (yX12_macOf, cX12_macOf, 4, none, 3, 75, 0, 0)
theorem zX12_macOf : am_YV mX12_macOf 12 1 := ⟨⟨am_i6 97 rfl rfl, am_i1 14 rfl rfl, by decide +kernel, by decide +kernel, by decide +kernel⟩, am_i6 96 rfl rfl, am_ip5 (q := (yX12_macOf, 37)) 1 rfl rfl, _, _, rfl⟩
def mX12_galois : am_M := (yX12_galois, cX12_galois, 3, none, 4, 101, 0, 0)
theorem zX12_galois : am_YV mX12_galois 12 2 := ⟨⟨am_i6 112 rfl rfl, am_i1 14 rfl rfl, by decide +kernel, by decide +kernel, by decide +kernel⟩, am_i6 111 rfl rfl, am_ip5 (q := (yX12_galois, 37)) 4 rfl rfl, _, _, rfl⟩
def mX12_counted : am_M := (yX12_counted, cX12_counted, 4, none, 4, 101, 0, 0)
theorem zX12_counted : am_YV mX12_counted 12 2 := ⟨⟨am_i6 128 rfl rfl, am_i1 14 rfl rfl, by decide +kernel, by decide +kernel, by decide +kernel⟩, am_i6 127 rfl rfl, am_ip5 (q := (yX12_counted, 37)) 8 rfl rfl, _, _, rfl⟩
def mX12_chained : am_M := (yX12_chained, cX12_chained, 4, none, 3, 75, 0, 0)
theorem zX12_chained : am_YV mX12_chained 12 2 := ⟨⟨am_i6 132 rfl rfl, am_i1 14 rfl rfl, by decide +kernel, by decide +kernel, by decide +kernel⟩, am_i6 131 rfl rfl, am_ip5 (q := (yX12_chained, 37)) 9 rfl rfl, _, _, rfl⟩
def mX12_sumOf : am_M := (yX12_sumOf, cX12_sumOf, 4, none, 4, 98, 0, 0)
theorem zX12_sumOf : am_YV mX12_sumOf 12 3 := ⟨⟨am_i6 140 rfl rfl, am_i1 14 rfl rfl, by decide +kernel, by decide +kernel, by decide +kernel⟩, am_i6 139 rfl rfl, am_ip5 (q := (yX12_sumOf, 37)) 11 rfl rfl, _, _, rfl⟩
def mX12_twice : am_M := (yX12_twice, cX12_twice, 3, none, 5, 121, 0, 0)
theorem zX12_twice : am_YV mX12_twice 12 2 := ⟨⟨am_i6 136 rfl rfl, am_i1 14 rfl rfl, by decide +kernel, by decide +kernel, by decide +kernel⟩, am_i6 135 rfl rfl, am_ip5 (q := (yX12_twice, 37)) 10 rfl rfl, _, _, rfl⟩
def mX12_more : am_M := (yX12_more, cX12_more, 3, none, 4, 98, 0, 0)
theorem zX12_more : am_YV mX12_more 12 2 := ⟨⟨am_i6 104 rfl rfl, am_i1 14 rfl rfl, by decide +kernel, by decide +kernel, by decide +kernel⟩, am_i6 103 rfl rfl, am_ip5 (q := (yX12_more, 37)) 2 rfl rfl, _, _, rfl⟩
def mX12_made : am_M := (yX12_made, cX12_made, 4, none, 5, 120, 0, 0)
theorem zX12_made : am_YV mX12_made 12 3 := ⟨⟨am_i6 93 rfl rfl, am_i1 14 rfl rfl, by decide +kernel, by decide +kernel, by decide +kernel⟩, am_i6 92 rfl rfl, am_ip5 (q := (yX12_made, 37)) 0 rfl rfl, _, _, rfl⟩
def mX12_siv : am_M := (yX12_siv, cX12_siv, 4, (some FieldType.int), 6, 143, 0, 0)
theorem zX12_siv : am_YV mX12_siv 12 1 := ⟨⟨am_i6 89 rfl rfl, am_i1 14 rfl rfl, by decide +kernel, by decide +kernel, by decide +kernel⟩, am_i6 88 rfl rfl, am_ip4 (q := (yX12_siv, 37)) 15 rfl rfl, _, _, rfl⟩
def mX12_prepareOffsets : am_M := (yX12_prepareOffsets, cX12_prepareOffsets, 2, none, 3, 75, 0, 0)
theorem zX12_prepareOffsets : am_YV mX12_prepareOffsets 12 0 := ⟨⟨am_i6 148 rfl rfl, am_i1 14 rfl rfl, by decide +kernel, by decide +kernel, by decide +kernel⟩, am_i6 147 rfl rfl, am_ip5 (q := (yX12_prepareOffsets, 37)) 13 rfl rfl, _, _, rfl⟩
def mX12_twos : am_M := (yX12_twos, cX12_twos, 3, (some FieldType.int), 0, 0, 0, 0)
theorem zX12_twos : am_YS mX12_twos 1 := ⟨⟨am_i6 155 rfl rfl, am_i1 14 rfl rfl, by decide +kernel, by decide +kernel, by decide +kernel⟩, am_i6 154 rfl rfl⟩
def mX12_firstOffset : am_M := (yX12_firstOffset, cX12_firstOffset, 4, none, 3, 75, 0, 0)
theorem zX12_firstOffset : am_YV mX12_firstOffset 12 0 := ⟨⟨am_i6 159 rfl rfl, am_i1 14 rfl rfl, by decide +kernel, by decide +kernel, by decide +kernel⟩, am_i6 158 rfl rfl, am_ip5 (q := (yX12_firstOffset, 37)) 15 rfl rfl, _, _, rfl⟩
def mX12_hashAside : am_M := (yX12_hashAside, cX12_hashAside, 3, none, 3, 75, 0, 0)
theorem zX12_hashAside : am_YV mX12_hashAside 12 0 := ⟨⟨am_i6 152 rfl rfl, am_i1 14 rfl rfl, by decide +kernel, by decide +kernel, by decide +kernel⟩, am_i6 151 rfl rfl, am_ip5 (q := (yX12_hashAside, 37)) 14 rfl rfl, _, _, rfl⟩
def mX12_offsets : am_M := (yX12_offsets, cX12_offsets, 6, none, 4, 98, 0, 0)
theorem zX12_offsets : am_YV mX12_offsets 12 2 := ⟨⟨am_i6 144 rfl rfl, am_i1 14 rfl rfl, by decide +kernel, by decide +kernel, by decide +kernel⟩, am_i6 143 rfl rfl, am_ip5 (q := (yX12_offsets, 37)) 12 rfl rfl, _, _, rfl⟩
def mX12_tagged : am_M := (yX12_tagged, cX12_tagged, 6, (some FieldType.int), 6, 143, 0, 0)
theorem zX12_tagged : am_YV mX12_tagged 12 2 := ⟨⟨am_i6 108 rfl rfl, am_i1 14 rfl rfl, by decide +kernel, by decide +kernel, by decide +kernel⟩, am_i6 107 rfl rfl, am_ip5 (q := (yX12_tagged, 37)) 3 rfl rfl, _, _, rfl⟩
def mX12_hasKeys : am_M := (yX12_hasKeys, cX12_hasKeys, 4, (some FieldType.boolean), 2, 55, 0, 0)
theorem zX12_hasKeys : am_YV mX12_hasKeys 12 1 := ⟨⟨am_i5 217 rfl rfl, am_i1 14 rfl rfl, by decide +kernel, by decide +kernel, by decide +kernel⟩, am_i5 216 rfl rfl, am_ip3 (q := (yX12_hasKeys, 37)) 6 rfl rfl, _, _, rfl⟩
def mX12_fits : am_M := (yX12_fits, cX12_fits, 5, (some FieldType.boolean), 1, 22, 0, 0)
theorem zX12_fits : am_YV mX12_fits 12 2 := ⟨⟨am_i5 225 rfl rfl, am_i1 14 rfl rfl, by decide +kernel, by decide +kernel, by decide +kernel⟩, am_i5 224 rfl rfl, am_ip3 (q := (yX12_fits, 37)) 8 rfl rfl, _, _, rfl⟩
def mX12_use : am_M := (yX12_use, cX12_use, 4, (some FieldType.int), 7, 168, 0, 0)
theorem zX12_use : am_YV mX12_use 12 2 := ⟨⟨am_i5 213 rfl rfl, am_i1 14 rfl rfl, by decide +kernel, by decide +kernel, by decide +kernel⟩, am_i5 212 rfl rfl, am_ip3 (q := (yX12_use, 37)) 5 rfl rfl, _, _, rfl⟩
def mX12_come : am_M := (yX12_come, cX12_come, 3, (some FieldType.int), 1, 25, 0, 0)
theorem zX12_come : am_YV mX12_come 12 2 := ⟨⟨am_i6 163 rfl rfl, am_i1 14 rfl rfl, by decide +kernel, by decide +kernel, by decide +kernel⟩, am_i6 162 rfl rfl, am_ip6 (q := (yX12_come, 37)) 0 rfl rfl, _, _, rfl⟩
def mX12_seal : am_M := (yX12_seal, cX12_seal, 2, (some FieldType.int), 8, 191, 0, 0)
theorem zX12_seal : am_YV mX12_seal 12 1 := ⟨⟨am_i5 209 rfl rfl, am_i1 14 rfl rfl, by decide +kernel, by decide +kernel, by decide +kernel⟩, am_i5 207 rfl rfl, am_i5 208 rfl rfl, _, _, rfl⟩
def mX12_open : am_M := (yX12_open, cX12_open, 2, (some FieldType.int), 8, 191, 0, 0)
theorem zX12_open : am_YV mX12_open 12 1 := ⟨⟨am_i6 167 rfl rfl, am_i1 14 rfl rfl, by decide +kernel, by decide +kernel, by decide +kernel⟩, am_i6 165 rfl rfl, am_i6 166 rfl rfl, _, _, rfl⟩
def mX12_sum : am_M := (yX12_sum, cX12_sum, 2, (some FieldType.int), 4, 98, 0, 0)
theorem zX12_sum : am_YV mX12_sum 12 1 := ⟨⟨am_i6 171 rfl rfl, am_i1 14 rfl rfl, by decide +kernel, by decide +kernel, by decide +kernel⟩, am_i6 169 rfl rfl, am_i6 170 rfl rfl, _, _, rfl⟩
def mX12_out : am_M := (yX12_out, cX12_out, 2, (some FieldType.int), 1, 22, 0, 0)
theorem zX12_out : am_YV mX12_out 12 1 := ⟨⟨am_i6 175 rfl rfl, am_i1 14 rfl rfl, by decide +kernel, by decide +kernel, by decide +kernel⟩, am_i6 173 rfl rfl, am_i6 174 rfl rfl, _, _, rfl⟩
def mX12_take : am_M := (yX12_take, cX12_take, 2, (some FieldType.int), 1, 25, 0, 0)
theorem zX12_take : am_YV mX12_take 12 1 := ⟨⟨am_i6 179 rfl rfl, am_i1 14 rfl rfl, by decide +kernel, by decide +kernel, by decide +kernel⟩, am_i6 177 rfl rfl, am_i6 178 rfl rfl, _, _, rfl⟩
def mX12_roundKey : am_M := (yX12_roundKey, cX12_roundKey, 2, (some FieldType.int), 3, 78, 0, 0)
theorem zX12_roundKey : am_YV mX12_roundKey 12 1 := ⟨⟨am_i6 183 rfl rfl, am_i1 14 rfl rfl, by decide +kernel, by decide +kernel, by decide +kernel⟩, am_i6 181 rfl rfl, am_i6 182 rfl rfl, _, _, rfl⟩
def mX0_init : am_M := (yX0_init, cX0_init, 1, none, 1, 20, 0, 0)
theorem zX0_init : am_YI mX0_init 0 := ⟨⟨am_i1 93 rfl rfl, am_i1 7 rfl rfl, by decide +kernel, by decide +kernel, by decide +kernel⟩, am_i1 92 rfl rfl, rfl⟩
def mX0_become : am_M := (yX0_become, cX0_become, 5, none, 0, 0, 0, 0)
theorem zX0_become : am_YV mX0_become 0 2 := ⟨⟨am_i3 40 rfl rfl, am_i1 7 rfl rfl, by decide +kernel, by decide +kernel, by decide +kernel⟩, am_i3 38 rfl rfl, am_i3 39 rfl rfl, _, _, rfl⟩
def mX0_copy : am_M := (yX0_copy, cX0_copy, 2, none, 0, 0, 0, 0)
theorem zX0_copy : am_YV mX0_copy 0 1 := ⟨⟨am_i3 122 rfl rfl, am_i1 7 rfl rfl, by decide +kernel, by decide +kernel, by decide +kernel⟩, am_i3 120 rfl rfl, am_i3 121 rfl rfl, _, _, rfl⟩
def mX0_read : am_M := (yX0_read, cX0_read, 3, none, 1, 24, 0, 0)
theorem zX0_read : am_YV mX0_read 0 2 := ⟨⟨am_i3 90 rfl rfl, am_i1 7 rfl rfl, by decide +kernel, by decide +kernel, by decide +kernel⟩, am_i3 88 rfl rfl, am_i3 89 rfl rfl, _, _, rfl⟩
def mX0_addPart : am_M := (yX0_addPart, cX0_addPart, 3, none, 1, 24, 0, 0)
theorem zX0_addPart : am_YV mX0_addPart 0 2 := ⟨⟨am_i3 185 rfl rfl, am_i1 7 rfl rfl, by decide +kernel, by decide +kernel, by decide +kernel⟩, am_i3 183 rfl rfl, am_i3 184 rfl rfl, _, _, rfl⟩
def mX0_add : am_M := (yX0_add, cX0_add, 2, none, 0, 0, 0, 0)
theorem zX0_add : am_YV mX0_add 0 1 := ⟨⟨am_i3 108 rfl rfl, am_i1 7 rfl rfl, by decide +kernel, by decide +kernel, by decide +kernel⟩, am_i3 106 rfl rfl, am_i3 107 rfl rfl, _, _, rfl⟩
def mX0_octetAt : am_M := (yX0_octetAt, cX0_octetAt, 2, (some FieldType.int), 0, 0, 0, 0)
theorem zX0_octetAt : am_YV mX0_octetAt 0 1 := ⟨⟨am_i3 137 rfl rfl, am_i1 7 rfl rfl, by decide +kernel, by decide +kernel, by decide +kernel⟩, am_i3 135 rfl rfl, am_i3 136 rfl rfl, _, _, rfl⟩
def mX0_addOctet : am_M := (yX0_addOctet, cX0_addOctet, 5, none, 0, 0, 0, 0)
theorem zX0_addOctet : am_YV mX0_addOctet 0 2 := ⟨⟨am_i3 95 rfl rfl, am_i1 7 rfl rfl, by decide +kernel, by decide +kernel, by decide +kernel⟩, am_i3 93 rfl rfl, am_i3 94 rfl rfl, _, _, rfl⟩
def mX0_comeIn : am_M := (yX0_comeIn, cX0_comeIn, 2, none, 0, 0, 0, 0)
theorem zX0_comeIn : am_YV mX0_comeIn 0 1 := ⟨⟨am_i4 172 rfl rfl, am_i1 7 rfl rfl, by decide +kernel, by decide +kernel, by decide +kernel⟩, am_i4 170 rfl rfl, am_i4 171 rfl rfl, _, _, rfl⟩
def mX0_keepFirst : am_M := (yX0_keepFirst, cX0_keepFirst, 2, none, 1, 20, 0, 0)
theorem zX0_keepFirst : am_YV mX0_keepFirst 0 1 := ⟨⟨am_i4 29 rfl rfl, am_i1 7 rfl rfl, by decide +kernel, by decide +kernel, by decide +kernel⟩, am_i4 27 rfl rfl, am_i4 28 rfl rfl, _, _, rfl⟩
def mX0_dropFirst : am_M := (yX0_dropFirst, cX0_dropFirst, 2, none, 1, 20, 0, 0)
theorem zX0_dropFirst : am_YV mX0_dropFirst 0 1 := ⟨⟨am_i4 122 rfl rfl, am_i1 7 rfl rfl, by decide +kernel, by decide +kernel, by decide +kernel⟩, am_i4 120 rfl rfl, am_i4 121 rfl rfl, _, _, rfl⟩
def mX0_firstOctets : am_M := (yX0_firstOctets, cX0_firstOctets, 1, (some FieldType.long), 0, 0, 0, 0)
theorem zX0_firstOctets : am_YS mX0_firstOctets 1 := ⟨⟨am_i4 32 rfl rfl, am_i1 7 rfl rfl, by decide +kernel, by decide +kernel, by decide +kernel⟩, am_i4 31 rfl rfl⟩
def mX0_same : am_M := (yX0_same, cX0_same, 2, (some FieldType.boolean), 0, 0, 0, 0)
theorem zX0_same : am_YV mX0_same 0 1 := ⟨⟨am_i4 192 rfl rfl, am_i1 7 rfl rfl, by decide +kernel, by decide +kernel, by decide +kernel⟩, am_i4 190 rfl rfl, am_i4 191 rfl rfl, _, _, rfl⟩
def mX0_makeDouble : am_M := (yX0_makeDouble, cX0_makeDouble, 3, none, 0, 0, 0, 0)
theorem zX0_makeDouble : am_YV mX0_makeDouble 0 0 := ⟨⟨am_i3 202 rfl rfl, am_i1 7 rfl rfl, by decide +kernel, by decide +kernel, by decide +kernel⟩, am_i3 200 rfl rfl, am_i3 201 rfl rfl, _, _, rfl⟩
def mX0_makeDoubleLowFirst : am_M := (yX0_makeDoubleLowFirst, cX0_makeDoubleLowFirst, 5, none, 0, 0, 0, 0)
theorem zX0_makeDoubleLowFirst : am_YV mX0_makeDoubleLowFirst 0 0 := ⟨⟨am_i4 110 rfl rfl, am_i1 7 rfl rfl, by decide +kernel, by decide +kernel, by decide +kernel⟩, am_i4 108 rfl rfl, am_i4 109 rfl rfl, _, _, rfl⟩
def mX0_addOne : am_M := (yX0_addOne, cX0_addOne, 1, none, 0, 0, 0, 0)
theorem zX0_addOne : am_YV mX0_addOne 0 0 := ⟨⟨am_i3 151 rfl rfl, am_i1 7 rfl rfl, by decide +kernel, by decide +kernel, by decide +kernel⟩, am_i3 149 rfl rfl, am_i3 150 rfl rfl, _, _, rfl⟩
def mX0_addOneToLastFour : am_M := (yX0_addOneToLastFour, cX0_addOneToLastFour, 1, none, 0, 0, 0, 0)
theorem zX0_addOneToLastFour : am_YV mX0_addOneToLastFour 0 0 := ⟨⟨am_i3 126 rfl rfl, am_i1 7 rfl rfl, by decide +kernel, by decide +kernel, by decide +kernel⟩, am_i3 124 rfl rfl, am_i3 125 rfl rfl, _, _, rfl⟩
def mX0_multiply : am_M := (yX0_multiply, cX0_multiply, 15, none, 0, 0, 0, 0)
theorem zX0_multiply : am_YV mX0_multiply 0 1 := ⟨⟨am_i3 112 rfl rfl, am_i1 7 rfl rfl, by decide +kernel, by decide +kernel, by decide +kernel⟩, am_i3 110 rfl rfl, am_i3 111 rfl rfl, _, _, rfl⟩
def mX1_init : am_M := (yX1_init, cX1_init, 4, none, 2, 40, 3, 6)
theorem zX1_init : am_YI mX1_init 3 := ⟨⟨am_i1 87 rfl rfl, am_i1 6 rfl rfl, by decide +kernel, by decide +kernel, by decide +kernel⟩, am_i1 86 rfl rfl, rfl⟩
def mX1_lockBook : am_M := (yX1_lockBook, cX1_lockBook, 4, none, 3, 152, 0, 0)
theorem zX1_lockBook : am_YV mX1_lockBook 1 2 := ⟨⟨am_i4 69 rfl rfl, am_i1 6 rfl rfl, by decide +kernel, by decide +kernel, by decide +kernel⟩, am_i4 67 rfl rfl, am_i4 68 rfl rfl, _, _, rfl⟩
def mX1_unlockBook : am_M := (yX1_unlockBook, cX1_unlockBook, 4, none, 3, 172, 0, 0)
theorem zX1_unlockBook : am_YV mX1_unlockBook 1 2 := ⟨⟨am_i4 205 rfl rfl, am_i1 6 rfl rfl, by decide +kernel, by decide +kernel, by decide +kernel⟩, am_i4 203 rfl rfl, am_i4 204 rfl rfl, _, _, rfl⟩
def mX1_lockChain : am_M := (yX1_lockChain, cX1_lockChain, 4, none, 3, 152, 0, 0)
theorem zX1_lockChain : am_YV mX1_lockChain 1 2 := ⟨⟨am_i4 76 rfl rfl, am_i1 6 rfl rfl, by decide +kernel, by decide +kernel, by decide +kernel⟩, am_i4 74 rfl rfl, am_i4 75 rfl rfl, _, _, rfl⟩
def mX1_unlockChain : am_M := (yX1_unlockChain, cX1_unlockChain, 4, none, 3, 172, 0, 0)
theorem zX1_unlockChain : am_YV mX1_unlockChain 1 2 := ⟨⟨am_i4 210 rfl rfl, am_i1 6 rfl rfl, by decide +kernel, by decide +kernel, by decide +kernel⟩, am_i4 208 rfl rfl, am_i4 209 rfl rfl, _, _, rfl⟩
def mX1_lockPadded : am_M := (yX1_lockPadded, cX1_lockPadded, 5, none, 4, 175, 0, 0)
theorem zX1_lockPadded : am_YV mX1_lockPadded 1 2 := ⟨⟨am_i4 82 rfl rfl, am_i1 6 rfl rfl, by decide +kernel, by decide +kernel, by decide +kernel⟩, am_i4 80 rfl rfl, am_i4 81 rfl rfl, _, _, rfl⟩
def mX1_unlockPadded : am_M := (yX1_unlockPadded, cX1_unlockPadded, 7, (some FieldType.boolean), 4, 195, 0, 0)
theorem zX1_unlockPadded : am_YV mX1_unlockPadded 1 2 := ⟨⟨am_i4 214 rfl rfl, am_i1 6 rfl rfl, by decide +kernel, by decide +kernel, by decide +kernel⟩, am_i4 212 rfl rfl, am_i4 213 rfl rfl, _, _, rfl⟩
def mX1_lockStolen : am_M := (yX1_lockStolen, cX1_lockStolen, 4, none, 4, 175, 0, 0)
theorem zX1_lockStolen : am_YV mX1_lockStolen 1 2 := ⟨⟨am_i4 89 rfl rfl, am_i1 6 rfl rfl, by decide +kernel, by decide +kernel, by decide +kernel⟩, am_i4 87 rfl rfl, am_i4 88 rfl rfl, _, _, rfl⟩
def mX1_unlockStolen : am_M := (yX1_unlockStolen, cX1_unlockStolen, 4, none, 4, 195, 0, 0)
theorem zX1_unlockStolen : am_YV mX1_unlockStolen 1 2 := ⟨⟨am_i4 220 rfl rfl, am_i1 6 rfl rfl, by decide +kernel, by decide +kernel, by decide +kernel⟩, am_i4 218 rfl rfl, am_i4 219 rfl rfl, _, _, rfl⟩
def mX2_init : am_M := (yX2_init, cX2_init, 1, none, 2, 40, 3, 92)
theorem zX2_init : am_YI mX2_init 0 := ⟨⟨am_i1 52 rfl rfl, am_i1 4 rfl rfl, by decide +kernel, by decide +kernel, by decide +kernel⟩, am_i1 51 rfl rfl, rfl⟩
def mX2_expand : am_M := (yX2_expand, cX2_expand, 10, none, 3, 151, 0, 0)
theorem zX2_expand : am_YV mX2_expand 2 3 := ⟨⟨am_i2 212 rfl rfl, am_i1 4 rfl rfl, by decide +kernel, by decide +kernel, by decide +kernel⟩, am_i2 210 rfl rfl, am_i2 211 rfl rfl, _, _, rfl⟩
def mX2_boxed : am_M := (yX2_boxed, cX2_boxed, 2, (some FieldType.int), 2, 130, 0, 0)
theorem zX2_boxed : am_YV mX2_boxed 2 1 := ⟨⟨am_i2 223 rfl rfl, am_i1 4 rfl rfl, by decide +kernel, by decide +kernel, by decide +kernel⟩, am_i2 222 rfl rfl, am_ip1 (q := (yX2_boxed, 4)) 5 rfl rfl, _, _, rfl⟩
def mX2_sliceKeys : am_M := (yX2_sliceKeys, cX2_sliceKeys, 2, none, 2, 53, 0, 0)
theorem zX2_sliceKeys : am_YV mX2_sliceKeys 2 0 := ⟨⟨am_i3 20 rfl rfl, am_i1 4 rfl rfl, by decide +kernel, by decide +kernel, by decide +kernel⟩, am_i3 19 rfl rfl, am_ip1 (q := (yX2_sliceKeys, 4)) 6 rfl rfl, _, _, rfl⟩
def mX2_pair : am_M := (yX2_pair, cX2_pair, 2, (some FieldType.long), 0, 0, 0, 0)
theorem zX2_pair : am_YV mX2_pair 2 1 := ⟨⟨am_i3 24 rfl rfl, am_i1 4 rfl rfl, by decide +kernel, by decide +kernel, by decide +kernel⟩, am_i3 23 rfl rfl, am_ip1 (q := (yX2_pair, 4)) 7 rfl rfl, _, _, rfl⟩
def mX2_keyOctets : am_M := (yX2_keyOctets, cX2_keyOctets, 1, (some FieldType.int), 0, 0, 0, 0)
theorem zX2_keyOctets : am_YV mX2_keyOctets 2 0 := ⟨⟨am_i5 44 rfl rfl, am_i1 4 rfl rfl, by decide +kernel, by decide +kernel, by decide +kernel⟩, am_i5 42 rfl rfl, am_i5 43 rfl rfl, _, _, rfl⟩
def mX2_keyOctet : am_M := (yX2_keyOctet, cX2_keyOctet, 3, (some FieldType.int), 0, 0, 0, 0)
theorem zX2_keyOctet : am_YV mX2_keyOctet 2 1 := ⟨⟨am_i5 48 rfl rfl, am_i1 4 rfl rfl, by decide +kernel, by decide +kernel, by decide +kernel⟩, am_i5 46 rfl rfl, am_i5 47 rfl rfl, _, _, rfl⟩
def mX2_encrypt : am_M := (yX2_encrypt, cX2_encrypt, 3, none, 2, 130, 0, 0)
theorem zX2_encrypt : am_YV mX2_encrypt 2 1 := ⟨⟨am_i3 44 rfl rfl, am_i1 4 rfl rfl, by decide +kernel, by decide +kernel, by decide +kernel⟩, am_i3 42 rfl rfl, am_i3 43 rfl rfl, _, _, rfl⟩
def mX2_decrypt : am_M := (yX2_decrypt, cX2_decrypt, 3, none, 2, 150, 0, 0)
theorem zX2_decrypt : am_YV mX2_decrypt 2 1 := ⟨⟨am_i3 235 rfl rfl, am_i1 4 rfl rfl, by decide +kernel, by decide +kernel, by decide +kernel⟩, am_i3 233 rfl rfl, am_i3 234 rfl rfl, _, _, rfl⟩
def mX3_init : am_M := (yX3_init, cX3_init, 4, none, 2, 40, 5, 10)
theorem zX3_init : am_YI mX3_init 3 := ⟨⟨am_i1 202 rfl rfl, am_i1 11 rfl rfl, by decide +kernel, by decide +kernel, by decide +kernel⟩, am_i1 201 rfl rfl, rfl⟩
def mX3_sumAlone : am_M := (yX3_sumAlone, cX3_sumAlone, 3, none, 4, 172, 0, 0)
theorem zX3_sumAlone : am_YV mX3_sumAlone 3 2 := ⟨⟨am_i5 24 rfl rfl, am_i1 11 rfl rfl, by decide +kernel, by decide +kernel, by decide +kernel⟩, am_i5 22 rfl rfl, am_i5 23 rfl rfl, _, _, rfl⟩
def mX3_run : am_M := (yX3_run, cX3_run, 5, none, 4, 175, 0, 0)
theorem zX3_run : am_YV mX3_run 3 4 := ⟨⟨am_i3 32 rfl rfl, am_i1 11 rfl rfl, by decide +kernel, by decide +kernel, by decide +kernel⟩, am_i3 30 rfl rfl, am_i3 31 rfl rfl, _, _, rfl⟩
def mX3_makeH : am_M := (yX3_makeH, cX3_makeH, 1, none, 3, 152, 0, 0)
theorem zX3_makeH : am_YV mX3_makeH 3 0 := ⟨⟨am_i3 36 rfl rfl, am_i1 11 rfl rfl, by decide +kernel, by decide +kernel, by decide +kernel⟩, am_i3 35 rfl rfl, am_ip1 (q := (yX3_makeH, 8)) 9 rfl rfl, _, _, rfl⟩
def mX3_makeJ : am_M := (yX3_makeJ, cX3_makeJ, 1, none, 3, 78, 0, 0)
theorem zX3_makeJ : am_YV mX3_makeJ 3 0 := ⟨⟨am_i3 86 rfl rfl, am_i1 11 rfl rfl, by decide +kernel, by decide +kernel, by decide +kernel⟩, am_i3 85 rfl rfl, am_ip1 (q := (yX3_makeJ, 8)) 10 rfl rfl, _, _, rfl⟩
def mX3_absorb : am_M := (yX3_absorb, cX3_absorb, 4, none, 2, 55, 0, 0)
theorem zX3_absorb : am_YV mX3_absorb 3 2 := ⟨⟨am_i3 100 rfl rfl, am_i1 11 rfl rfl, by decide +kernel, by decide +kernel, by decide +kernel⟩, am_i3 99 rfl rfl, am_ip1 (q := (yX3_absorb, 8)) 11 rfl rfl, _, _, rfl⟩
def mX3_absorbBlock : am_M := (yX3_absorbBlock, cX3_absorbBlock, 2, none, 1, 34, 0, 0)
theorem zX3_absorbBlock : am_YV mX3_absorbBlock 3 1 := ⟨⟨am_i3 104 rfl rfl, am_i1 11 rfl rfl, by decide +kernel, by decide +kernel, by decide +kernel⟩, am_i3 103 rfl rfl, am_ip1 (q := (yX3_absorbBlock, 8)) 12 rfl rfl, _, _, rfl⟩
def mX3_count : am_M := (yX3_count, cX3_count, 4, none, 3, 152, 0, 0)
theorem zX3_count : am_YV mX3_count 3 2 := ⟨⟨am_i3 118 rfl rfl, am_i1 11 rfl rfl, by decide +kernel, by decide +kernel, by decide +kernel⟩, am_i3 117 rfl rfl, am_ip1 (q := (yX3_count, 8)) 13 rfl rfl, _, _, rfl⟩
def mX4_init : am_M := (yX4_init, cX4_init, 7, none, 2, 40, 3, 6)
theorem zX4_init : am_YI mX4_init 6 := ⟨⟨am_i1 235 rfl rfl, am_i1 12 rfl rfl, by decide +kernel, by decide +kernel, by decide +kernel⟩, am_i1 234 rfl rfl, rfl⟩
def mX4_chainSum : am_M := (yX4_chainSum, cX4_chainSum, 4, none, 3, 152, 0, 0)
theorem zX4_chainSum : am_YV mX4_chainSum 4 2 := ⟨⟨am_i3 181 rfl rfl, am_i1 12 rfl rfl, by decide +kernel, by decide +kernel, by decide +kernel⟩, am_i3 179 rfl rfl, am_i3 180 rfl rfl, _, _, rfl⟩
def mX4_mac : am_M := (yX4_mac, cX4_mac, 5, none, 3, 152, 0, 0)
theorem zX4_mac : am_YV mX4_mac 4 2 := ⟨⟨am_i3 198 rfl rfl, am_i1 12 rfl rfl, by decide +kernel, by decide +kernel, by decide +kernel⟩, am_i3 196 rfl rfl, am_i3 197 rfl rfl, _, _, rfl⟩
def mX4_runCounted : am_M := (yX4_runCounted, cX4_runCounted, 8, none, 4, 177, 0, 0)
theorem zX4_runCounted : am_YV mX4_runCounted 4 5 := ⟨⟨am_i3 142 rfl rfl, am_i1 12 rfl rfl, by decide +kernel, by decide +kernel, by decide +kernel⟩, am_i3 140 rfl rfl, am_i3 141 rfl rfl, _, _, rfl⟩
def mX4_layCounted : am_M := (yX4_layCounted, cX4_layCounted, 5, none, 2, 44, 0, 0)
theorem zX4_layCounted : am_YV mX4_layCounted 4 3 := ⟨⟨am_i3 166 rfl rfl, am_i1 12 rfl rfl, by decide +kernel, by decide +kernel, by decide +kernel⟩, am_i3 165 rfl rfl, am_ip1 (q := (yX4_layCounted, 9)) 14 rfl rfl, _, _, rfl⟩
def mX4_runTwice : am_M := (yX4_runTwice, cX4_runTwice, 5, none, 4, 177, 0, 0)
theorem zX4_runTwice : am_YV mX4_runTwice 4 4 := ⟨⟨am_i3 190 rfl rfl, am_i1 12 rfl rfl, by decide +kernel, by decide +kernel, by decide +kernel⟩, am_i3 188 rfl rfl, am_i3 189 rfl rfl, _, _, rfl⟩
def mX4_layNumbered : am_M := (yX4_layNumbered, cX4_layNumbered, 4, none, 2, 43, 0, 0)
theorem zX4_layNumbered : am_YV mX4_layNumbered 4 2 := ⟨⟨am_i3 194 rfl rfl, am_i1 12 rfl rfl, by decide +kernel, by decide +kernel, by decide +kernel⟩, am_i3 193 rfl rfl, am_ip1 (q := (yX4_layNumbered, 9)) 15 rfl rfl, _, _, rfl⟩
def mX4_lockMade : am_M := (yX4_lockMade, cX4_lockMade, 3, none, 5, 200, 0, 0)
theorem zX4_lockMade : am_YV mX4_lockMade 4 2 := ⟨⟨am_i4 42 rfl rfl, am_i1 12 rfl rfl, by decide +kernel, by decide +kernel, by decide +kernel⟩, am_i4 40 rfl rfl, am_i4 41 rfl rfl, _, _, rfl⟩
def mX4_unlockMade : am_M := (yX4_unlockMade, cX4_unlockMade, 4, (some FieldType.boolean), 5, 200, 0, 0)
theorem zX4_unlockMade : am_YV mX4_unlockMade 4 3 := ⟨⟨am_i4 196 rfl rfl, am_i1 12 rfl rfl, by decide +kernel, by decide +kernel, by decide +kernel⟩, am_i4 194 rfl rfl, am_i4 195 rfl rfl, _, _, rfl⟩
def mX4_countFrom : am_M := (yX4_countFrom, cX4_countFrom, 4, none, 4, 177, 0, 0)
theorem zX4_countFrom : am_YV mX4_countFrom 4 3 := ⟨⟨am_i4 60 rfl rfl, am_i1 12 rfl rfl, by decide +kernel, by decide +kernel, by decide +kernel⟩, am_i4 59 rfl rfl, am_ip2 (q := (yX4_countFrom, 9)) 9 rfl rfl, _, _, rfl⟩
def mX4_makeV : am_M := (yX4_makeV, cX4_makeV, 2, none, 4, 176, 0, 0)
theorem zX4_makeV : am_YV mX4_makeV 4 1 := ⟨⟨am_i4 46 rfl rfl, am_i1 12 rfl rfl, by decide +kernel, by decide +kernel, by decide +kernel⟩, am_i4 45 rfl rfl, am_ip2 (q := (yX4_makeV, 9)) 7 rfl rfl, _, _, rfl⟩
def mX4_layEnd : am_M := (yX4_layEnd, cX4_layEnd, 3, none, 2, 46, 0, 0)
theorem zX4_layEnd : am_YV mX4_layEnd 4 1 := ⟨⟨am_i4 54 rfl rfl, am_i1 12 rfl rfl, by decide +kernel, by decide +kernel, by decide +kernel⟩, am_i4 53 rfl rfl, am_ip2 (q := (yX4_layEnd, 9)) 8 rfl rfl, _, _, rfl⟩
def mX5_init : am_M := (yX5_init, cX5_init, 4, none, 2, 40, 7, 14)
theorem zX5_init : am_YI mX5_init 3 := ⟨⟨am_i2 31 rfl rfl, am_i1 13 rfl rfl, by decide +kernel, by decide +kernel, by decide +kernel⟩, am_i2 30 rfl rfl, rfl⟩
def mX5_run : am_M := (yX5_run, cX5_run, 9, none, 4, 192, 0, 0)
theorem zX5_run : am_YV mX5_run 5 5 := ⟨⟨am_i3 207 rfl rfl, am_i1 13 rfl rfl, by decide +kernel, by decide +kernel, by decide +kernel⟩, am_i3 205 rfl rfl, am_i3 206 rfl rfl, _, _, rfl⟩
def mX5_beginOffset : am_M := (yX5_beginOffset, cX5_beginOffset, 5, none, 3, 152, 0, 0)
theorem zX5_beginOffset : am_YV mX5_beginOffset 5 1 := ⟨⟨am_i3 215 rfl rfl, am_i1 13 rfl rfl, by decide +kernel, by decide +kernel, by decide +kernel⟩, am_i3 214 rfl rfl, am_ip2 (q := (yX5_beginOffset, 10)) 0 rfl rfl, _, _, rfl⟩
def mX5_window : am_M := (yX5_window, cX5_window, 5, (some FieldType.long), 0, 0, 0, 0)
theorem zX5_window : am_YS mX5_window 3 := ⟨⟨am_i3 221 rfl rfl, am_i1 13 rfl rfl, by decide +kernel, by decide +kernel, by decide +kernel⟩, am_i3 220 rfl rfl⟩
def mX5_moveOffset : am_M := (yX5_moveOffset, cX5_moveOffset, 3, none, 1, 22, 0, 0)
theorem zX5_moveOffset : am_YV mX5_moveOffset 5 1 := ⟨⟨am_i3 225 rfl rfl, am_i1 13 rfl rfl, by decide +kernel, by decide +kernel, by decide +kernel⟩, am_i3 224 rfl rfl, am_ip2 (q := (yX5_moveOffset, 10)) 1 rfl rfl, _, _, rfl⟩
def mX5_lockBlock : am_M := (yX5_lockBlock, cX5_lockBlock, 1, none, 3, 152, 0, 0)
theorem zX5_lockBlock : am_YV mX5_lockBlock 5 0 := ⟨⟨am_i4 20 rfl rfl, am_i1 13 rfl rfl, by decide +kernel, by decide +kernel, by decide +kernel⟩, am_i4 19 rfl rfl, am_ip2 (q := (yX5_lockBlock, 10)) 4 rfl rfl, _, _, rfl⟩
def mX5_unlockBlock : am_M := (yX5_unlockBlock, cX5_unlockBlock, 1, none, 3, 172, 0, 0)
theorem zX5_unlockBlock : am_YV mX5_unlockBlock 5 0 := ⟨⟨am_i3 231 rfl rfl, am_i1 13 rfl rfl, by decide +kernel, by decide +kernel, by decide +kernel⟩, am_i3 230 rfl rfl, am_ip2 (q := (yX5_unlockBlock, 10)) 2 rfl rfl, _, _, rfl⟩
def mX5_runPart : am_M := (yX5_runPart, cX5_runPart, 5, none, 3, 152, 0, 0)
theorem zX5_runPart : am_YV mX5_runPart 5 3 := ⟨⟨am_i4 25 rfl rfl, am_i1 13 rfl rfl, by decide +kernel, by decide +kernel, by decide +kernel⟩, am_i4 24 rfl rfl, am_ip2 (q := (yX5_runPart, 10)) 5 rfl rfl, _, _, rfl⟩
def mX5_addHash : am_M := (yX5_addHash, cX5_addHash, 5, none, 3, 152, 0, 0)
theorem zX5_addHash : am_YV mX5_addHash 5 1 := ⟨⟨am_i4 37 rfl rfl, am_i1 13 rfl rfl, by decide +kernel, by decide +kernel, by decide +kernel⟩, am_i4 36 rfl rfl, am_ip2 (q := (yX5_addHash, 10)) 6 rfl rfl, _, _, rfl⟩
def mX6_init : am_M := (yX6_init, cX6_init, 2, none, 1, 21, 1, 800)
theorem zX6_init : am_YI mX6_init 1 := ⟨⟨am_i1 27 rfl rfl, am_i1 2 rfl rfl, by decide +kernel, by decide +kernel, by decide +kernel⟩, am_i1 26 rfl rfl, rfl⟩
def mX6_room : am_M := (yX6_room, cX6_room, 1, (some FieldType.int), 0, 0, 0, 0)
theorem zX6_room : am_YV mX6_room 6 0 := ⟨⟨am_i5 36 rfl rfl, am_i1 2 rfl rfl, by decide +kernel, by decide +kernel, by decide +kernel⟩, am_i5 34 rfl rfl, am_i5 35 rfl rfl, _, _, rfl⟩
def mX6_has : am_M := (yX6_has, cX6_has, 2, (some FieldType.boolean), 0, 0, 0, 0)
theorem zX6_has : am_YV mX6_has 6 1 := ⟨⟨am_i2 159 rfl rfl, am_i1 2 rfl rfl, by decide +kernel, by decide +kernel, by decide +kernel⟩, am_i2 157 rfl rfl, am_i2 158 rfl rfl, _, _, rfl⟩
def mX6_hasRoomFor : am_M := (yX6_hasRoomFor, cX6_hasRoomFor, 2, (some FieldType.boolean), 0, 0, 0, 0)
theorem zX6_hasRoomFor : am_YV mX6_hasRoomFor 6 1 := ⟨⟨am_i2 141 rfl rfl, am_i1 2 rfl rfl, by decide +kernel, by decide +kernel, by decide +kernel⟩, am_i2 139 rfl rfl, am_i2 140 rfl rfl, _, _, rfl⟩
def mX6_at : am_M := (yX6_at, cX6_at, 2, (some FieldType.int), 0, 0, 0, 0)
theorem zX6_at : am_YV mX6_at 6 1 := ⟨⟨am_i2 163 rfl rfl, am_i1 2 rfl rfl, by decide +kernel, by decide +kernel, by decide +kernel⟩, am_i2 161 rfl rfl, am_i2 162 rfl rfl, _, _, rfl⟩
def mX6_put : am_M := (yX6_put, cX6_put, 3, none, 0, 0, 0, 0)
theorem zX6_put : am_YV mX6_put 6 2 := ⟨⟨am_i2 167 rfl rfl, am_i1 2 rfl rfl, by decide +kernel, by decide +kernel, by decide +kernel⟩, am_i2 165 rfl rfl, am_i2 166 rfl rfl, _, _, rfl⟩
def mX6_append : am_M := (yX6_append, cX6_append, 2, none, 0, 0, 0, 0)
theorem zX6_append : am_YV mX6_append 6 1 := ⟨⟨am_i2 145 rfl rfl, am_i1 2 rfl rfl, by decide +kernel, by decide +kernel, by decide +kernel⟩, am_i2 143 rfl rfl, am_i2 144 rfl rfl, _, _, rfl⟩
def mX6_keep : am_M := (yX6_keep, cX6_keep, 2, none, 0, 0, 0, 0)
theorem zX6_keep : am_YV mX6_keep 6 1 := ⟨⟨am_i2 137 rfl rfl, am_i1 2 rfl rfl, by decide +kernel, by decide +kernel, by decide +kernel⟩, am_i2 135 rfl rfl, am_i2 136 rfl rfl, _, _, rfl⟩
def mX6_appendRow : am_M := (yX6_appendRow, cX6_appendRow, 3, none, 1, 21, 0, 0)
theorem zX6_appendRow : am_YV mX6_appendRow 6 1 := ⟨⟨am_i3 172 rfl rfl, am_i1 2 rfl rfl, by decide +kernel, by decide +kernel, by decide +kernel⟩, am_i3 170 rfl rfl, am_i3 171 rfl rfl, _, _, rfl⟩
def mX6_appendBlock : am_M := (yX6_appendBlock, cX6_appendBlock, 4, none, 1, 21, 0, 0)
theorem zX6_appendBlock : am_YV mX6_appendBlock 6 2 := ⟨⟨am_i3 133 rfl rfl, am_i1 2 rfl rfl, by decide +kernel, by decide +kernel, by decide +kernel⟩, am_i3 131 rfl rfl, am_i3 132 rfl rfl, _, _, rfl⟩
def mX6_copyPart : am_M := (yX6_copyPart, cX6_copyPart, 5, none, 1, 21, 0, 0)
theorem zX6_copyPart : am_YV mX6_copyPart 6 3 := ⟨⟨am_i4 50 rfl rfl, am_i1 2 rfl rfl, by decide +kernel, by decide +kernel, by decide +kernel⟩, am_i4 48 rfl rfl, am_i4 49 rfl rfl, _, _, rfl⟩
def mX6_padTo : am_M := (yX6_padTo, cX6_padTo, 4, none, 1, 21, 0, 0)
theorem zX6_padTo : am_YV mX6_padTo 6 1 := ⟨⟨am_i3 177 rfl rfl, am_i1 2 rfl rfl, by decide +kernel, by decide +kernel, by decide +kernel⟩, am_i3 175 rfl rfl, am_i3 176 rfl rfl, _, _, rfl⟩
def mX6_eightAt : am_M := (yX6_eightAt, cX6_eightAt, 5, (some FieldType.long), 0, 0, 0, 0)
theorem zX6_eightAt : am_YV mX6_eightAt 6 1 := ⟨⟨am_i2 219 rfl rfl, am_i1 2 rfl rfl, by decide +kernel, by decide +kernel, by decide +kernel⟩, am_i2 217 rfl rfl, am_i2 218 rfl rfl, _, _, rfl⟩
def mX6_putEight : am_M := (yX6_putEight, cX6_putEight, 5, none, 1, 22, 0, 0)
theorem zX6_putEight : am_YV mX6_putEight 6 2 := ⟨⟨am_i4 145 rfl rfl, am_i1 2 rfl rfl, by decide +kernel, by decide +kernel, by decide +kernel⟩, am_i4 143 rfl rfl, am_i4 144 rfl rfl, _, _, rfl⟩
def mX7_init : am_M := (yX7_init, cX7_init, 4, none, 2, 40, 4, 8)
theorem zX7_init : am_YI mX7_init 3 := ⟨⟨am_i1 157 rfl rfl, am_i1 9 rfl rfl, by decide +kernel, by decide +kernel, by decide +kernel⟩, am_i1 156 rfl rfl, rfl⟩
def mX7_begin : am_M := (yX7_begin, cX7_begin, 1, none, 3, 152, 0, 0)
theorem zX7_begin : am_YV mX7_begin 7 0 := ⟨⟨am_i4 98 rfl rfl, am_i1 9 rfl rfl, by decide +kernel, by decide +kernel, by decide +kernel⟩, am_i4 97 rfl rfl, am_ip2 (q := (yX7_begin, 7)) 11 rfl rfl, _, _, rfl⟩
def mX7_lockBlock : am_M := (yX7_lockBlock, cX7_lockBlock, 2, none, 3, 152, 0, 0)
theorem zX7_lockBlock : am_YV mX7_lockBlock 7 1 := ⟨⟨am_i4 104 rfl rfl, am_i1 9 rfl rfl, by decide +kernel, by decide +kernel, by decide +kernel⟩, am_i4 103 rfl rfl, am_ip2 (q := (yX7_lockBlock, 7)) 12 rfl rfl, _, _, rfl⟩
def mX7_unlockBlock : am_M := (yX7_unlockBlock, cX7_unlockBlock, 2, none, 3, 172, 0, 0)
theorem zX7_unlockBlock : am_YV mX7_unlockBlock 7 1 := ⟨⟨am_i4 229 rfl rfl, am_i1 9 rfl rfl, by decide +kernel, by decide +kernel, by decide +kernel⟩, am_i4 228 rfl rfl, am_ip3 (q := (yX7_unlockBlock, 7)) 2 rfl rfl, _, _, rfl⟩
def mX7_lock : am_M := (yX7_lock, cX7_lock, 6, none, 4, 173, 0, 0)
theorem zX7_lock : am_YV mX7_lock 7 2 := ⟨⟨am_i4 94 rfl rfl, am_i1 9 rfl rfl, by decide +kernel, by decide +kernel, by decide +kernel⟩, am_i4 92 rfl rfl, am_i4 93 rfl rfl, _, _, rfl⟩
def mX7_unlock : am_M := (yX7_unlock, cX7_unlock, 6, none, 4, 193, 0, 0)
theorem zX7_unlock : am_YV mX7_unlock 7 2 := ⟨⟨am_i4 225 rfl rfl, am_i1 9 rfl rfl, by decide +kernel, by decide +kernel, by decide +kernel⟩, am_i4 223 rfl rfl, am_i4 224 rfl rfl, _, _, rfl⟩
def mX7_borrowEnd : am_M := (yX7_borrowEnd, cX7_borrowEnd, 4, none, 2, 46, 0, 0)
theorem zX7_borrowEnd : am_YV mX7_borrowEnd 7 3 := ⟨⟨am_i4 117 rfl rfl, am_i1 9 rfl rfl, by decide +kernel, by decide +kernel, by decide +kernel⟩, am_i4 116 rfl rfl, am_ip2 (q := (yX7_borrowEnd, 7)) 13 rfl rfl, _, _, rfl⟩
def mX8_init : am_M := (yX8_init, cX8_init, 1, none, 1, 20, 0, 0)
theorem zX8_init : am_YI mX8_init 0 := ⟨⟨am_i1 58 rfl rfl, am_i1 5 rfl rfl, by decide +kernel, by decide +kernel, by decide +kernel⟩, am_i1 57 rfl rfl, rfl⟩
def mX8_split : am_M := (yX8_split, cX8_split, 9, none, 1, 25, 0, 0)
theorem zX8_split : am_YV mX8_split 8 2 := ⟨⟨am_i2 228 rfl rfl, am_i1 5 rfl rfl, by decide +kernel, by decide +kernel, by decide +kernel⟩, am_i2 226 rfl rfl, am_i2 227 rfl rfl, _, _, rfl⟩
def mX8_joinFirst : am_M := (yX8_joinFirst, cX8_joinFirst, 1, (some FieldType.long), 1, 25, 0, 0)
theorem zX8_joinFirst : am_YV mX8_joinFirst 8 0 := ⟨⟨am_i3 10 rfl rfl, am_i1 5 rfl rfl, by decide +kernel, by decide +kernel, by decide +kernel⟩, am_i3 8 rfl rfl, am_i3 9 rfl rfl, _, _, rfl⟩
def mX8_joinSecond : am_M := (yX8_joinSecond, cX8_joinSecond, 1, (some FieldType.long), 1, 25, 0, 0)
theorem zX8_joinSecond : am_YV mX8_joinSecond 8 0 := ⟨⟨am_i3 81 rfl rfl, am_i1 5 rfl rfl, by decide +kernel, by decide +kernel, by decide +kernel⟩, am_i3 79 rfl rfl, am_i3 80 rfl rfl, _, _, rfl⟩
def mX8_turned : am_M := (yX8_turned, cX8_turned, 6, (some FieldType.long), 0, 0, 0, 0)
theorem zX8_turned : am_YS mX8_turned 1 := ⟨⟨am_i2 231 rfl rfl, am_i1 5 rfl rfl, by decide +kernel, by decide +kernel, by decide +kernel⟩, am_i2 230 rfl rfl⟩
def mX8_spread : am_M := (yX8_spread, cX8_spread, 4, (some FieldType.long), 0, 0, 0, 0)
theorem zX8_spread : am_YS mX8_spread 1 := ⟨⟨am_i2 237 rfl rfl, am_i1 5 rfl rfl, by decide +kernel, by decide +kernel, by decide +kernel⟩, am_i2 236 rfl rfl⟩
def mX8_gathered : am_M := (yX8_gathered, cX8_gathered, 4, (some FieldType.long), 0, 0, 0, 0)
theorem zX8_gathered : am_YS mX8_gathered 1 := ⟨⟨am_i3 13 rfl rfl, am_i1 5 rfl rfl, by decide +kernel, by decide +kernel, by decide +kernel⟩, am_i3 12 rfl rfl⟩
def mX8_addKey : am_M := (yX8_addKey, cX8_addKey, 4, none, 0, 0, 0, 0)
theorem zX8_addKey : am_YV mX8_addKey 8 2 := ⟨⟨am_i3 48 rfl rfl, am_i1 5 rfl rfl, by decide +kernel, by decide +kernel, by decide +kernel⟩, am_i3 46 rfl rfl, am_i3 47 rfl rfl, _, _, rfl⟩
def mX8_shiftRows : am_M := (yX8_shiftRows, cX8_shiftRows, 1, none, 1, 21, 0, 0)
theorem zX8_shiftRows : am_YV mX8_shiftRows 8 0 := ⟨⟨am_i3 52 rfl rfl, am_i1 5 rfl rfl, by decide +kernel, by decide +kernel, by decide +kernel⟩, am_i3 50 rfl rfl, am_i3 51 rfl rfl, _, _, rfl⟩
def mX8_shiftRowsBack : am_M := (yX8_shiftRowsBack, cX8_shiftRowsBack, 1, none, 1, 21, 0, 0)
theorem zX8_shiftRowsBack : am_YV mX8_shiftRowsBack 8 0 := ⟨⟨am_i3 239 rfl rfl, am_i1 5 rfl rfl, by decide +kernel, by decide +kernel, by decide +kernel⟩, am_i3 237 rfl rfl, am_i3 238 rfl rfl, _, _, rfl⟩
def mX8_shifted : am_M := (yX8_shifted, cX8_shifted, 2, (some FieldType.long), 0, 0, 0, 0)
theorem zX8_shifted : am_YS mX8_shifted 1 := ⟨⟨am_i3 55 rfl rfl, am_i1 5 rfl rfl, by decide +kernel, by decide +kernel, by decide +kernel⟩, am_i3 54 rfl rfl⟩
def mX8_shiftedBack : am_M := (yX8_shiftedBack, cX8_shiftedBack, 2, (some FieldType.long), 0, 0, 0, 0)
theorem zX8_shiftedBack : am_YS mX8_shiftedBack 1 := ⟨⟨am_i4 2 rfl rfl, am_i1 5 rfl rfl, by decide +kernel, by decide +kernel, by decide +kernel⟩, am_i4 1 rfl rfl⟩
def mX8_mixWords : am_M := (yX8_mixWords, cX8_mixWords, 11, none, 1, 21, 0, 0)
theorem zX8_mixWords : am_YV mX8_mixWords 8 0 := ⟨⟨am_i3 66 rfl rfl, am_i1 5 rfl rfl, by decide +kernel, by decide +kernel, by decide +kernel⟩, am_i3 64 rfl rfl, am_i3 65 rfl rfl, _, _, rfl⟩
def mX8_nextOctets : am_M := (yX8_nextOctets, cX8_nextOctets, 2, (some FieldType.long), 0, 0, 0, 0)
theorem zX8_nextOctets : am_YS mX8_nextOctets 1 := ⟨⟨am_i3 69 rfl rfl, am_i1 5 rfl rfl, by decide +kernel, by decide +kernel, by decide +kernel⟩, am_i3 68 rfl rfl⟩
def mX8_acrossOctets : am_M := (yX8_acrossOctets, cX8_acrossOctets, 2, (some FieldType.long), 0, 0, 0, 0)
theorem zX8_acrossOctets : am_YS mX8_acrossOctets 1 := ⟨⟨am_i3 75 rfl rfl, am_i1 5 rfl rfl, by decide +kernel, by decide +kernel, by decide +kernel⟩, am_i3 74 rfl rfl⟩
def mX8_boxBack : am_M := (yX8_boxBack, cX8_boxBack, 1, none, 1, 130, 0, 0)
theorem zX8_boxBack : am_YV mX8_boxBack 8 0 := ⟨⟨am_i4 10 rfl rfl, am_i1 5 rfl rfl, by decide +kernel, by decide +kernel, by decide +kernel⟩, am_i4 8 rfl rfl, am_i4 9 rfl rfl, _, _, rfl⟩
def mX8_undoLinearEnd : am_M := (yX8_undoLinearEnd, cX8_undoLinearEnd, 5, none, 0, 0, 0, 0)
theorem zX8_undoLinearEnd : am_YV mX8_undoLinearEnd 8 0 := ⟨⟨am_i4 14 rfl rfl, am_i1 5 rfl rfl, by decide +kernel, by decide +kernel, by decide +kernel⟩, am_i4 13 rfl rfl, am_ip2 (q := (yX8_undoLinearEnd, 2)) 3 rfl rfl, _, _, rfl⟩
def mX8_box : am_M := (yX8_box, cX8_box, 111, none, 0, 0, 0, 0)
theorem zX8_box : am_YV mX8_box 8 0 := ⟨⟨am_i3 5 rfl rfl, am_i1 5 rfl rfl, by decide +kernel, by decide +kernel, by decide +kernel⟩, am_i3 3 rfl rfl, am_i3 4 rfl rfl, _, _, rfl⟩
def mX9_init : am_M := (yX9_init, cX9_init, 3, none, 2, 40, 3, 6)
theorem zX9_init : am_YI mX9_init 2 := ⟨⟨am_i1 133 rfl rfl, am_i1 8 rfl rfl, by decide +kernel, by decide +kernel, by decide +kernel⟩, am_i1 132 rfl rfl, rfl⟩
def mX9_feedBack : am_M := (yX9_feedBack, cX9_feedBack, 5, none, 3, 152, 0, 0)
theorem zX9_feedBack : am_YV mX9_feedBack 9 3 := ⟨⟨am_i4 161 rfl rfl, am_i1 8 rfl rfl, by decide +kernel, by decide +kernel, by decide +kernel⟩, am_i4 159 rfl rfl, am_i4 160 rfl rfl, _, _, rfl⟩
def mX9_feedBackOne : am_M := (yX9_feedBackOne, cX9_feedBackOne, 7, none, 3, 152, 0, 0)
theorem zX9_feedBackOne : am_YV mX9_feedBackOne 9 3 := ⟨⟨am_i4 165 rfl rfl, am_i1 8 rfl rfl, by decide +kernel, by decide +kernel, by decide +kernel⟩, am_i4 163 rfl rfl, am_i4 164 rfl rfl, _, _, rfl⟩
def mX9_turnOver : am_M := (yX9_turnOver, cX9_turnOver, 4, none, 3, 152, 0, 0)
theorem zX9_turnOver : am_YV mX9_turnOver 9 2 := ⟨⟨am_i4 176 rfl rfl, am_i1 8 rfl rfl, by decide +kernel, by decide +kernel, by decide +kernel⟩, am_i4 174 rfl rfl, am_i4 175 rfl rfl, _, _, rfl⟩
def mX9_count : am_M := (yX9_count, cX9_count, 6, none, 3, 152, 0, 0)
theorem zX9_count : am_YV mX9_count 9 4 := ⟨⟨am_i3 155 rfl rfl, am_i1 8 rfl rfl, by decide +kernel, by decide +kernel, by decide +kernel⟩, am_i3 153 rfl rfl, am_i3 154 rfl rfl, _, _, rfl⟩
def mX10_init : am_M := (yX10_init, cX10_init, 2, none, 2, 40, 1, 2)
theorem zX10_init : am_YI mX10_init 1 := ⟨⟨am_i1 187 rfl rfl, am_i1 10 rfl rfl, by decide +kernel, by decide +kernel, by decide +kernel⟩, am_i1 186 rfl rfl, rfl⟩
def mX10_lockWrap : am_M := (yX10_lockWrap, cX10_lockWrap, 3, none, 4, 180, 0, 0)
theorem zX10_lockWrap : am_YV mX10_lockWrap 10 2 := ⟨⟨am_i4 127 rfl rfl, am_i1 10 rfl rfl, by decide +kernel, by decide +kernel, by decide +kernel⟩, am_i4 125 rfl rfl, am_i4 126 rfl rfl, _, _, rfl⟩
def mX10_unlockWrap : am_M := (yX10_unlockWrap, cX10_unlockWrap, 5, (some FieldType.boolean), 4, 198, 0, 0)
theorem zX10_unlockWrap : am_YV mX10_unlockWrap 10 2 := ⟨⟨am_i4 234 rfl rfl, am_i1 10 rfl rfl, by decide +kernel, by decide +kernel, by decide +kernel⟩, am_i4 232 rfl rfl, am_i4 233 rfl rfl, _, _, rfl⟩
def mX10_lockPaddedWrap : am_M := (yX10_lockPaddedWrap, cX10_lockPaddedWrap, 5, none, 4, 180, 0, 0)
theorem zX10_lockPaddedWrap : am_YV mX10_lockPaddedWrap 10 2 := ⟨⟨am_i4 150 rfl rfl, am_i1 10 rfl rfl, by decide +kernel, by decide +kernel, by decide +kernel⟩, am_i4 148 rfl rfl, am_i4 149 rfl rfl, _, _, rfl⟩
def mX10_unlockPaddedWrap : am_M := (yX10_unlockPaddedWrap, cX10_unlockPaddedWrap, 5, (some FieldType.boolean), 4, 198, 0, 0)
theorem zX10_unlockPaddedWrap : am_YV mX10_unlockPaddedWrap 10 2 := ⟨⟨am_i5 8 rfl rfl, am_i1 10 rfl rfl, by decide +kernel, by decide +kernel, by decide +kernel⟩, am_i5 6 rfl rfl, am_i5 7 rfl rfl, _, _, rfl⟩
def mX10_wrongEnd : am_M := (yX10_wrongEnd, cX10_wrongEnd, 10, (some FieldType.long), 1, 21, 0, 0)
theorem zX10_wrongEnd : am_YS mX10_wrongEnd 2 := ⟨⟨am_i5 12 rfl rfl, am_i1 10 rfl rfl, by decide +kernel, by decide +kernel, by decide +kernel⟩, am_i5 11 rfl rfl⟩
def mX10_layBehind : am_M := (yX10_layBehind, cX10_layBehind, 3, none, 2, 44, 0, 0)
theorem zX10_layBehind : am_YS mX10_layBehind 2 := ⟨⟨am_i4 130 rfl rfl, am_i1 10 rfl rfl, by decide +kernel, by decide +kernel, by decide +kernel⟩, am_i4 129 rfl rfl⟩
def mX10_takeOff : am_M := (yX10_takeOff, cX10_takeOff, 2, none, 1, 22, 0, 0)
theorem zX10_takeOff : am_YS mX10_takeOff 1 := ⟨⟨am_i5 2 rfl rfl, am_i1 10 rfl rfl, by decide +kernel, by decide +kernel, by decide +kernel⟩, am_i5 1 rfl rfl⟩
def mX10_mixIn : am_M := (yX10_mixIn, cX10_mixIn, 9, none, 3, 152, 0, 0)
theorem zX10_mixIn : am_YV mX10_mixIn 10 2 := ⟨⟨am_i4 138 rfl rfl, am_i1 10 rfl rfl, by decide +kernel, by decide +kernel, by decide +kernel⟩, am_i4 137 rfl rfl, am_ip2 (q := (yX10_mixIn, 2)) 14 rfl rfl, _, _, rfl⟩
def mX10_mixOut : am_M := (yX10_mixOut, cX10_mixOut, 7, (some FieldType.long), 3, 172, 0, 0)
theorem zX10_mixOut : am_YV mX10_mixOut 10 1 := ⟨⟨am_i4 238 rfl rfl, am_i1 10 rfl rfl, by decide +kernel, by decide +kernel, by decide +kernel⟩, am_i4 237 rfl rfl, am_ip3 (q := (yX10_mixOut, 2)) 3 rfl rfl, _, _, rfl⟩
theorem nX1_20 : am_N RX1 20 0 [.long 0, .long 0] := ⟨RX0, TX0, 2, tyX0, rfl, uX0, tyX0_ok, am_i1 89 rfl rfl, am_i1 90 rfl rfl, am_i1 7 rfl rfl, by intro j hj; revert j; decide +kernel, rfl⟩
theorem nX2_17 : am_N RX2 17 8 [.long 0, .long 0] := ⟨RX8, TX8, 2, tyX8, rfl, uX8, tyX8_ok, am_i1 54 rfl rfl, am_i1 55 rfl rfl, am_i1 5 rfl rfl, by intro j hj; revert j; decide +kernel, rfl⟩
theorem nX3_20 : am_N RX3 20 0 [.long 0, .long 0] := ⟨RX0, TX0, 2, tyX0, rfl, uX0, tyX0_ok, am_i1 204 rfl rfl, am_i1 90 rfl rfl, am_i1 7 rfl rfl, by intro j hj; revert j; decide +kernel, rfl⟩
theorem nX4_30 : am_N RX4 30 0 [.long 0, .long 0] := ⟨RX0, TX0, 2, tyX0, rfl, uX0, tyX0_ok, am_i1 237 rfl rfl, am_i1 90 rfl rfl, am_i1 7 rfl rfl, by intro j hj; revert j; decide +kernel, rfl⟩
theorem nX5_20 : am_N RX5 20 0 [.long 0, .long 0] := ⟨RX0, TX0, 2, tyX0, rfl, uX0, tyX0_ok, am_i2 33 rfl rfl, am_i1 90 rfl rfl, am_i1 7 rfl rfl, by intro j hj; revert j; decide +kernel, rfl⟩
theorem nX7_20 : am_N RX7 20 0 [.long 0, .long 0] := ⟨RX0, TX0, 2, tyX0, rfl, uX0, tyX0_ok, am_i1 159 rfl rfl, am_i1 90 rfl rfl, am_i1 7 rfl rfl, by intro j hj; revert j; decide +kernel, rfl⟩
theorem nX9_17 : am_N RX9 17 0 [.long 0, .long 0] := ⟨RX0, TX0, 2, tyX0, rfl, uX0, tyX0_ok, am_i1 135 rfl rfl, am_i1 90 rfl rfl, am_i1 7 rfl rfl, by intro j hj; revert j; decide +kernel, rfl⟩
theorem nX10_13 : am_N RX10 13 0 [.long 0, .long 0] := ⟨RX0, TX0, 2, tyX0, rfl, uX0, tyX0_ok, am_i1 189 rfl rfl, am_i1 90 rfl rfl, am_i1 7 rfl rfl, by intro j hj; revert j; decide +kernel, rfl⟩
theorem nX11_102 : am_N RX11 102 5 [.null, .null, .null, .null, .null, .null, .null, .null, .null, .null] := ⟨RX5, TX5, 10, tyX5, rfl, uX5, tyX5_ok, am_i2 27 rfl rfl, am_i2 28 rfl rfl, am_i1 13 rfl rfl, by intro j hj; revert j; decide +kernel, rfl⟩
theorem nX11_109 : am_N RX11 109 0 [.long 0, .long 0] := ⟨RX0, TX0, 2, tyX0, rfl, uX0, tyX0_ok, am_i2 66 rfl rfl, am_i1 90 rfl rfl, am_i1 7 rfl rfl, by intro j hj; revert j; decide +kernel, rfl⟩
theorem nX11_40 : am_N RX11 40 2 [.null, .null, .null, .int 0] := ⟨RX2, TX2, 4, tyX2, rfl, uX2, tyX2_ok, am_i1 48 rfl rfl, am_i1 49 rfl rfl, am_i1 4 rfl rfl, by intro j hj; revert j; decide +kernel, rfl⟩
theorem nX11_50 : am_N RX11 50 1 [.null, .null, .null, .null, .null, .null] := ⟨RX1, TX1, 6, tyX1, rfl, uX1, tyX1_ok, am_i1 83 rfl rfl, am_i1 84 rfl rfl, am_i1 6 rfl rfl, by intro j hj; revert j; decide +kernel, rfl⟩
theorem nX11_59 : am_N RX11 59 9 [.null, .null, .null, .null, .null] := ⟨RX9, TX9, 5, tyX9, rfl, uX9, tyX9_ok, am_i1 129 rfl rfl, am_i1 130 rfl rfl, am_i1 8 rfl rfl, by intro j hj; revert j; decide +kernel, rfl⟩
theorem nX11_68 : am_N RX11 68 7 [.null, .null, .null, .null, .null, .null, .null] := ⟨RX7, TX7, 7, tyX7, rfl, uX7, tyX7_ok, am_i1 153 rfl rfl, am_i1 154 rfl rfl, am_i1 9 rfl rfl, by intro j hj; revert j; decide +kernel, rfl⟩
theorem nX11_77 : am_N RX11 77 10 [.null, .null] := ⟨RX10, TX10, 2, tyX10, rfl, uX10, tyX10_ok, am_i1 183 rfl rfl, am_i1 184 rfl rfl, am_i1 10 rfl rfl, by intro j hj; revert j; decide +kernel, rfl⟩
theorem nX11_86 : am_N RX11 86 3 [.null, .null, .null, .null, .null, .null, .null, .null] := ⟨RX3, TX3, 8, tyX3, rfl, uX3, tyX3_ok, am_i1 198 rfl rfl, am_i1 199 rfl rfl, am_i1 11 rfl rfl, by intro j hj; revert j; decide +kernel, rfl⟩
theorem nX11_9 : am_N RX11 9 6 [.null, .int 0] := ⟨RX6, TX6, 2, tyX6, rfl, uX6, tyX6_ok, am_i1 23 rfl rfl, am_i1 24 rfl rfl, am_i1 2 rfl rfl, by intro j hj; revert j; decide +kernel, rfl⟩
theorem nX11_93 : am_N RX11 93 4 [.null, .null, .null, .null, .null, .null, .null, .null, .null] := ⟨RX4, TX4, 9, tyX4, rfl, uX4, tyX4_ok, am_i1 231 rfl rfl, am_i1 232 rfl rfl, am_i1 12 rfl rfl, by intro j hj; revert j; decide +kernel, rfl⟩
theorem nL_10 : am_N RL 10 12 [.int 0, .null, .null, .int 0, .null, .int 0, .null, .null, .null, .null, .null, .null, .null, .int 0, .null, .int 0, .null, .int 0, .null, .int 0, .null, .null, .null, .null, .null, .null, .null, .null, .null, .null, .int 0, .null, .null, .null, .null, .null, .null] := ⟨RX12, TX12, 37, tyX12, rfl, uX12, tyX12_ok, am_i5 49 rfl rfl, am_i5 50 rfl rfl, am_i1 14 rfl rfl, by intro j hj; revert j; decide +kernel, rfl⟩
theorem nL_7 : am_N RL 7 11 [.null, .null, .null, .null, .null, .null, .null, .int 0, .null, .null, .null, .null, .null, .null, .null, .null, .null, .null, .null] := ⟨RX11, TX11, 19, tyX11, rfl, uX11, tyX11_ok, am_i1 15 rfl rfl, am_i1 16 rfl rfl, am_i1 1 rfl rfl, by intro j hj; revert j; decide +kernel, rfl⟩
