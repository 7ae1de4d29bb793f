/-! ===== contracts: checks, from 169 on ===== -/
-- IceBoats.plan
def yD169 : List YD := yD_169 :: yD168
theorem yk_169 : ychk yKD (yct yB yD168) xMT xFT xSTX xm116 yD_169.2.1 yD_169.2.2.1 6000 = true := by decide +kernel
theorem yc_169 : ychks yKD yB xMT xFT xSTX yD169 = true := ychks_cons (d := yD_169) (L := yD168) (M := xm116) rfl yk_169 yc_168
-- java/lang/Integer.bitCount
def yD170 : List YD := yD_170 :: yD169
theorem yk_170 : ychk yKD (yct yB yD169) xMT xFT xSTX xm117 yD_170.2.1 yD_170.2.2.1 6000 = true := by decide +kernel
theorem yc_170 : ychks yKD yB xMT xFT xSTX yD170 = true := ychks_cons (d := yD_170) (L := yD169) (M := xm117) rfl yk_170 yc_169
-- IceBoats.plan
def yD171 : List YD := yD_171 :: yD170
theorem yk_171 : ychk yKD (yct yB yD170) xMT xFT xSTX xm116 yD_171.2.1 yD_171.2.2.1 6000 = true := by decide +kernel
theorem yc_171 : ychks yKD yB xMT xFT xSTX yD171 = true := ychks_cons (d := yD_171) (L := yD170) (M := xm116) rfl yk_171 yc_170
-- java/lang/Integer.bitCount
def yD172 : List YD := yD_172 :: yD171
theorem yk_172 : ychk yKD (yct yB yD171) xMT xFT xSTX xm117 yD_172.2.1 yD_172.2.2.1 6000 = true := by decide +kernel
theorem yc_172 : ychks yKD yB xMT xFT xSTX yD172 = true := ychks_cons (d := yD_172) (L := yD171) (M := xm117) rfl yk_172 yc_171
-- IceBoats.plan
def yD173 : List YD := yD_173 :: yD172
theorem yk_173 : ychk yKD (yct yB yD172) xMT xFT xSTX xm116 yD_173.2.1 yD_173.2.2.1 6000 = true := by decide +kernel
theorem yc_173 : ychks yKD yB xMT xFT xSTX yD173 = true := ychks_cons (d := yD_173) (L := yD172) (M := xm116) rfl yk_173 yc_172
-- java/lang/Integer.bitCount
def yD174 : List YD := yD_174 :: yD173
theorem yk_174 : ychk yKD (yct yB yD173) xMT xFT xSTX xm117 yD_174.2.1 yD_174.2.2.1 6000 = true := by decide +kernel
theorem yc_174 : ychks yKD yB xMT xFT xSTX yD174 = true := ychks_cons (d := yD_174) (L := yD173) (M := xm117) rfl yk_174 yc_173
-- IceBoats.plan
def yD175 : List YD := yD_175 :: yD174
theorem yk_175 : ychk yKD (yct yB yD174) xMT xFT xSTX xm116 yD_175.2.1 yD_175.2.2.1 6000 = true := by decide +kernel
theorem yc_175 : ychks yKD yB xMT xFT xSTX yD175 = true := ychks_cons (d := yD_175) (L := yD174) (M := xm116) rfl yk_175 yc_174
-- java/lang/Integer.bitCount
def yD176 : List YD := yD_176 :: yD175
theorem yk_176 : ychk yKD (yct yB yD175) xMT xFT xSTX xm117 yD_176.2.1 yD_176.2.2.1 6000 = true := by decide +kernel
theorem yc_176 : ychks yKD yB xMT xFT xSTX yD176 = true := ychks_cons (d := yD_176) (L := yD175) (M := xm117) rfl yk_176 yc_175
-- IceBoats.plan
def yD177 : List YD := yD_177 :: yD176
theorem yk_177 : ychk yKD (yct yB yD176) xMT xFT xSTX xm116 yD_177.2.1 yD_177.2.2.1 6000 = true := by decide +kernel
theorem yc_177 : ychks yKD yB xMT xFT xSTX yD177 = true := ychks_cons (d := yD_177) (L := yD176) (M := xm116) rfl yk_177 yc_176
-- java/lang/Integer.bitCount
def yD178 : List YD := yD_178 :: yD177
theorem yk_178 : ychk yKD (yct yB yD177) xMT xFT xSTX xm117 yD_178.2.1 yD_178.2.2.1 6000 = true := by decide +kernel
theorem yc_178 : ychks yKD yB xMT xFT xSTX yD178 = true := ychks_cons (d := yD_178) (L := yD177) (M := xm117) rfl yk_178 yc_177
-- IceBoats.plan
def yD179 : List YD := yD_179 :: yD178
theorem yk_179 : ychk yKD (yct yB yD178) xMT xFT xSTX xm116 yD_179.2.1 yD_179.2.2.1 6000 = true := by decide +kernel
theorem yc_179 : ychks yKD yB xMT xFT xSTX yD179 = true := ychks_cons (d := yD_179) (L := yD178) (M := xm116) rfl yk_179 yc_178
-- java/lang/Integer.bitCount
def yD180 : List YD := yD_180 :: yD179
theorem yk_180 : ychk yKD (yct yB yD179) xMT xFT xSTX xm117 yD_180.2.1 yD_180.2.2.1 6000 = true := by decide +kernel
theorem yc_180 : ychks yKD yB xMT xFT xSTX yD180 = true := ychks_cons (d := yD_180) (L := yD179) (M := xm117) rfl yk_180 yc_179
-- IceBoats.plan
def yD181 : List YD := yD_181 :: yD180
theorem yk_181 : ychk yKD (yct yB yD180) xMT xFT xSTX xm116 yD_181.2.1 yD_181.2.2.1 6000 = true := by decide +kernel
theorem yc_181 : ychks yKD yB xMT xFT xSTX yD181 = true := ychks_cons (d := yD_181) (L := yD180) (M := xm116) rfl yk_181 yc_180
-- java/lang/Integer.bitCount
def yD182 : List YD := yD_182 :: yD181
theorem yk_182 : ychk yKD (yct yB yD181) xMT xFT xSTX xm117 yD_182.2.1 yD_182.2.2.1 6000 = true := by decide +kernel
theorem yc_182 : ychks yKD yB xMT xFT xSTX yD182 = true := ychks_cons (d := yD_182) (L := yD181) (M := xm117) rfl yk_182 yc_181
-- IceBoats.plan
def yD183 : List YD := yD_183 :: yD182
theorem yk_183 : ychk yKD (yct yB yD182) xMT xFT xSTX xm116 yD_183.2.1 yD_183.2.2.1 6000 = true := by decide +kernel
theorem yc_183 : ychks yKD yB xMT xFT xSTX yD183 = true := ychks_cons (d := yD_183) (L := yD182) (M := xm116) rfl yk_183 yc_182
-- java/lang/Integer.bitCount
def yD184 : List YD := yD_184 :: yD183
theorem yk_184 : ychk yKD (yct yB yD183) xMT xFT xSTX xm117 yD_184.2.1 yD_184.2.2.1 6000 = true := by decide +kernel
theorem yc_184 : ychks yKD yB xMT xFT xSTX yD184 = true := ychks_cons (d := yD_184) (L := yD183) (M := xm117) rfl yk_184 yc_183
-- IceBoats.plan
def yD185 : List YD := yD_185 :: yD184
theorem yk_185 : ychk yKD (yct yB yD184) xMT xFT xSTX xm116 yD_185.2.1 yD_185.2.2.1 6000 = true := by decide +kernel
theorem yc_185 : ychks yKD yB xMT xFT xSTX yD185 = true := ychks_cons (d := yD_185) (L := yD184) (M := xm116) rfl yk_185 yc_184
-- java/lang/Integer.bitCount
def yD186 : List YD := yD_186 :: yD185
theorem yk_186 : ychk yKD (yct yB yD185) xMT xFT xSTX xm117 yD_186.2.1 yD_186.2.2.1 6000 = true := by decide +kernel
theorem yc_186 : ychks yKD yB xMT xFT xSTX yD186 = true := ychks_cons (d := yD_186) (L := yD185) (M := xm117) rfl yk_186 yc_185
-- IceBoats.plan
def yD187 : List YD := yD_187 :: yD186
theorem yk_187 : ychk yKD (yct yB yD186) xMT xFT xSTX xm116 yD_187.2.1 yD_187.2.2.1 6000 = true := by decide +kernel
theorem yc_187 : ychks yKD yB xMT xFT xSTX yD187 = true := ychks_cons (d := yD_187) (L := yD186) (M := xm116) rfl yk_187 yc_186
-- java/lang/Integer.bitCount
def yD188 : List YD := yD_188 :: yD187
theorem yk_188 : ychk yKD (yct yB yD187) xMT xFT xSTX xm117 yD_188.2.1 yD_188.2.2.1 6000 = true := by decide +kernel
theorem yc_188 : ychks yKD yB xMT xFT xSTX yD188 = true := ychks_cons (d := yD_188) (L := yD187) (M := xm117) rfl yk_188 yc_187
-- IceBoats.plan
def yD189 : List YD := yD_189 :: yD188
theorem yk_189 : ychk yKD (yct yB yD188) xMT xFT xSTX xm116 yD_189.2.1 yD_189.2.2.1 6000 = true := by decide +kernel
theorem yc_189 : ychks yKD yB xMT xFT xSTX yD189 = true := ychks_cons (d := yD_189) (L := yD188) (M := xm116) rfl yk_189 yc_188
-- java/lang/Integer.bitCount
def yD190 : List YD := yD_190 :: yD189
theorem yk_190 : ychk yKD (yct yB yD189) xMT xFT xSTX xm117 yD_190.2.1 yD_190.2.2.1 6000 = true := by decide +kernel
theorem yc_190 : ychks yKD yB xMT xFT xSTX yD190 = true := ychks_cons (d := yD_190) (L := yD189) (M := xm117) rfl yk_190 yc_189
-- IceBoats.plan
def yD191 : List YD := yD_191 :: yD190
theorem yk_191 : ychk yKD (yct yB yD190) xMT xFT xSTX xm116 yD_191.2.1 yD_191.2.2.1 6000 = true := by decide +kernel
theorem yc_191 : ychks yKD yB xMT xFT xSTX yD191 = true := ychks_cons (d := yD_191) (L := yD190) (M := xm116) rfl yk_191 yc_190
-- java/lang/Integer.bitCount
def yD192 : List YD := yD_192 :: yD191
theorem yk_192 : ychk yKD (yct yB yD191) xMT xFT xSTX xm117 yD_192.2.1 yD_192.2.2.1 6000 = true := by decide +kernel
theorem yc_192 : ychks yKD yB xMT xFT xSTX yD192 = true := ychks_cons (d := yD_192) (L := yD191) (M := xm117) rfl yk_192 yc_191
-- IceBoats.plan
def yD193 : List YD := yD_193 :: yD192
theorem yk_193 : ychk yKD (yct yB yD192) xMT xFT xSTX xm116 yD_193.2.1 yD_193.2.2.1 6000 = true := by decide +kernel
theorem yc_193 : ychks yKD yB xMT xFT xSTX yD193 = true := ychks_cons (d := yD_193) (L := yD192) (M := xm116) rfl yk_193 yc_192
-- java/lang/Integer.bitCount
def yD194 : List YD := yD_194 :: yD193
theorem yk_194 : ychk yKD (yct yB yD193) xMT xFT xSTX xm117 yD_194.2.1 yD_194.2.2.1 6000 = true := by decide +kernel
theorem yc_194 : ychks yKD yB xMT xFT xSTX yD194 = true := ychks_cons (d := yD_194) (L := yD193) (M := xm117) rfl yk_194 yc_193
-- IceBoats.plan
def yD195 : List YD := yD_195 :: yD194
theorem yk_195 : ychk yKD (yct yB yD194) xMT xFT xSTX xm116 yD_195.2.1 yD_195.2.2.1 6000 = true := by decide +kernel
theorem yc_195 : ychks yKD yB xMT xFT xSTX yD195 = true := ychks_cons (d := yD_195) (L := yD194) (M := xm116) rfl yk_195 yc_194
-- java/lang/Integer.bitCount
def yD196 : List YD := yD_196 :: yD195
theorem yk_196 : ychk yKD (yct yB yD195) xMT xFT xSTX xm117 yD_196.2.1 yD_196.2.2.1 6000 = true := by decide +kernel
theorem yc_196 : ychks yKD yB xMT xFT xSTX yD196 = true := ychks_cons (d := yD_196) (L := yD195) (M := xm117) rfl yk_196 yc_195
-- IceBoats.plan
def yD197 : List YD := yD_197 :: yD196
theorem yk_197 : ychk yKD (yct yB yD196) xMT xFT xSTX xm116 yD_197.2.1 yD_197.2.2.1 6000 = true := by decide +kernel
theorem yc_197 : ychks yKD yB xMT xFT xSTX yD197 = true := ychks_cons (d := yD_197) (L := yD196) (M := xm116) rfl yk_197 yc_196
-- java/lang/Integer.bitCount
def yD198 : List YD := yD_198 :: yD197
theorem yk_198 : ychk yKD (yct yB yD197) xMT xFT xSTX xm117 yD_198.2.1 yD_198.2.2.1 6000 = true := by decide +kernel
theorem yc_198 : ychks yKD yB xMT xFT xSTX yD198 = true := ychks_cons (d := yD_198) (L := yD197) (M := xm117) rfl yk_198 yc_197
-- IceBoats.plan
def yD199 : List YD := yD_199 :: yD198
theorem yk_199 : ychk yKD (yct yB yD198) xMT xFT xSTX xm116 yD_199.2.1 yD_199.2.2.1 6000 = true := by decide +kernel
theorem yc_199 : ychks yKD yB xMT xFT xSTX yD199 = true := ychks_cons (d := yD_199) (L := yD198) (M := xm116) rfl yk_199 yc_198
-- java/lang/Integer.bitCount
def yD200 : List YD := yD_200 :: yD199
theorem yk_200 : ychk yKD (yct yB yD199) xMT xFT xSTX xm117 yD_200.2.1 yD_200.2.2.1 6000 = true := by decide +kernel
theorem yc_200 : ychks yKD yB xMT xFT xSTX yD200 = true := ychks_cons (d := yD_200) (L := yD199) (M := xm117) rfl yk_200 yc_199
-- IceBoats.plan
def yD201 : List YD := yD_201 :: yD200
theorem yk_201 : ychk yKD (yct yB yD200) xMT xFT xSTX xm116 yD_201.2.1 yD_201.2.2.1 6000 = true := by decide +kernel
theorem yc_201 : ychks yKD yB xMT xFT xSTX yD201 = true := ychks_cons (d := yD_201) (L := yD200) (M := xm116) rfl yk_201 yc_200
-- java/lang/Integer.bitCount
def yD202 : List YD := yD_202 :: yD201
theorem yk_202 : ychk yKD (yct yB yD201) xMT xFT xSTX xm117 yD_202.2.1 yD_202.2.2.1 6000 = true := by decide +kernel
theorem yc_202 : ychks yKD yB xMT xFT xSTX yD202 = true := ychks_cons (d := yD_202) (L := yD201) (M := xm117) rfl yk_202 yc_201
-- IceBoats.plan
def yD203 : List YD := yD_203 :: yD202
theorem yk_203 : ychk yKD (yct yB yD202) xMT xFT xSTX xm116 yD_203.2.1 yD_203.2.2.1 6000 = true := by decide +kernel
theorem yc_203 : ychks yKD yB xMT xFT xSTX yD203 = true := ychks_cons (d := yD_203) (L := yD202) (M := xm116) rfl yk_203 yc_202
-- java/lang/Integer.bitCount
def yD204 : List YD := yD_204 :: yD203
theorem yk_204 : ychk yKD (yct yB yD203) xMT xFT xSTX xm117 yD_204.2.1 yD_204.2.2.1 6000 = true := by decide +kernel
theorem yc_204 : ychks yKD yB xMT xFT xSTX yD204 = true := ychks_cons (d := yD_204) (L := yD203) (M := xm117) rfl yk_204 yc_203
-- IceBoats.plan
def yD205 : List YD := yD_205 :: yD204
theorem yk_205 : ychk yKD (yct yB yD204) xMT xFT xSTX xm116 yD_205.2.1 yD_205.2.2.1 6000 = true := by decide +kernel
theorem yc_205 : ychks yKD yB xMT xFT xSTX yD205 = true := ychks_cons (d := yD_205) (L := yD204) (M := xm116) rfl yk_205 yc_204
-- java/lang/Integer.bitCount
def yD206 : List YD := yD_206 :: yD205
theorem yk_206 : ychk yKD (yct yB yD205) xMT xFT xSTX xm117 yD_206.2.1 yD_206.2.2.1 6000 = true := by decide +kernel
theorem yc_206 : ychks yKD yB xMT xFT xSTX yD206 = true := ychks_cons (d := yD_206) (L := yD205) (M := xm117) rfl yk_206 yc_205
-- IceBoats.plan
def yD207 : List YD := yD_207 :: yD206
theorem yk_207 : ychk yKD (yct yB yD206) xMT xFT xSTX xm116 yD_207.2.1 yD_207.2.2.1 6000 = true := by decide +kernel
theorem yc_207 : ychks yKD yB xMT xFT xSTX yD207 = true := ychks_cons (d := yD_207) (L := yD206) (M := xm116) rfl yk_207 yc_206
-- java/lang/Integer.bitCount
def yD208 : List YD := yD_208 :: yD207
theorem yk_208 : ychk yKD (yct yB yD207) xMT xFT xSTX xm117 yD_208.2.1 yD_208.2.2.1 6000 = true := by decide +kernel
theorem yc_208 : ychks yKD yB xMT xFT xSTX yD208 = true := ychks_cons (d := yD_208) (L := yD207) (M := xm117) rfl yk_208 yc_207
-- IceBoats.plan
def yD209 : List YD := yD_209 :: yD208
theorem yk_209 : ychk yKD (yct yB yD208) xMT xFT xSTX xm116 yD_209.2.1 yD_209.2.2.1 6000 = true := by decide +kernel
theorem yc_209 : ychks yKD yB xMT xFT xSTX yD209 = true := ychks_cons (d := yD_209) (L := yD208) (M := xm116) rfl yk_209 yc_208
-- java/lang/Integer.bitCount
def yD210 : List YD := yD_210 :: yD209
theorem yk_210 : ychk yKD (yct yB yD209) xMT xFT xSTX xm117 yD_210.2.1 yD_210.2.2.1 6000 = true := by decide +kernel
theorem yc_210 : ychks yKD yB xMT xFT xSTX yD210 = true := ychks_cons (d := yD_210) (L := yD209) (M := xm117) rfl yk_210 yc_209
-- IceBoats.plan
def yD211 : List YD := yD_211 :: yD210
theorem yk_211 : ychk yKD (yct yB yD210) xMT xFT xSTX xm116 yD_211.2.1 yD_211.2.2.1 6000 = true := by decide +kernel
theorem yc_211 : ychks yKD yB xMT xFT xSTX yD211 = true := ychks_cons (d := yD_211) (L := yD210) (M := xm116) rfl yk_211 yc_210
-- java/lang/Integer.bitCount
def yD212 : List YD := yD_212 :: yD211
theorem yk_212 : ychk yKD (yct yB yD211) xMT xFT xSTX xm117 yD_212.2.1 yD_212.2.2.1 6000 = true := by decide +kernel
theorem yc_212 : ychks yKD yB xMT xFT xSTX yD212 = true := ychks_cons (d := yD_212) (L := yD211) (M := xm117) rfl yk_212 yc_211
-- IceBoats.plan
def yD213 : List YD := yD_213 :: yD212
theorem yk_213 : ychk yKD (yct yB yD212) xMT xFT xSTX xm116 yD_213.2.1 yD_213.2.2.1 6000 = true := by decide +kernel
theorem yc_213 : ychks yKD yB xMT xFT xSTX yD213 = true := ychks_cons (d := yD_213) (L := yD212) (M := xm116) rfl yk_213 yc_212
-- java/lang/Integer.bitCount
def yD214 : List YD := yD_214 :: yD213
theorem yk_214 : ychk yKD (yct yB yD213) xMT xFT xSTX xm117 yD_214.2.1 yD_214.2.2.1 6000 = true := by decide +kernel
theorem yc_214 : ychks yKD yB xMT xFT xSTX yD214 = true := ychks_cons (d := yD_214) (L := yD213) (M := xm117) rfl yk_214 yc_213
-- IceBoats.plan
def yD215 : List YD := yD_215 :: yD214
theorem yk_215 : ychk yKD (yct yB yD214) xMT xFT xSTX xm116 yD_215.2.1 yD_215.2.2.1 6000 = true := by decide +kernel
theorem yc_215 : ychks yKD yB xMT xFT xSTX yD215 = true := ychks_cons (d := yD_215) (L := yD214) (M := xm116) rfl yk_215 yc_214
-- java/lang/Integer.bitCount
def yD216 : List YD := yD_216 :: yD215
theorem yk_216 : ychk yKD (yct yB yD215) xMT xFT xSTX xm117 yD_216.2.1 yD_216.2.2.1 6000 = true := by decide +kernel
theorem yc_216 : ychks yKD yB xMT xFT xSTX yD216 = true := ychks_cons (d := yD_216) (L := yD215) (M := xm117) rfl yk_216 yc_215
-- IceBoats.plan
def yD217 : List YD := yD_217 :: yD216
theorem yk_217 : ychk yKD (yct yB yD216) xMT xFT xSTX xm116 yD_217.2.1 yD_217.2.2.1 6000 = true := by decide +kernel
theorem yc_217 : ychks yKD yB xMT xFT xSTX yD217 = true := ychks_cons (d := yD_217) (L := yD216) (M := xm116) rfl yk_217 yc_216
-- java/lang/Integer.bitCount
def yD218 : List YD := yD_218 :: yD217
theorem yk_218 : ychk yKD (yct yB yD217) xMT xFT xSTX xm117 yD_218.2.1 yD_218.2.2.1 6000 = true := by decide +kernel
theorem yc_218 : ychks yKD yB xMT xFT xSTX yD218 = true := ychks_cons (d := yD_218) (L := yD217) (M := xm117) rfl yk_218 yc_217
-- IceBoats.plan
def yD219 : List YD := yD_219 :: yD218
theorem yk_219 : ychk yKD (yct yB yD218) xMT xFT xSTX xm116 yD_219.2.1 yD_219.2.2.1 6000 = true := by decide +kernel
theorem yc_219 : ychks yKD yB xMT xFT xSTX yD219 = true := ychks_cons (d := yD_219) (L := yD218) (M := xm116) rfl yk_219 yc_218
-- java/lang/Integer.bitCount
def yD220 : List YD := yD_220 :: yD219
theorem yk_220 : ychk yKD (yct yB yD219) xMT xFT xSTX xm117 yD_220.2.1 yD_220.2.2.1 6000 = true := by decide +kernel
theorem yc_220 : ychks yKD yB xMT xFT xSTX yD220 = true := ychks_cons (d := yD_220) (L := yD219) (M := xm117) rfl yk_220 yc_219
-- IceBoats.plan
def yD221 : List YD := yD_221 :: yD220
theorem yk_221 : ychk yKD (yct yB yD220) xMT xFT xSTX xm116 yD_221.2.1 yD_221.2.2.1 6000 = true := by decide +kernel
theorem yc_221 : ychks yKD yB xMT xFT xSTX yD221 = true := ychks_cons (d := yD_221) (L := yD220) (M := xm116) rfl yk_221 yc_220
-- java/lang/Integer.bitCount
def yD222 : List YD := yD_222 :: yD221
theorem yk_222 : ychk yKD (yct yB yD221) xMT xFT xSTX xm117 yD_222.2.1 yD_222.2.2.1 6000 = true := by decide +kernel
theorem yc_222 : ychks yKD yB xMT xFT xSTX yD222 = true := ychks_cons (d := yD_222) (L := yD221) (M := xm117) rfl yk_222 yc_221
-- IceBoats.plan
def yD223 : List YD := yD_223 :: yD222
theorem yk_223 : ychk yKD (yct yB yD222) xMT xFT xSTX xm116 yD_223.2.1 yD_223.2.2.1 6000 = true := by decide +kernel
theorem yc_223 : ychks yKD yB xMT xFT xSTX yD223 = true := ychks_cons (d := yD_223) (L := yD222) (M := xm116) rfl yk_223 yc_222
-- java/lang/Integer.bitCount
def yD224 : List YD := yD_224 :: yD223
theorem yk_224 : ychk yKD (yct yB yD223) xMT xFT xSTX xm117 yD_224.2.1 yD_224.2.2.1 6000 = true := by decide +kernel
theorem yc_224 : ychks yKD yB xMT xFT xSTX yD224 = true := ychks_cons (d := yD_224) (L := yD223) (M := xm117) rfl yk_224 yc_223
-- IceBoats.plan
def yD225 : List YD := yD_225 :: yD224
theorem yk_225 : ychk yKD (yct yB yD224) xMT xFT xSTX xm116 yD_225.2.1 yD_225.2.2.1 6000 = true := by decide +kernel
theorem yc_225 : ychks yKD yB xMT xFT xSTX yD225 = true := ychks_cons (d := yD_225) (L := yD224) (M := xm116) rfl yk_225 yc_224
-- java/lang/Integer.bitCount
def yD226 : List YD := yD_226 :: yD225
theorem yk_226 : ychk yKD (yct yB yD225) xMT xFT xSTX xm117 yD_226.2.1 yD_226.2.2.1 6000 = true := by decide +kernel
theorem yc_226 : ychks yKD yB xMT xFT xSTX yD226 = true := ychks_cons (d := yD_226) (L := yD225) (M := xm117) rfl yk_226 yc_225
-- IceBoats.plan
def yD227 : List YD := yD_227 :: yD226
theorem yk_227 : ychk yKD (yct yB yD226) xMT xFT xSTX xm116 yD_227.2.1 yD_227.2.2.1 6000 = true := by decide +kernel
theorem yc_227 : ychks yKD yB xMT xFT xSTX yD227 = true := ychks_cons (d := yD_227) (L := yD226) (M := xm116) rfl yk_227 yc_226
-- java/lang/Integer.bitCount
def yD228 : List YD := yD_228 :: yD227
theorem yk_228 : ychk yKD (yct yB yD227) xMT xFT xSTX xm117 yD_228.2.1 yD_228.2.2.1 6000 = true := by decide +kernel
theorem yc_228 : ychks yKD yB xMT xFT xSTX yD228 = true := ychks_cons (d := yD_228) (L := yD227) (M := xm117) rfl yk_228 yc_227
-- IceBoats.plan
def yD229 : List YD := yD_229 :: yD228
theorem yk_229 : ychk yKD (yct yB yD228) xMT xFT xSTX xm116 yD_229.2.1 yD_229.2.2.1 6000 = true := by decide +kernel
theorem yc_229 : ychks yKD yB xMT xFT xSTX yD229 = true := ychks_cons (d := yD_229) (L := yD228) (M := xm116) rfl yk_229 yc_228
-- java/lang/Integer.bitCount
def yD230 : List YD := yD_230 :: yD229
theorem yk_230 : ychk yKD (yct yB yD229) xMT xFT xSTX xm117 yD_230.2.1 yD_230.2.2.1 6000 = true := by decide +kernel
theorem yc_230 : ychks yKD yB xMT xFT xSTX yD230 = true := ychks_cons (d := yD_230) (L := yD229) (M := xm117) rfl yk_230 yc_229
-- IceBoats.plan
def yD231 : List YD := yD_231 :: yD230
theorem yk_231 : ychk yKD (yct yB yD230) xMT xFT xSTX xm116 yD_231.2.1 yD_231.2.2.1 6000 = true := by decide +kernel
theorem yc_231 : ychks yKD yB xMT xFT xSTX yD231 = true := ychks_cons (d := yD_231) (L := yD230) (M := xm116) rfl yk_231 yc_230
-- java/lang/Integer.bitCount
def yD232 : List YD := yD_232 :: yD231
theorem yk_232 : ychk yKD (yct yB yD231) xMT xFT xSTX xm117 yD_232.2.1 yD_232.2.2.1 6000 = true := by decide +kernel
theorem yc_232 : ychks yKD yB xMT xFT xSTX yD232 = true := ychks_cons (d := yD_232) (L := yD231) (M := xm117) rfl yk_232 yc_231
-- IceBoats.plan
def yD233 : List YD := yD_233 :: yD232
theorem yk_233 : ychk yKD (yct yB yD232) xMT xFT xSTX xm116 yD_233.2.1 yD_233.2.2.1 6000 = true := by decide +kernel
theorem yc_233 : ychks yKD yB xMT xFT xSTX yD233 = true := ychks_cons (d := yD_233) (L := yD232) (M := xm116) rfl yk_233 yc_232
-- java/lang/Integer.bitCount
def yD234 : List YD := yD_234 :: yD233
theorem yk_234 : ychk yKD (yct yB yD233) xMT xFT xSTX xm117 yD_234.2.1 yD_234.2.2.1 6000 = true := by decide +kernel
theorem yc_234 : ychks yKD yB xMT xFT xSTX yD234 = true := ychks_cons (d := yD_234) (L := yD233) (M := xm117) rfl yk_234 yc_233
-- IceBoats.plan
def yD235 : List YD := yD_235 :: yD234
theorem yk_235 : ychk yKD (yct yB yD234) xMT xFT xSTX xm116 yD_235.2.1 yD_235.2.2.1 6000 = true := by decide +kernel
theorem yc_235 : ychks yKD yB xMT xFT xSTX yD235 = true := ychks_cons (d := yD_235) (L := yD234) (M := xm116) rfl yk_235 yc_234
-- java/lang/Integer.bitCount
def yD236 : List YD := yD_236 :: yD235
theorem yk_236 : ychk yKD (yct yB yD235) xMT xFT xSTX xm117 yD_236.2.1 yD_236.2.2.1 6000 = true := by decide +kernel
theorem yc_236 : ychks yKD yB xMT xFT xSTX yD236 = true := ychks_cons (d := yD_236) (L := yD235) (M := xm117) rfl yk_236 yc_235
-- IceBoats.plan
def yD237 : List YD := yD_237 :: yD236
theorem yk_237 : ychk yKD (yct yB yD236) xMT xFT xSTX xm116 yD_237.2.1 yD_237.2.2.1 6000 = true := by decide +kernel
theorem yc_237 : ychks yKD yB xMT xFT xSTX yD237 = true := ychks_cons (d := yD_237) (L := yD236) (M := xm116) rfl yk_237 yc_236
-- java/lang/Integer.bitCount
def yD238 : List YD := yD_238 :: yD237
theorem yk_238 : ychk yKD (yct yB yD237) xMT xFT xSTX xm117 yD_238.2.1 yD_238.2.2.1 6000 = true := by decide +kernel
theorem yc_238 : ychks yKD yB xMT xFT xSTX yD238 = true := ychks_cons (d := yD_238) (L := yD237) (M := xm117) rfl yk_238 yc_237
-- IceBoats.plan
def yD239 : List YD := yD_239 :: yD238
theorem yk_239 : ychk yKD (yct yB yD238) xMT xFT xSTX xm116 yD_239.2.1 yD_239.2.2.1 6000 = true := by decide +kernel
theorem yc_239 : ychks yKD yB xMT xFT xSTX yD239 = true := ychks_cons (d := yD_239) (L := yD238) (M := xm116) rfl yk_239 yc_238
-- java/lang/Integer.bitCount
def yD240 : List YD := yD_240 :: yD239
theorem yk_240 : ychk yKD (yct yB yD239) xMT xFT xSTX xm117 yD_240.2.1 yD_240.2.2.1 6000 = true := by decide +kernel
theorem yc_240 : ychks yKD yB xMT xFT xSTX yD240 = true := ychks_cons (d := yD_240) (L := yD239) (M := xm117) rfl yk_240 yc_239
-- IceBoats.plan
def yD241 : List YD := yD_241 :: yD240
theorem yk_241 : ychk yKD (yct yB yD240) xMT xFT xSTX xm116 yD_241.2.1 yD_241.2.2.1 6000 = true := by decide +kernel
theorem yc_241 : ychks yKD yB xMT xFT xSTX yD241 = true := ychks_cons (d := yD_241) (L := yD240) (M := xm116) rfl yk_241 yc_240
-- java/lang/Integer.bitCount
def yD242 : List YD := yD_242 :: yD241
theorem yk_242 : ychk yKD (yct yB yD241) xMT xFT xSTX xm117 yD_242.2.1 yD_242.2.2.1 6000 = true := by decide +kernel
theorem yc_242 : ychks yKD yB xMT xFT xSTX yD242 = true := ychks_cons (d := yD_242) (L := yD241) (M := xm117) rfl yk_242 yc_241
-- IceBoats.plan
def yD243 : List YD := yD_243 :: yD242
theorem yk_243 : ychk yKD (yct yB yD242) xMT xFT xSTX xm116 yD_243.2.1 yD_243.2.2.1 6000 = true := by decide +kernel
theorem yc_243 : ychks yKD yB xMT xFT xSTX yD243 = true := ychks_cons (d := yD_243) (L := yD242) (M := xm116) rfl yk_243 yc_242
-- IceBoats.plan
def yD244 : List YD := yD_244 :: yD243
theorem yk_244 : ychk yKD (yct yB yD243) xMT xFT xSTX xm116 yD_244.2.1 yD_244.2.2.1 6000 = true := by decide +kernel
theorem yc_244 : ychks yKD yB xMT xFT xSTX yD244 = true := ychks_cons (d := yD_244) (L := yD243) (M := xm116) rfl yk_244 yc_243
-- IceBoats.plan
def yD245 : List YD := yD_245 :: yD244
theorem yk_245 : ychk yKD (yct yB yD244) xMT xFT xSTX xm116 yD_245.2.1 yD_245.2.2.1 6000 = true := by decide +kernel
theorem yc_245 : ychks yKD yB xMT xFT xSTX yD245 = true := ychks_cons (d := yD_245) (L := yD244) (M := xm116) rfl yk_245 yc_244
-- IceBoats$Drift.clearNext
def yD246 : List YD := yD_246 :: yD245
theorem yk_246 : ychk yKD (yct yB yD245) xMT xFT xSTX xm130 yD_246.2.1 yD_246.2.2.1 6000 = true := by decide +kernel
theorem yc_246 : ychks yKD yB xMT xFT xSTX yD246 = true := ychks_cons (d := yD_246) (L := yD245) (M := xm130) rfl yk_246 yc_245
-- IceBoats$Drift.swapNext
def yD247 : List YD := yD_247 :: yD246
theorem yk_247 : ychk yKD (yct yB yD246) xMT xFT xSTX xm131 yD_247.2.1 yD_247.2.2.1 6000 = true := by decide +kernel
theorem yc_247 : ychks yKD yB xMT xFT xSTX yD247 = true := ychks_cons (d := yD_247) (L := yD246) (M := xm131) rfl yk_247 yc_246
-- IceBoats$Drift.startIn
def yD248 : List YD := yD_248 :: yD247
theorem yk_248 : ychk yKD (yct yB yD247) xMT xFT xSTX xm129 yD_248.2.1 yD_248.2.2.1 6000 = true := by decide +kernel
theorem yc_248 : ychks yKD yB xMT xFT xSTX yD248 = true := ychks_cons (d := yD_248) (L := yD247) (M := xm129) rfl yk_248 yc_247
-- IceBoats$Drift.lead
def yD249 : List YD := yD_249 :: yD248
theorem yk_249 : ychk yKD (yct yB yD248) xMT xFT xSTX xm133 yD_249.2.1 yD_249.2.2.1 6000 = true := by decide +kernel
theorem yc_249 : ychks yKD yB xMT xFT xSTX yD249 = true := ychks_cons (d := yD_249) (L := yD248) (M := xm133) rfl yk_249 yc_248
-- IceBoats$Drift.follow
def yD250 : List YD := yD_250 :: yD249
theorem yk_250 : ychk yKD (yct yB yD249) xMT xFT xSTX xm132 yD_250.2.1 yD_250.2.2.1 6000 = true := by decide +kernel
theorem yc_250 : ychks yKD yB xMT xFT xSTX yD250 = true := ychks_cons (d := yD_250) (L := yD249) (M := xm132) rfl yk_250 yc_249
-- IceBoats.tellShare
def yD251 : List YD := yD_251 :: yD250
theorem yk_251 : ychk yKD (yct yB yD250) xMT xFT xSTX xm134 yD_251.2.1 yD_251.2.2.1 6000 = true := by decide +kernel
theorem yc_251 : ychks yKD yB xMT xFT xSTX yD251 = true := ychks_cons (d := yD_251) (L := yD250) (M := xm134) rfl yk_251 yc_250
-- IceBoats.odds
def yD252 : List YD := yD_252 :: yD251
theorem yk_252 : ychk yKD (yct yB yD251) xMT xFT xSTX xm128 yD_252.2.1 yD_252.2.2.1 6000 = true := by decide +kernel
theorem yc_252 : ychks yKD yB xMT xFT xSTX yD252 = true := ychks_cons (d := yD_252) (L := yD251) (M := xm128) rfl yk_252 yc_251
