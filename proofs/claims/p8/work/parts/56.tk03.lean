/-! ===== contracts: checks, from 253 on ===== -/
-- IceBoats.areSights
def yD253 : List YD := yD_253 :: yD252
theorem yk_253 : ychk yKD (yct yB yD252) xMT xFT xSTX xm137 yD_253.2.1 yD_253.2.2.1 6000 = true := by decide +kernel
theorem yc_253 : ychks yKD yB xMT xFT xSTX yD253 = true := ychks_cons (d := yD_253) (L := yD252) (M := xm137) rfl yk_253 yc_252
-- IceBoats.faultOfCourses
def yD254 : List YD := yD_254 :: yD253
theorem yk_254 : ychk yKD (yct yB yD253) xMT xFT xSTX xm136 yD_254.2.1 yD_254.2.2.1 6000 = true := by decide +kernel
theorem yc_254 : ychks yKD yB xMT xFT xSTX yD254 = true := ychks_cons (d := yD_254) (L := yD253) (M := xm136) rfl yk_254 yc_253
-- IceBoats$Drift.keepOnly
def yD255 : List YD := yD_255 :: yD254
theorem yk_255 : ychk yKD (yct yB yD254) xMT xFT xSTX xm139 yD_255.2.1 yD_255.2.2.1 6000 = true := by decide +kernel
theorem yc_255 : ychks yKD yB xMT xFT xSTX yD255 = true := ychks_cons (d := yD_255) (L := yD254) (M := xm139) rfl yk_255 yc_254
-- IceBoats.keepWhatWasSeen
def yD256 : List YD := yD_256 :: yD255
theorem yk_256 : ychk yKD (yct yB yD255) xMT xFT xSTX xm138 yD_256.2.1 yD_256.2.2.1 6000 = true := by decide +kernel
theorem yc_256 : ychks yKD yB xMT xFT xSTX yD256 = true := ychks_cons (d := yD_256) (L := yD255) (M := xm138) rfl yk_256 yc_255
-- IceBoats$Drift.leastOddRow
def yD257 : List YD := yD_257 :: yD256
theorem yk_257 : ychk yKD (yct yB yD256) xMT xFT xSTX xm140 yD_257.2.1 yD_257.2.2.1 6000 = true := by decide +kernel
theorem yc_257 : ychks yKD yB xMT xFT xSTX yD257 = true := ychks_cons (d := yD_257) (L := yD256) (M := xm140) rfl yk_257 yc_256
-- IceBoats$Drift.sumOfWeights
def yD258 : List YD := yD_258 :: yD257
theorem yk_258 : ychk yKD (yct yB yD257) xMT xFT xSTX xm141 yD_258.2.1 yD_258.2.2.1 6000 = true := by decide +kernel
theorem yc_258 : ychks yKD yB xMT xFT xSTX yD258 = true := ychks_cons (d := yD_258) (L := yD257) (M := xm141) rfl yk_258 yc_257
-- IceBoats.courses
def yD259 : List YD := yD_259 :: yD258
theorem yk_259 : ychk yKD (yct yB yD258) xMT xFT xSTX xm135 yD_259.2.1 yD_259.2.2.1 6000 = true := by decide +kernel
theorem yc_259 : ychks yKD yB xMT xFT xSTX yD259 = true := ychks_cons (d := yD_259) (L := yD258) (M := xm135) rfl yk_259 yc_258
-- IceBoats.asked
def yD260 : List YD := yD_260 :: yD259
theorem yk_260 : ychk yKD (yct yB yD259) xMT xFT xSTX xm142 yD_260.2.1 yD_260.2.2.1 6000 = true := by decide +kernel
theorem yc_260 : ychks yKD yB xMT xFT xSTX yD260 = true := ychks_cons (d := yD_260) (L := yD259) (M := xm142) rfl yk_260 yc_259
-- IceBoats.set
def yD261 : List YD := yD_261 :: yD260
theorem yk_261 : ychk yKD (yct yB yD260) xMT xFT xSTX xm143 yD_261.2.1 yD_261.2.2.1 6000 = true := by decide +kernel
theorem yc_261 : ychks yKD yB xMT xFT xSTX yD261 = true := ychks_cons (d := yD_261) (L := yD260) (M := xm143) rfl yk_261 yc_260
-- IceBoats.upper
def yD262 : List YD := yD_262 :: yD261
theorem yk_262 : ychk yKD (yct yB yD261) xMT xFT xSTX xm144 yD_262.2.1 yD_262.2.2.1 6000 = true := by decide +kernel
theorem yc_262 : ychks yKD yB xMT xFT xSTX yD262 = true := ychks_cons (d := yD_262) (L := yD261) (M := xm144) rfl yk_262 yc_261
-- IceBoats.lower
def yD263 : List YD := yD_263 :: yD262
theorem yk_263 : ychk yKD (yct yB yD262) xMT xFT xSTX xm145 yD_263.2.1 yD_263.2.2.1 6000 = true := by decide +kernel
theorem yc_263 : ychks yKD yB xMT xFT xSTX yD263 = true := ychks_cons (d := yD_263) (L := yD262) (M := xm145) rfl yk_263 yc_262
-- IceBoats.rowsThere
def yD264 : List YD := yD_264 :: yD263
theorem yk_264 : ychk yKD (yct yB yD263) xMT xFT xSTX xm149 yD_264.2.1 yD_264.2.2.1 6000 = true := by decide +kernel
theorem yc_264 : ychks yKD yB xMT xFT xSTX yD264 = true := ychks_cons (d := yD_264) (L := yD263) (M := xm149) rfl yk_264 yc_263
-- IceBoats.rowsThere
def yD265 : List YD := yD_265 :: yD264
theorem yk_265 : ychk yKD (yct yB yD264) xMT xFT xSTX xm149 yD_265.2.1 yD_265.2.2.1 6000 = true := by decide +kernel
theorem yc_265 : ychks yKD yB xMT xFT xSTX yD265 = true := ychks_cons (d := yD_265) (L := yD264) (M := xm149) rfl yk_265 yc_264
-- IceBoats.boatsOfKind
def yD266 : List YD := yD_266 :: yD265
theorem yk_266 : ychk yKD (yct yB yD265) xMT xFT xSTX xm148 yD_266.2.1 yD_266.2.2.1 6000 = true := by decide +kernel
theorem yc_266 : ychks yKD yB xMT xFT xSTX yD266 = true := ychks_cons (d := yD_266) (L := yD265) (M := xm148) rfl yk_266 yc_265
-- IceBoats.ableBoats
def yD267 : List YD := yD_267 :: yD266
theorem yk_267 : ychk yKD (yct yB yD266) xMT xFT xSTX xm147 yD_267.2.1 yD_267.2.2.1 6000 = true := by decide +kernel
theorem yc_267 : ychks yKD yB xMT xFT xSTX yD267 = true := ychks_cons (d := yD_267) (L := yD266) (M := xm147) rfl yk_267 yc_266
-- IceBoats.count
def yD268 : List YD := yD_268 :: yD267
theorem yk_268 : ychk yKD (yct yB yD267) xMT xFT xSTX xm146 yD_268.2.1 yD_268.2.2.1 6000 = true := by decide +kernel
theorem yc_268 : ychks yKD yB xMT xFT xSTX yD268 = true := ychks_cons (d := yD_268) (L := yD267) (M := xm146) rfl yk_268 yc_267
-- IceBoats.finding
def yD269 : List YD := yD_269 :: yD268
theorem yk_269 : ychk yKD (yct yB yD268) xMT xFT xSTX xm150 yD_269.2.1 yD_269.2.2.1 6000 = true := by decide +kernel
theorem yc_269 : ychks yKD yB xMT xFT xSTX yD269 = true := ychks_cons (d := yD_269) (L := yD268) (M := xm150) rfl yk_269 yc_268
-- IceBoats.findings
def yD270 : List YD := yD_270 :: yD269
theorem yk_270 : ychk yKD (yct yB yD269) xMT xFT xSTX xm151 yD_270.2.1 yD_270.2.2.1 6000 = true := by decide +kernel
theorem yc_270 : ychks yKD yB xMT xFT xSTX yD270 = true := ychks_cons (d := yD_270) (L := yD269) (M := xm151) rfl yk_270 yc_269
-- IceBoats.digestBoats
def yD271 : List YD := yD_271 :: yD270
theorem yk_271 : ychk yKD (yct yB yD270) xMT xFT xSTX xm153 yD_271.2.1 yD_271.2.2.1 6000 = true := by decide +kernel
theorem yc_271 : ychks yKD yB xMT xFT xSTX yD271 = true := ychks_cons (d := yD_271) (L := yD270) (M := xm153) rfl yk_271 yc_270
-- IceBoats.digestWords
def yD272 : List YD := yD_272 :: yD271
theorem yk_272 : ychk yKD (yct yB yD271) xMT xFT xSTX xm154 yD_272.2.1 yD_272.2.2.1 6000 = true := by decide +kernel
theorem yc_272 : ychks yKD yB xMT xFT xSTX yD272 = true := ychks_cons (d := yD_272) (L := yD271) (M := xm154) rfl yk_272 yc_271
-- IceBoats.digestLooks
def yD273 : List YD := yD_273 :: yD272
theorem yk_273 : ychk yKD (yct yB yD272) xMT xFT xSTX xm155 yD_273.2.1 yD_273.2.2.1 6000 = true := by decide +kernel
theorem yc_273 : ychks yKD yB xMT xFT xSTX yD273 = true := ychks_cons (d := yD_273) (L := yD272) (M := xm155) rfl yk_273 yc_272
-- IceBoats.digestRows
def yD274 : List YD := yD_274 :: yD273
theorem yk_274 : ychk yKD (yct yB yD273) xMT xFT xSTX xm156 yD_274.2.1 yD_274.2.2.1 6000 = true := by decide +kernel
theorem yc_274 : ychks yKD yB xMT xFT xSTX yD274 = true := ychks_cons (d := yD_274) (L := yD273) (M := xm156) rfl yk_274 yc_273
-- IceBoats.digestRows
def yD275 : List YD := yD_275 :: yD274
theorem yk_275 : ychk yKD (yct yB yD274) xMT xFT xSTX xm156 yD_275.2.1 yD_275.2.2.1 6000 = true := by decide +kernel
theorem yc_275 : ychks yKD yB xMT xFT xSTX yD275 = true := ychks_cons (d := yD_275) (L := yD274) (M := xm156) rfl yk_275 yc_274
-- IceBoats.digest
def yD276 : List YD := yD_276 :: yD275
theorem yk_276 : ychk yKD (yct yB yD275) xMT xFT xSTX xm152 yD_276.2.1 yD_276.2.2.1 6000 = true := by decide +kernel
theorem yc_276 : ychks yKD yB xMT xFT xSTX yD276 = true := ychks_cons (d := yD_276) (L := yD275) (M := xm152) rfl yk_276 yc_275
-- IceBoatsModel.in
def yD277 : List YD := yD_277 :: yD276
theorem yk_277 : ychk yKD (yct yB yD276) xMT xFT xSTX xm160 yD_277.2.1 yD_277.2.2.1 6000 = true := by decide +kernel
theorem yc_277 : ychks yKD yB xMT xFT xSTX yD277 = true := ychks_cons (d := yD_277) (L := yD276) (M := xm160) rfl yk_277 yc_276
-- IceBoatsModel.isRow
def yD278 : List YD := yD_278 :: yD277
theorem yk_278 : ychk yKD (yct yB yD277) xMT xFT xSTX xm159 yD_278.2.1 yD_278.2.2.1 6000 = true := by decide +kernel
theorem yc_278 : ychks yKD yB xMT xFT xSTX yD278 = true := ychks_cons (d := yD_278) (L := yD277) (M := xm159) rfl yk_278 yc_277
-- IceBoatsModel.meets
def yD279 : List YD := yD_279 :: yD278
theorem yk_279 : ychk yKD (yct yB yD278) xMT xFT xSTX xm161 yD_279.2.1 yD_279.2.2.1 6000 = true := by decide +kernel
theorem yc_279 : ychks yKD yB xMT xFT xSTX yD279 = true := ychks_cons (d := yD_279) (L := yD278) (M := xm161) rfl yk_279 yc_278
-- IceBoatsModel.row
def yD280 : List YD := yD_280 :: yD279
theorem yk_280 : ychk yKD (yct yB yD279) xMT xFT xSTX xm158 yD_280.2.1 yD_280.2.2.1 6000 = true := by decide +kernel
theorem yc_280 : ychks yKD yB xMT xFT xSTX yD280 = true := ychks_cons (d := yD_280) (L := yD279) (M := xm158) rfl yk_280 yc_279
-- IceBoatsModel.askedRow
def yD281 : List YD := yD_281 :: yD280
theorem yk_281 : ychk yKD (yct yB yD280) xMT xFT xSTX xm163 yD_281.2.1 yD_281.2.2.1 6000 = true := by decide +kernel
theorem yc_281 : ychks yKD yB xMT xFT xSTX yD281 = true := ychks_cons (d := yD_281) (L := yD280) (M := xm163) rfl yk_281 yc_280
-- IceBoatsModel.rowAt
def yD282 : List YD := yD_282 :: yD281
theorem yk_282 : ychk yKD (yct yB yD281) xMT xFT xSTX xm164 yD_282.2.1 yD_282.2.2.1 6000 = true := by decide +kernel
theorem yc_282 : ychks yKD yB xMT xFT xSTX yD282 = true := ychks_cons (d := yD_282) (L := yD281) (M := xm164) rfl yk_282 yc_281
-- IceBoatsModel.lay
def yD283 : List YD := yD_283 :: yD282
theorem yk_283 : ychk yKD (yct yB yD282) xMT xFT xSTX xm162 yD_283.2.1 yD_283.2.2.1 6000 = true := by decide +kernel
theorem yc_283 : ychks yKD yB xMT xFT xSTX yD283 = true := ychks_cons (d := yD_283) (L := yD282) (M := xm162) rfl yk_283 yc_282
-- IceBoatsModel.tear
def yD284 : List YD := yD_284 :: yD283
theorem yk_284 : ychk yKD (yct yB yD283) xMT xFT xSTX xm165 yD_284.2.1 yD_284.2.2.1 6000 = true := by decide +kernel
theorem yc_284 : ychks yKD yB xMT xFT xSTX yD284 = true := ychks_cons (d := yD_284) (L := yD283) (M := xm165) rfl yk_284 yc_283
-- IceBoatsModel.copy
def yD285 : List YD := yD_285 :: yD284
theorem yk_285 : ychk yKD (yct yB yD284) xMT xFT xSTX xm166 yD_285.2.1 yD_285.2.2.1 6000 = true := by decide +kernel
theorem yc_285 : ychks yKD yB xMT xFT xSTX yD285 = true := ychks_cons (d := yD_285) (L := yD284) (M := xm166) rfl yk_285 yc_284
-- IceBoatsModel.ask
def yD286 : List YD := yD_286 :: yD285
theorem yk_286 : ychk yKD (yct yB yD285) xMT xFT xSTX xm168 yD_286.2.1 yD_286.2.2.1 6000 = true := by decide +kernel
theorem yc_286 : ychks yKD yB xMT xFT xSTX yD286 = true := ychks_cons (d := yD_286) (L := yD285) (M := xm168) rfl yk_286 yc_285
-- IceBoatsModel.mean
def yD287 : List YD := yD_287 :: yD286
theorem yk_287 : ychk yKD (yct yB yD286) xMT xFT xSTX xm167 yD_287.2.1 yD_287.2.2.1 6000 = true := by decide +kernel
theorem yc_287 : ychks yKD yB xMT xFT xSTX yD287 = true := ychks_cons (d := yD_287) (L := yD286) (M := xm167) rfl yk_287 yc_286
-- IceBoatsModel.isText
def yD288 : List YD := yD_288 :: yD287
theorem yk_288 : ychk yKD (yct yB yD287) xMT xFT xSTX xm170 yD_288.2.1 yD_288.2.2.1 6000 = true := by decide +kernel
theorem yc_288 : ychks yKD yB xMT xFT xSTX yD288 = true := ychks_cons (d := yD_288) (L := yD287) (M := xm170) rfl yk_288 yc_287
-- IceBoatsModel.text
def yD289 : List YD := yD_289 :: yD288
theorem yk_289 : ychk yKD (yct yB yD288) xMT xFT xSTX xm169 yD_289.2.1 yD_289.2.2.1 6000 = true := by decide +kernel
theorem yc_289 : ychks yKD yB xMT xFT xSTX yD289 = true := ychks_cons (d := yD_289) (L := yD288) (M := xm169) rfl yk_289 yc_288
-- IceBoatsModel.askedText
def yD290 : List YD := yD_290 :: yD289
theorem yk_290 : ychk yKD (yct yB yD289) xMT xFT xSTX xm172 yD_290.2.1 yD_290.2.2.1 6000 = true := by decide +kernel
theorem yc_290 : ychks yKD yB xMT xFT xSTX yD290 = true := ychks_cons (d := yD_290) (L := yD289) (M := xm172) rfl yk_290 yc_289
-- IceBoatsModel.put
def yD291 : List YD := yD_291 :: yD290
theorem yk_291 : ychk yKD (yct yB yD290) xMT xFT xSTX xm171 yD_291.2.1 yD_291.2.2.1 6000 = true := by decide +kernel
theorem yc_291 : ychks yKD yB xMT xFT xSTX yD291 = true := ychks_cons (d := yD_291) (L := yD290) (M := xm171) rfl yk_291 yc_290
-- IceBoatsModel.isCell
def yD292 : List YD := yD_292 :: yD291
theorem yk_292 : ychk yKD (yct yB yD291) xMT xFT xSTX xm174 yD_292.2.1 yD_292.2.2.1 6000 = true := by decide +kernel
theorem yc_292 : ychks yKD yB xMT xFT xSTX yD292 = true := ychks_cons (d := yD_292) (L := yD291) (M := xm174) rfl yk_292 yc_291
-- IceBoatsModel.isTaken
def yD293 : List YD := yD_293 :: yD292
theorem yk_293 : ychk yKD (yct yB yD292) xMT xFT xSTX xm175 yD_293.2.1 yD_293.2.2.1 6000 = true := by decide +kernel
theorem yc_293 : ychks yKD yB xMT xFT xSTX yD293 = true := ychks_cons (d := yD_293) (L := yD292) (M := xm175) rfl yk_293 yc_292
-- IceBoatsModel.rock
def yD294 : List YD := yD_294 :: yD293
theorem yk_294 : ychk yKD (yct yB yD293) xMT xFT xSTX xm173 yD_294.2.1 yD_294.2.2.1 6000 = true := by decide +kernel
theorem yc_294 : ychks yKD yB xMT xFT xSTX yD294 = true := ychks_cons (d := yD_294) (L := yD293) (M := xm173) rfl yk_294 yc_293
-- IceBoatsModel.isWay
def yD295 : List YD := yD_295 :: yD294
theorem yk_295 : ychk yKD (yct yB yD294) xMT xFT xSTX xm177 yD_295.2.1 yD_295.2.2.1 6000 = true := by decide +kernel
theorem yc_295 : ychks yKD yB xMT xFT xSTX yD295 = true := ychks_cons (d := yD_295) (L := yD294) (M := xm177) rfl yk_295 yc_294
-- IceBoatsModel.isIce
def yD296 : List YD := yD_296 :: yD295
theorem yk_296 : ychk yKD (yct yB yD295) xMT xFT xSTX xm178 yD_296.2.1 yD_296.2.2.1 6000 = true := by decide +kernel
theorem yc_296 : ychks yKD yB xMT xFT xSTX yD296 = true := ychks_cons (d := yD_296) (L := yD295) (M := xm178) rfl yk_296 yc_295
-- IceBoatsModel.cell
def yD297 : List YD := yD_297 :: yD296
theorem yk_297 : ychk yKD (yct yB yD296) xMT xFT xSTX xm176 yD_297.2.1 yD_297.2.2.1 6000 = true := by decide +kernel
theorem yc_297 : ychks yKD yB xMT xFT xSTX yD297 = true := ychks_cons (d := yD_297) (L := yD296) (M := xm176) rfl yk_297 yc_296
-- IceBoatsModel.seaTells
def yD298 : List YD := yD_298 :: yD297
theorem yk_298 : ychk yKD (yct yB yD297) xMT xFT xSTX xm180 yD_298.2.1 yD_298.2.2.1 6000 = true := by decide +kernel
theorem yc_298 : ychks yKD yB xMT xFT xSTX yD298 = true := ychks_cons (d := yD_298) (L := yD297) (M := xm180) rfl yk_298 yc_297
-- IceBoatsModel.sea
def yD299 : List YD := yD_299 :: yD298
theorem yk_299 : ychk yKD (yct yB yD298) xMT xFT xSTX xm179 yD_299.2.1 yD_299.2.2.1 6000 = true := by decide +kernel
theorem yc_299 : ychks yKD yB xMT xFT xSTX yD299 = true := ychks_cons (d := yD_299) (L := yD298) (M := xm179) rfl yk_299 yc_298
-- IceBoatsModel.chart
def yD300 : List YD := yD_300 :: yD299
theorem yk_300 : ychk yKD (yct yB yD299) xMT xFT xSTX xm181 yD_300.2.1 yD_300.2.2.1 6000 = true := by decide +kernel
theorem yc_300 : ychks yKD yB xMT xFT xSTX yD300 = true := ychks_cons (d := yD_300) (L := yD299) (M := xm181) rfl yk_300 yc_299
-- IceBoatsModel.hole
def yD301 : List YD := yD_301 :: yD300
theorem yk_301 : ychk yKD (yct yB yD300) xMT xFT xSTX xm182 yD_301.2.1 yD_301.2.2.1 6000 = true := by decide +kernel
theorem yc_301 : ychks yKD yB xMT xFT xSTX yD301 = true := ychks_cons (d := yD_301) (L := yD300) (M := xm182) rfl yk_301 yc_300
-- IceBoatsModel.seed
def yD302 : List YD := yD_302 :: yD301
theorem yk_302 : ychk yKD (yct yB yD301) xMT xFT xSTX xm183 yD_302.2.1 yD_302.2.2.1 6000 = true := by decide +kernel
theorem yc_302 : ychks yKD yB xMT xFT xSTX yD302 = true := ychks_cons (d := yD_302) (L := yD301) (M := xm183) rfl yk_302 yc_301
-- IceBoatsModel.leads
def yD303 : List YD := yD_303 :: yD302
theorem yk_303 : ychk yKD (yct yB yD302) xMT xFT xSTX xm186 yD_303.2.1 yD_303.2.2.1 6000 = true := by decide +kernel
theorem yc_303 : ychks yKD yB xMT xFT xSTX yD303 = true := ychks_cons (d := yD_303) (L := yD302) (M := xm186) rfl yk_303 yc_302
-- IceBoatsModel.setTimes
def yD304 : List YD := yD_304 :: yD303
theorem yk_304 : ychk yKD (yct yB yD303) xMT xFT xSTX xm185 yD_304.2.1 yD_304.2.2.1 6000 = true := by decide +kernel
theorem yc_304 : ychks yKD yB xMT xFT xSTX yD304 = true := ychks_cons (d := yD_304) (L := yD303) (M := xm185) rfl yk_304 yc_303
-- IceBoatsModel.time
def yD305 : List YD := yD_305 :: yD304
theorem yk_305 : ychk yKD (yct yB yD304) xMT xFT xSTX xm184 yD_305.2.1 yD_305.2.2.1 6000 = true := by decide +kernel
theorem yc_305 : ychks yKD yB xMT xFT xSTX yD305 = true := ychks_cons (d := yD_305) (L := yD304) (M := xm184) rfl yk_305 yc_304
-- IceBoatsModel.isBoat
def yD306 : List YD := yD_306 :: yD305
theorem yk_306 : ychk yKD (yct yB yD305) xMT xFT xSTX xm188 yD_306.2.1 yD_306.2.2.1 6000 = true := by decide +kernel
theorem yc_306 : ychks yKD yB xMT xFT xSTX yD306 = true := ychks_cons (d := yD_306) (L := yD305) (M := xm188) rfl yk_306 yc_305
-- IceBoatsModel.boat
def yD307 : List YD := yD_307 :: yD306
theorem yk_307 : ychk yKD (yct yB yD306) xMT xFT xSTX xm187 yD_307.2.1 yD_307.2.2.1 6000 = true := by decide +kernel
theorem yc_307 : ychks yKD yB xMT xFT xSTX yD307 = true := ychks_cons (d := yD_307) (L := yD306) (M := xm187) rfl yk_307 yc_306
-- IceBoatsModel.heldBy
def yD308 : List YD := yD_308 :: yD307
theorem yk_308 : ychk yKD (yct yB yD307) xMT xFT xSTX xm193 yD_308.2.1 yD_308.2.2.1 6000 = true := by decide +kernel
theorem yc_308 : ychks yKD yB xMT xFT xSTX yD308 = true := ychks_cons (d := yD_308) (L := yD307) (M := xm193) rfl yk_308 yc_307
-- IceBoatsModel.many
def yD309 : List YD := yD_309 :: yD308
theorem yk_309 : ychk yKD (yct yB yD308) xMT xFT xSTX xm191 yD_309.2.1 yD_309.2.2.1 6000 = true := by decide +kernel
theorem yc_309 : ychks yKD yB xMT xFT xSTX yD309 = true := ychks_cons (d := yD_309) (L := yD308) (M := xm191) rfl yk_309 yc_308
-- IceBoatsModel.boatTells
def yD310 : List YD := yD_310 :: yD309
theorem yk_310 : ychk yKD (yct yB yD309) xMT xFT xSTX xm190 yD_310.2.1 yD_310.2.2.1 6000 = true := by decide +kernel
theorem yc_310 : ychks yKD yB xMT xFT xSTX yD310 = true := ychks_cons (d := yD_310) (L := yD309) (M := xm190) rfl yk_310 yc_309
-- IceBoatsModel.told
def yD311 : List YD := yD_311 :: yD310
theorem yk_311 : ychk yKD (yct yB yD310) xMT xFT xSTX xm189 yD_311.2.1 yD_311.2.2.1 6000 = true := by decide +kernel
theorem yc_311 : ychks yKD yB xMT xFT xSTX yD311 = true := ychks_cons (d := yD_311) (L := yD310) (M := xm189) rfl yk_311 yc_310
-- IceBoatsModel.mark
def yD312 : List YD := yD_312 :: yD311
theorem yk_312 : ychk yKD (yct yB yD311) xMT xFT xSTX xm194 yD_312.2.1 yD_312.2.2.1 6000 = true := by decide +kernel
theorem yc_312 : ychks yKD yB xMT xFT xSTX yD312 = true := ychks_cons (d := yD_312) (L := yD311) (M := xm194) rfl yk_312 yc_311
-- IceBoatsModel.could
def yD313 : List YD := yD_313 :: yD312
theorem yk_313 : ychk yKD (yct yB yD312) xMT xFT xSTX xm195 yD_313.2.1 yD_313.2.2.1 6000 = true := by decide +kernel
theorem yc_313 : ychks yKD yB xMT xFT xSTX yD313 = true := ychks_cons (d := yD_313) (L := yD312) (M := xm195) rfl yk_313 yc_312
-- IceBoatsModel.isAble
def yD314 : List YD := yD_314 :: yD313
theorem yk_314 : ychk yKD (yct yB yD313) xMT xFT xSTX xm197 yD_314.2.1 yD_314.2.2.1 6000 = true := by decide +kernel
theorem yc_314 : ychks yKD yB xMT xFT xSTX yD314 = true := ychks_cons (d := yD_314) (L := yD313) (M := xm197) rfl yk_314 yc_313
-- IceBoatsModel.go
def yD315 : List YD := yD_315 :: yD314
theorem yk_315 : ychk yKD (yct yB yD314) xMT xFT xSTX xm196 yD_315.2.1 yD_315.2.2.1 6000 = true := by decide +kernel
theorem yc_315 : ychks yKD yB xMT xFT xSTX yD315 = true := ychks_cons (d := yD_315) (L := yD314) (M := xm196) rfl yk_315 yc_314
-- IceBoatsModel.isCarried
def yD316 : List YD := yD_316 :: yD315
theorem yk_316 : ychk yKD (yct yB yD315) xMT xFT xSTX xm200 yD_316.2.1 yD_316.2.2.1 6000 = true := by decide +kernel
theorem yc_316 : ychks yKD yB xMT xFT xSTX yD316 = true := ychks_cons (d := yD_316) (L := yD315) (M := xm200) rfl yk_316 yc_315
-- IceBoatsModel.moves
def yD317 : List YD := yD_317 :: yD316
theorem yk_317 : ychk yKD (yct yB yD316) xMT xFT xSTX xm199 yD_317.2.1 yD_317.2.2.1 6000 = true := by decide +kernel
theorem yc_317 : ychks yKD yB xMT xFT xSTX yD317 = true := ychks_cons (d := yD_317) (L := yD316) (M := xm199) rfl yk_317 yc_316
-- IceBoatsModel.least
def yD318 : List YD := yD_318 :: yD317
theorem yk_318 : ychk yKD (yct yB yD317) xMT xFT xSTX xm205 yD_318.2.1 yD_318.2.2.1 6000 = true := by decide +kernel
theorem yc_318 : ychks yKD yB xMT xFT xSTX yD318 = true := ychks_cons (d := yD_318) (L := yD317) (M := xm205) rfl yk_318 yc_317
-- IceBoatsModel.apart
def yD319 : List YD := yD_319 :: yD318
theorem yk_319 : ychk yKD (yct yB yD318) xMT xFT xSTX xm206 yD_319.2.1 yD_319.2.2.1 6000 = true := by decide +kernel
theorem yc_319 : ychks yKD yB xMT xFT xSTX yD319 = true := ychks_cons (d := yD_319) (L := yD318) (M := xm206) rfl yk_319 yc_318
-- IceBoatsModel.nearer
def yD320 : List YD := yD_320 :: yD319
theorem yk_320 : ychk yKD (yct yB yD319) xMT xFT xSTX xm204 yD_320.2.1 yD_320.2.2.1 6000 = true := by decide +kernel
theorem yc_320 : ychks yKD yB xMT xFT xSTX yD320 = true := ychks_cons (d := yD_320) (L := yD319) (M := xm204) rfl yk_320 yc_319
-- IceBoatsModel.keepsFar
def yD321 : List YD := yD_321 :: yD320
theorem yk_321 : ychk yKD (yct yB yD320) xMT xFT xSTX xm203 yD_321.2.1 yD_321.2.2.1 6000 = true := by decide +kernel
theorem yc_321 : ychks yKD yB xMT xFT xSTX yD321 = true := ychks_cons (d := yD_321) (L := yD320) (M := xm203) rfl yk_321 yc_320
-- IceBoatsModel.takes
def yD322 : List YD := yD_322 :: yD321
theorem yk_322 : ychk yKD (yct yB yD321) xMT xFT xSTX xm202 yD_322.2.1 yD_322.2.2.1 6000 = true := by decide +kernel
theorem yc_322 : ychks yKD yB xMT xFT xSTX yD322 = true := ychks_cons (d := yD_322) (L := yD321) (M := xm202) rfl yk_322 yc_321
-- IceBoatsModel.hears
def yD323 : List YD := yD_323 :: yD322
theorem yk_323 : ychk yKD (yct yB yD322) xMT xFT xSTX xm201 yD_323.2.1 yD_323.2.2.1 6000 = true := by decide +kernel
theorem yc_323 : ychks yKD yB xMT xFT xSTX yD323 = true := ychks_cons (d := yD_323) (L := yD322) (M := xm201) rfl yk_323 yc_322
-- IceBoatsModel.tick
def yD324 : List YD := yD_324 :: yD323
theorem yk_324 : ychk yKD (yct yB yD323) xMT xFT xSTX xm198 yD_324.2.1 yD_324.2.2.1 6000 = true := by decide +kernel
theorem yc_324 : ychks yKD yB xMT xFT xSTX yD324 = true := ychks_cons (d := yD_324) (L := yD323) (M := xm198) rfl yk_324 yc_323
-- IceBoatsModel.look
def yD325 : List YD := yD_325 :: yD324
theorem yk_325 : ychk yKD (yct yB yD324) xMT xFT xSTX xm207 yD_325.2.1 yD_325.2.2.1 6000 = true := by decide +kernel
theorem yc_325 : ychks yKD yB xMT xFT xSTX yD325 = true := ychks_cons (d := yD_325) (L := yD324) (M := xm207) rfl yk_325 yc_324
-- IceBoatsModel.isLook
def yD326 : List YD := yD_326 :: yD325
theorem yk_326 : ychk yKD (yct yB yD325) xMT xFT xSTX xm209 yD_326.2.1 yD_326.2.2.1 6000 = true := by decide +kernel
theorem yc_326 : ychks yKD yB xMT xFT xSTX yD326 = true := ychks_cons (d := yD_326) (L := yD325) (M := xm209) rfl yk_326 yc_325
-- IceBoatsModel.lookTells
def yD327 : List YD := yD_327 :: yD326
theorem yk_327 : ychk yKD (yct yB yD326) xMT xFT xSTX xm210 yD_327.2.1 yD_327.2.2.1 6000 = true := by decide +kernel
theorem yc_327 : ychks yKD yB xMT xFT xSTX yD327 = true := ychks_cons (d := yD_327) (L := yD326) (M := xm210) rfl yk_327 yc_326
-- IceBoatsModel.looked
def yD328 : List YD := yD_328 :: yD327
theorem yk_328 : ychk yKD (yct yB yD327) xMT xFT xSTX xm208 yD_328.2.1 yD_328.2.2.1 6000 = true := by decide +kernel
theorem yc_328 : ychks yKD yB xMT xFT xSTX yD328 = true := ychks_cons (d := yD_328) (L := yD327) (M := xm208) rfl yk_328 yc_327
-- IceBoatsModel.match
def yD329 : List YD := yD_329 :: yD328
theorem yk_329 : ychk yKD (yct yB yD328) xMT xFT xSTX xm211 yD_329.2.1 yD_329.2.2.1 6000 = true := by decide +kernel
theorem yc_329 : ychks yKD yB xMT xFT xSTX yD329 = true := ychks_cons (d := yD_329) (L := yD328) (M := xm211) rfl yk_329 yc_328
-- IceBoatsModel.home
def yD330 : List YD := yD_330 :: yD329
theorem yk_330 : ychk yKD (yct yB yD329) xMT xFT xSTX xm212 yD_330.2.1 yD_330.2.2.1 6000 = true := by decide +kernel
theorem yc_330 : ychks yKD yB xMT xFT xSTX yD330 = true := ychks_cons (d := yD_330) (L := yD329) (M := xm212) rfl yk_330 yc_329
-- IceBoatsModel.isSaid
def yD331 : List YD := yD_331 :: yD330
theorem yk_331 : ychk yKD (yct yB yD330) xMT xFT xSTX xm214 yD_331.2.1 yD_331.2.2.1 6000 = true := by decide +kernel
theorem yc_331 : ychks yKD yB xMT xFT xSTX yD331 = true := ychks_cons (d := yD_331) (L := yD330) (M := xm214) rfl yk_331 yc_330
-- IceBoatsModel.say
def yD332 : List YD := yD_332 :: yD331
theorem yk_332 : ychk yKD (yct yB yD331) xMT xFT xSTX xm213 yD_332.2.1 yD_332.2.2.1 6000 = true := by decide +kernel
theorem yc_332 : ychks yKD yB xMT xFT xSTX yD332 = true := ychks_cons (d := yD_332) (L := yD331) (M := xm213) rfl yk_332 yc_331
-- IceBoatsModel.isWord
def yD333 : List YD := yD_333 :: yD332
theorem yk_333 : ychk yKD (yct yB yD332) xMT xFT xSTX xm216 yD_333.2.1 yD_333.2.2.1 6000 = true := by decide +kernel
theorem yc_333 : ychks yKD yB xMT xFT xSTX yD333 = true := ychks_cons (d := yD_333) (L := yD332) (M := xm216) rfl yk_333 yc_332
-- IceBoatsModel.wordTells
def yD334 : List YD := yD_334 :: yD333
theorem yk_334 : ychk yKD (yct yB yD333) xMT xFT xSTX xm217 yD_334.2.1 yD_334.2.2.1 6000 = true := by decide +kernel
theorem yc_334 : ychks yKD yB xMT xFT xSTX yD334 = true := ychks_cons (d := yD_334) (L := yD333) (M := xm217) rfl yk_334 yc_333
-- IceBoatsModel.word
def yD335 : List YD := yD_335 :: yD334
theorem yk_335 : ychk yKD (yct yB yD334) xMT xFT xSTX xm215 yD_335.2.1 yD_335.2.2.1 6000 = true := by decide +kernel
theorem yc_335 : ychks yKD yB xMT xFT xSTX yD335 = true := ychks_cons (d := yD_335) (L := yD334) (M := xm215) rfl yk_335 yc_334
-- IceBoatsModel.tells
def yD336 : List YD := yD_336 :: yD335
theorem yk_336 : ychk yKD (yct yB yD335) xMT xFT xSTX xm218 yD_336.2.1 yD_336.2.2.1 6000 = true := by decide +kernel
theorem yc_336 : ychks yKD yB xMT xFT xSTX yD336 = true := ychks_cons (d := yD_336) (L := yD335) (M := xm218) rfl yk_336 yc_335
