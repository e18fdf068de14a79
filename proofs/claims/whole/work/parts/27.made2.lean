def gC260 : pGG := newG gC237 (12, 0)
def mC260 : pMI := newR mC259 gC237.1 0
def lC260 : pML := newR lC236 gC237.1 0
def mC261 : pMI := up2 mC260 87 3 (-1)
def gC262 : pGG := newG gC260 (20, 600)
def mC262 : pMI := newR mC261 gC260.1 0
def lC262 : pML := newR lC260 gC260.1 0
def gC263 : pGG := (gC262.1, gC262.2.1, up2 gC262.2.2 87 9 (some 88))
def gC264 : pGG := newG gC263 (20, 3)
def mC264 : pMI := newR mC262 gC263.1 0
def lC264 : pML := newR lC262 gC263.1 0
def gC265 : pGG := (gC264.1, gC264.2.1, up2 gC264.2.2 87 10 (some 89))
def gC266 : pGG := newG gC265 (20, 5)
def mC266 : pMI := newR mC264 gC265.1 0
def lC266 : pML := newR lC264 gC265.1 0
def gC267 : pGG := (gC266.1, gC266.2.1, up2 gC266.2.2 87 11 (some 90))
def gC268 : pGG := newG gC267 (20, 5)
def mC268 : pMI := newR mC266 gC267.1 0
def lC268 : pML := newR lC266 gC267.1 0
def gC269 : pGG := (gC268.1, gC268.2.1, up2 gC268.2.2 87 12 (some 91))
def gC270 : pGG := mulG gC269 8 2
def mC270 : pMI := mulR mC268 gC269.1 8 0
def lC270 : pML := mulR lC268 gC269.1 8 0
def gC271 : pGG := (gC270.1, gC270.2.1, up2 gC270.2.2 87 13 (some 92))
def gC272 : pGG := mulG gC271 9 2
def mC272 : pMI := mulR mC270 gC271.1 9 0
def lC272 : pML := mulR lC270 gC271.1 9 0
def gC273 : pGG := (gC272.1, gC272.2.1, up2 gC272.2.2 87 14 (some 101))
def gC274 : pGG := mulG gC273 8 4
def mC274 : pMI := mulR mC272 gC273.1 8 0
def lC274 : pML := mulR lC272 gC273.1 8 0
def gC275 : pGG := (gC274.1, gC274.2.1, up2 gC274.2.2 87 15 (some 111))
def gC276 : pGG := mulG gC275 8 4
def mC276 : pMI := mulR mC274 gC275.1 8 0
def lC276 : pML := mulR lC274 gC275.1 8 0
def gC277 : pGG := (gC276.1, gC276.2.1, up2 gC276.2.2 87 16 (some 120))
def gC278 : pGG := newG gC277 (20, 8)
def mC278 : pMI := newR mC276 gC277.1 0
def lC278 : pML := newR lC276 gC277.1 0
def gC279 : pGG := (gC278.1, gC278.2.1, up2 gC278.2.2 87 17 (some 129))
def gC280 : pGG := newG gC279 (20, 160)
def mC280 : pMI := newR mC278 gC279.1 0
def lC280 : pML := newR lC278 gC279.1 0
def gC281 : pGG := (gC280.1, gC280.2.1, up2 gC280.2.2 87 18 (some 130))
def gC282 : pGG := newG gC281 (20, 11)
def mC282 : pMI := newR mC280 gC281.1 0
def lC282 : pML := newR lC280 gC281.1 0
def gC283 : pGG := (gC282.1, gC282.2.1, up2 gC282.2.2 87 19 (some 131))
def gC284 : pGG := newG gC283 (20, 320)
def mC284 : pMI := newR mC282 gC283.1 0
def lC284 : pML := newR lC282 gC283.1 0
def gC285 : pGG := (gC284.1, gC284.2.1, up2 gC284.2.2 87 20 (some 132))
def gC286 : pGG := mulG gC285 8 320
def mC286 : pMI := mulR mC284 gC285.1 8 0
def lC286 : pML := mulR lC284 gC285.1 8 0
def gC287 : pGG := (gC286.1, gC286.2.1, up2 gC286.2.2 87 21 (some 133))
def gC288 : pGG := mulG gC287 12 3
def mC288 : pMI := mulR mC286 gC287.1 12 0
def lC288 : pML := mulR lC286 gC287.1 12 0
def gC289 : pGG := (gC288.1, gC288.2.1, up2 gC288.2.2 87 22 (some 142))
def gC290 : pGG := mulG gC289 12 3
def mC290 : pMI := mulR mC288 gC289.1 12 0
def lC290 : pML := mulR lC288 gC289.1 12 0
def gC291 : pGG := (gC290.1, gC290.2.1, up2 gC290.2.2 87 23 (some 155))
def gC292 : pGG := mulG gC291 20 11
def mC292 : pMI := mulR mC290 gC291.1 20 0
def lC292 : pML := mulR lC290 gC291.1 20 0
def gC293 : pGG := (gC292.1, gC292.2.1, up2 gC292.2.2 87 24 (some 168))
def gC294 : pGG := mulG gC293 3 233
def mC294 : pMI := mulR mC292 gC293.1 3 0
def lC294 : pML := mulR lC292 gC293.1 3 0
def gC295 : pGG := (gC294.1, gC294.2.1, up2 gC294.2.2 87 25 (some 189))
def gC296 : pGG := newG gC295 (22, 8)
def mC296 : pMI := newR mC294 gC295.1 0
def lC296 : pML := newR lC294 gC295.1 0
def gC297 : pGG := (gC296.1, gC296.2.1, up2 gC296.2.2 87 26 (some 193))
def gC298 : pGG := newG gC297 (20, 8)
def mC298 : pMI := newR mC296 gC297.1 0
def lC298 : pML := newR lC296 gC297.1 0
def gC299 : pGG := (gC298.1, gC298.2.1, up2 gC298.2.2 87 34 (some 194))
def gC300 : pGG := newG gC299 (20, 8)
def mC300 : pMI := newR mC298 gC299.1 0
def lC300 : pML := newR lC298 gC299.1 0
def gC301 : pGG := (gC300.1, gC300.2.1, up2 gC300.2.2 87 35 (some 195))
def gC302 : pGG := newG gC301 (20, 8)
def mC302 : pMI := newR mC300 gC301.1 0
def lC302 : pML := newR lC300 gC301.1 0
def gC303 : pGG := (gC302.1, gC302.2.1, up2 gC302.2.2 87 36 (some 196))
def gC304 : pGG := newG gC303 (20, 8)
def mC304 : pMI := newR mC302 gC303.1 0
def lC304 : pML := newR lC302 gC303.1 0
def gC305 : pGG := (gC304.1, gC304.2.1, up2 gC304.2.2 87 37 (some 197))
def gC306 : pGG := newG gC305 (20, 8)
def mC306 : pMI := newR mC304 gC305.1 0
def lC306 : pML := newR lC304 gC305.1 0
def gC307 : pGG := (gC306.1, gC306.2.1, up2 gC306.2.2 87 38 (some 198))
def gC308 : pGG := newG gC307 (20, 8)
def mC308 : pMI := newR mC306 gC307.1 0
def lC308 : pML := newR lC306 gC307.1 0
def gC309 : pGG := (gC308.1, gC308.2.1, up2 gC308.2.2 87 39 (some 199))
def gC310 : pGG := newG gC309 (20, 8)
def mC310 : pMI := newR mC308 gC309.1 0
def lC310 : pML := newR lC308 gC309.1 0
def gC311 : pGG := (gC310.1, gC310.2.1, up2 gC310.2.2 87 40 (some 200))
def gC312 : pGG := newG gC311 (20, 8)
def mC312 : pMI := newR mC310 gC311.1 0
def lC312 : pML := newR lC310 gC311.1 0
def gC313 : pGG := (gC312.1, gC312.2.1, up2 gC312.2.2 87 41 (some 201))
def gC314 : pGG := newG gC313 (20, 8)
def mC314 : pMI := newR mC312 gC313.1 0
def lC314 : pML := newR lC312 gC313.1 0
def gC315 : pGG := (gC314.1, gC314.2.1, up2 gC314.2.2 87 42 (some 202))
def gC316 : pGG := newG gC315 (20, 8)
def mC316 : pMI := newR mC314 gC315.1 0
def lC316 : pML := newR lC314 gC315.1 0
def gC317 : pGG := (gC316.1, gC316.2.1, up2 gC316.2.2 87 43 (some 203))
def gC318 : pGG := newG gC317 (20, 8)
def mC318 : pMI := newR mC316 gC317.1 0
def lC318 : pML := newR lC316 gC317.1 0
def gC319 : pGG := (gC318.1, gC318.2.1, up2 gC318.2.2 87 44 (some 204))
def gC320 : pGG := newG gC319 (20, 8)
def mC320 : pMI := newR mC318 gC319.1 0
def lC320 : pML := newR lC318 gC319.1 0
def gC321 : pGG := (gC320.1, gC320.2.1, up2 gC320.2.2 87 45 (some 205))
def gC322 : pGG := newG gC321 (20, 8)
def mC322 : pMI := newR mC320 gC321.1 0
def lC322 : pML := newR lC320 gC321.1 0
def gC323 : pGG := (gC322.1, gC322.2.1, up2 gC322.2.2 87 46 (some 206))
def gC324 : pGG := newG gC323 (20, 8)
def mC324 : pMI := newR mC322 gC323.1 0
def lC324 : pML := newR lC322 gC323.1 0
def gC325 : pGG := (gC324.1, gC324.2.1, up2 gC324.2.2 87 47 (some 207))
def gC326 : pGG := newG gC325 (20, 8)
def mC326 : pMI := newR mC324 gC325.1 0
def lC326 : pML := newR lC324 gC325.1 0
def gC327 : pGG := (gC326.1, gC326.2.1, up2 gC326.2.2 87 48 (some 208))
def gC328 : pGG := newG gC327 (20, 24)
def mC328 : pMI := newR mC326 gC327.1 0
def lC328 : pML := newR lC326 gC327.1 0
def gC329 : pGG := (gC328.1, gC328.2.1, up2 gC328.2.2 87 49 (some 209))
def gC330 : pGG := mulG gC329 8 24
def mC330 : pMI := mulR mC328 gC329.1 8 0
def lC330 : pML := mulR lC328 gC329.1 8 0
def gC331 : pGG := (gC330.1, gC330.2.1, up2 gC330.2.2 87 50 (some 210))
def gC332 : pGG := mulG gC331 8 24
def mC332 : pMI := mulR mC330 gC331.1 8 0
def lC332 : pML := mulR lC330 gC331.1 8 0
def gC333 : pGG := (gC332.1, gC332.2.1, up2 gC332.2.2 87 51 (some 219))
def gC334 : pGG := newG gC333 (22, 8)
def mC334 : pMI := newR mC332 gC333.1 0
def lC334 : pML := newR lC332 gC333.1 0
def gC335 : pGG := (gC334.1, gC334.2.1, up2 gC334.2.2 87 52 (some 228))
def gC336 : pGG := newG gC335 (20, 8)
def mC336 : pMI := newR mC334 gC335.1 0
def lC336 : pML := newR lC334 gC335.1 0
def gC337 : pGG := (gC336.1, gC336.2.1, up2 gC336.2.2 87 54 (some 229))
def gC338 : pGG := newG gC337 (20, 8)
def mC338 : pMI := newR mC336 gC337.1 0
def lC338 : pML := newR lC336 gC337.1 0
def gC339 : pGG := (gC338.1, gC338.2.1, up2 gC338.2.2 87 55 (some 230))
def gC340 : pGG := mulG gC339 200 32
def mC340 : pMI := mulR mC338 gC339.1 200 0
def lC340 : pML := mulR lC338 gC339.1 200 0
def gC341 : pGG := (gC340.1, gC340.2.1, up2 gC340.2.2 87 56 (some 231))
def gC342 : pGG := mulG gC341 4 4096
def mC342 : pMI := mulR mC340 gC341.1 4 0
def lC342 : pML := mulR lC340 gC341.1 4 0
def gC343 : pGG := (gC342.1, gC342.2.1, up2 gC342.2.2 87 57 (some 432))
def gC344 : pGG := mulG gC343 9 512
def mC344 : pMI := mulR mC342 gC343.1 9 0
def lC344 : pML := mulR lC342 gC343.1 9 0
def gC345 : pGG := (gC344.1, gC344.2.1, up2 gC344.2.2 87 58 (some 437))
def gC346 : pGG := newG gC345 (20, 8)
def mC346 : pMI := newR mC344 gC345.1 0
def lC346 : pML := newR lC344 gC345.1 0
def gC347 : pGG := (gC346.1, gC346.2.1, up2 gC346.2.2 87 59 (some 447))
def gC348 : pGG := newG gC347 (20, 8)
def mC348 : pMI := newR mC346 gC347.1 0
def lC348 : pML := newR lC346 gC347.1 0
def gC349 : pGG := (gC348.1, gC348.2.1, up2 gC348.2.2 87 61 (some 448))
def gC350 : pGG := newG gC349 (22, 12)
def mC350 : pMI := newR mC348 gC349.1 0
def lC350 : pML := newR lC348 gC349.1 0
def gC351 : pGG := (gC350.1, gC350.2.1, up2 gC350.2.2 87 62 (some 449))
def mC352 : pMI := up2 mC350 90 0 (nI 0)
def mC353 : pMI := up2 mC352 90 1 (nI 0)
def mC354 : pMI := up2 mC353 90 2 (nI 0)
def mC355 : pMI := up2 mC354 90 3 (nI 0)
def mC356 : pMI := up2 mC355 90 4 (nI 0)
def mC357 : pMI := up2 mC356 90 3 (nI 2)
set_option maxRecDepth 100000 in
set_option maxHeartbeats 4000000 in
theorem ct22_X12_tellsNothing (Γ : pTG) : CT Γ 1 0 0 mX12_tellsNothing [.ref 87] gC351 mC350 lC350 (fun o g' mi' ml' => o = .inl none ∧ g' = gC351 ∧ mi' = mC357 ∧ ml' = lC350) := by
  refine CT_of (by decide +kernel) (Nat.le_of_ble_eq_true rfl) ?_
  refine X_iconst (v := nI 0) dX12_tellsNothing_0 (by decide) ?_
  refine X_istore_n dX12_tellsNothing_1 (by decide) ?_
  refine X_iload_n dX12_tellsNothing_2 rfl ?_
  refine X_iconst (v := nI 5) dX12_tellsNothing_3 (by decide) ?_
  refine X_icmp_ge 20 dX12_tellsNothing_4 (by decide) (fun h => absurd h (by decide)) (fun _ => ?_)
  refine X_aload_n dX12_tellsNothing_7 rfl ?_
  refine X_getr (a := 90) (z := 0) dX12_tellsNothing_8 fkX12_20 rfl (by decide +kernel) (by decide +kernel) ?_
  refine X_iload_n dX12_tellsNothing_11 rfl ?_
  refine X_iconst (v := nI 0) dX12_tellsNothing_12 (by decide) ?_
  refine X_iast (len := 5) 0 dX12_tellsNothing_13 (by decide +kernel) rfl (by decide) ?_
  refine X_gml (g' := gC351) (mi' := mC352) (ml' := lC350) rfl rfl rfl ?_
  refine X_iinc (v := nI 1) dX12_tellsNothing_14 rfl (by decide) (by decide) ?_
  refine X_goto 2 dX12_tellsNothing_17 (by decide) ?_
  refine X_iload_n dX12_tellsNothing_2 rfl ?_
  refine X_iconst (v := nI 5) dX12_tellsNothing_3 (by decide) ?_
  refine X_icmp_ge 20 dX12_tellsNothing_4 (by decide) (fun h => absurd h (by decide)) (fun _ => ?_)
  refine X_aload_n dX12_tellsNothing_7 rfl ?_
  refine X_getr (a := 90) (z := 0) dX12_tellsNothing_8 fkX12_20 rfl (by decide +kernel) (by decide +kernel) ?_
  refine X_iload_n dX12_tellsNothing_11 rfl ?_
  refine X_iconst (v := nI 0) dX12_tellsNothing_12 (by decide) ?_
  refine X_iast (len := 5) 1 dX12_tellsNothing_13 (by decide +kernel) rfl (by decide) ?_
  refine X_gml (g' := gC351) (mi' := mC353) (ml' := lC350) rfl rfl rfl ?_
  refine X_iinc (v := nI 2) dX12_tellsNothing_14 rfl (by decide) (by decide) ?_
  refine X_goto 2 dX12_tellsNothing_17 (by decide) ?_
  refine X_iload_n dX12_tellsNothing_2 rfl ?_
  refine X_iconst (v := nI 5) dX12_tellsNothing_3 (by decide) ?_
  refine X_icmp_ge 20 dX12_tellsNothing_4 (by decide) (fun h => absurd h (by decide)) (fun _ => ?_)
  refine X_aload_n dX12_tellsNothing_7 rfl ?_
  refine X_getr (a := 90) (z := 0) dX12_tellsNothing_8 fkX12_20 rfl (by decide +kernel) (by decide +kernel) ?_
  refine X_iload_n dX12_tellsNothing_11 rfl ?_
  refine X_iconst (v := nI 0) dX12_tellsNothing_12 (by decide) ?_
  refine X_iast (len := 5) 2 dX12_tellsNothing_13 (by decide +kernel) rfl (by decide) ?_
  refine X_gml (g' := gC351) (mi' := mC354) (ml' := lC350) rfl rfl rfl ?_
  refine X_iinc (v := nI 3) dX12_tellsNothing_14 rfl (by decide) (by decide) ?_
  refine X_goto 2 dX12_tellsNothing_17 (by decide) ?_
  refine X_iload_n dX12_tellsNothing_2 rfl ?_
  refine X_iconst (v := nI 5) dX12_tellsNothing_3 (by decide) ?_
  refine X_icmp_ge 20 dX12_tellsNothing_4 (by decide) (fun h => absurd h (by decide)) (fun _ => ?_)
  refine X_aload_n dX12_tellsNothing_7 rfl ?_
  refine X_getr (a := 90) (z := 0) dX12_tellsNothing_8 fkX12_20 rfl (by decide +kernel) (by decide +kernel) ?_
  refine X_iload_n dX12_tellsNothing_11 rfl ?_
  refine X_iconst (v := nI 0) dX12_tellsNothing_12 (by decide) ?_
  refine X_iast (len := 5) 3 dX12_tellsNothing_13 (by decide +kernel) rfl (by decide) ?_
  refine X_gml (g' := gC351) (mi' := mC355) (ml' := lC350) rfl rfl rfl ?_
  refine X_iinc (v := nI 4) dX12_tellsNothing_14 rfl (by decide) (by decide) ?_
  refine X_goto 2 dX12_tellsNothing_17 (by decide) ?_
  refine X_iload_n dX12_tellsNothing_2 rfl ?_
  refine X_iconst (v := nI 5) dX12_tellsNothing_3 (by decide) ?_
  refine X_icmp_ge 20 dX12_tellsNothing_4 (by decide) (fun h => absurd h (by decide)) (fun _ => ?_)
  refine X_aload_n dX12_tellsNothing_7 rfl ?_
  refine X_getr (a := 90) (z := 0) dX12_tellsNothing_8 fkX12_20 rfl (by decide +kernel) (by decide +kernel) ?_
  refine X_iload_n dX12_tellsNothing_11 rfl ?_
  refine X_iconst (v := nI 0) dX12_tellsNothing_12 (by decide) ?_
  refine X_iast (len := 5) 4 dX12_tellsNothing_13 (by decide +kernel) rfl (by decide) ?_
  refine X_gml (g' := gC351) (mi' := mC356) (ml' := lC350) rfl rfl rfl ?_
  refine X_iinc (v := nI 5) dX12_tellsNothing_14 rfl (by decide) (by decide) ?_
  refine X_goto 2 dX12_tellsNothing_17 (by decide) ?_
  refine X_iload_n dX12_tellsNothing_2 rfl ?_
  refine X_iconst (v := nI 5) dX12_tellsNothing_3 (by decide) ?_
  refine X_icmp_ge 20 dX12_tellsNothing_4 (by decide) (fun _ => ?_) (fun h => absurd h (by decide))
  refine X_aload_n dX12_tellsNothing_20 rfl ?_
  refine X_getr (a := 90) (z := 0) dX12_tellsNothing_21 fkX12_20 rfl (by decide +kernel) (by decide +kernel) ?_
  refine X_iconst (v := nI 3) dX12_tellsNothing_24 (by decide) ?_
  refine X_iconst (v := nI 2) dX12_tellsNothing_25 (by decide) ?_
  refine X_iast (len := 5) 3 dX12_tellsNothing_26 (by decide +kernel) rfl (by decide) ?_
  refine X_gml (g' := gC351) (mi' := mC357) (ml' := lC350) rfl rfl rfl ?_
  exact X_vret dX12_tellsNothing_27 rfl ⟨rfl, rfl, rfl, rfl⟩
def mC358 : pMI := up2 mC357 91 0 (nI 0)
def mC359 : pMI := up2 mC358 91 1 (nI 0)
def mC360 : pMI := up2 mC359 91 2 (nI 0)
def mC361 : pMI := up2 mC360 91 3 (nI 2)
def mC362 : pMI := up2 mC361 91 4 (nI 0)
def mC363 : pMI := up2 mC362 129 0 (nI 0)
def mC364 : pMI := up2 mC363 193 0 (nI 0)
def mC365 : pMI := up2 mC364 129 1 (nI 0)
def mC366 : pMI := up2 mC365 193 1 (nI 0)
def mC367 : pMI := up2 mC366 129 2 (nI 0)
def mC368 : pMI := up2 mC367 193 2 (nI 0)
def mC369 : pMI := up2 mC368 129 3 (nI 0)
def mC370 : pMI := up2 mC369 193 3 (nI 0)
def mC371 : pMI := up2 mC370 129 4 (nI 0)
def mC372 : pMI := up2 mC371 193 4 (nI 0)
def mC373 : pMI := up2 mC372 129 5 (nI 0)
def mC374 : pMI := up2 mC373 193 5 (nI 0)
def mC375 : pMI := up2 mC374 129 6 (nI 0)
def mC376 : pMI := up2 mC375 193 6 (nI 0)
def mC377 : pMI := up2 mC376 129 7 (nI 0)
def mC378 : pMI := up2 mC377 193 7 (nI 0)
def mC379 : pMI := up2 mC378 87 28 (nI 0)
def mC380 : pMI := up2 mC379 87 29 (nI 0)
def mC381 : pMI := up2 mC380 87 30 (nI 0)
def mC382 : pMI := up2 mC381 87 31 (nI 0)
set_option maxRecDepth 100000 in
set_option maxHeartbeats 4000000 in
theorem ct23_X12_stands (Γ : pTG) : CT Γ 1 0 0 mX12_stands [.ref 87] gC351 mC357 lC350 (fun o g' mi' ml' => o = .inl none ∧ g' = gC351 ∧ mi' = mC382 ∧ ml' = lC350) := by
  refine CT_of (by decide +kernel) (Nat.le_of_ble_eq_true rfl) ?_
  refine X_iconst (v := nI 0) dX12_stands_0 (by decide) ?_
  refine X_istore_n dX12_stands_1 (by decide) ?_
  refine X_iload_n dX12_stands_2 rfl ?_
  refine X_iconst (v := nI 5) dX12_stands_3 (by decide) ?_
  refine X_icmp_ge 25 dX12_stands_4 (by decide) (fun h => absurd h (by decide)) (fun _ => ?_)
  refine X_aload_n dX12_stands_7 rfl ?_
  refine X_getr (a := 91) (z := 0) dX12_stands_8 fkX12_23 rfl (by decide +kernel) (by decide +kernel) ?_
  refine X_iload_n dX12_stands_11 rfl ?_
  refine X_aload_n dX12_stands_12 rfl ?_
  refine X_getr (a := 90) (z := 0) dX12_stands_13 fkX12_20 rfl (by decide +kernel) (by decide +kernel) ?_
  refine X_iload_n dX12_stands_16 rfl ?_
  refine X_iald (len := 5) 0 dX12_stands_17 (by decide +kernel) rfl (by decide) ?_
  refine X_topi (y := nI 0) (by decide +kernel) ?_
  refine X_iast (len := 5) 0 dX12_stands_18 (by decide +kernel) rfl (by decide) ?_
  refine X_gml (g' := gC351) (mi' := mC358) (ml' := lC350) rfl rfl rfl ?_
  refine X_iinc (v := nI 1) dX12_stands_19 rfl (by decide) (by decide) ?_
  refine X_goto 2 dX12_stands_22 (by decide) ?_
  refine X_iload_n dX12_stands_2 rfl ?_
  refine X_iconst (v := nI 5) dX12_stands_3 (by decide) ?_
  refine X_icmp_ge 25 dX12_stands_4 (by decide) (fun h => absurd h (by decide)) (fun _ => ?_)
  refine X_aload_n dX12_stands_7 rfl ?_
  refine X_getr (a := 91) (z := 0) dX12_stands_8 fkX12_23 rfl (by decide +kernel) (by decide +kernel) ?_
  refine X_iload_n dX12_stands_11 rfl ?_
  refine X_aload_n dX12_stands_12 rfl ?_
  refine X_getr (a := 90) (z := 0) dX12_stands_13 fkX12_20 rfl (by decide +kernel) (by decide +kernel) ?_
  refine X_iload_n dX12_stands_16 rfl ?_
  refine X_iald (len := 5) 1 dX12_stands_17 (by decide +kernel) rfl (by decide) ?_
  refine X_topi (y := nI 0) (by decide +kernel) ?_
  refine X_iast (len := 5) 1 dX12_stands_18 (by decide +kernel) rfl (by decide) ?_
  refine X_gml (g' := gC351) (mi' := mC359) (ml' := lC350) rfl rfl rfl ?_
  refine X_iinc (v := nI 2) dX12_stands_19 rfl (by decide) (by decide) ?_
  refine X_goto 2 dX12_stands_22 (by decide) ?_
  refine X_iload_n dX12_stands_2 rfl ?_
  refine X_iconst (v := nI 5) dX12_stands_3 (by decide) ?_
  refine X_icmp_ge 25 dX12_stands_4 (by decide) (fun h => absurd h (by decide)) (fun _ => ?_)
  refine X_aload_n dX12_stands_7 rfl ?_
  refine X_getr (a := 91) (z := 0) dX12_stands_8 fkX12_23 rfl (by decide +kernel) (by decide +kernel) ?_
  refine X_iload_n dX12_stands_11 rfl ?_
  refine X_aload_n dX12_stands_12 rfl ?_
  refine X_getr (a := 90) (z := 0) dX12_stands_13 fkX12_20 rfl (by decide +kernel) (by decide +kernel) ?_
  refine X_iload_n dX12_stands_16 rfl ?_
  refine X_iald (len := 5) 2 dX12_stands_17 (by decide +kernel) rfl (by decide) ?_
  refine X_topi (y := nI 0) (by decide +kernel) ?_
  refine X_iast (len := 5) 2 dX12_stands_18 (by decide +kernel) rfl (by decide) ?_
  refine X_gml (g' := gC351) (mi' := mC360) (ml' := lC350) rfl rfl rfl ?_
  refine X_iinc (v := nI 3) dX12_stands_19 rfl (by decide) (by decide) ?_
  refine X_goto 2 dX12_stands_22 (by decide) ?_
  refine X_iload_n dX12_stands_2 rfl ?_
  refine X_iconst (v := nI 5) dX12_stands_3 (by decide) ?_
  refine X_icmp_ge 25 dX12_stands_4 (by decide) (fun h => absurd h (by decide)) (fun _ => ?_)
  refine X_aload_n dX12_stands_7 rfl ?_
  refine X_getr (a := 91) (z := 0) dX12_stands_8 fkX12_23 rfl (by decide +kernel) (by decide +kernel) ?_
  refine X_iload_n dX12_stands_11 rfl ?_
  refine X_aload_n dX12_stands_12 rfl ?_
  refine X_getr (a := 90) (z := 0) dX12_stands_13 fkX12_20 rfl (by decide +kernel) (by decide +kernel) ?_
  refine X_iload_n dX12_stands_16 rfl ?_
  refine X_iald (len := 5) 3 dX12_stands_17 (by decide +kernel) rfl (by decide) ?_
  refine X_topi (y := nI 2) (by decide +kernel) ?_
  refine X_iast (len := 5) 3 dX12_stands_18 (by decide +kernel) rfl (by decide) ?_
  refine X_gml (g' := gC351) (mi' := mC361) (ml' := lC350) rfl rfl rfl ?_
  refine X_iinc (v := nI 4) dX12_stands_19 rfl (by decide) (by decide) ?_
  refine X_goto 2 dX12_stands_22 (by decide) ?_
  refine X_iload_n dX12_stands_2 rfl ?_
  refine X_iconst (v := nI 5) dX12_stands_3 (by decide) ?_
  refine X_icmp_ge 25 dX12_stands_4 (by decide) (fun h => absurd h (by decide)) (fun _ => ?_)
  refine X_aload_n dX12_stands_7 rfl ?_
  refine X_getr (a := 91) (z := 0) dX12_stands_8 fkX12_23 rfl (by decide +kernel) (by decide +kernel) ?_
  refine X_iload_n dX12_stands_11 rfl ?_
  refine X_aload_n dX12_stands_12 rfl ?_
  refine X_getr (a := 90) (z := 0) dX12_stands_13 fkX12_20 rfl (by decide +kernel) (by decide +kernel) ?_
  refine X_iload_n dX12_stands_16 rfl ?_
  refine X_iald (len := 5) 4 dX12_stands_17 (by decide +kernel) rfl (by decide) ?_
  refine X_topi (y := nI 0) (by decide +kernel) ?_
  refine X_iast (len := 5) 4 dX12_stands_18 (by decide +kernel) rfl (by decide) ?_
  refine X_gml (g' := gC351) (mi' := mC362) (ml' := lC350) rfl rfl rfl ?_
  refine X_iinc (v := nI 5) dX12_stands_19 rfl (by decide) (by decide) ?_
  refine X_goto 2 dX12_stands_22 (by decide) ?_
  refine X_iload_n dX12_stands_2 rfl ?_
  refine X_iconst (v := nI 5) dX12_stands_3 (by decide) ?_
  refine X_icmp_ge 25 dX12_stands_4 (by decide) (fun _ => ?_) (fun h => absurd h (by decide))
  refine X_iconst (v := nI 0) dX12_stands_25 (by decide) ?_
  refine X_istore_n dX12_stands_26 (by decide) ?_
  refine X_iload_n dX12_stands_27 rfl ?_
  refine X_aload_n dX12_stands_28 rfl ?_
  refine X_getr (a := 91) (z := 0) dX12_stands_29 fkX12_23 rfl (by decide +kernel) (by decide +kernel) ?_
  refine X_iconst (v := nI 0) dX12_stands_32 (by decide) ?_
  refine X_iald (len := 5) 0 dX12_stands_33 (by decide +kernel) rfl (by decide) ?_
  refine X_topi (y := nI 0) (by decide +kernel) ?_
  refine X_icmp_ge 72 dX12_stands_34 (by decide) (fun _ => ?_) (fun h => absurd h (by decide))
  refine X_iconst (v := nI 0) dX12_stands_72 (by decide) ?_
  refine X_istore_n dX12_stands_73 (by decide) ?_
  refine X_iload_n dX12_stands_74 rfl ?_
  refine X_bipush (v := nI 8) dX12_stands_75 (by decide) ?_
  refine X_icmp_ge 139 dX12_stands_77 (by decide) (fun h => absurd h (by decide)) (fun _ => ?_)
  refine X_iconst (v := nI 0) dX12_stands_80 (by decide) ?_
  refine X_istore_n dX12_stands_81 (by decide) ?_
  refine X_iload_n dX12_stands_82 rfl ?_
  refine X_iconst (v := nI 4) dX12_stands_83 (by decide) ?_
  refine X_icmp_ge 119 dX12_stands_84 (by decide) (fun h => absurd h (by decide)) (fun _ => ?_)
  refine X_iload_n dX12_stands_87 rfl ?_
  refine X_aload_n dX12_stands_88 rfl ?_
  refine X_getr (a := 91) (z := 0) dX12_stands_89 fkX12_23 rfl (by decide +kernel) (by decide +kernel) ?_
  refine X_iconst (v := nI 1) dX12_stands_92 (by decide) ?_
  refine X_iald (len := 5) 1 dX12_stands_93 (by decide +kernel) rfl (by decide) ?_
  refine X_topi (y := nI 0) (by decide +kernel) ?_
  refine X_icmp_ge 119 dX12_stands_94 (by decide) (fun _ => ?_) (fun h => absurd h (by decide))
  refine X_aload_n dX12_stands_119 rfl ?_
  refine X_getr (a := 129) (z := 0) dX12_stands_120 fkX12_40 rfl (by decide +kernel) (by decide +kernel) ?_
  refine X_iload_n dX12_stands_123 rfl ?_
  refine X_iconst (v := nI 0) dX12_stands_124 (by decide) ?_
  refine X_iast (len := 8) 0 dX12_stands_125 (by decide +kernel) rfl (by decide) ?_
  refine X_gml (g' := gC351) (mi' := mC363) (ml' := lC350) rfl rfl rfl ?_
  refine X_aload_n dX12_stands_126 rfl ?_
  refine X_getr (a := 193) (z := 0) dX12_stands_127 fkX12_67 rfl (by decide +kernel) (by decide +kernel) ?_
  refine X_iload_n dX12_stands_130 rfl ?_
  refine X_iconst (v := nI 0) dX12_stands_131 (by decide) ?_
  refine X_zast (len := 8) 0 dX12_stands_132 (by decide +kernel) (by decide) rfl (by decide) ?_
  refine X_gml (g' := gC351) (mi' := mC364) (ml' := lC350) rfl rfl rfl ?_
  refine X_iinc (v := nI 1) dX12_stands_133 rfl (by decide) (by decide) ?_
  refine X_goto 74 dX12_stands_136 (by decide) ?_
  refine X_iload_n dX12_stands_74 rfl ?_
  refine X_bipush (v := nI 8) dX12_stands_75 (by decide) ?_
  refine X_icmp_ge 139 dX12_stands_77 (by decide) (fun h => absurd h (by decide)) (fun _ => ?_)
  refine X_iconst (v := nI 0) dX12_stands_80 (by decide) ?_
  refine X_istore_n dX12_stands_81 (by decide) ?_
  refine X_iload_n dX12_stands_82 rfl ?_
  refine X_iconst (v := nI 4) dX12_stands_83 (by decide) ?_
  refine X_icmp_ge 119 dX12_stands_84 (by decide) (fun h => absurd h (by decide)) (fun _ => ?_)
  refine X_iload_n dX12_stands_87 rfl ?_
  refine X_aload_n dX12_stands_88 rfl ?_
  refine X_getr (a := 91) (z := 0) dX12_stands_89 fkX12_23 rfl (by decide +kernel) (by decide +kernel) ?_
  refine X_iconst (v := nI 1) dX12_stands_92 (by decide) ?_
  refine X_iald (len := 5) 1 dX12_stands_93 (by decide +kernel) rfl (by decide) ?_
  refine X_topi (y := nI 0) (by decide +kernel) ?_
  refine X_icmp_ge 119 dX12_stands_94 (by decide) (fun _ => ?_) (fun h => absurd h (by decide))
  refine X_aload_n dX12_stands_119 rfl ?_
  refine X_getr (a := 129) (z := 0) dX12_stands_120 fkX12_40 rfl (by decide +kernel) (by decide +kernel) ?_
  refine X_iload_n dX12_stands_123 rfl ?_
  refine X_iconst (v := nI 0) dX12_stands_124 (by decide) ?_
  refine X_iast (len := 8) 1 dX12_stands_125 (by decide +kernel) rfl (by decide) ?_
  refine X_gml (g' := gC351) (mi' := mC365) (ml' := lC350) rfl rfl rfl ?_
  refine X_aload_n dX12_stands_126 rfl ?_
  refine X_getr (a := 193) (z := 0) dX12_stands_127 fkX12_67 rfl (by decide +kernel) (by decide +kernel) ?_
  refine X_iload_n dX12_stands_130 rfl ?_
  refine X_iconst (v := nI 0) dX12_stands_131 (by decide) ?_
  refine X_zast (len := 8) 1 dX12_stands_132 (by decide +kernel) (by decide) rfl (by decide) ?_
  refine X_gml (g' := gC351) (mi' := mC366) (ml' := lC350) rfl rfl rfl ?_
  refine X_iinc (v := nI 2) dX12_stands_133 rfl (by decide) (by decide) ?_
  refine X_goto 74 dX12_stands_136 (by decide) ?_
  refine X_iload_n dX12_stands_74 rfl ?_
  refine X_bipush (v := nI 8) dX12_stands_75 (by decide) ?_
  refine X_icmp_ge 139 dX12_stands_77 (by decide) (fun h => absurd h (by decide)) (fun _ => ?_)
  refine X_iconst (v := nI 0) dX12_stands_80 (by decide) ?_
  refine X_istore_n dX12_stands_81 (by decide) ?_
  refine X_iload_n dX12_stands_82 rfl ?_
  refine X_iconst (v := nI 4) dX12_stands_83 (by decide) ?_
  refine X_icmp_ge 119 dX12_stands_84 (by decide) (fun h => absurd h (by decide)) (fun _ => ?_)
  refine X_iload_n dX12_stands_87 rfl ?_
  refine X_aload_n dX12_stands_88 rfl ?_
  refine X_getr (a := 91) (z := 0) dX12_stands_89 fkX12_23 rfl (by decide +kernel) (by decide +kernel) ?_
  refine X_iconst (v := nI 1) dX12_stands_92 (by decide) ?_
  refine X_iald (len := 5) 1 dX12_stands_93 (by decide +kernel) rfl (by decide) ?_
  refine X_topi (y := nI 0) (by decide +kernel) ?_
  refine X_icmp_ge 119 dX12_stands_94 (by decide) (fun _ => ?_) (fun h => absurd h (by decide))
  refine X_aload_n dX12_stands_119 rfl ?_
  refine X_getr (a := 129) (z := 0) dX12_stands_120 fkX12_40 rfl (by decide +kernel) (by decide +kernel) ?_
  refine X_iload_n dX12_stands_123 rfl ?_
  refine X_iconst (v := nI 0) dX12_stands_124 (by decide) ?_
  refine X_iast (len := 8) 2 dX12_stands_125 (by decide +kernel) rfl (by decide) ?_
  refine X_gml (g' := gC351) (mi' := mC367) (ml' := lC350) rfl rfl rfl ?_
  refine X_aload_n dX12_stands_126 rfl ?_
  refine X_getr (a := 193) (z := 0) dX12_stands_127 fkX12_67 rfl (by decide +kernel) (by decide +kernel) ?_
  refine X_iload_n dX12_stands_130 rfl ?_
  refine X_iconst (v := nI 0) dX12_stands_131 (by decide) ?_
  refine X_zast (len := 8) 2 dX12_stands_132 (by decide +kernel) (by decide) rfl (by decide) ?_
  refine X_gml (g' := gC351) (mi' := mC368) (ml' := lC350) rfl rfl rfl ?_
  refine X_iinc (v := nI 3) dX12_stands_133 rfl (by decide) (by decide) ?_
  refine X_goto 74 dX12_stands_136 (by decide) ?_
  refine X_iload_n dX12_stands_74 rfl ?_
  refine X_bipush (v := nI 8) dX12_stands_75 (by decide) ?_
  refine X_icmp_ge 139 dX12_stands_77 (by decide) (fun h => absurd h (by decide)) (fun _ => ?_)
  refine X_iconst (v := nI 0) dX12_stands_80 (by decide) ?_
  refine X_istore_n dX12_stands_81 (by decide) ?_
  refine X_iload_n dX12_stands_82 rfl ?_
  refine X_iconst (v := nI 4) dX12_stands_83 (by decide) ?_
  refine X_icmp_ge 119 dX12_stands_84 (by decide) (fun h => absurd h (by decide)) (fun _ => ?_)
  refine X_iload_n dX12_stands_87 rfl ?_
  refine X_aload_n dX12_stands_88 rfl ?_
  refine X_getr (a := 91) (z := 0) dX12_stands_89 fkX12_23 rfl (by decide +kernel) (by decide +kernel) ?_
  refine X_iconst (v := nI 1) dX12_stands_92 (by decide) ?_
  refine X_iald (len := 5) 1 dX12_stands_93 (by decide +kernel) rfl (by decide) ?_
  refine X_topi (y := nI 0) (by decide +kernel) ?_
  refine X_icmp_ge 119 dX12_stands_94 (by decide) (fun _ => ?_) (fun h => absurd h (by decide))
  refine X_aload_n dX12_stands_119 rfl ?_
  refine X_getr (a := 129) (z := 0) dX12_stands_120 fkX12_40 rfl (by decide +kernel) (by decide +kernel) ?_
  refine X_iload_n dX12_stands_123 rfl ?_
  refine X_iconst (v := nI 0) dX12_stands_124 (by decide) ?_
  refine X_iast (len := 8) 3 dX12_stands_125 (by decide +kernel) rfl (by decide) ?_
  refine X_gml (g' := gC351) (mi' := mC369) (ml' := lC350) rfl rfl rfl ?_
  refine X_aload_n dX12_stands_126 rfl ?_
  refine X_getr (a := 193) (z := 0) dX12_stands_127 fkX12_67 rfl (by decide +kernel) (by decide +kernel) ?_
  refine X_iload_n dX12_stands_130 rfl ?_
  refine X_iconst (v := nI 0) dX12_stands_131 (by decide) ?_
  refine X_zast (len := 8) 3 dX12_stands_132 (by decide +kernel) (by decide) rfl (by decide) ?_
  refine X_gml (g' := gC351) (mi' := mC370) (ml' := lC350) rfl rfl rfl ?_
  refine X_iinc (v := nI 4) dX12_stands_133 rfl (by decide) (by decide) ?_
  refine X_goto 74 dX12_stands_136 (by decide) ?_
  refine X_iload_n dX12_stands_74 rfl ?_
  refine X_bipush (v := nI 8) dX12_stands_75 (by decide) ?_
  refine X_icmp_ge 139 dX12_stands_77 (by decide) (fun h => absurd h (by decide)) (fun _ => ?_)
  refine X_iconst (v := nI 0) dX12_stands_80 (by decide) ?_
  refine X_istore_n dX12_stands_81 (by decide) ?_
  refine X_iload_n dX12_stands_82 rfl ?_
  refine X_iconst (v := nI 4) dX12_stands_83 (by decide) ?_
  refine X_icmp_ge 119 dX12_stands_84 (by decide) (fun h => absurd h (by decide)) (fun _ => ?_)
  refine X_iload_n dX12_stands_87 rfl ?_
  refine X_aload_n dX12_stands_88 rfl ?_
  refine X_getr (a := 91) (z := 0) dX12_stands_89 fkX12_23 rfl (by decide +kernel) (by decide +kernel) ?_
  refine X_iconst (v := nI 1) dX12_stands_92 (by decide) ?_
  refine X_iald (len := 5) 1 dX12_stands_93 (by decide +kernel) rfl (by decide) ?_
  refine X_topi (y := nI 0) (by decide +kernel) ?_
  refine X_icmp_ge 119 dX12_stands_94 (by decide) (fun _ => ?_) (fun h => absurd h (by decide))
  refine X_aload_n dX12_stands_119 rfl ?_
  refine X_getr (a := 129) (z := 0) dX12_stands_120 fkX12_40 rfl (by decide +kernel) (by decide +kernel) ?_
  refine X_iload_n dX12_stands_123 rfl ?_
  refine X_iconst (v := nI 0) dX12_stands_124 (by decide) ?_
  refine X_iast (len := 8) 4 dX12_stands_125 (by decide +kernel) rfl (by decide) ?_
  refine X_gml (g' := gC351) (mi' := mC371) (ml' := lC350) rfl rfl rfl ?_
  refine X_aload_n dX12_stands_126 rfl ?_
  refine X_getr (a := 193) (z := 0) dX12_stands_127 fkX12_67 rfl (by decide +kernel) (by decide +kernel) ?_
  refine X_iload_n dX12_stands_130 rfl ?_
  refine X_iconst (v := nI 0) dX12_stands_131 (by decide) ?_
  refine X_zast (len := 8) 4 dX12_stands_132 (by decide +kernel) (by decide) rfl (by decide) ?_
  refine X_gml (g' := gC351) (mi' := mC372) (ml' := lC350) rfl rfl rfl ?_
  refine X_iinc (v := nI 5) dX12_stands_133 rfl (by decide) (by decide) ?_
  refine X_goto 74 dX12_stands_136 (by decide) ?_
  refine X_iload_n dX12_stands_74 rfl ?_
  refine X_bipush (v := nI 8) dX12_stands_75 (by decide) ?_
  refine X_icmp_ge 139 dX12_stands_77 (by decide) (fun h => absurd h (by decide)) (fun _ => ?_)
  refine X_iconst (v := nI 0) dX12_stands_80 (by decide) ?_
  refine X_istore_n dX12_stands_81 (by decide) ?_
  refine X_iload_n dX12_stands_82 rfl ?_
  refine X_iconst (v := nI 4) dX12_stands_83 (by decide) ?_
  refine X_icmp_ge 119 dX12_stands_84 (by decide) (fun h => absurd h (by decide)) (fun _ => ?_)
  refine X_iload_n dX12_stands_87 rfl ?_
  refine X_aload_n dX12_stands_88 rfl ?_
  refine X_getr (a := 91) (z := 0) dX12_stands_89 fkX12_23 rfl (by decide +kernel) (by decide +kernel) ?_
  refine X_iconst (v := nI 1) dX12_stands_92 (by decide) ?_
  refine X_iald (len := 5) 1 dX12_stands_93 (by decide +kernel) rfl (by decide) ?_
  refine X_topi (y := nI 0) (by decide +kernel) ?_
  refine X_icmp_ge 119 dX12_stands_94 (by decide) (fun _ => ?_) (fun h => absurd h (by decide))
  refine X_aload_n dX12_stands_119 rfl ?_
  refine X_getr (a := 129) (z := 0) dX12_stands_120 fkX12_40 rfl (by decide +kernel) (by decide +kernel) ?_
  refine X_iload_n dX12_stands_123 rfl ?_
  refine X_iconst (v := nI 0) dX12_stands_124 (by decide) ?_
  refine X_iast (len := 8) 5 dX12_stands_125 (by decide +kernel) rfl (by decide) ?_
  refine X_gml (g' := gC351) (mi' := mC373) (ml' := lC350) rfl rfl rfl ?_
  refine X_aload_n dX12_stands_126 rfl ?_
  refine X_getr (a := 193) (z := 0) dX12_stands_127 fkX12_67 rfl (by decide +kernel) (by decide +kernel) ?_
  refine X_iload_n dX12_stands_130 rfl ?_
  refine X_iconst (v := nI 0) dX12_stands_131 (by decide) ?_
  refine X_zast (len := 8) 5 dX12_stands_132 (by decide +kernel) (by decide) rfl (by decide) ?_
  refine X_gml (g' := gC351) (mi' := mC374) (ml' := lC350) rfl rfl rfl ?_
  refine X_iinc (v := nI 6) dX12_stands_133 rfl (by decide) (by decide) ?_
  refine X_goto 74 dX12_stands_136 (by decide) ?_
  refine X_iload_n dX12_stands_74 rfl ?_
  refine X_bipush (v := nI 8) dX12_stands_75 (by decide) ?_
  refine X_icmp_ge 139 dX12_stands_77 (by decide) (fun h => absurd h (by decide)) (fun _ => ?_)
  refine X_iconst (v := nI 0) dX12_stands_80 (by decide) ?_
  refine X_istore_n dX12_stands_81 (by decide) ?_
  refine X_iload_n dX12_stands_82 rfl ?_
  refine X_iconst (v := nI 4) dX12_stands_83 (by decide) ?_
  refine X_icmp_ge 119 dX12_stands_84 (by decide) (fun h => absurd h (by decide)) (fun _ => ?_)
  refine X_iload_n dX12_stands_87 rfl ?_
  refine X_aload_n dX12_stands_88 rfl ?_
  refine X_getr (a := 91) (z := 0) dX12_stands_89 fkX12_23 rfl (by decide +kernel) (by decide +kernel) ?_
  refine X_iconst (v := nI 1) dX12_stands_92 (by decide) ?_
  refine X_iald (len := 5) 1 dX12_stands_93 (by decide +kernel) rfl (by decide) ?_
  refine X_topi (y := nI 0) (by decide +kernel) ?_
  refine X_icmp_ge 119 dX12_stands_94 (by decide) (fun _ => ?_) (fun h => absurd h (by decide))
  refine X_aload_n dX12_stands_119 rfl ?_
  refine X_getr (a := 129) (z := 0) dX12_stands_120 fkX12_40 rfl (by decide +kernel) (by decide +kernel) ?_
  refine X_iload_n dX12_stands_123 rfl ?_
  refine X_iconst (v := nI 0) dX12_stands_124 (by decide) ?_
  refine X_iast (len := 8) 6 dX12_stands_125 (by decide +kernel) rfl (by decide) ?_
  refine X_gml (g' := gC351) (mi' := mC375) (ml' := lC350) rfl rfl rfl ?_
  refine X_aload_n dX12_stands_126 rfl ?_
  refine X_getr (a := 193) (z := 0) dX12_stands_127 fkX12_67 rfl (by decide +kernel) (by decide +kernel) ?_
  refine X_iload_n dX12_stands_130 rfl ?_
  refine X_iconst (v := nI 0) dX12_stands_131 (by decide) ?_
  refine X_zast (len := 8) 6 dX12_stands_132 (by decide +kernel) (by decide) rfl (by decide) ?_
  refine X_gml (g' := gC351) (mi' := mC376) (ml' := lC350) rfl rfl rfl ?_
  refine X_iinc (v := nI 7) dX12_stands_133 rfl (by decide) (by decide) ?_
  refine X_goto 74 dX12_stands_136 (by decide) ?_
  refine X_iload_n dX12_stands_74 rfl ?_
  refine X_bipush (v := nI 8) dX12_stands_75 (by decide) ?_
  refine X_icmp_ge 139 dX12_stands_77 (by decide) (fun h => absurd h (by decide)) (fun _ => ?_)
  refine X_iconst (v := nI 0) dX12_stands_80 (by decide) ?_
  refine X_istore_n dX12_stands_81 (by decide) ?_
  refine X_iload_n dX12_stands_82 rfl ?_
  refine X_iconst (v := nI 4) dX12_stands_83 (by decide) ?_
  refine X_icmp_ge 119 dX12_stands_84 (by decide) (fun h => absurd h (by decide)) (fun _ => ?_)
  refine X_iload_n dX12_stands_87 rfl ?_
  refine X_aload_n dX12_stands_88 rfl ?_
  refine X_getr (a := 91) (z := 0) dX12_stands_89 fkX12_23 rfl (by decide +kernel) (by decide +kernel) ?_
  refine X_iconst (v := nI 1) dX12_stands_92 (by decide) ?_
  refine X_iald (len := 5) 1 dX12_stands_93 (by decide +kernel) rfl (by decide) ?_
  refine X_topi (y := nI 0) (by decide +kernel) ?_
  refine X_icmp_ge 119 dX12_stands_94 (by decide) (fun _ => ?_) (fun h => absurd h (by decide))
  refine X_aload_n dX12_stands_119 rfl ?_
  refine X_getr (a := 129) (z := 0) dX12_stands_120 fkX12_40 rfl (by decide +kernel) (by decide +kernel) ?_
  refine X_iload_n dX12_stands_123 rfl ?_
  refine X_iconst (v := nI 0) dX12_stands_124 (by decide) ?_
  refine X_iast (len := 8) 7 dX12_stands_125 (by decide +kernel) rfl (by decide) ?_
  refine X_gml (g' := gC351) (mi' := mC377) (ml' := lC350) rfl rfl rfl ?_
  refine X_aload_n dX12_stands_126 rfl ?_
  refine X_getr (a := 193) (z := 0) dX12_stands_127 fkX12_67 rfl (by decide +kernel) (by decide +kernel) ?_
  refine X_iload_n dX12_stands_130 rfl ?_
  refine X_iconst (v := nI 0) dX12_stands_131 (by decide) ?_
  refine X_zast (len := 8) 7 dX12_stands_132 (by decide +kernel) (by decide) rfl (by decide) ?_
  refine X_gml (g' := gC351) (mi' := mC378) (ml' := lC350) rfl rfl rfl ?_
  refine X_iinc (v := nI 8) dX12_stands_133 rfl (by decide) (by decide) ?_
  refine X_goto 74 dX12_stands_136 (by decide) ?_
  refine X_iload_n dX12_stands_74 rfl ?_
  refine X_bipush (v := nI 8) dX12_stands_75 (by decide) ?_
  refine X_icmp_ge 139 dX12_stands_77 (by decide) (fun _ => ?_) (fun h => absurd h (by decide))
  refine X_aload_n dX12_stands_139 rfl ?_
  refine X_iconst (v := nI 0) dX12_stands_140 (by decide) ?_
  refine X_puti (z := 0) dX12_stands_141 fkX12_241 rfl rfl (by decide +kernel) ?_
  refine X_gml (g' := gC351) (mi' := mC379) (ml' := lC350) rfl rfl rfl ?_
  refine X_aload_n dX12_stands_144 rfl ?_
  refine X_iconst (v := nI 0) dX12_stands_145 (by decide) ?_
  refine X_puti (z := 0) dX12_stands_146 fkX12_244 rfl rfl (by decide +kernel) ?_
  refine X_gml (g' := gC351) (mi' := mC380) (ml' := lC350) rfl rfl rfl ?_
  refine X_aload_n dX12_stands_149 rfl ?_
  refine X_iconst (v := nI 0) dX12_stands_150 (by decide) ?_
  refine X_puti (z := 0) dX12_stands_151 fkX12_247 rfl rfl (by decide +kernel) ?_
  refine X_gml (g' := gC351) (mi' := mC381) (ml' := lC350) rfl rfl rfl ?_
  refine X_aload_n dX12_stands_154 rfl ?_
  refine X_iconst (v := nI 0) dX12_stands_155 (by decide) ?_
  refine X_puti (z := 0) dX12_stands_156 fkX12_250 rfl rfl (by decide +kernel) ?_
  refine X_gml (g' := gC351) (mi' := mC382) (ml' := lC350) rfl rfl rfl ?_
  exact X_vret dX12_stands_159 rfl ⟨rfl, rfl, rfl, rfl⟩
set_option maxRecDepth 100000 in
set_option maxHeartbeats 4000000 in
theorem ct24_X12_init (Γ : pTG) : CT Γ 2 362 33058 mX12_init [.ref 87] gC260 mC260 lC260 (fun o g' mi' ml' => o = .inl none ∧ g' = gC351 ∧ mi' = mC382 ∧ ml' = lC350) := by
  refine CT_of (by decide +kernel) (Nat.le_of_ble_eq_true rfl) ?_
  refine X_aload_n dX12_init_0 rfl ?_
  refine X_objInit dX12_init_1 oiX12 (by decide) (by decide) ?_
  refine X_aload_n dX12_init_4 rfl ?_
  refine X_iconst (v := -1) dX12_init_5 (by decide) ?_
  refine X_puti (z := 0) dX12_init_6 fkX12_9 rfl rfl (by decide +kernel) ?_
  refine X_gml (g' := gC260) (mi' := mC261) (ml' := lC260) rfl rfl rfl ?_
  refine X_aload_n dX12_init_9 rfl ?_
  refine X_sipush (v := nI 600) dX12_init_10 (by decide) ?_
  refine X_newI (len := 600) dX12_init_13 acI rfl (by decide) (by decide +kernel) (by decide) (by decide) ?_
  refine X_gml (g' := gC262) (mi' := mC262) (ml' := lC262) rfl rfl rfl ?_
  refine X_topr (a' := 88) (show gC260.1 = 88 by decide +kernel) ?_
  refine X_putrF (z := 0) dX12_init_15 fkX12_13 rfl rfl rfl rfl (by decide +kernel) (by decide) ?_
  refine X_gml (g' := gC263) (mi' := mC262) (ml' := lC262) rfl rfl rfl ?_
  refine X_aload_n dX12_init_18 rfl ?_
  refine X_iconst (v := nI 3) dX12_init_19 (by decide) ?_
  refine X_newI (len := 3) dX12_init_20 acI rfl (by decide) (by decide +kernel) (by decide) (by decide) ?_
  refine X_gml (g' := gC264) (mi' := mC264) (ml' := lC264) rfl rfl rfl ?_
  refine X_topr (a' := 89) (show gC263.1 = 89 by decide +kernel) ?_
  refine X_putrF (z := 0) dX12_init_22 fkX12_17 rfl rfl rfl rfl (by decide +kernel) (by decide) ?_
  refine X_gml (g' := gC265) (mi' := mC264) (ml' := lC264) rfl rfl rfl ?_
  refine X_aload_n dX12_init_25 rfl ?_
  refine X_iconst (v := nI 5) dX12_init_26 (by decide) ?_
  refine X_newI (len := 5) dX12_init_27 acI rfl (by decide) (by decide +kernel) (by decide) (by decide) ?_
  refine X_gml (g' := gC266) (mi' := mC266) (ml' := lC266) rfl rfl rfl ?_
  refine X_topr (a' := 90) (show gC265.1 = 90 by decide +kernel) ?_
  refine X_putrF (z := 0) dX12_init_29 fkX12_20 rfl rfl rfl rfl (by decide +kernel) (by decide) ?_
  refine X_gml (g' := gC267) (mi' := mC266) (ml' := lC266) rfl rfl rfl ?_
  refine X_aload_n dX12_init_32 rfl ?_
  refine X_iconst (v := nI 5) dX12_init_33 (by decide) ?_
  refine X_newI (len := 5) dX12_init_34 acI rfl (by decide) (by decide +kernel) (by decide) (by decide) ?_
  refine X_gml (g' := gC268) (mi' := mC268) (ml' := lC268) rfl rfl rfl ?_
  refine X_topr (a' := 91) (show gC267.1 = 91 by decide +kernel) ?_
  refine X_putrF (z := 0) dX12_init_36 fkX12_23 rfl rfl rfl rfl (by decide +kernel) (by decide) ?_
  refine X_gml (g' := gC269) (mi' := mC268) (ml' := lC268) rfl rfl rfl ?_
  refine X_aload_n dX12_init_39 rfl ?_
  refine X_bipush (v := nI 8) dX12_init_40 (by decide) ?_
  refine X_iconst (v := nI 2) dX12_init_42 (by decide) ?_
  refine X_multi (N := 8) (K := 2) dX12_init_43 clX12_26 acI rfl rfl (by decide) (by decide) (by decide +kernel) (by decide) (by decide) ?_
  refine X_gml (g' := gC270) (mi' := mC270) (ml' := lC270) rfl rfl rfl ?_
  refine X_topr (a' := 92) (show gC269.1 = 92 by decide +kernel) ?_
  refine X_putrF (z := 0) dX12_init_47 fkX12_28 rfl rfl rfl rfl (by decide +kernel) (by decide) ?_
  refine X_gml (g' := gC271) (mi' := mC270) (ml' := lC270) rfl rfl rfl ?_
  refine X_aload_n dX12_init_50 rfl ?_
  refine X_bipush (v := nI 9) dX12_init_51 (by decide) ?_
  refine X_iconst (v := nI 2) dX12_init_53 (by decide) ?_
  refine X_multi (N := 9) (K := 2) dX12_init_54 clX12_26 acI rfl rfl (by decide) (by decide) (by decide +kernel) (by decide) (by decide) ?_
  refine X_gml (g' := gC272) (mi' := mC272) (ml' := lC272) rfl rfl rfl ?_
  refine X_topr (a' := 101) (show gC271.1 = 101 by decide +kernel) ?_
  refine X_putrF (z := 0) dX12_init_58 fkX12_31 rfl rfl rfl rfl (by decide +kernel) (by decide) ?_
  refine X_gml (g' := gC273) (mi' := mC272) (ml' := lC272) rfl rfl rfl ?_
  refine X_aload_n dX12_init_61 rfl ?_
  refine X_bipush (v := nI 8) dX12_init_62 (by decide) ?_
  refine X_iconst (v := nI 4) dX12_init_64 (by decide) ?_
  refine X_multi (N := 8) (K := 4) dX12_init_65 clX12_26 acI rfl rfl (by decide) (by decide) (by decide +kernel) (by decide) (by decide) ?_
  refine X_gml (g' := gC274) (mi' := mC274) (ml' := lC274) rfl rfl rfl ?_
  refine X_topr (a' := 111) (show gC273.1 = 111 by decide +kernel) ?_
  refine X_putrF (z := 0) dX12_init_69 fkX12_34 rfl rfl rfl rfl (by decide +kernel) (by decide) ?_
  refine X_gml (g' := gC275) (mi' := mC274) (ml' := lC274) rfl rfl rfl ?_
  refine X_aload_n dX12_init_72 rfl ?_
  refine X_bipush (v := nI 8) dX12_init_73 (by decide) ?_
  refine X_iconst (v := nI 4) dX12_init_75 (by decide) ?_
  refine X_multi (N := 8) (K := 4) dX12_init_76 clX12_26 acI rfl rfl (by decide) (by decide) (by decide +kernel) (by decide) (by decide) ?_
  refine X_gml (g' := gC276) (mi' := mC276) (ml' := lC276) rfl rfl rfl ?_
  refine X_topr (a' := 120) (show gC275.1 = 120 by decide +kernel) ?_
  refine X_putrF (z := 0) dX12_init_80 fkX12_37 rfl rfl rfl rfl (by decide +kernel) (by decide) ?_
  refine X_gml (g' := gC277) (mi' := mC276) (ml' := lC276) rfl rfl rfl ?_
  refine X_aload_n dX12_init_83 rfl ?_
  refine X_bipush (v := nI 8) dX12_init_84 (by decide) ?_
  refine X_newI (len := 8) dX12_init_86 acI rfl (by decide) (by decide +kernel) (by decide) (by decide) ?_
  refine X_gml (g' := gC278) (mi' := mC278) (ml' := lC278) rfl rfl rfl ?_
  refine X_topr (a' := 129) (show gC277.1 = 129 by decide +kernel) ?_
  refine X_putrF (z := 0) dX12_init_88 fkX12_40 rfl rfl rfl rfl (by decide +kernel) (by decide) ?_
  refine X_gml (g' := gC279) (mi' := mC278) (ml' := lC278) rfl rfl rfl ?_
  refine X_aload_n dX12_init_91 rfl ?_
  refine X_sipush (v := nI 160) dX12_init_92 (by decide) ?_
  refine X_newI (len := 160) dX12_init_95 acI rfl (by decide) (by decide +kernel) (by decide) (by decide) ?_
  refine X_gml (g' := gC280) (mi' := mC280) (ml' := lC280) rfl rfl rfl ?_
  refine X_topr (a' := 130) (show gC279.1 = 130 by decide +kernel) ?_
  refine X_putrF (z := 0) dX12_init_97 fkX12_43 rfl rfl rfl rfl (by decide +kernel) (by decide) ?_
  refine X_gml (g' := gC281) (mi' := mC280) (ml' := lC280) rfl rfl rfl ?_
  refine X_aload_n dX12_init_100 rfl ?_
  refine X_bipush (v := nI 11) dX12_init_101 (by decide) ?_
  refine X_newI (len := 11) dX12_init_103 acI rfl (by decide) (by decide +kernel) (by decide) (by decide) ?_
  refine X_gml (g' := gC282) (mi' := mC282) (ml' := lC282) rfl rfl rfl ?_
  refine X_topr (a' := 131) (show gC281.1 = 131 by decide +kernel) ?_
  refine X_putrF (z := 0) dX12_init_105 fkX12_46 rfl rfl rfl rfl (by decide +kernel) (by decide) ?_
  refine X_gml (g' := gC283) (mi' := mC282) (ml' := lC282) rfl rfl rfl ?_
  refine X_aload_n dX12_init_108 rfl ?_
  refine X_sipush (v := nI 320) dX12_init_109 (by decide) ?_
  refine X_newI (len := 320) dX12_init_112 acI rfl (by decide) (by decide +kernel) (by decide) (by decide) ?_
  refine X_gml (g' := gC284) (mi' := mC284) (ml' := lC284) rfl rfl rfl ?_
  refine X_topr (a' := 132) (show gC283.1 = 132 by decide +kernel) ?_
  refine X_putrF (z := 0) dX12_init_114 fkX12_49 rfl rfl rfl rfl (by decide +kernel) (by decide) ?_
  refine X_gml (g' := gC285) (mi' := mC284) (ml' := lC284) rfl rfl rfl ?_
  refine X_aload_n dX12_init_117 rfl ?_
  refine X_bipush (v := nI 8) dX12_init_118 (by decide) ?_
  refine X_sipush (v := nI 320) dX12_init_120 (by decide) ?_
  refine X_multi (N := 8) (K := 320) dX12_init_123 clX12_26 acI rfl rfl (by decide) (by decide) (by decide +kernel) (by decide) (by decide) ?_
  refine X_gml (g' := gC286) (mi' := mC286) (ml' := lC286) rfl rfl rfl ?_
  refine X_topr (a' := 133) (show gC285.1 = 133 by decide +kernel) ?_
  refine X_putrF (z := 0) dX12_init_127 fkX12_52 rfl rfl rfl rfl (by decide +kernel) (by decide) ?_
  refine X_gml (g' := gC287) (mi' := mC286) (ml' := lC286) rfl rfl rfl ?_
  refine X_aload_n dX12_init_130 rfl ?_
  refine X_bipush (v := nI 12) dX12_init_131 (by decide) ?_
  refine X_iconst (v := nI 3) dX12_init_133 (by decide) ?_
  refine X_multi (N := 12) (K := 3) dX12_init_134 clX12_26 acI rfl rfl (by decide) (by decide) (by decide +kernel) (by decide) (by decide) ?_
  refine X_gml (g' := gC288) (mi' := mC288) (ml' := lC288) rfl rfl rfl ?_
  refine X_topr (a' := 142) (show gC287.1 = 142 by decide +kernel) ?_
  refine X_putrF (z := 0) dX12_init_138 fkX12_55 rfl rfl rfl rfl (by decide +kernel) (by decide) ?_
  refine X_gml (g' := gC289) (mi' := mC288) (ml' := lC288) rfl rfl rfl ?_
  refine X_aload_n dX12_init_141 rfl ?_
  refine X_bipush (v := nI 12) dX12_init_142 (by decide) ?_
  refine X_iconst (v := nI 3) dX12_init_144 (by decide) ?_
  refine X_multi (N := 12) (K := 3) dX12_init_145 clX12_26 acI rfl rfl (by decide) (by decide) (by decide +kernel) (by decide) (by decide) ?_
  refine X_gml (g' := gC290) (mi' := mC290) (ml' := lC290) rfl rfl rfl ?_
  refine X_topr (a' := 155) (show gC289.1 = 155 by decide +kernel) ?_
  refine X_putrF (z := 0) dX12_init_149 fkX12_58 rfl rfl rfl rfl (by decide +kernel) (by decide) ?_
  refine X_gml (g' := gC291) (mi' := mC290) (ml' := lC290) rfl rfl rfl ?_
  refine X_aload_n dX12_init_152 rfl ?_
  refine X_bipush (v := nI 20) dX12_init_153 (by decide) ?_
  refine X_bipush (v := nI 11) dX12_init_155 (by decide) ?_
  refine X_multi (N := 20) (K := 11) dX12_init_157 clX12_26 acI rfl rfl (by decide) (by decide) (by decide +kernel) (by decide) (by decide) ?_
  refine X_gml (g' := gC292) (mi' := mC292) (ml' := lC292) rfl rfl rfl ?_
  refine X_topr (a' := 168) (show gC291.1 = 168 by decide +kernel) ?_
  refine X_putrF (z := 0) dX12_init_161 fkX12_61 rfl rfl rfl rfl (by decide +kernel) (by decide) ?_
  refine X_gml (g' := gC293) (mi' := mC292) (ml' := lC292) rfl rfl rfl ?_
  refine X_aload_n dX12_init_164 rfl ?_
  refine X_iconst (v := nI 3) dX12_init_165 (by decide) ?_
  refine X_sipush (v := nI 233) dX12_init_166 (by decide) ?_
  refine X_multi (N := 3) (K := 233) dX12_init_169 clX12_26 acI rfl rfl (by decide) (by decide) (by decide +kernel) (by decide) (by decide) ?_
  refine X_gml (g' := gC294) (mi' := mC294) (ml' := lC294) rfl rfl rfl ?_
  refine X_topr (a' := 189) (show gC293.1 = 189 by decide +kernel) ?_
  refine X_putrF (z := 0) dX12_init_173 fkX12_64 rfl rfl rfl rfl (by decide +kernel) (by decide) ?_
  refine X_gml (g' := gC295) (mi' := mC294) (ml' := lC294) rfl rfl rfl ?_
  refine X_aload_n dX12_init_176 rfl ?_
  refine X_bipush (v := nI 8) dX12_init_177 (by decide) ?_
  refine X_newZ (len := 8) dX12_init_179 acZ rfl (by decide) (by decide +kernel) (by decide) (by decide) ?_
  refine X_gml (g' := gC296) (mi' := mC296) (ml' := lC296) rfl rfl rfl ?_
  refine X_topr (a' := 193) (show gC295.1 = 193 by decide +kernel) ?_
  refine X_putrF (z := 0) dX12_init_181 fkX12_67 rfl rfl rfl rfl (by decide +kernel) (by decide) ?_
  refine X_gml (g' := gC297) (mi' := mC296) (ml' := lC296) rfl rfl rfl ?_
  refine X_aload_n dX12_init_184 rfl ?_
  refine X_bipush (v := nI 8) dX12_init_185 (by decide) ?_
  refine X_newI (len := 8) dX12_init_187 acI rfl (by decide) (by decide +kernel) (by decide) (by decide) ?_
  refine X_gml (g' := gC298) (mi' := mC298) (ml' := lC298) rfl rfl rfl ?_
  refine X_topr (a' := 194) (show gC297.1 = 194 by decide +kernel) ?_
  refine X_putrF (z := 0) dX12_init_189 fkX12_71 rfl rfl rfl rfl (by decide +kernel) (by decide) ?_
  refine X_gml (g' := gC299) (mi' := mC298) (ml' := lC298) rfl rfl rfl ?_
  refine X_aload_n dX12_init_192 rfl ?_
  refine X_bipush (v := nI 8) dX12_init_193 (by decide) ?_
  refine X_newI (len := 8) dX12_init_195 acI rfl (by decide) (by decide +kernel) (by decide) (by decide) ?_
  refine X_gml (g' := gC300) (mi' := mC300) (ml' := lC300) rfl rfl rfl ?_
  refine X_topr (a' := 195) (show gC299.1 = 195 by decide +kernel) ?_
  refine X_putrF (z := 0) dX12_init_197 fkX12_74 rfl rfl rfl rfl (by decide +kernel) (by decide) ?_
  refine X_gml (g' := gC301) (mi' := mC300) (ml' := lC300) rfl rfl rfl ?_
  refine X_aload_n dX12_init_200 rfl ?_
  refine X_bipush (v := nI 8) dX12_init_201 (by decide) ?_
  refine X_newI (len := 8) dX12_init_203 acI rfl (by decide) (by decide +kernel) (by decide) (by decide) ?_
  refine X_gml (g' := gC302) (mi' := mC302) (ml' := lC302) rfl rfl rfl ?_
  refine X_topr (a' := 196) (show gC301.1 = 196 by decide +kernel) ?_
  refine X_putrF (z := 0) dX12_init_205 fkX12_77 rfl rfl rfl rfl (by decide +kernel) (by decide) ?_
  refine X_gml (g' := gC303) (mi' := mC302) (ml' := lC302) rfl rfl rfl ?_
  refine X_aload_n dX12_init_208 rfl ?_
  refine X_bipush (v := nI 8) dX12_init_209 (by decide) ?_
  refine X_newI (len := 8) dX12_init_211 acI rfl (by decide) (by decide +kernel) (by decide) (by decide) ?_
  refine X_gml (g' := gC304) (mi' := mC304) (ml' := lC304) rfl rfl rfl ?_
  refine X_topr (a' := 197) (show gC303.1 = 197 by decide +kernel) ?_
  refine X_putrF (z := 0) dX12_init_213 fkX12_80 rfl rfl rfl rfl (by decide +kernel) (by decide) ?_
  refine X_gml (g' := gC305) (mi' := mC304) (ml' := lC304) rfl rfl rfl ?_
  refine X_aload_n dX12_init_216 rfl ?_
  refine X_bipush (v := nI 8) dX12_init_217 (by decide) ?_
  refine X_newI (len := 8) dX12_init_219 acI rfl (by decide) (by decide +kernel) (by decide) (by decide) ?_
  refine X_gml (g' := gC306) (mi' := mC306) (ml' := lC306) rfl rfl rfl ?_
  refine X_topr (a' := 198) (show gC305.1 = 198 by decide +kernel) ?_
  refine X_putrF (z := 0) dX12_init_221 fkX12_83 rfl rfl rfl rfl (by decide +kernel) (by decide) ?_
  refine X_gml (g' := gC307) (mi' := mC306) (ml' := lC306) rfl rfl rfl ?_
  refine X_aload_n dX12_init_224 rfl ?_
  refine X_bipush (v := nI 8) dX12_init_225 (by decide) ?_
  refine X_newI (len := 8) dX12_init_227 acI rfl (by decide) (by decide +kernel) (by decide) (by decide) ?_
  refine X_gml (g' := gC308) (mi' := mC308) (ml' := lC308) rfl rfl rfl ?_
  refine X_topr (a' := 199) (show gC307.1 = 199 by decide +kernel) ?_
  refine X_putrF (z := 0) dX12_init_229 fkX12_86 rfl rfl rfl rfl (by decide +kernel) (by decide) ?_
  refine X_gml (g' := gC309) (mi' := mC308) (ml' := lC308) rfl rfl rfl ?_
  refine X_aload_n dX12_init_232 rfl ?_
  refine X_bipush (v := nI 8) dX12_init_233 (by decide) ?_
  refine X_newI (len := 8) dX12_init_235 acI rfl (by decide) (by decide +kernel) (by decide) (by decide) ?_
  refine X_gml (g' := gC310) (mi' := mC310) (ml' := lC310) rfl rfl rfl ?_
  refine X_topr (a' := 200) (show gC309.1 = 200 by decide +kernel) ?_
  refine X_putrF (z := 0) dX12_init_237 fkX12_89 rfl rfl rfl rfl (by decide +kernel) (by decide) ?_
  refine X_gml (g' := gC311) (mi' := mC310) (ml' := lC310) rfl rfl rfl ?_
  refine X_aload_n dX12_init_240 rfl ?_
  refine X_bipush (v := nI 8) dX12_init_241 (by decide) ?_
  refine X_newI (len := 8) dX12_init_243 acI rfl (by decide) (by decide +kernel) (by decide) (by decide) ?_
  refine X_gml (g' := gC312) (mi' := mC312) (ml' := lC312) rfl rfl rfl ?_
  refine X_topr (a' := 201) (show gC311.1 = 201 by decide +kernel) ?_
  refine X_putrF (z := 0) dX12_init_245 fkX12_92 rfl rfl rfl rfl (by decide +kernel) (by decide) ?_
  refine X_gml (g' := gC313) (mi' := mC312) (ml' := lC312) rfl rfl rfl ?_
  refine X_aload_n dX12_init_248 rfl ?_
  refine X_bipush (v := nI 8) dX12_init_249 (by decide) ?_
  refine X_newI (len := 8) dX12_init_251 acI rfl (by decide) (by decide +kernel) (by decide) (by decide) ?_
  refine X_gml (g' := gC314) (mi' := mC314) (ml' := lC314) rfl rfl rfl ?_
  refine X_topr (a' := 202) (show gC313.1 = 202 by decide +kernel) ?_
  refine X_putrF (z := 0) dX12_init_253 fkX12_95 rfl rfl rfl rfl (by decide +kernel) (by decide) ?_
  refine X_gml (g' := gC315) (mi' := mC314) (ml' := lC314) rfl rfl rfl ?_
  refine X_aload_n dX12_init_256 rfl ?_
  refine X_bipush (v := nI 8) dX12_init_257 (by decide) ?_
  refine X_newI (len := 8) dX12_init_259 acI rfl (by decide) (by decide +kernel) (by decide) (by decide) ?_
  refine X_gml (g' := gC316) (mi' := mC316) (ml' := lC316) rfl rfl rfl ?_
  refine X_topr (a' := 203) (show gC315.1 = 203 by decide +kernel) ?_
  refine X_putrF (z := 0) dX12_init_261 fkX12_98 rfl rfl rfl rfl (by decide +kernel) (by decide) ?_
  refine X_gml (g' := gC317) (mi' := mC316) (ml' := lC316) rfl rfl rfl ?_
  refine X_aload_n dX12_init_264 rfl ?_
  refine X_bipush (v := nI 8) dX12_init_265 (by decide) ?_
  refine X_newI (len := 8) dX12_init_267 acI rfl (by decide) (by decide +kernel) (by decide) (by decide) ?_
  refine X_gml (g' := gC318) (mi' := mC318) (ml' := lC318) rfl rfl rfl ?_
  refine X_topr (a' := 204) (show gC317.1 = 204 by decide +kernel) ?_
  refine X_putrF (z := 0) dX12_init_269 fkX12_101 rfl rfl rfl rfl (by decide +kernel) (by decide) ?_
  refine X_gml (g' := gC319) (mi' := mC318) (ml' := lC318) rfl rfl rfl ?_
  refine X_aload_n dX12_init_272 rfl ?_
  refine X_bipush (v := nI 8) dX12_init_273 (by decide) ?_
  refine X_newI (len := 8) dX12_init_275 acI rfl (by decide) (by decide +kernel) (by decide) (by decide) ?_
  refine X_gml (g' := gC320) (mi' := mC320) (ml' := lC320) rfl rfl rfl ?_
  refine X_topr (a' := 205) (show gC319.1 = 205 by decide +kernel) ?_
  refine X_putrF (z := 0) dX12_init_277 fkX12_104 rfl rfl rfl rfl (by decide +kernel) (by decide) ?_
  refine X_gml (g' := gC321) (mi' := mC320) (ml' := lC320) rfl rfl rfl ?_
  refine X_aload_n dX12_init_280 rfl ?_
  refine X_bipush (v := nI 8) dX12_init_281 (by decide) ?_
  refine X_newI (len := 8) dX12_init_283 acI rfl (by decide) (by decide +kernel) (by decide) (by decide) ?_
  refine X_gml (g' := gC322) (mi' := mC322) (ml' := lC322) rfl rfl rfl ?_
  refine X_topr (a' := 206) (show gC321.1 = 206 by decide +kernel) ?_
  refine X_putrF (z := 0) dX12_init_285 fkX12_107 rfl rfl rfl rfl (by decide +kernel) (by decide) ?_
  refine X_gml (g' := gC323) (mi' := mC322) (ml' := lC322) rfl rfl rfl ?_
  refine X_aload_n dX12_init_288 rfl ?_
  refine X_bipush (v := nI 8) dX12_init_289 (by decide) ?_
  refine X_newI (len := 8) dX12_init_291 acI rfl (by decide) (by decide +kernel) (by decide) (by decide) ?_
  refine X_gml (g' := gC324) (mi' := mC324) (ml' := lC324) rfl rfl rfl ?_
  refine X_topr (a' := 207) (show gC323.1 = 207 by decide +kernel) ?_
  refine X_putrF (z := 0) dX12_init_293 fkX12_110 rfl rfl rfl rfl (by decide +kernel) (by decide) ?_
  refine X_gml (g' := gC325) (mi' := mC324) (ml' := lC324) rfl rfl rfl ?_
  refine X_aload_n dX12_init_296 rfl ?_
  refine X_bipush (v := nI 8) dX12_init_297 (by decide) ?_
  refine X_newI (len := 8) dX12_init_299 acI rfl (by decide) (by decide +kernel) (by decide) (by decide) ?_
  refine X_gml (g' := gC326) (mi' := mC326) (ml' := lC326) rfl rfl rfl ?_
  refine X_topr (a' := 208) (show gC325.1 = 208 by decide +kernel) ?_
  refine X_putrF (z := 0) dX12_init_301 fkX12_113 rfl rfl rfl rfl (by decide +kernel) (by decide) ?_
  refine X_gml (g' := gC327) (mi' := mC326) (ml' := lC326) rfl rfl rfl ?_
  refine X_aload_n dX12_init_304 rfl ?_
  refine X_bipush (v := nI 24) dX12_init_305 (by decide) ?_
  refine X_newI (len := 24) dX12_init_307 acI rfl (by decide) (by decide +kernel) (by decide) (by decide) ?_
  refine X_gml (g' := gC328) (mi' := mC328) (ml' := lC328) rfl rfl rfl ?_
  refine X_topr (a' := 209) (show gC327.1 = 209 by decide +kernel) ?_
  refine X_putrF (z := 0) dX12_init_309 fkX12_116 rfl rfl rfl rfl (by decide +kernel) (by decide) ?_
  refine X_gml (g' := gC329) (mi' := mC328) (ml' := lC328) rfl rfl rfl ?_
  refine X_aload_n dX12_init_312 rfl ?_
  refine X_bipush (v := nI 8) dX12_init_313 (by decide) ?_
  refine X_bipush (v := nI 24) dX12_init_315 (by decide) ?_
  refine X_multi (N := 8) (K := 24) dX12_init_317 clX12_26 acI rfl rfl (by decide) (by decide) (by decide +kernel) (by decide) (by decide) ?_
  refine X_gml (g' := gC330) (mi' := mC330) (ml' := lC330) rfl rfl rfl ?_
  refine X_topr (a' := 210) (show gC329.1 = 210 by decide +kernel) ?_
  refine X_putrF (z := 0) dX12_init_321 fkX12_119 rfl rfl rfl rfl (by decide +kernel) (by decide) ?_
  refine X_gml (g' := gC331) (mi' := mC330) (ml' := lC330) rfl rfl rfl ?_
  refine X_aload_n dX12_init_324 rfl ?_
  refine X_bipush (v := nI 8) dX12_init_325 (by decide) ?_
  refine X_bipush (v := nI 24) dX12_init_327 (by decide) ?_
  refine X_multi (N := 8) (K := 24) dX12_init_329 clX12_26 acI rfl rfl (by decide) (by decide) (by decide +kernel) (by decide) (by decide) ?_
  refine X_gml (g' := gC332) (mi' := mC332) (ml' := lC332) rfl rfl rfl ?_
  refine X_topr (a' := 219) (show gC331.1 = 219 by decide +kernel) ?_
  refine X_putrF (z := 0) dX12_init_333 fkX12_122 rfl rfl rfl rfl (by decide +kernel) (by decide) ?_
  refine X_gml (g' := gC333) (mi' := mC332) (ml' := lC332) rfl rfl rfl ?_
  refine X_aload_n dX12_init_336 rfl ?_
  refine X_bipush (v := nI 8) dX12_init_337 (by decide) ?_
  refine X_newZ (len := 8) dX12_init_339 acZ rfl (by decide) (by decide +kernel) (by decide) (by decide) ?_
  refine X_gml (g' := gC334) (mi' := mC334) (ml' := lC334) rfl rfl rfl ?_
  refine X_topr (a' := 228) (show gC333.1 = 228 by decide +kernel) ?_
  refine X_putrF (z := 0) dX12_init_341 fkX12_125 rfl rfl rfl rfl (by decide +kernel) (by decide) ?_
  refine X_gml (g' := gC335) (mi' := mC334) (ml' := lC334) rfl rfl rfl ?_
  refine X_aload_n dX12_init_344 rfl ?_
  refine X_bipush (v := nI 8) dX12_init_345 (by decide) ?_
  refine X_newI (len := 8) dX12_init_347 acI rfl (by decide) (by decide +kernel) (by decide) (by decide) ?_
  refine X_gml (g' := gC336) (mi' := mC336) (ml' := lC336) rfl rfl rfl ?_
  refine X_topr (a' := 229) (show gC335.1 = 229 by decide +kernel) ?_
  refine X_putrF (z := 0) dX12_init_349 fkX12_128 rfl rfl rfl rfl (by decide +kernel) (by decide) ?_
  refine X_gml (g' := gC337) (mi' := mC336) (ml' := lC336) rfl rfl rfl ?_
  refine X_aload_n dX12_init_352 rfl ?_
  refine X_bipush (v := nI 8) dX12_init_353 (by decide) ?_
  refine X_newI (len := 8) dX12_init_355 acI rfl (by decide) (by decide +kernel) (by decide) (by decide) ?_
  refine X_gml (g' := gC338) (mi' := mC338) (ml' := lC338) rfl rfl rfl ?_
  refine X_topr (a' := 230) (show gC337.1 = 230 by decide +kernel) ?_
  refine X_putrF (z := 0) dX12_init_357 fkX12_131 rfl rfl rfl rfl (by decide +kernel) (by decide) ?_
  refine X_gml (g' := gC339) (mi' := mC338) (ml' := lC338) rfl rfl rfl ?_
  refine X_aload_n dX12_init_360 rfl ?_
  refine X_sipush (v := nI 200) dX12_init_361 (by decide) ?_
  refine X_bipush (v := nI 32) dX12_init_364 (by decide) ?_
  refine X_multi (N := 200) (K := 32) dX12_init_366 clX12_26 acI rfl rfl (by decide) (by decide) (by decide +kernel) (by decide) (by decide) ?_
  refine X_gml (g' := gC340) (mi' := mC340) (ml' := lC340) rfl rfl rfl ?_
  refine X_topr (a' := 231) (show gC339.1 = 231 by decide +kernel) ?_
  refine X_putrF (z := 0) dX12_init_370 fkX12_134 rfl rfl rfl rfl (by decide +kernel) (by decide) ?_
  refine X_gml (g' := gC341) (mi' := mC340) (ml' := lC340) rfl rfl rfl ?_
  refine X_aload_n dX12_init_373 rfl ?_
  refine X_iconst (v := nI 4) dX12_init_374 (by decide) ?_
  refine X_sipush (v := nI 4096) dX12_init_375 (by decide) ?_
  refine X_multi (N := 4) (K := 4096) dX12_init_378 clX12_26 acI rfl rfl (by decide) (by decide) (by decide +kernel) (by decide) (by decide) ?_
  refine X_gml (g' := gC342) (mi' := mC342) (ml' := lC342) rfl rfl rfl ?_
  refine X_topr (a' := 432) (show gC341.1 = 432 by decide +kernel) ?_
  refine X_putrF (z := 0) dX12_init_382 fkX12_137 rfl rfl rfl rfl (by decide +kernel) (by decide) ?_
  refine X_gml (g' := gC343) (mi' := mC342) (ml' := lC342) rfl rfl rfl ?_
  refine X_aload_n dX12_init_385 rfl ?_
  refine X_bipush (v := nI 9) dX12_init_386 (by decide) ?_
  refine X_sipush (v := nI 512) dX12_init_388 (by decide) ?_
  refine X_multi (N := 9) (K := 512) dX12_init_391 clX12_26 acI rfl rfl (by decide) (by decide) (by decide +kernel) (by decide) (by decide) ?_
  refine X_gml (g' := gC344) (mi' := mC344) (ml' := lC344) rfl rfl rfl ?_
  refine X_topr (a' := 437) (show gC343.1 = 437 by decide +kernel) ?_
  refine X_putrF (z := 0) dX12_init_395 fkX12_140 rfl rfl rfl rfl (by decide +kernel) (by decide) ?_
  refine X_gml (g' := gC345) (mi' := mC344) (ml' := lC344) rfl rfl rfl ?_
  refine X_aload_n dX12_init_398 rfl ?_
  refine X_bipush (v := nI 8) dX12_init_399 (by decide) ?_
  refine X_newI (len := 8) dX12_init_401 acI rfl (by decide) (by decide +kernel) (by decide) (by decide) ?_
  refine X_gml (g' := gC346) (mi' := mC346) (ml' := lC346) rfl rfl rfl ?_
  refine X_topr (a' := 447) (show gC345.1 = 447 by decide +kernel) ?_
  refine X_putrF (z := 0) dX12_init_403 fkX12_143 rfl rfl rfl rfl (by decide +kernel) (by decide) ?_
  refine X_gml (g' := gC347) (mi' := mC346) (ml' := lC346) rfl rfl rfl ?_
  refine X_aload_n dX12_init_406 rfl ?_
  refine X_bipush (v := nI 8) dX12_init_407 (by decide) ?_
  refine X_newI (len := 8) dX12_init_409 acI rfl (by decide) (by decide +kernel) (by decide) (by decide) ?_
  refine X_gml (g' := gC348) (mi' := mC348) (ml' := lC348) rfl rfl rfl ?_
  refine X_topr (a' := 448) (show gC347.1 = 448 by decide +kernel) ?_
  refine X_putrF (z := 0) dX12_init_411 fkX12_146 rfl rfl rfl rfl (by decide +kernel) (by decide) ?_
  refine X_gml (g' := gC349) (mi' := mC348) (ml' := lC348) rfl rfl rfl ?_
  refine X_aload_n dX12_init_414 rfl ?_
  refine X_bipush (v := nI 12) dX12_init_415 (by decide) ?_
  refine X_newZ (len := 12) dX12_init_417 acZ rfl (by decide) (by decide +kernel) (by decide) (by decide) ?_
  refine X_gml (g' := gC350) (mi' := mC350) (ml' := lC350) rfl rfl rfl ?_
  refine X_topr (a' := 449) (show gC349.1 = 449 by decide +kernel) ?_
  refine X_putrF (z := 0) dX12_init_419 fkX12_149 rfl rfl rfl rfl (by decide +kernel) (by decide) ?_
  refine X_gml (g' := gC351) (mi' := mC350) (ml' := lC350) rfl rfl rfl ?_
  refine X_aload_n dX12_init_422 rfl ?_
  refine X_callV (z := 0) dX12_init_423 mkX12_152 (by decide +kernel) (ct22_X12_tellsNothing Γ) rfl rfl (by decide) (by decide) (by decide) (by decide) (fun _ _ _ _ h => by cases h.1) (fun v g' mi' ml' h => ?_)
  obtain ⟨h1, rfl, rfl, rfl⟩ := h
  cases h1
  refine X_aload_n dX12_init_426 rfl ?_
  refine X_callV (z := 0) dX12_init_427 mkX12_155 (by decide +kernel) (ct23_X12_stands Γ) rfl rfl (by decide) (by decide) (by decide) (by decide) (fun _ _ _ _ h => by cases h.1) (fun v g' mi' ml' h => ?_)
  obtain ⟨h1, rfl, rfl, rfl⟩ := h
  cases h1
  exact X_vret dX12_init_430 rfl ⟨rfl, rfl, rfl, rfl⟩
def gC383 : pGG := newG gC351 (21, 1)
def mC383 : pMI := newR mC382 gC351.1 0
def lC383 : pML := newR lC350 gC351.1 0
/-- the world behind both constructors and the law's row -/
abbrev gS : pGG := gC383
abbrev mS : pMI := mC383
abbrev lS : pML := lC383
theorem shS1 : ∀ i, i < 451 → gS.2.1 i = KD i := by decide +kernel
theorem shS2 : ∀ q ∈ refL, gS.2.2 q.1 q.2 = MRf q.1 q.2 := by decide +kernel
theorem shS3 : ∀ q ∈ outL, ∀ j, j < q.2 → gS.2.2 q.1 j = some (q.1 + 1 + j) := by decide +kernel
theorem shS : Sh gS := ⟨shS1, shS2, shS3⟩
