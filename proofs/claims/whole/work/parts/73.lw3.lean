/-! The other arms of the law -/
section LWA
variable {p : Program} {l : Launch} {e : Env} {s : State} {m : MethodId} {below : List Frame} {meth : Method} {c : Code} {Q : State → Prop}
variable {b L : Nat} {xs : Nat → Int32} {D : va_G} {ca : Nat → ClassId} {ad : Nat → Nat} {n : Nat} {cd : Cond}
set_option maxHeartbeats 4000000 in
set_option maxRecDepth 100000 in
theorem lw_arm10 (C0 : CallFix p m c code 4 s #[Value.ref b] (cd :: gw_) R_LW) (hX : va_X b L xs s s.heap) (hbl : b < s.heap.size) (hL : L ≤ 1537) (h2 : 2 ≤ n) (h6 : n ≤ 6) (hK : va_K D classes (tys_ ca) s) {i : Nat} (hi : i + 3 ≤ L) {σ : sp_S} {ws : va_W} {H : Heap} {locs : List Loc} (hg : MGW ca ad n σ ws) (ho : MOW ca ad n σ ws) (hP : va_P D classes ws H) (hD : va_D (lw_A s) ws) (hS : va_S (lw_A s) s.heap H locs) {ls : Array Slot} (hl : lv_has ls 4 [(3, .int (nI (i))), (2, .ref (ad 52)), (1, .ref (ad 0)), (0, .ref (b))]) (kk : ∀ (σ : sp_S) (ws : va_W) (H : Heap) (locs : List Loc), MGW ca ad n σ ws → MOW ca ad n σ ws → va_P D classes ws H → va_D (lw_A s) ws → va_S (lw_A s) s.heap H locs → W p l e room_1 s m #[Value.ref b] below meth c H locs 600000 7302250 Q (F0 m 649 ls [])) : W p l e room_1 s m #[Value.ref b] below meth c H locs 600000 7302250 Q (F0 m 392 ls []) := by
  obtain ⟨len, tx, pc, rk, gc, gs⟩ := σ
  refine lv_aload_n (pc := 392) C0.1 C0.2.1 d_LW_law_392 rfl (lv_at hl 2 rfl) ?_
  refine lv_aload_n (pc := 393) C0.1 C0.2.1 d_LW_law_393 rfl (lv_at hl 3 rfl) ?_
  refine lv_iload_n (pc := 394) C0.1 C0.2.1 d_LW_law_394 rfl (lv_at hl 0 rfl) ?_
  refine lv_iconst (pc := 395) (v := nI (1)) C0.1 C0.2.1 d_LW_law_395 (by decide +kernel) ?_
  refine mn_add (pc := 396) C0 d_LW_law_396 ?_
  refine lw_sld (pc := 397) C0 hX hbl hS (j := i + 1) (by omega) (by omega) d_LW_law_397 ?_
  refine lv_aload_n (pc := 398) C0.1 C0.2.1 d_LW_law_398 rfl (lv_at hl 3 rfl) ?_
  refine lv_iload_n (pc := 399) C0.1 C0.2.1 d_LW_law_399 rfl (lv_at hl 0 rfl) ?_
  refine lv_iconst (pc := 400) (v := nI (2)) C0.1 C0.2.1 d_LW_law_400 (by decide +kernel) ?_
  refine mn_add (pc := 401) C0 d_LW_law_401 ?_
  refine lw_sld (pc := 402) C0 hX hbl hS (j := i + 2) (by omega) (by omega) d_LW_law_402 ?_
  obtain ⟨hz, -⟩ := (⟨hg.1, trivial⟩ : ws[0]? = some (ad 0, .inr (0, [.ref (ad 1), .ref (ad 4), .ref (ad 7), .int (nI (pc)), .ref (ad 9), .int (nI (gc)), .ref (ad 46), .ref (ad 49)])) ∧ True)
  refine mg_ciR (pc := 403) (As := [.int (xs (i + 1)), .int (xs (i + 2))]) (rest := []) C0 (c_MG_least l D ca ad h2 h6 ws hg) lk_LW_65 ⟨Nat.le_of_ble_eq_true rfl, Nat.le_of_ble_eq_true rfl⟩ ⟨Nat.le_refl _, Nat.le_refl _⟩ hz rfl hK hP hD hS (fun _ h => h) rfl hl.1 rfl (Nat.le_of_ble_eq_true rfl) d_LW_law_403 (fun rv ws H locs hpost hP hD hS => ?_)
  obtain ⟨hr, hg, hfr⟩ := hpost
  have ho := lw_ofr hfr ho
  refine lv_aload_n (pc := 406) C0.1 C0.2.1 d_LW_law_406 rfl (lv_at hl 1 rfl) ?_
  refine lv_aload_n (pc := 407) C0.1 C0.2.1 d_LW_law_407 rfl (lv_at hl 3 rfl) ?_
  refine lv_iload_n (pc := 408) C0.1 C0.2.1 d_LW_law_408 rfl (lv_at hl 0 rfl) ?_
  refine lv_iconst (pc := 409) (v := nI (1)) C0.1 C0.2.1 d_LW_law_409 (by decide +kernel) ?_
  refine mn_add (pc := 410) C0 d_LW_law_410 ?_
  refine lw_sld (pc := 411) C0 hX hbl hS (j := i + 1) (by omega) (by omega) d_LW_law_411 ?_
  refine lv_aload_n (pc := 412) C0.1 C0.2.1 d_LW_law_412 rfl (lv_at hl 3 rfl) ?_
  refine lv_iload_n (pc := 413) C0.1 C0.2.1 d_LW_law_413 rfl (lv_at hl 0 rfl) ?_
  refine lv_iconst (pc := 414) (v := nI (2)) C0.1 C0.2.1 d_LW_law_414 (by decide +kernel) ?_
  refine mn_add (pc := 415) C0 d_LW_law_415 ?_
  refine lw_sld (pc := 416) C0 hX hbl hS (j := i + 2) (by omega) (by omega) d_LW_law_416 ?_
  obtain ⟨hz, -⟩ := (⟨ho.1, trivial⟩ : ws[52]? = some (ad 52, .inr (4, [.int (nI (n)), .int (nI (pm_fc n)), .ref (ad 53), .int (nI (pc)), .ref (ad 54), .int (nI (gc)), .ref (ad 55), .ref (ad 56), .ref (ad 57), .ref (ad 58), .ref (ad 59), .int (nI (len))])) ∧ True)
  refine mg_ciR (pc := 417) (As := [.int (xs (i + 1)), .int (xs (i + 2))]) (rest := [.int (rv)]) C0 (c_MO_least l D ca ad h2 h6 ws ho) lk_LW_68 ⟨Nat.le_of_ble_eq_true rfl, Nat.le_of_ble_eq_true rfl⟩ ⟨Nat.le_refl _, Nat.le_refl _⟩ hz rfl hK hP hD hS (fun _ h => h) rfl hl.1 rfl (Nat.le_of_ble_eq_true rfl) d_LW_law_417 (fun ru ws H locs hpost hP hD hS => ?_)
  obtain ⟨hr2, ho, hfr⟩ := hpost
  have hg := lw_gfr hfr hg
  exact lv_icmp_eq (pc := 420) (tgt := 649) C0.1 C0.2.1 d_LW_law_420 (by decide) (fun _ => kk _ _ _ _ hg ho hP hD hS) (fun hc => absurd (hr.trans hr2.symm) hc)
set_option maxHeartbeats 4000000 in
set_option maxRecDepth 100000 in
theorem lw_arm11 (C0 : CallFix p m c code 4 s #[Value.ref b] (cd :: gw_) R_LW) (hX : va_X b L xs s s.heap) (hbl : b < s.heap.size) (hL : L ≤ 1537) (h2 : 2 ≤ n) (h6 : n ≤ 6) (hK : va_K D classes (tys_ ca) s) {i : Nat} (hi : i + 3 ≤ L) {σ : sp_S} {ws : va_W} {H : Heap} {locs : List Loc} (hg : MGW ca ad n σ ws) (ho : MOW ca ad n σ ws) (hP : va_P D classes ws H) (hD : va_D (lw_A s) ws) (hS : va_S (lw_A s) s.heap H locs) {ls : Array Slot} (hl : lv_has ls 4 [(3, .int (nI (i))), (2, .ref (ad 52)), (1, .ref (ad 0)), (0, .ref (b))]) (kk : ∀ (σ : sp_S) (ws : va_W) (H : Heap) (locs : List Loc), MGW ca ad n σ ws → MOW ca ad n σ ws → va_P D classes ws H → va_D (lw_A s) ws → va_S (lw_A s) s.heap H locs → W p l e room_1 s m #[Value.ref b] below meth c H locs 600000 7302250 Q (F0 m 649 ls [])) : W p l e room_1 s m #[Value.ref b] below meth c H locs 600000 7302250 Q (F0 m 425 ls []) := by
  obtain ⟨len, tx, pc, rk, gc, gs⟩ := σ
  refine lv_aload_n (pc := 425) C0.1 C0.2.1 d_LW_law_425 rfl (lv_at hl 2 rfl) ?_
  refine lv_aload_n (pc := 426) C0.1 C0.2.1 d_LW_law_426 rfl (lv_at hl 3 rfl) ?_
  refine lv_iload_n (pc := 427) C0.1 C0.2.1 d_LW_law_427 rfl (lv_at hl 0 rfl) ?_
  refine lv_iconst (pc := 428) (v := nI (1)) C0.1 C0.2.1 d_LW_law_428 (by decide +kernel) ?_
  refine mn_add (pc := 429) C0 d_LW_law_429 ?_
  refine lw_sld (pc := 430) C0 hX hbl hS (j := i + 1) (by omega) (by omega) d_LW_law_430 ?_
  refine lv_aload_n (pc := 431) C0.1 C0.2.1 d_LW_law_431 rfl (lv_at hl 3 rfl) ?_
  refine lv_iload_n (pc := 432) C0.1 C0.2.1 d_LW_law_432 rfl (lv_at hl 0 rfl) ?_
  refine lv_iconst (pc := 433) (v := nI (2)) C0.1 C0.2.1 d_LW_law_433 (by decide +kernel) ?_
  refine mn_add (pc := 434) C0 d_LW_law_434 ?_
  refine lw_sld (pc := 435) C0 hX hbl hS (j := i + 2) (by omega) (by omega) d_LW_law_435 ?_
  obtain ⟨hz, -⟩ := (⟨hg.1, trivial⟩ : ws[0]? = some (ad 0, .inr (0, [.ref (ad 1), .ref (ad 4), .ref (ad 7), .int (nI (pc)), .ref (ad 9), .int (nI (gc)), .ref (ad 46), .ref (ad 49)])) ∧ True)
  refine mg_ciR (pc := 436) (As := [.int (xs (i + 1)), .int (xs (i + 2))]) (rest := []) C0 (c_MG_orbit l D ca ad h2 h6 ws hg) lk_LW_69 ⟨Nat.le_of_ble_eq_true rfl, Nat.le_of_ble_eq_true rfl⟩ ⟨Nat.le_refl _, Nat.le_refl _⟩ hz rfl hK hP hD hS (fun _ h => h) rfl hl.1 rfl (Nat.le_of_ble_eq_true rfl) d_LW_law_436 (fun rv ws H locs hpost hP hD hS => ?_)
  obtain ⟨hr, hg, hfr⟩ := hpost
  have ho := lw_ofr hfr ho
  refine lv_aload_n (pc := 439) C0.1 C0.2.1 d_LW_law_439 rfl (lv_at hl 1 rfl) ?_
  refine lv_aload_n (pc := 440) C0.1 C0.2.1 d_LW_law_440 rfl (lv_at hl 3 rfl) ?_
  refine lv_iload_n (pc := 441) C0.1 C0.2.1 d_LW_law_441 rfl (lv_at hl 0 rfl) ?_
  refine lv_iconst (pc := 442) (v := nI (1)) C0.1 C0.2.1 d_LW_law_442 (by decide +kernel) ?_
  refine mn_add (pc := 443) C0 d_LW_law_443 ?_
  refine lw_sld (pc := 444) C0 hX hbl hS (j := i + 1) (by omega) (by omega) d_LW_law_444 ?_
  refine lv_aload_n (pc := 445) C0.1 C0.2.1 d_LW_law_445 rfl (lv_at hl 3 rfl) ?_
  refine lv_iload_n (pc := 446) C0.1 C0.2.1 d_LW_law_446 rfl (lv_at hl 0 rfl) ?_
  refine lv_iconst (pc := 447) (v := nI (2)) C0.1 C0.2.1 d_LW_law_447 (by decide +kernel) ?_
  refine mn_add (pc := 448) C0 d_LW_law_448 ?_
  refine lw_sld (pc := 449) C0 hX hbl hS (j := i + 2) (by omega) (by omega) d_LW_law_449 ?_
  obtain ⟨hz, -⟩ := (⟨ho.1, trivial⟩ : ws[52]? = some (ad 52, .inr (4, [.int (nI (n)), .int (nI (pm_fc n)), .ref (ad 53), .int (nI (pc)), .ref (ad 54), .int (nI (gc)), .ref (ad 55), .ref (ad 56), .ref (ad 57), .ref (ad 58), .ref (ad 59), .int (nI (len))])) ∧ True)
  refine mg_ciR (pc := 450) (As := [.int (xs (i + 1)), .int (xs (i + 2))]) (rest := [.int (rv)]) C0 (c_MO_orbit l D ca ad h2 h6 ws ho) lk_LW_72 ⟨Nat.le_of_ble_eq_true rfl, Nat.le_of_ble_eq_true rfl⟩ ⟨Nat.le_refl _, Nat.le_refl _⟩ hz rfl hK hP hD hS (fun _ h => h) rfl hl.1 rfl (Nat.le_of_ble_eq_true rfl) d_LW_law_450 (fun ru ws H locs hpost hP hD hS => ?_)
  obtain ⟨hr2, ho, hfr⟩ := hpost
  have hg := lw_gfr hfr hg
  exact lv_icmp_eq (pc := 453) (tgt := 649) C0.1 C0.2.1 d_LW_law_453 (by decide) (fun _ => kk _ _ _ _ hg ho hP hD hS) (fun hc => absurd (hr.trans hr2.symm) hc)
set_option maxHeartbeats 4000000 in
set_option maxRecDepth 100000 in
theorem lw_arm12 (C0 : CallFix p m c code 4 s #[Value.ref b] (cd :: gw_) R_LW) (hX : va_X b L xs s s.heap) (hbl : b < s.heap.size) (hL : L ≤ 1537) (h2 : 2 ≤ n) (h6 : n ≤ 6) (hK : va_K D classes (tys_ ca) s) {i : Nat} (hi : i + 3 ≤ L) {σ : sp_S} {ws : va_W} {H : Heap} {locs : List Loc} (hg : MGW ca ad n σ ws) (ho : MOW ca ad n σ ws) (hP : va_P D classes ws H) (hD : va_D (lw_A s) ws) (hS : va_S (lw_A s) s.heap H locs) {ls : Array Slot} (hl : lv_has ls 4 [(3, .int (nI (i))), (2, .ref (ad 52)), (1, .ref (ad 0)), (0, .ref (b))]) (kk : ∀ (σ : sp_S) (ws : va_W) (H : Heap) (locs : List Loc), MGW ca ad n σ ws → MOW ca ad n σ ws → va_P D classes ws H → va_D (lw_A s) ws → va_S (lw_A s) s.heap H locs → W p l e room_1 s m #[Value.ref b] below meth c H locs 600000 7302250 Q (F0 m 649 ls [])) : W p l e room_1 s m #[Value.ref b] below meth c H locs 600000 7302250 Q (F0 m 458 ls []) := by
  obtain ⟨len, tx, pc, rk, gc, gs⟩ := σ
  refine lv_aload_n (pc := 458) C0.1 C0.2.1 d_LW_law_458 rfl (lv_at hl 2 rfl) ?_
  refine lv_aload_n (pc := 459) C0.1 C0.2.1 d_LW_law_459 rfl (lv_at hl 3 rfl) ?_
  refine lv_iload_n (pc := 460) C0.1 C0.2.1 d_LW_law_460 rfl (lv_at hl 0 rfl) ?_
  refine lv_iconst (pc := 461) (v := nI (1)) C0.1 C0.2.1 d_LW_law_461 (by decide +kernel) ?_
  refine mn_add (pc := 462) C0 d_LW_law_462 ?_
  refine lw_sld (pc := 463) C0 hX hbl hS (j := i + 1) (by omega) (by omega) d_LW_law_463 ?_
  refine lv_aload_n (pc := 464) C0.1 C0.2.1 d_LW_law_464 rfl (lv_at hl 3 rfl) ?_
  refine lv_iload_n (pc := 465) C0.1 C0.2.1 d_LW_law_465 rfl (lv_at hl 0 rfl) ?_
  refine lv_iconst (pc := 466) (v := nI (2)) C0.1 C0.2.1 d_LW_law_466 (by decide +kernel) ?_
  refine mn_add (pc := 467) C0 d_LW_law_467 ?_
  refine lw_sld (pc := 468) C0 hX hbl hS (j := i + 2) (by omega) (by omega) d_LW_law_468 ?_
  obtain ⟨hz, -⟩ := (⟨hg.1, trivial⟩ : ws[0]? = some (ad 0, .inr (0, [.ref (ad 1), .ref (ad 4), .ref (ad 7), .int (nI (pc)), .ref (ad 9), .int (nI (gc)), .ref (ad 46), .ref (ad 49)])) ∧ True)
  refine mg_ciR (pc := 469) (As := [.int (xs (i + 1)), .int (xs (i + 2))]) (rest := []) C0 (c_MG_hold l D ca ad h2 h6 ws hg) lk_LW_73 ⟨Nat.le_of_ble_eq_true rfl, Nat.le_of_ble_eq_true rfl⟩ ⟨Nat.le_refl _, Nat.le_refl _⟩ hz rfl hK hP hD hS (fun _ h => h) rfl hl.1 rfl (Nat.le_of_ble_eq_true rfl) d_LW_law_469 (fun rv ws H locs hpost hP hD hS => ?_)
  obtain ⟨hr, hg, hfr⟩ := hpost
  have ho := lw_ofr hfr ho
  refine lv_aload_n (pc := 472) C0.1 C0.2.1 d_LW_law_472 rfl (lv_at hl 1 rfl) ?_
  refine lv_aload_n (pc := 473) C0.1 C0.2.1 d_LW_law_473 rfl (lv_at hl 3 rfl) ?_
  refine lv_iload_n (pc := 474) C0.1 C0.2.1 d_LW_law_474 rfl (lv_at hl 0 rfl) ?_
  refine lv_iconst (pc := 475) (v := nI (1)) C0.1 C0.2.1 d_LW_law_475 (by decide +kernel) ?_
  refine mn_add (pc := 476) C0 d_LW_law_476 ?_
  refine lw_sld (pc := 477) C0 hX hbl hS (j := i + 1) (by omega) (by omega) d_LW_law_477 ?_
  refine lv_aload_n (pc := 478) C0.1 C0.2.1 d_LW_law_478 rfl (lv_at hl 3 rfl) ?_
  refine lv_iload_n (pc := 479) C0.1 C0.2.1 d_LW_law_479 rfl (lv_at hl 0 rfl) ?_
  refine lv_iconst (pc := 480) (v := nI (2)) C0.1 C0.2.1 d_LW_law_480 (by decide +kernel) ?_
  refine mn_add (pc := 481) C0 d_LW_law_481 ?_
  refine lw_sld (pc := 482) C0 hX hbl hS (j := i + 2) (by omega) (by omega) d_LW_law_482 ?_
  obtain ⟨hz, -⟩ := (⟨ho.1, trivial⟩ : ws[52]? = some (ad 52, .inr (4, [.int (nI (n)), .int (nI (pm_fc n)), .ref (ad 53), .int (nI (pc)), .ref (ad 54), .int (nI (gc)), .ref (ad 55), .ref (ad 56), .ref (ad 57), .ref (ad 58), .ref (ad 59), .int (nI (len))])) ∧ True)
  refine mg_ciR (pc := 483) (As := [.int (xs (i + 1)), .int (xs (i + 2))]) (rest := [.int (rv)]) C0 (c_MO_hold l D ca ad h2 h6 ws ho) lk_LW_76 ⟨Nat.le_of_ble_eq_true rfl, Nat.le_of_ble_eq_true rfl⟩ ⟨Nat.le_refl _, Nat.le_refl _⟩ hz rfl hK hP hD hS (fun _ h => h) rfl hl.1 rfl (Nat.le_of_ble_eq_true rfl) d_LW_law_483 (fun ru ws H locs hpost hP hD hS => ?_)
  obtain ⟨hr2, ho, hfr⟩ := hpost
  have hg := lw_gfr hfr hg
  exact lv_icmp_eq (pc := 486) (tgt := 649) C0.1 C0.2.1 d_LW_law_486 (by decide) (fun _ => kk _ _ _ _ hg ho hP hD hS) (fun hc => absurd (hr.trans hr2.symm) hc)
set_option maxHeartbeats 4000000 in
set_option maxRecDepth 100000 in
theorem lw_arm13 (C0 : CallFix p m c code 4 s #[Value.ref b] (cd :: gw_) R_LW) (hX : va_X b L xs s s.heap) (hbl : b < s.heap.size) (hL : L ≤ 1537) (h2 : 2 ≤ n) (h6 : n ≤ 6) (hK : va_K D classes (tys_ ca) s) {i : Nat} (hi : i + 3 ≤ L) {σ : sp_S} {ws : va_W} {H : Heap} {locs : List Loc} (hg : MGW ca ad n σ ws) (ho : MOW ca ad n σ ws) (hP : va_P D classes ws H) (hD : va_D (lw_A s) ws) (hS : va_S (lw_A s) s.heap H locs) {ls : Array Slot} (hl : lv_has ls 4 [(3, .int (nI (i))), (2, .ref (ad 52)), (1, .ref (ad 0)), (0, .ref (b))]) (kk : ∀ (σ : sp_S) (ws : va_W) (H : Heap) (locs : List Loc), MGW ca ad n σ ws → MOW ca ad n σ ws → va_P D classes ws H → va_D (lw_A s) ws → va_S (lw_A s) s.heap H locs → W p l e room_1 s m #[Value.ref b] below meth c H locs 600000 7302250 Q (F0 m 649 ls [])) : W p l e room_1 s m #[Value.ref b] below meth c H locs 600000 7302250 Q (F0 m 491 ls []) := by
  obtain ⟨len, tx, pc, rk, gc, gs⟩ := σ
  refine lv_aload_n (pc := 491) C0.1 C0.2.1 d_LW_law_491 rfl (lv_at hl 2 rfl) ?_
  refine lv_aload_n (pc := 492) C0.1 C0.2.1 d_LW_law_492 rfl (lv_at hl 3 rfl) ?_
  refine lv_iload_n (pc := 493) C0.1 C0.2.1 d_LW_law_493 rfl (lv_at hl 0 rfl) ?_
  refine lv_iconst (pc := 494) (v := nI (1)) C0.1 C0.2.1 d_LW_law_494 (by decide +kernel) ?_
  refine mn_add (pc := 495) C0 d_LW_law_495 ?_
  refine lw_sld (pc := 496) C0 hX hbl hS (j := i + 1) (by omega) (by omega) d_LW_law_496 ?_
  refine lv_aload_n (pc := 497) C0.1 C0.2.1 d_LW_law_497 rfl (lv_at hl 3 rfl) ?_
  refine lv_iload_n (pc := 498) C0.1 C0.2.1 d_LW_law_498 rfl (lv_at hl 0 rfl) ?_
  refine lv_iconst (pc := 499) (v := nI (2)) C0.1 C0.2.1 d_LW_law_499 (by decide +kernel) ?_
  refine mn_add (pc := 500) C0 d_LW_law_500 ?_
  refine lw_sld (pc := 501) C0 hX hbl hS (j := i + 2) (by omega) (by omega) d_LW_law_501 ?_
  obtain ⟨hz, -⟩ := (⟨hg.1, trivial⟩ : ws[0]? = some (ad 0, .inr (0, [.ref (ad 1), .ref (ad 4), .ref (ad 7), .int (nI (pc)), .ref (ad 9), .int (nI (gc)), .ref (ad 46), .ref (ad 49)])) ∧ True)
  refine mg_ciR (pc := 502) (As := [.int (xs (i + 1)), .int (xs (i + 2))]) (rest := []) C0 (c_MG_compare l D ca ad h2 h6 ws hg) lk_LW_77 ⟨Nat.le_of_ble_eq_true rfl, Nat.le_of_ble_eq_true rfl⟩ ⟨Nat.le_refl _, Nat.le_refl _⟩ hz rfl hK hP hD hS (fun _ h => h) rfl hl.1 rfl (Nat.le_of_ble_eq_true rfl) d_LW_law_502 (fun rv ws H locs hpost hP hD hS => ?_)
  obtain ⟨hr, hg, hfr⟩ := hpost
  have ho := lw_ofr hfr ho
  refine lv_aload_n (pc := 505) C0.1 C0.2.1 d_LW_law_505 rfl (lv_at hl 1 rfl) ?_
  refine lv_aload_n (pc := 506) C0.1 C0.2.1 d_LW_law_506 rfl (lv_at hl 3 rfl) ?_
  refine lv_iload_n (pc := 507) C0.1 C0.2.1 d_LW_law_507 rfl (lv_at hl 0 rfl) ?_
  refine lv_iconst (pc := 508) (v := nI (1)) C0.1 C0.2.1 d_LW_law_508 (by decide +kernel) ?_
  refine mn_add (pc := 509) C0 d_LW_law_509 ?_
  refine lw_sld (pc := 510) C0 hX hbl hS (j := i + 1) (by omega) (by omega) d_LW_law_510 ?_
  refine lv_aload_n (pc := 511) C0.1 C0.2.1 d_LW_law_511 rfl (lv_at hl 3 rfl) ?_
  refine lv_iload_n (pc := 512) C0.1 C0.2.1 d_LW_law_512 rfl (lv_at hl 0 rfl) ?_
  refine lv_iconst (pc := 513) (v := nI (2)) C0.1 C0.2.1 d_LW_law_513 (by decide +kernel) ?_
  refine mn_add (pc := 514) C0 d_LW_law_514 ?_
  refine lw_sld (pc := 515) C0 hX hbl hS (j := i + 2) (by omega) (by omega) d_LW_law_515 ?_
  obtain ⟨hz, -⟩ := (⟨ho.1, trivial⟩ : ws[52]? = some (ad 52, .inr (4, [.int (nI (n)), .int (nI (pm_fc n)), .ref (ad 53), .int (nI (pc)), .ref (ad 54), .int (nI (gc)), .ref (ad 55), .ref (ad 56), .ref (ad 57), .ref (ad 58), .ref (ad 59), .int (nI (len))])) ∧ True)
  refine mg_ciR (pc := 516) (As := [.int (xs (i + 1)), .int (xs (i + 2))]) (rest := [.int (rv)]) C0 (c_MO_compare l D ca ad h2 h6 ws ho) lk_LW_80 ⟨Nat.le_of_ble_eq_true rfl, Nat.le_of_ble_eq_true rfl⟩ ⟨Nat.le_refl _, Nat.le_refl _⟩ hz rfl hK hP hD hS (fun _ h => h) rfl hl.1 rfl (Nat.le_of_ble_eq_true rfl) d_LW_law_516 (fun ru ws H locs hpost hP hD hS => ?_)
  obtain ⟨hr2, ho, hfr⟩ := hpost
  have hg := lw_gfr hfr hg
  exact lv_icmp_eq (pc := 519) (tgt := 649) C0.1 C0.2.1 d_LW_law_519 (by decide) (fun _ => kk _ _ _ _ hg ho hP hD hS) (fun hc => absurd (hr.trans hr2.symm) hc)
set_option maxHeartbeats 4000000 in
set_option maxRecDepth 100000 in
theorem lw_arm14 (C0 : CallFix p m c code 4 s #[Value.ref b] (cd :: gw_) R_LW) (hX : va_X b L xs s s.heap) (hbl : b < s.heap.size) (hL : L ≤ 1537) (h2 : 2 ≤ n) (h6 : n ≤ 6) (hK : va_K D classes (tys_ ca) s) {i : Nat} (hi : i + 3 ≤ L) {σ : sp_S} {ws : va_W} {H : Heap} {locs : List Loc} (hg : MGW ca ad n σ ws) (ho : MOW ca ad n σ ws) (hP : va_P D classes ws H) (hD : va_D (lw_A s) ws) (hS : va_S (lw_A s) s.heap H locs) {ls : Array Slot} (hl : lv_has ls 4 [(3, .int (nI (i))), (2, .ref (ad 52)), (1, .ref (ad 0)), (0, .ref (b))]) (kk : ∀ (σ : sp_S) (ws : va_W) (H : Heap) (locs : List Loc), MGW ca ad n σ ws → MOW ca ad n σ ws → va_P D classes ws H → va_D (lw_A s) ws → va_S (lw_A s) s.heap H locs → W p l e room_1 s m #[Value.ref b] below meth c H locs 600000 7302250 Q (F0 m 649 ls [])) : W p l e room_1 s m #[Value.ref b] below meth c H locs 600000 7302250 Q (F0 m 524 ls []) := by
  obtain ⟨len, tx, pc, rk, gc, gs⟩ := σ
  refine lv_aload_n (pc := 524) C0.1 C0.2.1 d_LW_law_524 rfl (lv_at hl 2 rfl) ?_
  refine lv_aload_n (pc := 525) C0.1 C0.2.1 d_LW_law_525 rfl (lv_at hl 3 rfl) ?_
  refine lv_iload_n (pc := 526) C0.1 C0.2.1 d_LW_law_526 rfl (lv_at hl 0 rfl) ?_
  refine lv_iconst (pc := 527) (v := nI (1)) C0.1 C0.2.1 d_LW_law_527 (by decide +kernel) ?_
  refine mn_add (pc := 528) C0 d_LW_law_528 ?_
  refine lw_sld (pc := 529) C0 hX hbl hS (j := i + 1) (by omega) (by omega) d_LW_law_529 ?_
  refine lv_aload_n (pc := 530) C0.1 C0.2.1 d_LW_law_530 rfl (lv_at hl 3 rfl) ?_
  refine lv_iload_n (pc := 531) C0.1 C0.2.1 d_LW_law_531 rfl (lv_at hl 0 rfl) ?_
  refine lv_iconst (pc := 532) (v := nI (2)) C0.1 C0.2.1 d_LW_law_532 (by decide +kernel) ?_
  refine mn_add (pc := 533) C0 d_LW_law_533 ?_
  refine lw_sld (pc := 534) C0 hX hbl hS (j := i + 2) (by omega) (by omega) d_LW_law_534 ?_
  obtain ⟨hz, -⟩ := (⟨hg.1, trivial⟩ : ws[0]? = some (ad 0, .inr (0, [.ref (ad 1), .ref (ad 4), .ref (ad 7), .int (nI (pc)), .ref (ad 9), .int (nI (gc)), .ref (ad 46), .ref (ad 49)])) ∧ True)
  refine mg_ciR (pc := 535) (As := [.int (xs (i + 1)), .int (xs (i + 2))]) (rest := []) C0 (c_MG_normal l D ca ad h2 h6 ws hg) lk_LW_81 ⟨Nat.le_of_ble_eq_true rfl, Nat.le_of_ble_eq_true rfl⟩ ⟨Nat.le_refl _, Nat.le_refl _⟩ hz rfl hK hP hD hS (fun _ h => h) rfl hl.1 rfl (Nat.le_of_ble_eq_true rfl) d_LW_law_535 (fun rv ws H locs hpost hP hD hS => ?_)
  obtain ⟨hr, hg, hfr⟩ := hpost
  have ho := lw_ofr hfr ho
  refine lv_aload_n (pc := 538) C0.1 C0.2.1 d_LW_law_538 rfl (lv_at hl 1 rfl) ?_
  refine lv_aload_n (pc := 539) C0.1 C0.2.1 d_LW_law_539 rfl (lv_at hl 3 rfl) ?_
  refine lv_iload_n (pc := 540) C0.1 C0.2.1 d_LW_law_540 rfl (lv_at hl 0 rfl) ?_
  refine lv_iconst (pc := 541) (v := nI (1)) C0.1 C0.2.1 d_LW_law_541 (by decide +kernel) ?_
  refine mn_add (pc := 542) C0 d_LW_law_542 ?_
  refine lw_sld (pc := 543) C0 hX hbl hS (j := i + 1) (by omega) (by omega) d_LW_law_543 ?_
  refine lv_aload_n (pc := 544) C0.1 C0.2.1 d_LW_law_544 rfl (lv_at hl 3 rfl) ?_
  refine lv_iload_n (pc := 545) C0.1 C0.2.1 d_LW_law_545 rfl (lv_at hl 0 rfl) ?_
  refine lv_iconst (pc := 546) (v := nI (2)) C0.1 C0.2.1 d_LW_law_546 (by decide +kernel) ?_
  refine mn_add (pc := 547) C0 d_LW_law_547 ?_
  refine lw_sld (pc := 548) C0 hX hbl hS (j := i + 2) (by omega) (by omega) d_LW_law_548 ?_
  obtain ⟨hz, -⟩ := (⟨ho.1, trivial⟩ : ws[52]? = some (ad 52, .inr (4, [.int (nI (n)), .int (nI (pm_fc n)), .ref (ad 53), .int (nI (pc)), .ref (ad 54), .int (nI (gc)), .ref (ad 55), .ref (ad 56), .ref (ad 57), .ref (ad 58), .ref (ad 59), .int (nI (len))])) ∧ True)
  refine mg_ciR (pc := 549) (As := [.int (xs (i + 1)), .int (xs (i + 2))]) (rest := [.int (rv)]) C0 (c_MO_normal l D ca ad h2 h6 ws ho) lk_LW_84 ⟨Nat.le_of_ble_eq_true rfl, Nat.le_of_ble_eq_true rfl⟩ ⟨Nat.le_refl _, Nat.le_refl _⟩ hz rfl hK hP hD hS (fun _ h => h) rfl hl.1 rfl (Nat.le_of_ble_eq_true rfl) d_LW_law_549 (fun ru ws H locs hpost hP hD hS => ?_)
  obtain ⟨hr2, ho, hfr⟩ := hpost
  have hg := lw_gfr hfr hg
  exact lv_icmp_eq (pc := 552) (tgt := 649) C0.1 C0.2.1 d_LW_law_552 (by decide) (fun _ => kk _ _ _ _ hg ho hP hD hS) (fun hc => absurd (hr.trans hr2.symm) hc)
set_option maxHeartbeats 4000000 in
set_option maxRecDepth 100000 in
theorem lw_arm15 (C0 : CallFix p m c code 4 s #[Value.ref b] (cd :: gw_) R_LW) (hX : va_X b L xs s s.heap) (hbl : b < s.heap.size) (hL : L ≤ 1537) (h2 : 2 ≤ n) (h6 : n ≤ 6) (hK : va_K D classes (tys_ ca) s) {i : Nat} (hi : i + 3 ≤ L) {σ : sp_S} {ws : va_W} {H : Heap} {locs : List Loc} (hg : MGW ca ad n σ ws) (ho : MOW ca ad n σ ws) (hP : va_P D classes ws H) (hD : va_D (lw_A s) ws) (hS : va_S (lw_A s) s.heap H locs) {ls : Array Slot} (hl : lv_has ls 4 [(3, .int (nI (i))), (2, .ref (ad 52)), (1, .ref (ad 0)), (0, .ref (b))]) (kk : ∀ (σ : sp_S) (ws : va_W) (H : Heap) (locs : List Loc), MGW ca ad n σ ws → MOW ca ad n σ ws → va_P D classes ws H → va_D (lw_A s) ws → va_S (lw_A s) s.heap H locs → W p l e room_1 s m #[Value.ref b] below meth c H locs 600000 7302250 Q (F0 m 649 ls [])) : W p l e room_1 s m #[Value.ref b] below meth c H locs 600000 7302250 Q (F0 m 557 ls []) := by
  obtain ⟨len, tx, pc, rk, gc, gs⟩ := σ
  refine lv_aload_n (pc := 557) C0.1 C0.2.1 d_LW_law_557 rfl (lv_at hl 2 rfl) ?_
  refine lv_aload_n (pc := 558) C0.1 C0.2.1 d_LW_law_558 rfl (lv_at hl 3 rfl) ?_
  refine lv_iload_n (pc := 559) C0.1 C0.2.1 d_LW_law_559 rfl (lv_at hl 0 rfl) ?_
  refine lv_iconst (pc := 560) (v := nI (1)) C0.1 C0.2.1 d_LW_law_560 (by decide +kernel) ?_
  refine mn_add (pc := 561) C0 d_LW_law_561 ?_
  refine lw_sld (pc := 562) C0 hX hbl hS (j := i + 1) (by omega) (by omega) d_LW_law_562 ?_
  refine lv_aload_n (pc := 563) C0.1 C0.2.1 d_LW_law_563 rfl (lv_at hl 3 rfl) ?_
  refine lv_iload_n (pc := 564) C0.1 C0.2.1 d_LW_law_564 rfl (lv_at hl 0 rfl) ?_
  refine lv_iconst (pc := 565) (v := nI (2)) C0.1 C0.2.1 d_LW_law_565 (by decide +kernel) ?_
  refine mn_add (pc := 566) C0 d_LW_law_566 ?_
  refine lw_sld (pc := 567) C0 hX hbl hS (j := i + 2) (by omega) (by omega) d_LW_law_567 ?_
  obtain ⟨hz, -⟩ := (⟨hg.1, trivial⟩ : ws[0]? = some (ad 0, .inr (0, [.ref (ad 1), .ref (ad 4), .ref (ad 7), .int (nI (pc)), .ref (ad 9), .int (nI (gc)), .ref (ad 46), .ref (ad 49)])) ∧ True)
  refine mg_ciR (pc := 568) (As := [.int (xs (i + 1)), .int (xs (i + 2))]) (rest := []) C0 (c_MG_closure l D ca ad h2 h6 ws hg) lk_LW_85 ⟨Nat.le_of_ble_eq_true rfl, Nat.le_of_ble_eq_true rfl⟩ ⟨Nat.le_refl _, Nat.le_refl _⟩ hz rfl hK hP hD hS (fun _ h => h) rfl hl.1 rfl (Nat.le_of_ble_eq_true rfl) d_LW_law_568 (fun rv ws H locs hpost hP hD hS => ?_)
  obtain ⟨hr, hg, hfr⟩ := hpost
  have ho := lw_ofr hfr ho
  refine lv_aload_n (pc := 571) C0.1 C0.2.1 d_LW_law_571 rfl (lv_at hl 1 rfl) ?_
  refine lv_aload_n (pc := 572) C0.1 C0.2.1 d_LW_law_572 rfl (lv_at hl 3 rfl) ?_
  refine lv_iload_n (pc := 573) C0.1 C0.2.1 d_LW_law_573 rfl (lv_at hl 0 rfl) ?_
  refine lv_iconst (pc := 574) (v := nI (1)) C0.1 C0.2.1 d_LW_law_574 (by decide +kernel) ?_
  refine mn_add (pc := 575) C0 d_LW_law_575 ?_
  refine lw_sld (pc := 576) C0 hX hbl hS (j := i + 1) (by omega) (by omega) d_LW_law_576 ?_
  refine lv_aload_n (pc := 577) C0.1 C0.2.1 d_LW_law_577 rfl (lv_at hl 3 rfl) ?_
  refine lv_iload_n (pc := 578) C0.1 C0.2.1 d_LW_law_578 rfl (lv_at hl 0 rfl) ?_
  refine lv_iconst (pc := 579) (v := nI (2)) C0.1 C0.2.1 d_LW_law_579 (by decide +kernel) ?_
  refine mn_add (pc := 580) C0 d_LW_law_580 ?_
  refine lw_sld (pc := 581) C0 hX hbl hS (j := i + 2) (by omega) (by omega) d_LW_law_581 ?_
  obtain ⟨hz, -⟩ := (⟨ho.1, trivial⟩ : ws[52]? = some (ad 52, .inr (4, [.int (nI (n)), .int (nI (pm_fc n)), .ref (ad 53), .int (nI (pc)), .ref (ad 54), .int (nI (gc)), .ref (ad 55), .ref (ad 56), .ref (ad 57), .ref (ad 58), .ref (ad 59), .int (nI (len))])) ∧ True)
  refine mg_ciR (pc := 582) (As := [.int (xs (i + 1)), .int (xs (i + 2))]) (rest := [.int (rv)]) C0 (c_MO_closure l D ca ad h2 h6 ws ho) lk_LW_88 ⟨Nat.le_of_ble_eq_true rfl, Nat.le_of_ble_eq_true rfl⟩ ⟨Nat.le_refl _, Nat.le_refl _⟩ hz rfl hK hP hD hS (fun _ h => h) rfl hl.1 rfl (Nat.le_of_ble_eq_true rfl) d_LW_law_582 (fun ru ws H locs hpost hP hD hS => ?_)
  obtain ⟨hr2, ho, hfr⟩ := hpost
  have hg := lw_gfr hfr hg
  exact lv_icmp_eq (pc := 585) (tgt := 649) C0.1 C0.2.1 d_LW_law_585 (by decide) (fun _ => kk _ _ _ _ hg ho hP hD hS) (fun hc => absurd (hr.trans hr2.symm) hc)
set_option maxHeartbeats 4000000 in
set_option maxRecDepth 100000 in
theorem lw_arm16 (C0 : CallFix p m c code 4 s #[Value.ref b] (cd :: gw_) R_LW) (hX : va_X b L xs s s.heap) (hbl : b < s.heap.size) (hL : L ≤ 1537) (h2 : 2 ≤ n) (h6 : n ≤ 6) (hK : va_K D classes (tys_ ca) s) {i : Nat} (hi : i + 3 ≤ L) {σ : sp_S} {ws : va_W} {H : Heap} {locs : List Loc} (hg : MGW ca ad n σ ws) (ho : MOW ca ad n σ ws) (hP : va_P D classes ws H) (hD : va_D (lw_A s) ws) (hS : va_S (lw_A s) s.heap H locs) {ls : Array Slot} (hl : lv_has ls 4 [(3, .int (nI (i))), (2, .ref (ad 52)), (1, .ref (ad 0)), (0, .ref (b))]) (kk : ∀ (σ : sp_S) (ws : va_W) (H : Heap) (locs : List Loc), MGW ca ad n σ ws → MOW ca ad n σ ws → va_P D classes ws H → va_D (lw_A s) ws → va_S (lw_A s) s.heap H locs → W p l e room_1 s m #[Value.ref b] below meth c H locs 600000 7302250 Q (F0 m 649 ls [])) : W p l e room_1 s m #[Value.ref b] below meth c H locs 600000 7302250 Q (F0 m 590 ls []) := by
  obtain ⟨len, tx, pc, rk, gc, gs⟩ := σ
  refine lv_aload_n (pc := 590) C0.1 C0.2.1 d_LW_law_590 rfl (lv_at hl 2 rfl) ?_
  refine lv_aload_n (pc := 591) C0.1 C0.2.1 d_LW_law_591 rfl (lv_at hl 3 rfl) ?_
  refine lv_iload_n (pc := 592) C0.1 C0.2.1 d_LW_law_592 rfl (lv_at hl 0 rfl) ?_
  refine lv_iconst (pc := 593) (v := nI (1)) C0.1 C0.2.1 d_LW_law_593 (by decide +kernel) ?_
  refine mn_add (pc := 594) C0 d_LW_law_594 ?_
  refine lw_sld (pc := 595) C0 hX hbl hS (j := i + 1) (by omega) (by omega) d_LW_law_595 ?_
  obtain ⟨hz, -⟩ := (⟨hg.1, trivial⟩ : ws[0]? = some (ad 0, .inr (0, [.ref (ad 1), .ref (ad 4), .ref (ad 7), .int (nI (pc)), .ref (ad 9), .int (nI (gc)), .ref (ad 46), .ref (ad 49)])) ∧ True)
  refine mg_ciR (pc := 596) (As := [.int (xs (i + 1))]) (rest := []) C0 (c_MG_derived l D ca ad h2 h6 ws hg) lk_LW_89 ⟨Nat.le_of_ble_eq_true rfl, Nat.le_of_ble_eq_true rfl⟩ ⟨Nat.le_refl _, Nat.le_refl _⟩ hz rfl hK hP hD hS (fun _ h => h) rfl hl.1 rfl (Nat.le_of_ble_eq_true rfl) d_LW_law_596 (fun rv ws H locs hpost hP hD hS => ?_)
  obtain ⟨hr, hg, hfr⟩ := hpost
  have ho := lw_ofr hfr ho
  refine lv_aload_n (pc := 599) C0.1 C0.2.1 d_LW_law_599 rfl (lv_at hl 1 rfl) ?_
  refine lv_aload_n (pc := 600) C0.1 C0.2.1 d_LW_law_600 rfl (lv_at hl 3 rfl) ?_
  refine lv_iload_n (pc := 601) C0.1 C0.2.1 d_LW_law_601 rfl (lv_at hl 0 rfl) ?_
  refine lv_iconst (pc := 602) (v := nI (1)) C0.1 C0.2.1 d_LW_law_602 (by decide +kernel) ?_
  refine mn_add (pc := 603) C0 d_LW_law_603 ?_
  refine lw_sld (pc := 604) C0 hX hbl hS (j := i + 1) (by omega) (by omega) d_LW_law_604 ?_
  obtain ⟨hz, -⟩ := (⟨ho.1, trivial⟩ : ws[52]? = some (ad 52, .inr (4, [.int (nI (n)), .int (nI (pm_fc n)), .ref (ad 53), .int (nI (pc)), .ref (ad 54), .int (nI (gc)), .ref (ad 55), .ref (ad 56), .ref (ad 57), .ref (ad 58), .ref (ad 59), .int (nI (len))])) ∧ True)
  refine mg_ciR (pc := 605) (As := [.int (xs (i + 1))]) (rest := [.int (rv)]) C0 (c_MO_derived l D ca ad h2 h6 ws ho) lk_LW_92 ⟨Nat.le_of_ble_eq_true rfl, Nat.le_of_ble_eq_true rfl⟩ ⟨Nat.le_refl _, Nat.le_refl _⟩ hz rfl hK hP hD hS (fun _ h => h) rfl hl.1 rfl (Nat.le_of_ble_eq_true rfl) d_LW_law_605 (fun ru ws H locs hpost hP hD hS => ?_)
  obtain ⟨hr2, ho, hfr⟩ := hpost
  have hg := lw_gfr hfr hg
  exact lv_icmp_eq (pc := 608) (tgt := 649) C0.1 C0.2.1 d_LW_law_608 (by decide) (fun _ => kk _ _ _ _ hg ho hP hD hS) (fun hc => absurd (hr.trans hr2.symm) hc)
set_option maxHeartbeats 4000000 in
set_option maxRecDepth 100000 in
theorem lw_arm17 (C0 : CallFix p m c code 4 s #[Value.ref b] (cd :: gw_) R_LW) (hX : va_X b L xs s s.heap) (hbl : b < s.heap.size) (hL : L ≤ 1537) (h2 : 2 ≤ n) (h6 : n ≤ 6) (hK : va_K D classes (tys_ ca) s) {i : Nat} (hi : i + 3 ≤ L) {σ : sp_S} {ws : va_W} {H : Heap} {locs : List Loc} (hg : MGW ca ad n σ ws) (ho : MOW ca ad n σ ws) (hP : va_P D classes ws H) (hD : va_D (lw_A s) ws) (hS : va_S (lw_A s) s.heap H locs) {ls : Array Slot} (hl : lv_has ls 4 [(3, .int (nI (i))), (2, .ref (ad 52)), (1, .ref (ad 0)), (0, .ref (b))]) (kk : ∀ (σ : sp_S) (ws : va_W) (H : Heap) (locs : List Loc), MGW ca ad n σ ws → MOW ca ad n σ ws → va_P D classes ws H → va_D (lw_A s) ws → va_S (lw_A s) s.heap H locs → W p l e room_1 s m #[Value.ref b] below meth c H locs 600000 7302250 Q (F0 m 649 ls [])) : W p l e room_1 s m #[Value.ref b] below meth c H locs 600000 7302250 Q (F0 m 613 ls []) := by
  obtain ⟨len, tx, pc, rk, gc, gs⟩ := σ
  refine lv_aload_n (pc := 613) C0.1 C0.2.1 d_LW_law_613 rfl (lv_at hl 2 rfl) ?_
  refine lv_aload_n (pc := 614) C0.1 C0.2.1 d_LW_law_614 rfl (lv_at hl 3 rfl) ?_
  refine lv_iload_n (pc := 615) C0.1 C0.2.1 d_LW_law_615 rfl (lv_at hl 0 rfl) ?_
  refine lv_iconst (pc := 616) (v := nI (1)) C0.1 C0.2.1 d_LW_law_616 (by decide +kernel) ?_
  refine mn_add (pc := 617) C0 d_LW_law_617 ?_
  refine lw_sld (pc := 618) C0 hX hbl hS (j := i + 1) (by omega) (by omega) d_LW_law_618 ?_
  obtain ⟨hz, -⟩ := (⟨hg.1, trivial⟩ : ws[0]? = some (ad 0, .inr (0, [.ref (ad 1), .ref (ad 4), .ref (ad 7), .int (nI (pc)), .ref (ad 9), .int (nI (gc)), .ref (ad 46), .ref (ad 49)])) ∧ True)
  refine mg_ciR (pc := 619) (As := [.int (xs (i + 1))]) (rest := []) C0 (c_MG_length l D ca ad h2 h6 ws hg) lk_LW_93 ⟨Nat.le_of_ble_eq_true rfl, Nat.le_of_ble_eq_true rfl⟩ ⟨Nat.le_refl _, Nat.le_refl _⟩ hz rfl hK hP hD hS (fun _ h => h) rfl hl.1 rfl (Nat.le_of_ble_eq_true rfl) d_LW_law_619 (fun rv ws H locs hpost hP hD hS => ?_)
  obtain ⟨hr, hg, hfr⟩ := hpost
  have ho := lw_ofr hfr ho
  refine lv_aload_n (pc := 622) C0.1 C0.2.1 d_LW_law_622 rfl (lv_at hl 1 rfl) ?_
  refine lv_aload_n (pc := 623) C0.1 C0.2.1 d_LW_law_623 rfl (lv_at hl 3 rfl) ?_
  refine lv_iload_n (pc := 624) C0.1 C0.2.1 d_LW_law_624 rfl (lv_at hl 0 rfl) ?_
  refine lv_iconst (pc := 625) (v := nI (1)) C0.1 C0.2.1 d_LW_law_625 (by decide +kernel) ?_
  refine mn_add (pc := 626) C0 d_LW_law_626 ?_
  refine lw_sld (pc := 627) C0 hX hbl hS (j := i + 1) (by omega) (by omega) d_LW_law_627 ?_
  obtain ⟨hz, -⟩ := (⟨ho.1, trivial⟩ : ws[52]? = some (ad 52, .inr (4, [.int (nI (n)), .int (nI (pm_fc n)), .ref (ad 53), .int (nI (pc)), .ref (ad 54), .int (nI (gc)), .ref (ad 55), .ref (ad 56), .ref (ad 57), .ref (ad 58), .ref (ad 59), .int (nI (len))])) ∧ True)
  refine mg_ciR (pc := 628) (As := [.int (xs (i + 1))]) (rest := [.int (rv)]) C0 (c_MO_length l D ca ad h2 h6 ws ho) lk_LW_96 ⟨Nat.le_of_ble_eq_true rfl, Nat.le_of_ble_eq_true rfl⟩ ⟨Nat.le_refl _, Nat.le_refl _⟩ hz rfl hK hP hD hS (fun _ h => h) rfl hl.1 rfl (Nat.le_of_ble_eq_true rfl) d_LW_law_628 (fun ru ws H locs hpost hP hD hS => ?_)
  obtain ⟨hr2, ho, hfr⟩ := hpost
  have hg := lw_gfr hfr hg
  exact lv_icmp_eq (pc := 631) (tgt := 649) C0.1 C0.2.1 d_LW_law_631 (by decide) (fun _ => kk _ _ _ _ hg ho hP hD hS) (fun hc => absurd (hr.trans hr2.symm) hc)
set_option maxHeartbeats 4000000 in
set_option maxRecDepth 100000 in
theorem lw_arm18 (C0 : CallFix p m c code 4 s #[Value.ref b] (cd :: gw_) R_LW) (hX : va_X b L xs s s.heap) (hbl : b < s.heap.size) (hL : L ≤ 1537) (h2 : 2 ≤ n) (h6 : n ≤ 6) (hK : va_K D classes (tys_ ca) s) {i : Nat} (hi : i + 3 ≤ L) {σ : sp_S} {ws : va_W} {H : Heap} {locs : List Loc} (hg : MGW ca ad n σ ws) (ho : MOW ca ad n σ ws) (hP : va_P D classes ws H) (hD : va_D (lw_A s) ws) (hS : va_S (lw_A s) s.heap H locs) {ls : Array Slot} (hl : lv_has ls 4 [(3, .int (nI (i))), (2, .ref (ad 52)), (1, .ref (ad 0)), (0, .ref (b))]) (kk : ∀ (σ : sp_S) (ws : va_W) (H : Heap) (locs : List Loc), MGW ca ad n σ ws → MOW ca ad n σ ws → va_P D classes ws H → va_D (lw_A s) ws → va_S (lw_A s) s.heap H locs → W p l e room_1 s m #[Value.ref b] below meth c H locs 600000 7302250 Q (F0 m 649 ls [])) : W p l e room_1 s m #[Value.ref b] below meth c H locs 600000 7302250 Q (F0 m 636 ls []) := by
  obtain ⟨len, tx, pc, rk, gc, gs⟩ := σ
  refine lv_aload_n (pc := 636) C0.1 C0.2.1 d_LW_law_636 rfl (lv_at hl 2 rfl) ?_
  obtain ⟨hz, -⟩ := (⟨hg.1, trivial⟩ : ws[0]? = some (ad 0, .inr (0, [.ref (ad 1), .ref (ad 4), .ref (ad 7), .int (nI (pc)), .ref (ad 9), .int (nI (gc)), .ref (ad 46), .ref (ad 49)])) ∧ True)
  refine mg_ciR (pc := 637) (As := []) (rest := []) C0 (c_MG_clear l D ca ad h2 h6 ws hg) lk_LW_97 ⟨Nat.le_of_ble_eq_true rfl, Nat.le_of_ble_eq_true rfl⟩ ⟨Nat.le_refl _, Nat.le_refl _⟩ hz rfl hK hP hD hS (fun _ h => h) rfl hl.1 rfl (Nat.le_of_ble_eq_true rfl) d_LW_law_637 (fun rv ws H locs hpost hP hD hS => ?_)
  obtain ⟨hr, hg, hfr⟩ := hpost
  have ho := lw_ofr hfr ho
  refine lv_aload_n (pc := 640) C0.1 C0.2.1 d_LW_law_640 rfl (lv_at hl 1 rfl) ?_
  obtain ⟨hz, -⟩ := (⟨ho.1, trivial⟩ : ws[52]? = some (ad 52, .inr (4, [.int (nI (n)), .int (nI (pm_fc n)), .ref (ad 53), .int (nI (pc)), .ref (ad 54), .int (nI (gc)), .ref (ad 55), .ref (ad 56), .ref (ad 57), .ref (ad 58), .ref (ad 59), .int (nI (len))])) ∧ True)
  refine mg_ciR (pc := 641) (As := []) (rest := [.int (rv)]) C0 (c_MO_clear l D ca ad h2 h6 ws ho) lk_LW_100 ⟨Nat.le_of_ble_eq_true rfl, Nat.le_of_ble_eq_true rfl⟩ ⟨Nat.le_refl _, Nat.le_refl _⟩ hz rfl hK hP hD hS (fun _ h => h) rfl hl.1 rfl (Nat.le_of_ble_eq_true rfl) d_LW_law_641 (fun ru ws H locs hpost hP hD hS => ?_)
  obtain ⟨hr2, ho, hfr⟩ := hpost
  have hg := lw_gfr hfr hg
  exact lv_icmp_eq (pc := 644) (tgt := 649) C0.1 C0.2.1 d_LW_law_644 (by decide) (fun _ => kk _ _ _ _ hg ho hP hD hS) (fun hc => absurd (hr.trans hr2.symm) hc)
end LWA
