/-! Constructors: the groups -/
set_option maxHeartbeats 4000000 in
set_option maxRecDepth 100000 in
theorem c_SU_init (l : Launch) (D : va_G) (ca : Nat → ClassId) (ad : Nat → Nat) {n : Nat} (h2 : 2 ≤ n) (h6 : n ≤ 6) {i qo : Nat} (ws0 : va_W) (z1 : ws0[1]? = some (ad 1, .inr (1, [.int (nI (n)), .int (nI (pm_fc n)), .ref (ad 2), .ref (ad 3)]))) (zo : ws0[10 + 3 * i]? = some (qo, .inr (2, [.int (nI 0), .null, .null, .null, .int (nI 0), .null]))) (zem : ws0[11 + 3 * i]? = none) (zeg : ws0[12 + 3 * i]? = none) : mg_N l y_SU_init b_SU_init 3 3 2 ((pm_fc n + 63) / 64 + 10) D classes (tys_ ca) [.ref (qo), .ref (ad 1), .ref (ad 8)] ws0 (fun w => (∀ j, j ≠ 10 + 3 * i ∧ j ≠ 11 + 3 * i ∧ j ≠ 12 + 3 * i → w[j]? = ws0[j]?) ∧ ∃ ad1 : Nat → Nat, ad1 (10 + 3 * i) = qo ∧ (∀ j, j < 10 + 3 * i → ad1 j = ad j) ∧ su_ok ca ad1 n i w su_one (fun _ => 0) 0) := by
  have hN := pm_fc_le h6
  refine mg_openN (own := R_SU) rfl (by decide) rfl (Nat.le_of_ble_eq_true rfl) ?_
  intro p e s m args below meth c A Q ls C0 hnm hK hA hP hD hS hl hret
  have hl : lv_has ls 3 [(0, .ref (qo)), (1, .ref (ad 1)), (2, .ref (ad 8))] := hl
  have f1 := z1
  have fo := zo
  have fem := zem
  have feg := zeg
  have hfm : ∀ j, j ≠ 10 + 3 * i ∧ j ≠ 11 + 3 * i ∧ j ≠ 12 + 3 * i → ws0[j]? = ws0[j]? := fun _ _ => rfl
  refine lv_aload_n (pc := 0) C0.1 C0.2.1 d_SU_init_0 rfl (lv_at hl 0 rfl) ?_
  refine mg_obj (pc := 1) C0 (gw_t1 91 rfl rfl) (gw_t1 15 rfl rfl) (gw_t1 16 rfl rfl) hl.1 (Nat.le_of_ble_eq_true rfl) (Nat.le_of_ble_eq_true rfl) d_SU_init_1 ?_
  refine lv_aload_n (pc := 4) C0.1 C0.2.1 d_SU_init_4 rfl (lv_at hl 0 rfl) ?_
  refine lv_aload_n (pc := 5) C0.1 C0.2.1 d_SU_init_5 rfl (lv_at hl 1 rfl) ?_
  refine mg_putF (pc := 6) C0 hnm in_SU t_SU_ok n_SU hK hP hD hS (10 + 3 * i) fo rfl 1 (by decide) fl_SU_7 rfl rfl (ty := .object "MotionGroups$Symmetry") (by decide +kernel) rfl rfl (Nat.le_of_ble_eq_true rfl) (fs' := [.int (nI 0), .ref (ad 1), .null, .null, .int (nI 0), .null]) rfl d_SU_init_6 (fun ws H locs hfr fo hP hD hS => ?_)
  have f1 := (hfr (1) (by omega)).trans f1
  have fem := (hfr (11 + 3 * i) (by omega)).trans fem
  have feg := (hfr (12 + 3 * i) (by omega)).trans feg
  have hfm : ∀ j, j ≠ 10 + 3 * i ∧ j ≠ 11 + 3 * i ∧ j ≠ 12 + 3 * i → ws[j]? = ws0[j]? := fun j hj => (hfr j (by omega)).trans (hfm j hj)
  refine lv_aload_n (pc := 9) C0.1 C0.2.1 d_SU_init_9 rfl (lv_at hl 0 rfl) ?_
  refine lv_aload_n (pc := 10) C0.1 C0.2.1 d_SU_init_10 rfl (lv_at hl 2 rfl) ?_
  refine mg_putF (pc := 11) C0 hnm in_SU t_SU_ok n_SU hK hP hD hS (10 + 3 * i) fo rfl 5 (by decide) fl_SU_13 rfl rfl (ty := .array (.int)) (by decide +kernel) rfl rfl (Nat.le_of_ble_eq_true rfl) (fs' := [.int (nI 0), .ref (ad 1), .null, .null, .int (nI 0), .ref (ad 8)]) rfl d_SU_init_11 (fun ws H locs hfr fo hP hD hS => ?_)
  have f1 := (hfr (1) (by omega)).trans f1
  have fem := (hfr (11 + 3 * i) (by omega)).trans fem
  have feg := (hfr (12 + 3 * i) (by omega)).trans feg
  have hfm : ∀ j, j ≠ 10 + 3 * i ∧ j ≠ 11 + 3 * i ∧ j ≠ 12 + 3 * i → ws[j]? = ws0[j]? := fun j hj => (hfr j (by omega)).trans (hfm j hj)
  refine lv_aload_n (pc := 14) C0.1 C0.2.1 d_SU_init_14 rfl (lv_at hl 0 rfl) ?_
  refine lv_aload_n (pc := 15) C0.1 C0.2.1 d_SU_init_15 rfl (lv_at hl 1 rfl) ?_
  refine mg_get (pc := 16) C0 in_SY hK hP (1) f1 rfl 1 (by decide) fl_SU_17 rfl d_SU_init_16 ?_
  refine lv_bipush (pc := 19) (v := nI (64)) C0.1 C0.2.1 d_SU_init_19 (by decide +kernel) ?_
  refine mn_add (pc := 21) C0 d_SU_init_21 ?_
  refine lv_iconst (pc := 22) (v := nI (1)) C0.1 C0.2.1 d_SU_init_22 (by decide +kernel) ?_
  refine mn_sub (pc := 23) C0 (by omega) d_SU_init_23 ?_
  refine lv_bipush (pc := 24) (v := nI (64)) C0.1 C0.2.1 d_SU_init_24 (by decide +kernel) ?_
  refine mn_div (pc := 26) C0 (by omega) (by omega) (by omega) d_SU_init_26 ?_
  refine mg_top (show nI ((((pm_fc n) + 64) - 1) / 64) = nI ((pm_fc n + 63) / 64) from congrArg nI (by omega)) ?_
  have hln : ws.length = 11 + 3 * i := by
    have h9 := mg_len (k := 10 + 3 * i) (by rw [show 10 + 3 * i + 1 = 11 + 3 * i by omega]; exact fem) fo
    omega
  refine mg_newa (pc := 27) (ty := .long) (k := 11 + 3 * i) (N' := (pm_fc n + 63) / 64) (cA := ca 2) (a0 := ((pm_fc n + 63) / 64, .inr (.inl (fun _ => 0)))) C0 (gw_t1 120 rfl rfl) rfl (fun c9 h9 => Option.some.inj (h9.symm.trans (hK.2 2 _ rfl).2)) hK hP hD hS hA (fun _ => rfl) (by omega) (by rw [show componentBytes .long = 8 from rfl]; omega) hln (show 0 + 1 ≤ 2 by omega) (show 0 + ((pm_fc n + 63) / 64) ≤ (pm_fc n + 63) / 64 + 10 by omega) d_SU_init_27 (fun qm ws H hfr fm hP hD hS => ?_)
  have f1 := (hfr (1) (by omega)).trans f1
  have fo := (hfr (10 + 3 * i) (by omega)).trans fo
  have feg := (hfr (12 + 3 * i) (by omega)).trans feg
  have hfm : ∀ j, j ≠ 10 + 3 * i ∧ j ≠ 11 + 3 * i ∧ j ≠ 12 + 3 * i → ws[j]? = ws0[j]? := fun j hj => (hfr j (by omega)).trans (hfm j hj)
  refine mg_putF (pc := 29) C0 hnm in_SU t_SU_ok n_SU hK hP hD hS (10 + 3 * i) fo rfl 2 (by decide) fl_SU_23 rfl rfl (ty := .array (.long)) (by decide +kernel) rfl rfl (Nat.le_of_ble_eq_true rfl) (fs' := [.int (nI 0), .ref (ad 1), .ref (qm), .null, .int (nI 0), .ref (ad 8)]) rfl d_SU_init_29 (fun ws H locs hfr fo hP hD hS => ?_)
  have f1 := (hfr (1) (by omega)).trans f1
  have feg := (hfr (12 + 3 * i) (by omega)).trans feg
  have fm := (hfr (11 + 3 * i) (by omega)).trans fm
  have hfm : ∀ j, j ≠ 10 + 3 * i ∧ j ≠ 11 + 3 * i ∧ j ≠ 12 + 3 * i → ws[j]? = ws0[j]? := fun j hj => (hfr j (by omega)).trans (hfm j hj)
  refine lv_aload_n (pc := 32) C0.1 C0.2.1 d_SU_init_32 rfl (lv_at hl 0 rfl) ?_
  refine lv_bipush (pc := 33) (v := nI (10)) C0.1 C0.2.1 d_SU_init_33 (by decide +kernel) ?_
  have hln : ws.length = 12 + 3 * i := by
    have h9 := mg_len (k := 11 + 3 * i) (by rw [show 11 + 3 * i + 1 = 12 + 3 * i by omega]; exact feg) fm
    omega
  refine mg_newa (pc := 35) (ty := .int) (k := 12 + 3 * i) (N' := 10) (cA := ca 1) (a0 := (10, .inl (fun _ => nI 0))) C0 (gw_t1 51 rfl rfl) rfl (fun c9 h9 => Option.some.inj (h9.symm.trans (hK.2 1 _ rfl).2)) hK hP hD hS hA (fun _ => rfl) (by omega) (by rw [show componentBytes .int = 4 from rfl]; omega) hln (show 0 + 1 + 1 ≤ 2 by omega) (show 0 + ((pm_fc n + 63) / 64) + 10 ≤ (pm_fc n + 63) / 64 + 10 by omega) d_SU_init_35 (fun qg ws H hfr fg hP hD hS => ?_)
  have f1 := (hfr (1) (by omega)).trans f1
  have fo := (hfr (10 + 3 * i) (by omega)).trans fo
  have fm := (hfr (11 + 3 * i) (by omega)).trans fm
  have hfm : ∀ j, j ≠ 10 + 3 * i ∧ j ≠ 11 + 3 * i ∧ j ≠ 12 + 3 * i → ws[j]? = ws0[j]? := fun j hj => (hfr j (by omega)).trans (hfm j hj)
  refine mg_putF (pc := 37) C0 hnm in_SU t_SU_ok n_SU hK hP hD hS (10 + 3 * i) fo rfl 3 (by decide) fl_SU_27 rfl rfl (ty := .array (.int)) (by decide +kernel) rfl rfl (Nat.le_of_ble_eq_true rfl) (fs' := [.int (nI 0), .ref (ad 1), .ref (qm), .ref (qg), .int (nI 0), .ref (ad 8)]) rfl d_SU_init_37 (fun ws H locs hfr fo hP hD hS => ?_)
  have f1 := (hfr (1) (by omega)).trans f1
  have fm := (hfr (11 + 3 * i) (by omega)).trans fm
  have fg := (hfr (12 + 3 * i) (by omega)).trans fg
  have hfm : ∀ j, j ≠ 10 + 3 * i ∧ j ≠ 11 + 3 * i ∧ j ≠ 12 + 3 * i → ws[j]? = ws0[j]? := fun j hj => (hfr j (by omega)).trans (hfm j hj)
  obtain ⟨ad1, ho, hm, hg, hag⟩ : ∃ ad1 : Nat → Nat, ad1 (10 + 3 * i) = qo ∧ ad1 (11 + 3 * i) = qm ∧ ad1 (12 + 3 * i) = qg ∧ ∀ j, j < 10 + 3 * i → ad1 j = ad j := ⟨fun j => if j = 10 + 3 * i then qo else if j = 11 + 3 * i then qm else if j = 12 + 3 * i then qg else ad j, if_pos rfl, by dsimp only; rw [if_neg (by omega), if_pos rfl], by dsimp only; rw [if_neg (by omega), if_neg (by omega), if_pos rfl], fun j hj => by dsimp only; rw [if_neg (by omega), if_neg (by omega), if_neg (by omega)]⟩
  have hC := c_SU_becomeTrivial l D ca ad1 h2 h6 (i := i) (sz := nI 0) (kc := nI 0) (f := fun _ => 0) (g := fun _ => nI 0) (fun _ => 0) ws
  rw [ho, hm, hg, hag 1 (by omega), hag 8 (by omega)] at hC
  refine lv_aload_n (pc := 40) C0.1 C0.2.1 d_SU_init_40 rfl (lv_at hl 0 rfl) ?_
  refine mg_cvR (pc := 41) (As := []) (rest := []) C0 (hC fo fm fg) lk_SU_30 ⟨Nat.le_of_ble_eq_true rfl, Nat.le_of_ble_eq_true rfl⟩ ⟨show 0 + 1 + 1 ≤ 2 by omega, show 0 + ((pm_fc n + 63) / 64) + 10 ≤ (pm_fc n + 63) / 64 + 10 by omega⟩ fo rfl hK hP hD hS hA rfl hl.1 rfl (Nat.le_of_ble_eq_true rfl) d_SU_init_41 (fun ws H locs hpost hP hD hS => ?_)
  obtain ⟨hfr, hsu⟩ := hpost
  have f1 := (hfr (1) (by omega)).trans f1
  have fg := (hfr (12 + 3 * i) (by omega)).trans fg
  have hfm : ∀ j, j ≠ 10 + 3 * i ∧ j ≠ 11 + 3 * i ∧ j ≠ 12 + 3 * i → ws[j]? = ws0[j]? := fun j hj => (hfr j (by omega)).trans (hfm j hj)
  refine W.widen (k := 2) (n := (pm_fc n + 63) / 64 + 10) (by omega) (by omega) ?_
  exact hret _ _ _ 44 _ (⟨hfm, ad1, ho, hag, hsu⟩) hP hD hS d_SU_init_44
