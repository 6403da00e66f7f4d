/-! Constructors: the text, the reference -/
abbrev mg_ad6 (q4 q5 q6 : Nat) : Nat → Nat
  | 4 => q4
  | 5 => q5
  | _ => q6
abbrev mg_ad8 (q52 q53 q54 q55 q56 q57 q58 q59 : Nat) : Nat → Nat
  | 52 => q52
  | 53 => q53
  | 54 => q54
  | 55 => q55
  | 56 => q56
  | 57 => q57
  | 58 => q58
  | _ => q59
set_option maxHeartbeats 4000000 in
set_option maxRecDepth 100000 in
theorem c_CT_init (l : Launch) (D : va_G) (ca : Nat → ClassId) {n : Nat} (h2 : 2 ≤ n) (h6 : n ≤ 6) {q4 : Nat} {tx : Nat → Nat} (ws0 : va_W) (z4 : ws0[4]? = some (q4, .inr (3, [.null, .int (nI 0), .null, .int (nI 0), .int (nI 0), .int (nI 0), .int (nI 0), .int (nI 0)]))) (zn5 : ws0[5]? = none) (zn6 : ws0[6]? = none) : mg_N l y_CT_init b_CT_init 2 2 2 (n + 40) D classes (tys_ ca) [.ref (q4), .int (nI (n))] ws0 (fun w => (∀ j, j ≠ 4 ∧ j ≠ 5 ∧ j ≠ 6 → w[j]? = ws0[j]?) ∧ ∃ q5 q6 : Nat, ct_ok ca (mg_ad6 q4 q5 q6) n w 0 tx) := by
  refine mg_openN (own := R_CT) rfl (by decide) rfl (Nat.le_of_ble_eq_true rfl) ?_
  intro p e s m args below meth c A Q ls C0 hnm hK hA hP hD hS hl hret
  have hl : lv_has ls 2 [(0, .ref (q4)), (1, .int (nI (n)))] := hl
  have f4 := z4
  have fn5 := zn5
  have fn6 := zn6
  have hfm : ∀ j, j ≠ 4 ∧ j ≠ 5 ∧ j ≠ 6 → ws0[j]? = ws0[j]? := fun _ _ => rfl
  refine lv_aload_n (pc := 0) C0.1 C0.2.1 d_CT_init_0 rfl (lv_at hl 0 rfl) ?_
  refine mg_obj (pc := 1) C0 (gw_t1 57 rfl rfl) (gw_t1 15 rfl rfl) (gw_t1 16 rfl rfl) hl.1 (Nat.le_of_ble_eq_true rfl) (Nat.le_of_ble_eq_true rfl) d_CT_init_1 ?_
  refine lv_aload_n (pc := 4) C0.1 C0.2.1 d_CT_init_4 rfl (lv_at hl 0 rfl) ?_
  refine lv_iload_n (pc := 5) C0.1 C0.2.1 d_CT_init_5 rfl (lv_at hl 1 rfl) ?_
  refine mg_putF (pc := 6) C0 hnm in_CT t_CT_ok n_CT hK hP hD hS (4) f4 rfl 1 (by decide) fl_CT_7 rfl rfl (ty := .int) (by decide +kernel) rfl rfl (Nat.le_of_ble_eq_true rfl) (fs' := [.null, .int (nI (n)), .null, .int (nI 0), .int (nI 0), .int (nI 0), .int (nI 0), .int (nI 0)]) rfl d_CT_init_6 (fun ws H locs hfr f4 hP hD hS => ?_)
  have fn5 := (hfr (5) (by omega)).trans fn5
  have fn6 := (hfr (6) (by omega)).trans fn6
  have hfm : ∀ j, j ≠ 4 ∧ j ≠ 5 ∧ j ≠ 6 → ws[j]? = ws0[j]? := fun j hj => (hfr j (by omega)).trans (hfm j hj)
  refine lv_aload_n (pc := 9) C0.1 C0.2.1 d_CT_init_9 rfl (lv_at hl 0 rfl) ?_
  refine lv_iload_n (pc := 10) C0.1 C0.2.1 d_CT_init_10 rfl (lv_at hl 1 rfl) ?_
  refine mg_newa (pc := 11) (ty := .int) (k := 5) (N' := n) (cA := ca 1) (a0 := (n, .inl (fun _ => nI 0))) C0 (gw_t1 51 rfl rfl) rfl (fun c9 h9 => Option.some.inj (h9.symm.trans (hK.2 1 _ rfl).2)) hK hP hD hS hA (fun _ => rfl) (by omega) (by rw [show componentBytes .int = 4 from rfl]; omega) (mg_len fn5 f4) (show 0 + 1 ≤ 2 by omega) (show 0 + n ≤ n + 40 by omega) d_CT_init_11 (fun q5 ws H hfr f5 hP hD hS => ?_)
  have f4 := (hfr (4) (by omega)).trans f4
  have fn6 := (hfr (6) (by omega)).trans fn6
  have hfm : ∀ j, j ≠ 4 ∧ j ≠ 5 ∧ j ≠ 6 → ws[j]? = ws0[j]? := fun j hj => (hfr j (by omega)).trans (hfm j hj)
  refine mg_putF (pc := 13) C0 hnm in_CT t_CT_ok n_CT hK hP hD hS (4) f4 rfl 0 (by decide) fl_CT_13 rfl rfl (ty := .array (.int)) (by decide +kernel) rfl rfl (Nat.le_of_ble_eq_true rfl) (fs' := [.ref (q5), .int (nI (n)), .null, .int (nI 0), .int (nI 0), .int (nI 0), .int (nI 0), .int (nI 0)]) rfl d_CT_init_13 (fun ws H locs hfr f4 hP hD hS => ?_)
  have fn6 := (hfr (6) (by omega)).trans fn6
  have f5 := (hfr (5) (by omega)).trans f5
  have hfm : ∀ j, j ≠ 4 ∧ j ≠ 5 ∧ j ≠ 6 → ws[j]? = ws0[j]? := fun j hj => (hfr j (by omega)).trans (hfm j hj)
  refine lv_aload_n (pc := 16) C0.1 C0.2.1 d_CT_init_16 rfl (lv_at hl 0 rfl) ?_
  refine lv_bipush (pc := 17) (v := nI (40)) C0.1 C0.2.1 d_CT_init_17 (by decide +kernel) ?_
  refine mg_newa (pc := 19) (ty := .char) (k := 6) (N' := 40) (cA := ca 3) (a0 := (40, .inl (fun _ => nI 0))) C0 (gw_t1 84 rfl rfl) rfl (fun c9 h9 => Option.some.inj (h9.symm.trans (hK.2 3 _ rfl).2)) hK hP hD hS hA (fun _ => rfl) (by omega) (by rw [show componentBytes .char = 2 from rfl]; omega) (mg_len fn6 f5) (show 0 + 1 + 1 ≤ 2 by omega) (show 0 + n + 40 ≤ n + 40 by omega) d_CT_init_19 (fun q6 ws H hfr f6 hP hD hS => ?_)
  have f4 := (hfr (4) (by omega)).trans f4
  have f5 := (hfr (5) (by omega)).trans f5
  have hfm : ∀ j, j ≠ 4 ∧ j ≠ 5 ∧ j ≠ 6 → ws[j]? = ws0[j]? := fun j hj => (hfr j (by omega)).trans (hfm j hj)
  refine mg_putF (pc := 21) C0 hnm in_CT t_CT_ok n_CT hK hP hD hS (4) f4 rfl 2 (by decide) fl_CT_17 rfl rfl (ty := .array (.char)) (by decide +kernel) rfl rfl (Nat.le_of_ble_eq_true rfl) (fs' := [.ref (q5), .int (nI (n)), .ref (q6), .int (nI 0), .int (nI 0), .int (nI 0), .int (nI 0), .int (nI 0)]) rfl d_CT_init_21 (fun ws H locs hfr f4 hP hD hS => ?_)
  have f5 := (hfr (5) (by omega)).trans f5
  have f6 := (hfr (6) (by omega)).trans f6
  have hfm : ∀ j, j ≠ 4 ∧ j ≠ 5 ∧ j ≠ 6 → ws[j]? = ws0[j]? := fun j hj => (hfr j (by omega)).trans (hfm j hj)
  refine lv_aload_n (pc := 24) C0.1 C0.2.1 d_CT_init_24 rfl (lv_at hl 0 rfl) ?_
  refine lv_iconst (pc := 25) (v := nI (0)) C0.1 C0.2.1 d_CT_init_25 (by decide +kernel) ?_
  refine mg_put (pc := 26) C0 in_CT t_CT_ok n_CT hK hP hD hS (4) f4 rfl 3 (by decide) fl_CT_21 rfl (ty := .int) (by decide +kernel) rfl rfl (Nat.le_of_ble_eq_true rfl) (fs' := [.ref (q5), .int (nI (n)), .ref (q6), .int (nI (0)), .int (nI 0), .int (nI 0), .int (nI 0), .int (nI 0)]) rfl d_CT_init_26 (fun ws H locs hfr f4 hP hD hS => ?_)
  have f5 := (hfr (5) (by omega)).trans f5
  have f6 := (hfr (6) (by omega)).trans f6
  have hfm : ∀ j, j ≠ 4 ∧ j ≠ 5 ∧ j ≠ 6 → ws[j]? = ws0[j]? := fun j hj => (hfr j (by omega)).trans (hfm j hj)
  refine W.widen (k := 2) (n := n + 40) (by omega) (by omega) ?_
  exact hret _ _ _ 29 _ (⟨hfm, q5, q6, ⟨_, _, _, _, f4⟩, ⟨_, f5⟩, ⟨_, f6, fun i hi => absurd hi (by omega)⟩, by omega, fun i hi => absurd hi (by omega)⟩) hP hD hS d_CT_init_29
set_option maxHeartbeats 4000000 in
set_option maxRecDepth 100000 in
theorem c_MO_init0 (l : Launch) (D : va_G) (ca : Nat → ClassId) {n : Nat} (h2 : 2 ≤ n) (h6 : n ≤ 6) {x : Int32} (hx : x < 2 ∨ 6 < x) (h4 : n = 4) {q52 : Nat} {tx : Nat → Nat} {gs : Nat → Nat → Bool} (ws0 : va_W) (z52 : ws0[52]? = some (q52, .inr (4, [.int (nI 0), .int (nI 0), .null, .int (nI 0), .null, .int (nI 0), .null, .null, .null, .null, .null, .int (nI 0)]))) (zn53 : ws0[53]? = none) (zn54 : ws0[54]? = none) (zn55 : ws0[55]? = none) (zn56 : ws0[56]? = none) (zn57 : ws0[57]? = none) (zn58 : ws0[58]? = none) (zn59 : ws0[59]? = none) : mg_N l y_MO_init b_MO_init 4 2 7 (2015) D classes (tys_ ca) [.ref (q52), .int (x)] ws0 (fun w => (∀ j, j ≠ 52 ∧ j ≠ 53 ∧ j ≠ 54 ∧ j ≠ 55 ∧ j ≠ 56 ∧ j ≠ 57 ∧ j ≠ 58 ∧ j ≠ 59 → w[j]? = ws0[j]?) ∧ ∃ q53 q54 q55 q56 q57 q58 q59 : Nat, MOW ca (mg_ad8 q52 q53 q54 q55 q56 q57 q58 q59) n (0, tx, 1, fun _ => 0, 0, gs) w) := by
  have hN := pm_fc_le h6
  refine mg_openN (own := R_MO) rfl (by decide) rfl (Nat.le_of_ble_eq_true rfl) ?_
  intro p e s m args below meth c A Q ls C0 hnm hK hA hP hD hS hl hret
  have hl : lv_has ls 4 [(0, .ref (q52)), (1, .int (x))] := hl
  have f52 := z52
  have fn53 := zn53
  have fn54 := zn54
  have fn55 := zn55
  have fn56 := zn56
  have fn57 := zn57
  have fn58 := zn58
  have fn59 := zn59
  have hfm : ∀ j, j ≠ 52 ∧ j ≠ 53 ∧ j ≠ 54 ∧ j ≠ 55 ∧ j ≠ 56 ∧ j ≠ 57 ∧ j ≠ 58 ∧ j ≠ 59 → ws0[j]? = ws0[j]? := fun _ _ => rfl
  have hN0 := pm_fc_pos n
  refine lv_aload_n (pc := 0) C0.1 C0.2.1 d_MO_init_0 rfl (lv_at hl 0 rfl) ?_
  refine mg_obj (pc := 1) C0 (gw_t2 140 rfl rfl) (gw_t1 15 rfl rfl) (gw_t1 16 rfl rfl) hl.1 (Nat.le_of_ble_eq_true rfl) (Nat.le_of_ble_eq_true rfl) d_MO_init_1 ?_
  refine lv_aload_n (pc := 4) C0.1 C0.2.1 d_MO_init_4 rfl (lv_at hl 0 rfl) ?_
  refine lv_sipush (pc := 5) (v := nI (720)) C0.1 C0.2.1 d_MO_init_5 (by decide +kernel) ?_
  refine mg_newa (pc := 8) (ty := .int) (k := 53) (N' := 720) (cA := ca 1) (a0 := (720, .inl (fun _ => nI 0))) C0 (gw_t1 51 rfl rfl) rfl (fun c9 h9 => Option.some.inj (h9.symm.trans (hK.2 1 _ rfl).2)) hK hP hD hS hA (fun _ => rfl) (by omega) (by rw [show componentBytes .int = 4 from rfl]; omega) (mg_len fn53 f52) (show 0 + 1 ≤ 7 by omega) (show 0 + 720 ≤ 2015 by omega) d_MO_init_8 (fun q53 ws H hfr f53 hP hD hS => ?_)
  have f52 := (hfr (52) (by omega)).trans f52
  have fn54 := (hfr (54) (by omega)).trans fn54
  have fn55 := (hfr (55) (by omega)).trans fn55
  have fn56 := (hfr (56) (by omega)).trans fn56
  have fn57 := (hfr (57) (by omega)).trans fn57
  have fn58 := (hfr (58) (by omega)).trans fn58
  have fn59 := (hfr (59) (by omega)).trans fn59
  have hfm : ∀ j, j ≠ 52 ∧ j ≠ 53 ∧ j ≠ 54 ∧ j ≠ 55 ∧ j ≠ 56 ∧ j ≠ 57 ∧ j ≠ 58 ∧ j ≠ 59 → ws[j]? = ws0[j]? := fun j hj => (hfr j (by omega)).trans (hfm j hj)
  refine mg_putF (pc := 10) C0 hnm in_MO t_MO_ok n_MO hK hP hD hS (52) f52 rfl 2 (by decide) fl_MO_7 rfl rfl (ty := .array (.int)) (by decide +kernel) rfl rfl (Nat.le_of_ble_eq_true rfl) (fs' := [.int (nI 0), .int (nI 0), .ref (q53), .int (nI 0), .null, .int (nI 0), .null, .null, .null, .null, .null, .int (nI 0)]) rfl d_MO_init_10 (fun ws H locs hfr f52 hP hD hS => ?_)
  have fn54 := (hfr (54) (by omega)).trans fn54
  have fn55 := (hfr (55) (by omega)).trans fn55
  have fn56 := (hfr (56) (by omega)).trans fn56
  have fn57 := (hfr (57) (by omega)).trans fn57
  have fn58 := (hfr (58) (by omega)).trans fn58
  have fn59 := (hfr (59) (by omega)).trans fn59
  have f53 := (hfr (53) (by omega)).trans f53
  have hfm : ∀ j, j ≠ 52 ∧ j ≠ 53 ∧ j ≠ 54 ∧ j ≠ 55 ∧ j ≠ 56 ∧ j ≠ 57 ∧ j ≠ 58 ∧ j ≠ 59 → ws[j]? = ws0[j]? := fun j hj => (hfr j (by omega)).trans (hfm j hj)
  refine lv_aload_n (pc := 13) C0.1 C0.2.1 d_MO_init_13 rfl (lv_at hl 0 rfl) ?_
  refine lv_iconst (pc := 14) (v := nI (1)) C0.1 C0.2.1 d_MO_init_14 (by decide +kernel) ?_
  refine mg_put (pc := 15) C0 in_MO t_MO_ok n_MO hK hP hD hS (52) f52 rfl 3 (by decide) fl_MO_13 rfl (ty := .int) (by decide +kernel) rfl rfl (Nat.le_of_ble_eq_true rfl) (fs' := [.int (nI 0), .int (nI 0), .ref (q53), .int (nI (1)), .null, .int (nI 0), .null, .null, .null, .null, .null, .int (nI 0)]) rfl d_MO_init_15 (fun ws H locs hfr f52 hP hD hS => ?_)
  have fn54 := (hfr (54) (by omega)).trans fn54
  have fn55 := (hfr (55) (by omega)).trans fn55
  have fn56 := (hfr (56) (by omega)).trans fn56
  have fn57 := (hfr (57) (by omega)).trans fn57
  have fn58 := (hfr (58) (by omega)).trans fn58
  have fn59 := (hfr (59) (by omega)).trans fn59
  have f53 := (hfr (53) (by omega)).trans f53
  have hfm : ∀ j, j ≠ 52 ∧ j ≠ 53 ∧ j ≠ 54 ∧ j ≠ 55 ∧ j ≠ 56 ∧ j ≠ 57 ∧ j ≠ 58 ∧ j ≠ 59 → ws[j]? = ws0[j]? := fun j hj => (hfr j (by omega)).trans (hfm j hj)
  refine lv_aload_n (pc := 18) C0.1 C0.2.1 d_MO_init_18 rfl (lv_at hl 0 rfl) ?_
  refine lv_bipush (pc := 19) (v := nI (40)) C0.1 C0.2.1 d_MO_init_19 (by decide +kernel) ?_
  refine mg_newa (pc := 21) (ty := .int) (k := 54) (N' := 40) (cA := ca 1) (a0 := (40, .inl (fun _ => nI 0))) C0 (gw_t1 51 rfl rfl) rfl (fun c9 h9 => Option.some.inj (h9.symm.trans (hK.2 1 _ rfl).2)) hK hP hD hS hA (fun _ => rfl) (by omega) (by rw [show componentBytes .int = 4 from rfl]; omega) (mg_len fn54 f53) (show 0 + 1 + 1 ≤ 7 by omega) (show 0 + 720 + 40 ≤ 2015 by omega) d_MO_init_21 (fun q54 ws H hfr f54 hP hD hS => ?_)
  have f52 := (hfr (52) (by omega)).trans f52
  have fn55 := (hfr (55) (by omega)).trans fn55
  have fn56 := (hfr (56) (by omega)).trans fn56
  have fn57 := (hfr (57) (by omega)).trans fn57
  have fn58 := (hfr (58) (by omega)).trans fn58
  have fn59 := (hfr (59) (by omega)).trans fn59
  have f53 := (hfr (53) (by omega)).trans f53
  have hfm : ∀ j, j ≠ 52 ∧ j ≠ 53 ∧ j ≠ 54 ∧ j ≠ 55 ∧ j ≠ 56 ∧ j ≠ 57 ∧ j ≠ 58 ∧ j ≠ 59 → ws[j]? = ws0[j]? := fun j hj => (hfr j (by omega)).trans (hfm j hj)
  refine mg_putF (pc := 23) C0 hnm in_MO t_MO_ok n_MO hK hP hD hS (52) f52 rfl 4 (by decide) fl_MO_17 rfl rfl (ty := .array (.int)) (by decide +kernel) rfl rfl (Nat.le_of_ble_eq_true rfl) (fs' := [.int (nI 0), .int (nI 0), .ref (q53), .int (nI (1)), .ref (q54), .int (nI 0), .null, .null, .null, .null, .null, .int (nI 0)]) rfl d_MO_init_23 (fun ws H locs hfr f52 hP hD hS => ?_)
  have fn55 := (hfr (55) (by omega)).trans fn55
  have fn56 := (hfr (56) (by omega)).trans fn56
  have fn57 := (hfr (57) (by omega)).trans fn57
  have fn58 := (hfr (58) (by omega)).trans fn58
  have fn59 := (hfr (59) (by omega)).trans fn59
  have f53 := (hfr (53) (by omega)).trans f53
  have f54 := (hfr (54) (by omega)).trans f54
  have hfm : ∀ j, j ≠ 52 ∧ j ≠ 53 ∧ j ≠ 54 ∧ j ≠ 55 ∧ j ≠ 56 ∧ j ≠ 57 ∧ j ≠ 58 ∧ j ≠ 59 → ws[j]? = ws0[j]? := fun j hj => (hfr j (by omega)).trans (hfm j hj)
  refine lv_aload_n (pc := 26) C0.1 C0.2.1 d_MO_init_26 rfl (lv_at hl 0 rfl) ?_
  refine lv_sipush (pc := 27) (v := nI (180)) C0.1 C0.2.1 d_MO_init_27 (by decide +kernel) ?_
  refine mg_newa (pc := 30) (ty := .long) (k := 55) (N' := 180) (cA := ca 2) (a0 := (180, .inr (.inl (fun _ => 0)))) C0 (gw_t1 120 rfl rfl) rfl (fun c9 h9 => Option.some.inj (h9.symm.trans (hK.2 2 _ rfl).2)) hK hP hD hS hA (fun _ => rfl) (by omega) (by rw [show componentBytes .long = 8 from rfl]; omega) (mg_len fn55 f54) (show 0 + 1 + 1 + 1 ≤ 7 by omega) (show 0 + 720 + 40 + 180 ≤ 2015 by omega) d_MO_init_30 (fun q55 ws H hfr f55 hP hD hS => ?_)
  have f52 := (hfr (52) (by omega)).trans f52
  have fn56 := (hfr (56) (by omega)).trans fn56
  have fn57 := (hfr (57) (by omega)).trans fn57
  have fn58 := (hfr (58) (by omega)).trans fn58
  have fn59 := (hfr (59) (by omega)).trans fn59
  have f53 := (hfr (53) (by omega)).trans f53
  have f54 := (hfr (54) (by omega)).trans f54
  have hfm : ∀ j, j ≠ 52 ∧ j ≠ 53 ∧ j ≠ 54 ∧ j ≠ 55 ∧ j ≠ 56 ∧ j ≠ 57 ∧ j ≠ 58 ∧ j ≠ 59 → ws[j]? = ws0[j]? := fun j hj => (hfr j (by omega)).trans (hfm j hj)
  refine mg_putF (pc := 32) C0 hnm in_MO t_MO_ok n_MO hK hP hD hS (52) f52 rfl 6 (by decide) fl_MO_20 rfl rfl (ty := .array (.long)) (by decide +kernel) rfl rfl (Nat.le_of_ble_eq_true rfl) (fs' := [.int (nI 0), .int (nI 0), .ref (q53), .int (nI (1)), .ref (q54), .int (nI 0), .ref (q55), .null, .null, .null, .null, .int (nI 0)]) rfl d_MO_init_32 (fun ws H locs hfr f52 hP hD hS => ?_)
  have fn56 := (hfr (56) (by omega)).trans fn56
  have fn57 := (hfr (57) (by omega)).trans fn57
  have fn58 := (hfr (58) (by omega)).trans fn58
  have fn59 := (hfr (59) (by omega)).trans fn59
  have f53 := (hfr (53) (by omega)).trans f53
  have f54 := (hfr (54) (by omega)).trans f54
  have f55 := (hfr (55) (by omega)).trans f55
  have hfm : ∀ j, j ≠ 52 ∧ j ≠ 53 ∧ j ≠ 54 ∧ j ≠ 55 ∧ j ≠ 56 ∧ j ≠ 57 ∧ j ≠ 58 ∧ j ≠ 59 → ws[j]? = ws0[j]? := fun j hj => (hfr j (by omega)).trans (hfm j hj)
  refine lv_aload_n (pc := 35) C0.1 C0.2.1 d_MO_init_35 rfl (lv_at hl 0 rfl) ?_
  refine lv_bipush (pc := 36) (v := nI (15)) C0.1 C0.2.1 d_MO_init_36 (by decide +kernel) ?_
  refine mg_newa (pc := 38) (ty := .int) (k := 56) (N' := 15) (cA := ca 1) (a0 := (15, .inl (fun _ => nI 0))) C0 (gw_t1 51 rfl rfl) rfl (fun c9 h9 => Option.some.inj (h9.symm.trans (hK.2 1 _ rfl).2)) hK hP hD hS hA (fun _ => rfl) (by omega) (by rw [show componentBytes .int = 4 from rfl]; omega) (mg_len fn56 f55) (show 0 + 1 + 1 + 1 + 1 ≤ 7 by omega) (show 0 + 720 + 40 + 180 + 15 ≤ 2015 by omega) d_MO_init_38 (fun q56 ws H hfr f56 hP hD hS => ?_)
  have f52 := (hfr (52) (by omega)).trans f52
  have fn57 := (hfr (57) (by omega)).trans fn57
  have fn58 := (hfr (58) (by omega)).trans fn58
  have fn59 := (hfr (59) (by omega)).trans fn59
  have f53 := (hfr (53) (by omega)).trans f53
  have f54 := (hfr (54) (by omega)).trans f54
  have f55 := (hfr (55) (by omega)).trans f55
  have hfm : ∀ j, j ≠ 52 ∧ j ≠ 53 ∧ j ≠ 54 ∧ j ≠ 55 ∧ j ≠ 56 ∧ j ≠ 57 ∧ j ≠ 58 ∧ j ≠ 59 → ws[j]? = ws0[j]? := fun j hj => (hfr j (by omega)).trans (hfm j hj)
  refine mg_putF (pc := 40) C0 hnm in_MO t_MO_ok n_MO hK hP hD hS (52) f52 rfl 7 (by decide) fl_MO_24 rfl rfl (ty := .array (.int)) (by decide +kernel) rfl rfl (Nat.le_of_ble_eq_true rfl) (fs' := [.int (nI 0), .int (nI 0), .ref (q53), .int (nI (1)), .ref (q54), .int (nI 0), .ref (q55), .ref (q56), .null, .null, .null, .int (nI 0)]) rfl d_MO_init_40 (fun ws H locs hfr f52 hP hD hS => ?_)
  have fn57 := (hfr (57) (by omega)).trans fn57
  have fn58 := (hfr (58) (by omega)).trans fn58
  have fn59 := (hfr (59) (by omega)).trans fn59
  have f53 := (hfr (53) (by omega)).trans f53
  have f54 := (hfr (54) (by omega)).trans f54
  have f55 := (hfr (55) (by omega)).trans f55
  have f56 := (hfr (56) (by omega)).trans f56
  have hfm : ∀ j, j ≠ 52 ∧ j ≠ 53 ∧ j ≠ 54 ∧ j ≠ 55 ∧ j ≠ 56 ∧ j ≠ 57 ∧ j ≠ 58 ∧ j ≠ 59 → ws[j]? = ws0[j]? := fun j hj => (hfr j (by omega)).trans (hfm j hj)
  refine lv_aload_n (pc := 43) C0.1 C0.2.1 d_MO_init_43 rfl (lv_at hl 0 rfl) ?_
  refine lv_sipush (pc := 44) (v := nI (300)) C0.1 C0.2.1 d_MO_init_44 (by decide +kernel) ?_
  refine mg_newa (pc := 47) (ty := .int) (k := 57) (N' := 300) (cA := ca 1) (a0 := (300, .inl (fun _ => nI 0))) C0 (gw_t1 51 rfl rfl) rfl (fun c9 h9 => Option.some.inj (h9.symm.trans (hK.2 1 _ rfl).2)) hK hP hD hS hA (fun _ => rfl) (by omega) (by rw [show componentBytes .int = 4 from rfl]; omega) (mg_len fn57 f56) (show 0 + 1 + 1 + 1 + 1 + 1 ≤ 7 by omega) (show 0 + 720 + 40 + 180 + 15 + 300 ≤ 2015 by omega) d_MO_init_47 (fun q57 ws H hfr f57 hP hD hS => ?_)
  have f52 := (hfr (52) (by omega)).trans f52
  have fn58 := (hfr (58) (by omega)).trans fn58
  have fn59 := (hfr (59) (by omega)).trans fn59
  have f53 := (hfr (53) (by omega)).trans f53
  have f54 := (hfr (54) (by omega)).trans f54
  have f55 := (hfr (55) (by omega)).trans f55
  have f56 := (hfr (56) (by omega)).trans f56
  have hfm : ∀ j, j ≠ 52 ∧ j ≠ 53 ∧ j ≠ 54 ∧ j ≠ 55 ∧ j ≠ 56 ∧ j ≠ 57 ∧ j ≠ 58 ∧ j ≠ 59 → ws[j]? = ws0[j]? := fun j hj => (hfr j (by omega)).trans (hfm j hj)
  refine mg_putF (pc := 49) C0 hnm in_MO t_MO_ok n_MO hK hP hD hS (52) f52 rfl 8 (by decide) fl_MO_27 rfl rfl (ty := .array (.int)) (by decide +kernel) rfl rfl (Nat.le_of_ble_eq_true rfl) (fs' := [.int (nI 0), .int (nI 0), .ref (q53), .int (nI (1)), .ref (q54), .int (nI 0), .ref (q55), .ref (q56), .ref (q57), .null, .null, .int (nI 0)]) rfl d_MO_init_49 (fun ws H locs hfr f52 hP hD hS => ?_)
  have fn58 := (hfr (58) (by omega)).trans fn58
  have fn59 := (hfr (59) (by omega)).trans fn59
  have f53 := (hfr (53) (by omega)).trans f53
  have f54 := (hfr (54) (by omega)).trans f54
  have f55 := (hfr (55) (by omega)).trans f55
  have f56 := (hfr (56) (by omega)).trans f56
  have f57 := (hfr (57) (by omega)).trans f57
  have hfm : ∀ j, j ≠ 52 ∧ j ≠ 53 ∧ j ≠ 54 ∧ j ≠ 55 ∧ j ≠ 56 ∧ j ≠ 57 ∧ j ≠ 58 ∧ j ≠ 59 → ws[j]? = ws0[j]? := fun j hj => (hfr j (by omega)).trans (hfm j hj)
  refine lv_aload_n (pc := 52) C0.1 C0.2.1 d_MO_init_52 rfl (lv_at hl 0 rfl) ?_
  refine lv_sipush (pc := 53) (v := nI (720)) C0.1 C0.2.1 d_MO_init_53 (by decide +kernel) ?_
  refine mg_newa (pc := 56) (ty := .int) (k := 58) (N' := 720) (cA := ca 1) (a0 := (720, .inl (fun _ => nI 0))) C0 (gw_t1 51 rfl rfl) rfl (fun c9 h9 => Option.some.inj (h9.symm.trans (hK.2 1 _ rfl).2)) hK hP hD hS hA (fun _ => rfl) (by omega) (by rw [show componentBytes .int = 4 from rfl]; omega) (mg_len fn58 f57) (show 0 + 1 + 1 + 1 + 1 + 1 + 1 ≤ 7 by omega) (show 0 + 720 + 40 + 180 + 15 + 300 + 720 ≤ 2015 by omega) d_MO_init_56 (fun q58 ws H hfr f58 hP hD hS => ?_)
  have f52 := (hfr (52) (by omega)).trans f52
  have fn59 := (hfr (59) (by omega)).trans fn59
  have f53 := (hfr (53) (by omega)).trans f53
  have f54 := (hfr (54) (by omega)).trans f54
  have f55 := (hfr (55) (by omega)).trans f55
  have f56 := (hfr (56) (by omega)).trans f56
  have f57 := (hfr (57) (by omega)).trans f57
  have hfm : ∀ j, j ≠ 52 ∧ j ≠ 53 ∧ j ≠ 54 ∧ j ≠ 55 ∧ j ≠ 56 ∧ j ≠ 57 ∧ j ≠ 58 ∧ j ≠ 59 → ws[j]? = ws0[j]? := fun j hj => (hfr j (by omega)).trans (hfm j hj)
  refine mg_putF (pc := 58) C0 hnm in_MO t_MO_ok n_MO hK hP hD hS (52) f52 rfl 9 (by decide) fl_MO_30 rfl rfl (ty := .array (.int)) (by decide +kernel) rfl rfl (Nat.le_of_ble_eq_true rfl) (fs' := [.int (nI 0), .int (nI 0), .ref (q53), .int (nI (1)), .ref (q54), .int (nI 0), .ref (q55), .ref (q56), .ref (q57), .ref (q58), .null, .int (nI 0)]) rfl d_MO_init_58 (fun ws H locs hfr f52 hP hD hS => ?_)
  have fn59 := (hfr (59) (by omega)).trans fn59
  have f53 := (hfr (53) (by omega)).trans f53
  have f54 := (hfr (54) (by omega)).trans f54
  have f55 := (hfr (55) (by omega)).trans f55
  have f56 := (hfr (56) (by omega)).trans f56
  have f57 := (hfr (57) (by omega)).trans f57
  have f58 := (hfr (58) (by omega)).trans f58
  have hfm : ∀ j, j ≠ 52 ∧ j ≠ 53 ∧ j ≠ 54 ∧ j ≠ 55 ∧ j ≠ 56 ∧ j ≠ 57 ∧ j ≠ 58 ∧ j ≠ 59 → ws[j]? = ws0[j]? := fun j hj => (hfr j (by omega)).trans (hfm j hj)
  refine lv_aload_n (pc := 61) C0.1 C0.2.1 d_MO_init_61 rfl (lv_at hl 0 rfl) ?_
  refine lv_bipush (pc := 62) (v := nI (40)) C0.1 C0.2.1 d_MO_init_62 (by decide +kernel) ?_
  refine mg_newa (pc := 64) (ty := .int) (k := 59) (N' := 40) (cA := ca 1) (a0 := (40, .inl (fun _ => nI 0))) C0 (gw_t1 51 rfl rfl) rfl (fun c9 h9 => Option.some.inj (h9.symm.trans (hK.2 1 _ rfl).2)) hK hP hD hS hA (fun _ => rfl) (by omega) (by rw [show componentBytes .int = 4 from rfl]; omega) (mg_len fn59 f58) (show 0 + 1 + 1 + 1 + 1 + 1 + 1 + 1 ≤ 7 by omega) (show 0 + 720 + 40 + 180 + 15 + 300 + 720 + 40 ≤ 2015 by omega) d_MO_init_64 (fun q59 ws H hfr f59 hP hD hS => ?_)
  have f52 := (hfr (52) (by omega)).trans f52
  have f53 := (hfr (53) (by omega)).trans f53
  have f54 := (hfr (54) (by omega)).trans f54
  have f55 := (hfr (55) (by omega)).trans f55
  have f56 := (hfr (56) (by omega)).trans f56
  have f57 := (hfr (57) (by omega)).trans f57
  have f58 := (hfr (58) (by omega)).trans f58
  have hfm : ∀ j, j ≠ 52 ∧ j ≠ 53 ∧ j ≠ 54 ∧ j ≠ 55 ∧ j ≠ 56 ∧ j ≠ 57 ∧ j ≠ 58 ∧ j ≠ 59 → ws[j]? = ws0[j]? := fun j hj => (hfr j (by omega)).trans (hfm j hj)
  refine mg_putF (pc := 66) C0 hnm in_MO t_MO_ok n_MO hK hP hD hS (52) f52 rfl 10 (by decide) fl_MO_33 rfl rfl (ty := .array (.int)) (by decide +kernel) rfl rfl (Nat.le_of_ble_eq_true rfl) (fs' := [.int (nI 0), .int (nI 0), .ref (q53), .int (nI (1)), .ref (q54), .int (nI 0), .ref (q55), .ref (q56), .ref (q57), .ref (q58), .ref (q59), .int (nI 0)]) rfl d_MO_init_66 (fun ws H locs hfr f52 hP hD hS => ?_)
  have f53 := (hfr (53) (by omega)).trans f53
  have f54 := (hfr (54) (by omega)).trans f54
  have f55 := (hfr (55) (by omega)).trans f55
  have f56 := (hfr (56) (by omega)).trans f56
  have f57 := (hfr (57) (by omega)).trans f57
  have f58 := (hfr (58) (by omega)).trans f58
  have f59 := (hfr (59) (by omega)).trans f59
  have hfm : ∀ j, j ≠ 52 ∧ j ≠ 53 ∧ j ≠ 54 ∧ j ≠ 55 ∧ j ≠ 56 ∧ j ≠ 57 ∧ j ≠ 58 ∧ j ≠ 59 → ws[j]? = ws0[j]? := fun j hj => (hfr j (by omega)).trans (hfm j hj)
  refine lv_aload_n (pc := 69) C0.1 C0.2.1 d_MO_init_69 rfl (lv_at hl 0 rfl) ?_
  refine lv_iload_n (pc := 70) C0.1 C0.2.1 d_MO_init_70 rfl (lv_at hl 1 rfl) ?_
  refine lv_iconst (pc := 71) (v := nI (2)) C0.1 C0.2.1 d_MO_init_71 (by decide +kernel) ?_
  refine lv_icmp_lt (pc := 72) (tgt := 85) C0.1 C0.2.1 d_MO_init_72 (by decide) (fun hc => ?_) (fun hc => ?_)
  · refine lv_iconst (pc := 85) (v := nI (4)) C0.1 C0.2.1 d_MO_init_85 (by decide +kernel) ?_
    refine mg_top (show nI (4) = nI (n) from by rw [h4]) ?_
    refine mg_putF (pc := 86) C0 hnm in_MO t_MO_ok n_MO hK hP hD hS (52) f52 rfl 0 (by decide) fl_MO_36 rfl rfl (ty := .int) (by decide +kernel) rfl rfl (Nat.le_of_ble_eq_true rfl) (fs' := [.int (nI (n)), .int (nI 0), .ref (q53), .int (nI (1)), .ref (q54), .int (nI 0), .ref (q55), .ref (q56), .ref (q57), .ref (q58), .ref (q59), .int (nI 0)]) rfl d_MO_init_86 (fun ws H locs hfr f52 hP hD hS => ?_)
    have f53 := (hfr (53) (by omega)).trans f53
    have f54 := (hfr (54) (by omega)).trans f54
    have f55 := (hfr (55) (by omega)).trans f55
    have f56 := (hfr (56) (by omega)).trans f56
    have f57 := (hfr (57) (by omega)).trans f57
    have f58 := (hfr (58) (by omega)).trans f58
    have f59 := (hfr (59) (by omega)).trans f59
    have hfm : ∀ j, j ≠ 52 ∧ j ≠ 53 ∧ j ≠ 54 ∧ j ≠ 55 ∧ j ≠ 56 ∧ j ≠ 57 ∧ j ≠ 58 ∧ j ≠ 59 → ws[j]? = ws0[j]? := fun j hj => (hfr j (by omega)).trans (hfm j hj)
    refine lv_iconst (pc := 89) (v := nI (1)) C0.1 C0.2.1 d_MO_init_89 (by decide +kernel) ?_
    refine lv_istore_n (pc := 90) (lv' := [(2, .int (nI (1))), (0, .ref (q52)), (1, .int (x))]) C0.1 C0.2.1 d_MO_init_90 rfl hl (by decide) rfl (fun ls hl => ?_)
    refine lv_iconst (pc := 91) (v := nI (2)) C0.1 C0.2.1 d_MO_init_91 (by decide +kernel) ?_
    refine lv_istore_n (pc := 92) (lv' := [(3, .int (nI (2))), (2, .int (nI (1))), (0, .ref (q52)), (1, .int (x))]) C0.1 C0.2.1 d_MO_init_92 rfl hl (by decide) rfl (fun ls hl => ?_)
    have loop1 : ∀ (d : Nat) (k : Nat) (ws : va_W) (H : Heap) (locs : List Loc) (ls : Array Slot), n - k = d → (1 ≤ k) → (k ≤ n) → (∀ j, j ≠ 52 ∧ j ≠ 53 ∧ j ≠ 54 ∧ j ≠ 55 ∧ j ≠ 56 ∧ j ≠ 57 ∧ j ≠ 58 ∧ j ≠ 59 → ws[j]? = ws0[j]?) → ws[52]? = some (q52, .inr (4, [.int (nI (n)), .int (nI 0), .ref (q53), .int (nI (1)), .ref (q54), .int (nI 0), .ref (q55), .ref (q56), .ref (q57), .ref (q58), .ref (q59), .int (nI 0)])) → ws[53]? = some (q53, .inl (ca 1, 720, .inl (fun _ => nI 0))) → ws[54]? = some (q54, .inl (ca 1, 40, .inl (fun _ => nI 0))) → ws[55]? = some (q55, .inl (ca 2, 180, .inr (.inl (fun _ => 0)))) → ws[56]? = some (q56, .inl (ca 1, 15, .inl (fun _ => nI 0))) → ws[57]? = some (q57, .inl (ca 1, 300, .inl (fun _ => nI 0))) → ws[58]? = some (q58, .inl (ca 1, 720, .inl (fun _ => nI 0))) → ws[59]? = some (q59, .inl (ca 1, 40, .inl (fun _ => nI 0))) → lv_has ls 4 [(0, .ref (q52)), (2, .int (nI (pm_fc k))), (3, .int (nI (k + 1)))] → va_P D classes ws H → va_D A ws → va_S A s.heap H locs → W p l e (mg_rn 2 7 (2015)) s m args below meth c H locs (0 + 1 + 1 + 1 + 1 + 1 + 1 + 1) (0 + 720 + 40 + 180 + 15 + 300 + 720 + 40) Q (F0 m 93 ls []) := by
      intro d
      induction d using Nat.strongRecOn with
      | _ d ih_loop1 =>
        intro k ws H locs ls hd hk1 hkn hfm f52 f53 f54 f55 f56 f57 f58 f59 hl hP hD hS
        refine lv_iload_n (pc := 93) C0.1 C0.2.1 d_MO_init_93 rfl (lv_at hl 2 rfl) ?_
        refine lv_aload_n (pc := 94) C0.1 C0.2.1 d_MO_init_94 rfl (lv_at hl 0 rfl) ?_
        refine mg_get (pc := 95) C0 in_MO hK hP (52) f52 rfl 0 (by decide) fl_MO_36 rfl d_MO_init_95 ?_
        refine mb_gt (pc := 98) (tgt := 111) C0 (by omega) (by omega) d_MO_init_98 (by decide) (fun hc => ?_) (fun hc => ?_)
        · have hkk : k = n := by omega
          rw [hkk] at hl
          refine lv_aload_n (pc := 111) C0.1 C0.2.1 d_MO_init_111 rfl (lv_at hl 0 rfl) ?_
          refine lv_iload_n (pc := 112) C0.1 C0.2.1 d_MO_init_112 rfl (lv_at hl 1 rfl) ?_
          refine mg_putF (pc := 113) C0 hnm in_MO t_MO_ok n_MO hK hP hD hS (52) f52 rfl 1 (by decide) fl_MO_39 rfl rfl (ty := .int) (by decide +kernel) rfl rfl (Nat.le_of_ble_eq_true rfl) (fs' := [.int (nI (n)), .int (nI (pm_fc n)), .ref (q53), .int (nI (1)), .ref (q54), .int (nI 0), .ref (q55), .ref (q56), .ref (q57), .ref (q58), .ref (q59), .int (nI 0)]) rfl d_MO_init_113 (fun ws H locs hfr f52 hP hD hS => ?_)
          have f53 := (hfr (53) (by omega)).trans f53
          have f54 := (hfr (54) (by omega)).trans f54
          have f55 := (hfr (55) (by omega)).trans f55
          have f56 := (hfr (56) (by omega)).trans f56
          have f57 := (hfr (57) (by omega)).trans f57
          have f58 := (hfr (58) (by omega)).trans f58
          have f59 := (hfr (59) (by omega)).trans f59
          have hfm : ∀ j, j ≠ 52 ∧ j ≠ 53 ∧ j ≠ 54 ∧ j ≠ 55 ∧ j ≠ 56 ∧ j ≠ 57 ∧ j ≠ 58 ∧ j ≠ 59 → ws[j]? = ws0[j]? := fun j hj => (hfr j (by omega)).trans (hfm j hj)
          refine lv_iconst (pc := 116) (v := nI (0)) C0.1 C0.2.1 d_MO_init_116 (by decide +kernel) ?_
          refine lv_istore_n (pc := 117) (lv' := [(3, .int (nI (0))), (0, .ref (q52)), (2, .int (nI (pm_fc n)))]) C0.1 C0.2.1 d_MO_init_117 rfl hl (by decide) rfl (fun ls hl => ?_)
          have loop2 : ∀ (d : Nat) (r : Nat) (im : Nat → Int32) (ws : va_W) (H : Heap) (locs : List Loc) (ls : Array Slot), pm_fc n - r = d → (r ≤ pm_fc n) → (∀ r1, r1 < r → im r1 = nI (qk_p (pm_im n r1) n)) → (∀ j, j ≠ 52 ∧ j ≠ 53 ∧ j ≠ 54 ∧ j ≠ 55 ∧ j ≠ 56 ∧ j ≠ 57 ∧ j ≠ 58 ∧ j ≠ 59 → ws[j]? = ws0[j]?) → ws[52]? = some (q52, .inr (4, [.int (nI (n)), .int (nI (pm_fc n)), .ref (q53), .int (nI (1)), .ref (q54), .int (nI 0), .ref (q55), .ref (q56), .ref (q57), .ref (q58), .ref (q59), .int (nI 0)])) → ws[53]? = some (q53, .inl (ca 1, 720, .inl (im))) → ws[54]? = some (q54, .inl (ca 1, 40, .inl (fun _ => nI 0))) → ws[55]? = some (q55, .inl (ca 2, 180, .inr (.inl (fun _ => 0)))) → ws[56]? = some (q56, .inl (ca 1, 15, .inl (fun _ => nI 0))) → ws[57]? = some (q57, .inl (ca 1, 300, .inl (fun _ => nI 0))) → ws[58]? = some (q58, .inl (ca 1, 720, .inl (fun _ => nI 0))) → ws[59]? = some (q59, .inl (ca 1, 40, .inl (fun _ => nI 0))) → lv_has ls 4 [(0, .ref (q52)), (3, .int (nI (r)))] → va_P D classes ws H → va_D A ws → va_S A s.heap H locs → W p l e (mg_rn 2 7 (2015)) s m args below meth c H locs (0 + 1 + 1 + 1 + 1 + 1 + 1 + 1) (0 + 720 + 40 + 180 + 15 + 300 + 720 + 40) Q (F0 m 118 ls []) := by
            intro d
            induction d using Nat.strongRecOn with
            | _ d ih_loop2 =>
              intro r im ws H locs ls hd hr him hfm f52 f53 f54 f55 f56 f57 f58 f59 hl hP hD hS
              refine lv_iload_n (pc := 118) C0.1 C0.2.1 d_MO_init_118 rfl (lv_at hl 1 rfl) ?_
              refine lv_aload_n (pc := 119) C0.1 C0.2.1 d_MO_init_119 rfl (lv_at hl 0 rfl) ?_
              refine mg_get (pc := 120) C0 in_MO hK hP (52) f52 rfl 1 (by decide) fl_MO_39 rfl d_MO_init_120 ?_
              refine mb_ge (pc := 123) (tgt := 143) C0 (by omega) (by omega) d_MO_init_123 (by decide) (fun hc => ?_) (fun hc => ?_)
              · refine W.widen (k := 7) (n := 2015) (by omega) (by omega) ?_
                exact hret _ _ _ 143 _ (⟨hfm, q53, q54, q55, q56, q57, q58, q59, f52, ⟨im, f53, fun r1 h9 => him r1 (by omega)⟩, ⟨_, f54, fun _ _ => rfl⟩, ⟨_, _, _, f55, f56, f57, fun i hi => absurd hi (by omega)⟩, ⟨_, f58⟩, ⟨_, f59, fun i hi => absurd hi (by omega)⟩, by omega, fun i hi => absurd hi (by omega), by omega, fun _ _ => hN0, by omega⟩) hP hD hS d_MO_init_143
              · have hrN := hc
                refine lv_aload_n (pc := 126) C0.1 C0.2.1 d_MO_init_126 rfl (lv_at hl 0 rfl) ?_
                refine mg_get (pc := 127) C0 in_MO hK hP (52) f52 rfl 2 (by decide) fl_MO_7 rfl d_MO_init_127 ?_
                refine lv_iload_n (pc := 130) C0.1 C0.2.1 d_MO_init_130 rfl (lv_at hl 1 rfl) ?_
                refine lv_aload_n (pc := 131) C0.1 C0.2.1 d_MO_init_131 rfl (lv_at hl 0 rfl) ?_
                refine lv_iload_n (pc := 132) C0.1 C0.2.1 d_MO_init_132 rfl (lv_at hl 1 rfl) ?_
                refine mg_ciR (pc := 133) (As := [.int (nI (r))]) (rest := [.int (nI (r)), .ref (q53)]) C0 (c_MO_imagesOf l D ca (mg_ad8 q52 q53 q54 q55 q56 q57 q58 q59) h2 h6 hrN ws f52) lk_MO_42 ⟨Nat.le_of_ble_eq_true rfl, Nat.le_of_ble_eq_true rfl⟩ ⟨show 0 + 1 + 1 + 1 + 1 + 1 + 1 + 1 ≤ 7 by omega, show 0 + 720 + 40 + 180 + 15 + 300 + 720 + 40 ≤ 2015 by omega⟩ f52 rfl hK hP hD hS hA rfl hl.1 rfl (Nat.le_of_ble_eq_true rfl) d_MO_init_133 (fun rv ws1 H locs hpost hP hD hS => ?_)
                obtain ⟨hr1, hw⟩ := hpost
                rw [hw] at hP hD
                refine mg_top (show rv = nI (qk_p (pm_im n r) n) from hr1) ?_
                refine mg_ist (pc := 136) C0 hK hP hD hS (53) 1 f53 rfl (j := r) (by omega) (by omega) d_MO_init_136 (fun ws H locs hfr f53 hP hD hS => ?_)
                have f52 := (hfr (52) (by omega)).trans f52
                have f54 := (hfr (54) (by omega)).trans f54
                have f55 := (hfr (55) (by omega)).trans f55
                have f56 := (hfr (56) (by omega)).trans f56
                have f57 := (hfr (57) (by omega)).trans f57
                have f58 := (hfr (58) (by omega)).trans f58
                have f59 := (hfr (59) (by omega)).trans f59
                have hfm : ∀ j, j ≠ 52 ∧ j ≠ 53 ∧ j ≠ 54 ∧ j ≠ 55 ∧ j ≠ 56 ∧ j ≠ 57 ∧ j ≠ 58 ∧ j ≠ 59 → ws[j]? = ws0[j]? := fun j hj => (hfr j (by omega)).trans (hfm j hj)
                refine lv_iinc (pc := 137) (k := 1) (v := nI (r + 1)) (lv' := [(3, .int (nI (r + 1))), (0, .ref (q52))]) C0.1 C0.2.1 d_MO_init_137 hl rfl (nb_p1 _) (by decide) rfl (fun ls hl => ?_)
                refine lv_goto (pc := 140) (tgt := 118) C0.1 C0.2.1 d_MO_init_140 (by decide) ?_
                exact ih_loop2 _ (by omega) (r + 1) (upd im (r) (nI (qk_p (pm_im n r) n))) _ _ _ _ rfl (by omega) (fun r1 h9 => by
                  by_cases e9 : r1 = r
                  · subst e9; exact pk_us
                  · rw [pk_un e9]; exact him r1 (by omega)) hfm f52 f53 f54 f55 f56 f57 f58 f59 (lv_sub hl [1, 0] rfl) hP hD hS
          exact loop2 _ 0 _ _ _ _ _ rfl (by omega) (fun r1 h9 => absurd h9 (by omega)) hfm f52 f53 f54 f55 f56 f57 f58 f59 (lv_sub hl [1, 0] rfl) hP hD hS
        · refine lv_iload_n (pc := 101) C0.1 C0.2.1 d_MO_init_101 rfl (lv_at hl 1 rfl) ?_
          refine lv_iload_n (pc := 102) C0.1 C0.2.1 d_MO_init_102 rfl (lv_at hl 2 rfl) ?_
          refine mn_mul (pc := 103) C0 d_MO_init_103 ?_
          refine mg_top (show nI ((pm_fc k) * (k + 1)) = nI (pm_fc (k + 1)) from congrArg nI (Nat.mul_comm _ _)) ?_
          refine lv_istore_n (pc := 104) (lv' := [(2, .int (nI (pm_fc (k + 1)))), (0, .ref (q52)), (3, .int (nI (k + 1)))]) C0.1 C0.2.1 d_MO_init_104 rfl hl (by decide) rfl (fun ls hl => ?_)
          refine lv_iinc (pc := 105) (k := 2) (v := nI (k + 1 + 1)) (lv' := [(3, .int (nI (k + 1 + 1))), (2, .int (nI (pm_fc (k + 1)))), (0, .ref (q52))]) C0.1 C0.2.1 d_MO_init_105 hl rfl (nb_p1 _) (by decide) rfl (fun ls hl => ?_)
          refine lv_goto (pc := 108) (tgt := 93) C0.1 C0.2.1 d_MO_init_108 (by decide) ?_
          exact ih_loop1 _ (by omega) (k + 1) _ _ _ _ rfl (by omega) (by omega) hfm f52 f53 f54 f55 f56 f57 f58 f59 (lv_sub hl [2, 1, 0] rfl) hP hD hS
    exact loop1 _ 1 _ _ _ _ rfl (by omega) (by omega) hfm f52 f53 f54 f55 f56 f57 f58 f59 (lv_sub hl [2, 1, 0] rfl) hP hD hS
  · refine lv_iload_n (pc := 75) C0.1 C0.2.1 d_MO_init_75 rfl (lv_at hl 1 rfl) ?_
    refine lv_bipush (pc := 76) (v := nI (6)) C0.1 C0.2.1 d_MO_init_76 (by decide +kernel) ?_
    refine lv_icmp_gt (pc := 78) (tgt := 85) C0.1 C0.2.1 d_MO_init_78 (by decide) (fun hc2 => ?_) (fun hc2 => ?_)
    · refine lv_iconst (pc := 85) (v := nI (4)) C0.1 C0.2.1 d_MO_init_85 (by decide +kernel) ?_
      refine mg_top (show nI (4) = nI (n) from by rw [h4]) ?_
      refine mg_putF (pc := 86) C0 hnm in_MO t_MO_ok n_MO hK hP hD hS (52) f52 rfl 0 (by decide) fl_MO_36 rfl rfl (ty := .int) (by decide +kernel) rfl rfl (Nat.le_of_ble_eq_true rfl) (fs' := [.int (nI (n)), .int (nI 0), .ref (q53), .int (nI (1)), .ref (q54), .int (nI 0), .ref (q55), .ref (q56), .ref (q57), .ref (q58), .ref (q59), .int (nI 0)]) rfl d_MO_init_86 (fun ws H locs hfr f52 hP hD hS => ?_)
      have f53 := (hfr (53) (by omega)).trans f53
      have f54 := (hfr (54) (by omega)).trans f54
      have f55 := (hfr (55) (by omega)).trans f55
      have f56 := (hfr (56) (by omega)).trans f56
      have f57 := (hfr (57) (by omega)).trans f57
      have f58 := (hfr (58) (by omega)).trans f58
      have f59 := (hfr (59) (by omega)).trans f59
      have hfm : ∀ j, j ≠ 52 ∧ j ≠ 53 ∧ j ≠ 54 ∧ j ≠ 55 ∧ j ≠ 56 ∧ j ≠ 57 ∧ j ≠ 58 ∧ j ≠ 59 → ws[j]? = ws0[j]? := fun j hj => (hfr j (by omega)).trans (hfm j hj)
      refine lv_iconst (pc := 89) (v := nI (1)) C0.1 C0.2.1 d_MO_init_89 (by decide +kernel) ?_
      refine lv_istore_n (pc := 90) (lv' := [(2, .int (nI (1))), (0, .ref (q52)), (1, .int (x))]) C0.1 C0.2.1 d_MO_init_90 rfl hl (by decide) rfl (fun ls hl => ?_)
      refine lv_iconst (pc := 91) (v := nI (2)) C0.1 C0.2.1 d_MO_init_91 (by decide +kernel) ?_
      refine lv_istore_n (pc := 92) (lv' := [(3, .int (nI (2))), (2, .int (nI (1))), (0, .ref (q52)), (1, .int (x))]) C0.1 C0.2.1 d_MO_init_92 rfl hl (by decide) rfl (fun ls hl => ?_)
      have loop1 : ∀ (d : Nat) (k : Nat) (ws : va_W) (H : Heap) (locs : List Loc) (ls : Array Slot), n - k = d → (1 ≤ k) → (k ≤ n) → (∀ j, j ≠ 52 ∧ j ≠ 53 ∧ j ≠ 54 ∧ j ≠ 55 ∧ j ≠ 56 ∧ j ≠ 57 ∧ j ≠ 58 ∧ j ≠ 59 → ws[j]? = ws0[j]?) → ws[52]? = some (q52, .inr (4, [.int (nI (n)), .int (nI 0), .ref (q53), .int (nI (1)), .ref (q54), .int (nI 0), .ref (q55), .ref (q56), .ref (q57), .ref (q58), .ref (q59), .int (nI 0)])) → ws[53]? = some (q53, .inl (ca 1, 720, .inl (fun _ => nI 0))) → ws[54]? = some (q54, .inl (ca 1, 40, .inl (fun _ => nI 0))) → ws[55]? = some (q55, .inl (ca 2, 180, .inr (.inl (fun _ => 0)))) → ws[56]? = some (q56, .inl (ca 1, 15, .inl (fun _ => nI 0))) → ws[57]? = some (q57, .inl (ca 1, 300, .inl (fun _ => nI 0))) → ws[58]? = some (q58, .inl (ca 1, 720, .inl (fun _ => nI 0))) → ws[59]? = some (q59, .inl (ca 1, 40, .inl (fun _ => nI 0))) → lv_has ls 4 [(0, .ref (q52)), (2, .int (nI (pm_fc k))), (3, .int (nI (k + 1)))] → va_P D classes ws H → va_D A ws → va_S A s.heap H locs → W p l e (mg_rn 2 7 (2015)) s m args below meth c H locs (0 + 1 + 1 + 1 + 1 + 1 + 1 + 1) (0 + 720 + 40 + 180 + 15 + 300 + 720 + 40) Q (F0 m 93 ls []) := by
        intro d
        induction d using Nat.strongRecOn with
        | _ d ih_loop1 =>
          intro k ws H locs ls hd hk1 hkn hfm f52 f53 f54 f55 f56 f57 f58 f59 hl hP hD hS
          refine lv_iload_n (pc := 93) C0.1 C0.2.1 d_MO_init_93 rfl (lv_at hl 2 rfl) ?_
          refine lv_aload_n (pc := 94) C0.1 C0.2.1 d_MO_init_94 rfl (lv_at hl 0 rfl) ?_
          refine mg_get (pc := 95) C0 in_MO hK hP (52) f52 rfl 0 (by decide) fl_MO_36 rfl d_MO_init_95 ?_
          refine mb_gt (pc := 98) (tgt := 111) C0 (by omega) (by omega) d_MO_init_98 (by decide) (fun hc => ?_) (fun hc => ?_)
          · have hkk : k = n := by omega
            rw [hkk] at hl
            refine lv_aload_n (pc := 111) C0.1 C0.2.1 d_MO_init_111 rfl (lv_at hl 0 rfl) ?_
            refine lv_iload_n (pc := 112) C0.1 C0.2.1 d_MO_init_112 rfl (lv_at hl 1 rfl) ?_
            refine mg_putF (pc := 113) C0 hnm in_MO t_MO_ok n_MO hK hP hD hS (52) f52 rfl 1 (by decide) fl_MO_39 rfl rfl (ty := .int) (by decide +kernel) rfl rfl (Nat.le_of_ble_eq_true rfl) (fs' := [.int (nI (n)), .int (nI (pm_fc n)), .ref (q53), .int (nI (1)), .ref (q54), .int (nI 0), .ref (q55), .ref (q56), .ref (q57), .ref (q58), .ref (q59), .int (nI 0)]) rfl d_MO_init_113 (fun ws H locs hfr f52 hP hD hS => ?_)
            have f53 := (hfr (53) (by omega)).trans f53
            have f54 := (hfr (54) (by omega)).trans f54
            have f55 := (hfr (55) (by omega)).trans f55
            have f56 := (hfr (56) (by omega)).trans f56
            have f57 := (hfr (57) (by omega)).trans f57
            have f58 := (hfr (58) (by omega)).trans f58
            have f59 := (hfr (59) (by omega)).trans f59
            have hfm : ∀ j, j ≠ 52 ∧ j ≠ 53 ∧ j ≠ 54 ∧ j ≠ 55 ∧ j ≠ 56 ∧ j ≠ 57 ∧ j ≠ 58 ∧ j ≠ 59 → ws[j]? = ws0[j]? := fun j hj => (hfr j (by omega)).trans (hfm j hj)
            refine lv_iconst (pc := 116) (v := nI (0)) C0.1 C0.2.1 d_MO_init_116 (by decide +kernel) ?_
            refine lv_istore_n (pc := 117) (lv' := [(3, .int (nI (0))), (0, .ref (q52)), (2, .int (nI (pm_fc n)))]) C0.1 C0.2.1 d_MO_init_117 rfl hl (by decide) rfl (fun ls hl => ?_)
            have loop2 : ∀ (d : Nat) (r : Nat) (im : Nat → Int32) (ws : va_W) (H : Heap) (locs : List Loc) (ls : Array Slot), pm_fc n - r = d → (r ≤ pm_fc n) → (∀ r1, r1 < r → im r1 = nI (qk_p (pm_im n r1) n)) → (∀ j, j ≠ 52 ∧ j ≠ 53 ∧ j ≠ 54 ∧ j ≠ 55 ∧ j ≠ 56 ∧ j ≠ 57 ∧ j ≠ 58 ∧ j ≠ 59 → ws[j]? = ws0[j]?) → ws[52]? = some (q52, .inr (4, [.int (nI (n)), .int (nI (pm_fc n)), .ref (q53), .int (nI (1)), .ref (q54), .int (nI 0), .ref (q55), .ref (q56), .ref (q57), .ref (q58), .ref (q59), .int (nI 0)])) → ws[53]? = some (q53, .inl (ca 1, 720, .inl (im))) → ws[54]? = some (q54, .inl (ca 1, 40, .inl (fun _ => nI 0))) → ws[55]? = some (q55, .inl (ca 2, 180, .inr (.inl (fun _ => 0)))) → ws[56]? = some (q56, .inl (ca 1, 15, .inl (fun _ => nI 0))) → ws[57]? = some (q57, .inl (ca 1, 300, .inl (fun _ => nI 0))) → ws[58]? = some (q58, .inl (ca 1, 720, .inl (fun _ => nI 0))) → ws[59]? = some (q59, .inl (ca 1, 40, .inl (fun _ => nI 0))) → lv_has ls 4 [(0, .ref (q52)), (3, .int (nI (r)))] → va_P D classes ws H → va_D A ws → va_S A s.heap H locs → W p l e (mg_rn 2 7 (2015)) s m args below meth c H locs (0 + 1 + 1 + 1 + 1 + 1 + 1 + 1) (0 + 720 + 40 + 180 + 15 + 300 + 720 + 40) Q (F0 m 118 ls []) := by
              intro d
              induction d using Nat.strongRecOn with
              | _ d ih_loop2 =>
                intro r im ws H locs ls hd hr him hfm f52 f53 f54 f55 f56 f57 f58 f59 hl hP hD hS
                refine lv_iload_n (pc := 118) C0.1 C0.2.1 d_MO_init_118 rfl (lv_at hl 1 rfl) ?_
                refine lv_aload_n (pc := 119) C0.1 C0.2.1 d_MO_init_119 rfl (lv_at hl 0 rfl) ?_
                refine mg_get (pc := 120) C0 in_MO hK hP (52) f52 rfl 1 (by decide) fl_MO_39 rfl d_MO_init_120 ?_
                refine mb_ge (pc := 123) (tgt := 143) C0 (by omega) (by omega) d_MO_init_123 (by decide) (fun hc => ?_) (fun hc => ?_)
                · refine W.widen (k := 7) (n := 2015) (by omega) (by omega) ?_
                  exact hret _ _ _ 143 _ (⟨hfm, q53, q54, q55, q56, q57, q58, q59, f52, ⟨im, f53, fun r1 h9 => him r1 (by omega)⟩, ⟨_, f54, fun _ _ => rfl⟩, ⟨_, _, _, f55, f56, f57, fun i hi => absurd hi (by omega)⟩, ⟨_, f58⟩, ⟨_, f59, fun i hi => absurd hi (by omega)⟩, by omega, fun i hi => absurd hi (by omega), by omega, fun _ _ => hN0, by omega⟩) hP hD hS d_MO_init_143
                · have hrN := hc
                  refine lv_aload_n (pc := 126) C0.1 C0.2.1 d_MO_init_126 rfl (lv_at hl 0 rfl) ?_
                  refine mg_get (pc := 127) C0 in_MO hK hP (52) f52 rfl 2 (by decide) fl_MO_7 rfl d_MO_init_127 ?_
                  refine lv_iload_n (pc := 130) C0.1 C0.2.1 d_MO_init_130 rfl (lv_at hl 1 rfl) ?_
                  refine lv_aload_n (pc := 131) C0.1 C0.2.1 d_MO_init_131 rfl (lv_at hl 0 rfl) ?_
                  refine lv_iload_n (pc := 132) C0.1 C0.2.1 d_MO_init_132 rfl (lv_at hl 1 rfl) ?_
                  refine mg_ciR (pc := 133) (As := [.int (nI (r))]) (rest := [.int (nI (r)), .ref (q53)]) C0 (c_MO_imagesOf l D ca (mg_ad8 q52 q53 q54 q55 q56 q57 q58 q59) h2 h6 hrN ws f52) lk_MO_42 ⟨Nat.le_of_ble_eq_true rfl, Nat.le_of_ble_eq_true rfl⟩ ⟨show 0 + 1 + 1 + 1 + 1 + 1 + 1 + 1 ≤ 7 by omega, show 0 + 720 + 40 + 180 + 15 + 300 + 720 + 40 ≤ 2015 by omega⟩ f52 rfl hK hP hD hS hA rfl hl.1 rfl (Nat.le_of_ble_eq_true rfl) d_MO_init_133 (fun rv ws1 H locs hpost hP hD hS => ?_)
                  obtain ⟨hr1, hw⟩ := hpost
                  rw [hw] at hP hD
                  refine mg_top (show rv = nI (qk_p (pm_im n r) n) from hr1) ?_
                  refine mg_ist (pc := 136) C0 hK hP hD hS (53) 1 f53 rfl (j := r) (by omega) (by omega) d_MO_init_136 (fun ws H locs hfr f53 hP hD hS => ?_)
                  have f52 := (hfr (52) (by omega)).trans f52
                  have f54 := (hfr (54) (by omega)).trans f54
                  have f55 := (hfr (55) (by omega)).trans f55
                  have f56 := (hfr (56) (by omega)).trans f56
                  have f57 := (hfr (57) (by omega)).trans f57
                  have f58 := (hfr (58) (by omega)).trans f58
                  have f59 := (hfr (59) (by omega)).trans f59
                  have hfm : ∀ j, j ≠ 52 ∧ j ≠ 53 ∧ j ≠ 54 ∧ j ≠ 55 ∧ j ≠ 56 ∧ j ≠ 57 ∧ j ≠ 58 ∧ j ≠ 59 → ws[j]? = ws0[j]? := fun j hj => (hfr j (by omega)).trans (hfm j hj)
                  refine lv_iinc (pc := 137) (k := 1) (v := nI (r + 1)) (lv' := [(3, .int (nI (r + 1))), (0, .ref (q52))]) C0.1 C0.2.1 d_MO_init_137 hl rfl (nb_p1 _) (by decide) rfl (fun ls hl => ?_)
                  refine lv_goto (pc := 140) (tgt := 118) C0.1 C0.2.1 d_MO_init_140 (by decide) ?_
                  exact ih_loop2 _ (by omega) (r + 1) (upd im (r) (nI (qk_p (pm_im n r) n))) _ _ _ _ rfl (by omega) (fun r1 h9 => by
                    by_cases e9 : r1 = r
                    · subst e9; exact pk_us
                    · rw [pk_un e9]; exact him r1 (by omega)) hfm f52 f53 f54 f55 f56 f57 f58 f59 (lv_sub hl [1, 0] rfl) hP hD hS
            exact loop2 _ 0 _ _ _ _ _ rfl (by omega) (fun r1 h9 => absurd h9 (by omega)) hfm f52 f53 f54 f55 f56 f57 f58 f59 (lv_sub hl [1, 0] rfl) hP hD hS
          · refine lv_iload_n (pc := 101) C0.1 C0.2.1 d_MO_init_101 rfl (lv_at hl 1 rfl) ?_
            refine lv_iload_n (pc := 102) C0.1 C0.2.1 d_MO_init_102 rfl (lv_at hl 2 rfl) ?_
            refine mn_mul (pc := 103) C0 d_MO_init_103 ?_
            refine mg_top (show nI ((pm_fc k) * (k + 1)) = nI (pm_fc (k + 1)) from congrArg nI (Nat.mul_comm _ _)) ?_
            refine lv_istore_n (pc := 104) (lv' := [(2, .int (nI (pm_fc (k + 1)))), (0, .ref (q52)), (3, .int (nI (k + 1)))]) C0.1 C0.2.1 d_MO_init_104 rfl hl (by decide) rfl (fun ls hl => ?_)
            refine lv_iinc (pc := 105) (k := 2) (v := nI (k + 1 + 1)) (lv' := [(3, .int (nI (k + 1 + 1))), (2, .int (nI (pm_fc (k + 1)))), (0, .ref (q52))]) C0.1 C0.2.1 d_MO_init_105 hl rfl (nb_p1 _) (by decide) rfl (fun ls hl => ?_)
            refine lv_goto (pc := 108) (tgt := 93) C0.1 C0.2.1 d_MO_init_108 (by decide) ?_
            exact ih_loop1 _ (by omega) (k + 1) _ _ _ _ rfl (by omega) (by omega) hfm f52 f53 f54 f55 f56 f57 f58 f59 (lv_sub hl [2, 1, 0] rfl) hP hD hS
      exact loop1 _ 1 _ _ _ _ rfl (by omega) (by omega) hfm f52 f53 f54 f55 f56 f57 f58 f59 (lv_sub hl [2, 1, 0] rfl) hP hD hS
    · exact (hx.elim hc hc2).elim
set_option maxHeartbeats 4000000 in
set_option maxRecDepth 100000 in
theorem c_MO_init1 (l : Launch) (D : va_G) (ca : Nat → ClassId) {n : Nat} (h2 : 2 ≤ n) (h6 : n ≤ 6) {q52 : Nat} {tx : Nat → Nat} {gs : Nat → Nat → Bool} (ws0 : va_W) (z52 : ws0[52]? = some (q52, .inr (4, [.int (nI 0), .int (nI 0), .null, .int (nI 0), .null, .int (nI 0), .null, .null, .null, .null, .null, .int (nI 0)]))) (zn53 : ws0[53]? = none) (zn54 : ws0[54]? = none) (zn55 : ws0[55]? = none) (zn56 : ws0[56]? = none) (zn57 : ws0[57]? = none) (zn58 : ws0[58]? = none) (zn59 : ws0[59]? = none) : mg_N l y_MO_init b_MO_init 4 2 7 (2015) D classes (tys_ ca) [.ref (q52), .int (nI (n))] ws0 (fun w => (∀ j, j ≠ 52 ∧ j ≠ 53 ∧ j ≠ 54 ∧ j ≠ 55 ∧ j ≠ 56 ∧ j ≠ 57 ∧ j ≠ 58 ∧ j ≠ 59 → w[j]? = ws0[j]?) ∧ ∃ q53 q54 q55 q56 q57 q58 q59 : Nat, MOW ca (mg_ad8 q52 q53 q54 q55 q56 q57 q58 q59) n (0, tx, 1, fun _ => 0, 0, gs) w) := by
  have hN := pm_fc_le h6
  refine mg_openN (own := R_MO) rfl (by decide) rfl (Nat.le_of_ble_eq_true rfl) ?_
  intro p e s m args below meth c A Q ls C0 hnm hK hA hP hD hS hl hret
  have hl : lv_has ls 4 [(0, .ref (q52)), (1, .int (nI (n)))] := hl
  have f52 := z52
  have fn53 := zn53
  have fn54 := zn54
  have fn55 := zn55
  have fn56 := zn56
  have fn57 := zn57
  have fn58 := zn58
  have fn59 := zn59
  have hfm : ∀ j, j ≠ 52 ∧ j ≠ 53 ∧ j ≠ 54 ∧ j ≠ 55 ∧ j ≠ 56 ∧ j ≠ 57 ∧ j ≠ 58 ∧ j ≠ 59 → ws0[j]? = ws0[j]? := fun _ _ => rfl
  have hN0 := pm_fc_pos n
  refine lv_aload_n (pc := 0) C0.1 C0.2.1 d_MO_init_0 rfl (lv_at hl 0 rfl) ?_
  refine mg_obj (pc := 1) C0 (gw_t2 140 rfl rfl) (gw_t1 15 rfl rfl) (gw_t1 16 rfl rfl) hl.1 (Nat.le_of_ble_eq_true rfl) (Nat.le_of_ble_eq_true rfl) d_MO_init_1 ?_
  refine lv_aload_n (pc := 4) C0.1 C0.2.1 d_MO_init_4 rfl (lv_at hl 0 rfl) ?_
  refine lv_sipush (pc := 5) (v := nI (720)) C0.1 C0.2.1 d_MO_init_5 (by decide +kernel) ?_
  refine mg_newa (pc := 8) (ty := .int) (k := 53) (N' := 720) (cA := ca 1) (a0 := (720, .inl (fun _ => nI 0))) C0 (gw_t1 51 rfl rfl) rfl (fun c9 h9 => Option.some.inj (h9.symm.trans (hK.2 1 _ rfl).2)) hK hP hD hS hA (fun _ => rfl) (by omega) (by rw [show componentBytes .int = 4 from rfl]; omega) (mg_len fn53 f52) (show 0 + 1 ≤ 7 by omega) (show 0 + 720 ≤ 2015 by omega) d_MO_init_8 (fun q53 ws H hfr f53 hP hD hS => ?_)
  have f52 := (hfr (52) (by omega)).trans f52
  have fn54 := (hfr (54) (by omega)).trans fn54
  have fn55 := (hfr (55) (by omega)).trans fn55
  have fn56 := (hfr (56) (by omega)).trans fn56
  have fn57 := (hfr (57) (by omega)).trans fn57
  have fn58 := (hfr (58) (by omega)).trans fn58
  have fn59 := (hfr (59) (by omega)).trans fn59
  have hfm : ∀ j, j ≠ 52 ∧ j ≠ 53 ∧ j ≠ 54 ∧ j ≠ 55 ∧ j ≠ 56 ∧ j ≠ 57 ∧ j ≠ 58 ∧ j ≠ 59 → ws[j]? = ws0[j]? := fun j hj => (hfr j (by omega)).trans (hfm j hj)
  refine mg_putF (pc := 10) C0 hnm in_MO t_MO_ok n_MO hK hP hD hS (52) f52 rfl 2 (by decide) fl_MO_7 rfl rfl (ty := .array (.int)) (by decide +kernel) rfl rfl (Nat.le_of_ble_eq_true rfl) (fs' := [.int (nI 0), .int (nI 0), .ref (q53), .int (nI 0), .null, .int (nI 0), .null, .null, .null, .null, .null, .int (nI 0)]) rfl d_MO_init_10 (fun ws H locs hfr f52 hP hD hS => ?_)
  have fn54 := (hfr (54) (by omega)).trans fn54
  have fn55 := (hfr (55) (by omega)).trans fn55
  have fn56 := (hfr (56) (by omega)).trans fn56
  have fn57 := (hfr (57) (by omega)).trans fn57
  have fn58 := (hfr (58) (by omega)).trans fn58
  have fn59 := (hfr (59) (by omega)).trans fn59
  have f53 := (hfr (53) (by omega)).trans f53
  have hfm : ∀ j, j ≠ 52 ∧ j ≠ 53 ∧ j ≠ 54 ∧ j ≠ 55 ∧ j ≠ 56 ∧ j ≠ 57 ∧ j ≠ 58 ∧ j ≠ 59 → ws[j]? = ws0[j]? := fun j hj => (hfr j (by omega)).trans (hfm j hj)
  refine lv_aload_n (pc := 13) C0.1 C0.2.1 d_MO_init_13 rfl (lv_at hl 0 rfl) ?_
  refine lv_iconst (pc := 14) (v := nI (1)) C0.1 C0.2.1 d_MO_init_14 (by decide +kernel) ?_
  refine mg_put (pc := 15) C0 in_MO t_MO_ok n_MO hK hP hD hS (52) f52 rfl 3 (by decide) fl_MO_13 rfl (ty := .int) (by decide +kernel) rfl rfl (Nat.le_of_ble_eq_true rfl) (fs' := [.int (nI 0), .int (nI 0), .ref (q53), .int (nI (1)), .null, .int (nI 0), .null, .null, .null, .null, .null, .int (nI 0)]) rfl d_MO_init_15 (fun ws H locs hfr f52 hP hD hS => ?_)
  have fn54 := (hfr (54) (by omega)).trans fn54
  have fn55 := (hfr (55) (by omega)).trans fn55
  have fn56 := (hfr (56) (by omega)).trans fn56
  have fn57 := (hfr (57) (by omega)).trans fn57
  have fn58 := (hfr (58) (by omega)).trans fn58
  have fn59 := (hfr (59) (by omega)).trans fn59
  have f53 := (hfr (53) (by omega)).trans f53
  have hfm : ∀ j, j ≠ 52 ∧ j ≠ 53 ∧ j ≠ 54 ∧ j ≠ 55 ∧ j ≠ 56 ∧ j ≠ 57 ∧ j ≠ 58 ∧ j ≠ 59 → ws[j]? = ws0[j]? := fun j hj => (hfr j (by omega)).trans (hfm j hj)
  refine lv_aload_n (pc := 18) C0.1 C0.2.1 d_MO_init_18 rfl (lv_at hl 0 rfl) ?_
  refine lv_bipush (pc := 19) (v := nI (40)) C0.1 C0.2.1 d_MO_init_19 (by decide +kernel) ?_
  refine mg_newa (pc := 21) (ty := .int) (k := 54) (N' := 40) (cA := ca 1) (a0 := (40, .inl (fun _ => nI 0))) C0 (gw_t1 51 rfl rfl) rfl (fun c9 h9 => Option.some.inj (h9.symm.trans (hK.2 1 _ rfl).2)) hK hP hD hS hA (fun _ => rfl) (by omega) (by rw [show componentBytes .int = 4 from rfl]; omega) (mg_len fn54 f53) (show 0 + 1 + 1 ≤ 7 by omega) (show 0 + 720 + 40 ≤ 2015 by omega) d_MO_init_21 (fun q54 ws H hfr f54 hP hD hS => ?_)
  have f52 := (hfr (52) (by omega)).trans f52
  have fn55 := (hfr (55) (by omega)).trans fn55
  have fn56 := (hfr (56) (by omega)).trans fn56
  have fn57 := (hfr (57) (by omega)).trans fn57
  have fn58 := (hfr (58) (by omega)).trans fn58
  have fn59 := (hfr (59) (by omega)).trans fn59
  have f53 := (hfr (53) (by omega)).trans f53
  have hfm : ∀ j, j ≠ 52 ∧ j ≠ 53 ∧ j ≠ 54 ∧ j ≠ 55 ∧ j ≠ 56 ∧ j ≠ 57 ∧ j ≠ 58 ∧ j ≠ 59 → ws[j]? = ws0[j]? := fun j hj => (hfr j (by omega)).trans (hfm j hj)
  refine mg_putF (pc := 23) C0 hnm in_MO t_MO_ok n_MO hK hP hD hS (52) f52 rfl 4 (by decide) fl_MO_17 rfl rfl (ty := .array (.int)) (by decide +kernel) rfl rfl (Nat.le_of_ble_eq_true rfl) (fs' := [.int (nI 0), .int (nI 0), .ref (q53), .int (nI (1)), .ref (q54), .int (nI 0), .null, .null, .null, .null, .null, .int (nI 0)]) rfl d_MO_init_23 (fun ws H locs hfr f52 hP hD hS => ?_)
  have fn55 := (hfr (55) (by omega)).trans fn55
  have fn56 := (hfr (56) (by omega)).trans fn56
  have fn57 := (hfr (57) (by omega)).trans fn57
  have fn58 := (hfr (58) (by omega)).trans fn58
  have fn59 := (hfr (59) (by omega)).trans fn59
  have f53 := (hfr (53) (by omega)).trans f53
  have f54 := (hfr (54) (by omega)).trans f54
  have hfm : ∀ j, j ≠ 52 ∧ j ≠ 53 ∧ j ≠ 54 ∧ j ≠ 55 ∧ j ≠ 56 ∧ j ≠ 57 ∧ j ≠ 58 ∧ j ≠ 59 → ws[j]? = ws0[j]? := fun j hj => (hfr j (by omega)).trans (hfm j hj)
  refine lv_aload_n (pc := 26) C0.1 C0.2.1 d_MO_init_26 rfl (lv_at hl 0 rfl) ?_
  refine lv_sipush (pc := 27) (v := nI (180)) C0.1 C0.2.1 d_MO_init_27 (by decide +kernel) ?_
  refine mg_newa (pc := 30) (ty := .long) (k := 55) (N' := 180) (cA := ca 2) (a0 := (180, .inr (.inl (fun _ => 0)))) C0 (gw_t1 120 rfl rfl) rfl (fun c9 h9 => Option.some.inj (h9.symm.trans (hK.2 2 _ rfl).2)) hK hP hD hS hA (fun _ => rfl) (by omega) (by rw [show componentBytes .long = 8 from rfl]; omega) (mg_len fn55 f54) (show 0 + 1 + 1 + 1 ≤ 7 by omega) (show 0 + 720 + 40 + 180 ≤ 2015 by omega) d_MO_init_30 (fun q55 ws H hfr f55 hP hD hS => ?_)
  have f52 := (hfr (52) (by omega)).trans f52
  have fn56 := (hfr (56) (by omega)).trans fn56
  have fn57 := (hfr (57) (by omega)).trans fn57
  have fn58 := (hfr (58) (by omega)).trans fn58
  have fn59 := (hfr (59) (by omega)).trans fn59
  have f53 := (hfr (53) (by omega)).trans f53
  have f54 := (hfr (54) (by omega)).trans f54
  have hfm : ∀ j, j ≠ 52 ∧ j ≠ 53 ∧ j ≠ 54 ∧ j ≠ 55 ∧ j ≠ 56 ∧ j ≠ 57 ∧ j ≠ 58 ∧ j ≠ 59 → ws[j]? = ws0[j]? := fun j hj => (hfr j (by omega)).trans (hfm j hj)
  refine mg_putF (pc := 32) C0 hnm in_MO t_MO_ok n_MO hK hP hD hS (52) f52 rfl 6 (by decide) fl_MO_20 rfl rfl (ty := .array (.long)) (by decide +kernel) rfl rfl (Nat.le_of_ble_eq_true rfl) (fs' := [.int (nI 0), .int (nI 0), .ref (q53), .int (nI (1)), .ref (q54), .int (nI 0), .ref (q55), .null, .null, .null, .null, .int (nI 0)]) rfl d_MO_init_32 (fun ws H locs hfr f52 hP hD hS => ?_)
  have fn56 := (hfr (56) (by omega)).trans fn56
  have fn57 := (hfr (57) (by omega)).trans fn57
  have fn58 := (hfr (58) (by omega)).trans fn58
  have fn59 := (hfr (59) (by omega)).trans fn59
  have f53 := (hfr (53) (by omega)).trans f53
  have f54 := (hfr (54) (by omega)).trans f54
  have f55 := (hfr (55) (by omega)).trans f55
  have hfm : ∀ j, j ≠ 52 ∧ j ≠ 53 ∧ j ≠ 54 ∧ j ≠ 55 ∧ j ≠ 56 ∧ j ≠ 57 ∧ j ≠ 58 ∧ j ≠ 59 → ws[j]? = ws0[j]? := fun j hj => (hfr j (by omega)).trans (hfm j hj)
  refine lv_aload_n (pc := 35) C0.1 C0.2.1 d_MO_init_35 rfl (lv_at hl 0 rfl) ?_
  refine lv_bipush (pc := 36) (v := nI (15)) C0.1 C0.2.1 d_MO_init_36 (by decide +kernel) ?_
  refine mg_newa (pc := 38) (ty := .int) (k := 56) (N' := 15) (cA := ca 1) (a0 := (15, .inl (fun _ => nI 0))) C0 (gw_t1 51 rfl rfl) rfl (fun c9 h9 => Option.some.inj (h9.symm.trans (hK.2 1 _ rfl).2)) hK hP hD hS hA (fun _ => rfl) (by omega) (by rw [show componentBytes .int = 4 from rfl]; omega) (mg_len fn56 f55) (show 0 + 1 + 1 + 1 + 1 ≤ 7 by omega) (show 0 + 720 + 40 + 180 + 15 ≤ 2015 by omega) d_MO_init_38 (fun q56 ws H hfr f56 hP hD hS => ?_)
  have f52 := (hfr (52) (by omega)).trans f52
  have fn57 := (hfr (57) (by omega)).trans fn57
  have fn58 := (hfr (58) (by omega)).trans fn58
  have fn59 := (hfr (59) (by omega)).trans fn59
  have f53 := (hfr (53) (by omega)).trans f53
  have f54 := (hfr (54) (by omega)).trans f54
  have f55 := (hfr (55) (by omega)).trans f55
  have hfm : ∀ j, j ≠ 52 ∧ j ≠ 53 ∧ j ≠ 54 ∧ j ≠ 55 ∧ j ≠ 56 ∧ j ≠ 57 ∧ j ≠ 58 ∧ j ≠ 59 → ws[j]? = ws0[j]? := fun j hj => (hfr j (by omega)).trans (hfm j hj)
  refine mg_putF (pc := 40) C0 hnm in_MO t_MO_ok n_MO hK hP hD hS (52) f52 rfl 7 (by decide) fl_MO_24 rfl rfl (ty := .array (.int)) (by decide +kernel) rfl rfl (Nat.le_of_ble_eq_true rfl) (fs' := [.int (nI 0), .int (nI 0), .ref (q53), .int (nI (1)), .ref (q54), .int (nI 0), .ref (q55), .ref (q56), .null, .null, .null, .int (nI 0)]) rfl d_MO_init_40 (fun ws H locs hfr f52 hP hD hS => ?_)
  have fn57 := (hfr (57) (by omega)).trans fn57
  have fn58 := (hfr (58) (by omega)).trans fn58
  have fn59 := (hfr (59) (by omega)).trans fn59
  have f53 := (hfr (53) (by omega)).trans f53
  have f54 := (hfr (54) (by omega)).trans f54
  have f55 := (hfr (55) (by omega)).trans f55
  have f56 := (hfr (56) (by omega)).trans f56
  have hfm : ∀ j, j ≠ 52 ∧ j ≠ 53 ∧ j ≠ 54 ∧ j ≠ 55 ∧ j ≠ 56 ∧ j ≠ 57 ∧ j ≠ 58 ∧ j ≠ 59 → ws[j]? = ws0[j]? := fun j hj => (hfr j (by omega)).trans (hfm j hj)
  refine lv_aload_n (pc := 43) C0.1 C0.2.1 d_MO_init_43 rfl (lv_at hl 0 rfl) ?_
  refine lv_sipush (pc := 44) (v := nI (300)) C0.1 C0.2.1 d_MO_init_44 (by decide +kernel) ?_
  refine mg_newa (pc := 47) (ty := .int) (k := 57) (N' := 300) (cA := ca 1) (a0 := (300, .inl (fun _ => nI 0))) C0 (gw_t1 51 rfl rfl) rfl (fun c9 h9 => Option.some.inj (h9.symm.trans (hK.2 1 _ rfl).2)) hK hP hD hS hA (fun _ => rfl) (by omega) (by rw [show componentBytes .int = 4 from rfl]; omega) (mg_len fn57 f56) (show 0 + 1 + 1 + 1 + 1 + 1 ≤ 7 by omega) (show 0 + 720 + 40 + 180 + 15 + 300 ≤ 2015 by omega) d_MO_init_47 (fun q57 ws H hfr f57 hP hD hS => ?_)
  have f52 := (hfr (52) (by omega)).trans f52
  have fn58 := (hfr (58) (by omega)).trans fn58
  have fn59 := (hfr (59) (by omega)).trans fn59
  have f53 := (hfr (53) (by omega)).trans f53
  have f54 := (hfr (54) (by omega)).trans f54
  have f55 := (hfr (55) (by omega)).trans f55
  have f56 := (hfr (56) (by omega)).trans f56
  have hfm : ∀ j, j ≠ 52 ∧ j ≠ 53 ∧ j ≠ 54 ∧ j ≠ 55 ∧ j ≠ 56 ∧ j ≠ 57 ∧ j ≠ 58 ∧ j ≠ 59 → ws[j]? = ws0[j]? := fun j hj => (hfr j (by omega)).trans (hfm j hj)
  refine mg_putF (pc := 49) C0 hnm in_MO t_MO_ok n_MO hK hP hD hS (52) f52 rfl 8 (by decide) fl_MO_27 rfl rfl (ty := .array (.int)) (by decide +kernel) rfl rfl (Nat.le_of_ble_eq_true rfl) (fs' := [.int (nI 0), .int (nI 0), .ref (q53), .int (nI (1)), .ref (q54), .int (nI 0), .ref (q55), .ref (q56), .ref (q57), .null, .null, .int (nI 0)]) rfl d_MO_init_49 (fun ws H locs hfr f52 hP hD hS => ?_)
  have fn58 := (hfr (58) (by omega)).trans fn58
  have fn59 := (hfr (59) (by omega)).trans fn59
  have f53 := (hfr (53) (by omega)).trans f53
  have f54 := (hfr (54) (by omega)).trans f54
  have f55 := (hfr (55) (by omega)).trans f55
  have f56 := (hfr (56) (by omega)).trans f56
  have f57 := (hfr (57) (by omega)).trans f57
  have hfm : ∀ j, j ≠ 52 ∧ j ≠ 53 ∧ j ≠ 54 ∧ j ≠ 55 ∧ j ≠ 56 ∧ j ≠ 57 ∧ j ≠ 58 ∧ j ≠ 59 → ws[j]? = ws0[j]? := fun j hj => (hfr j (by omega)).trans (hfm j hj)
  refine lv_aload_n (pc := 52) C0.1 C0.2.1 d_MO_init_52 rfl (lv_at hl 0 rfl) ?_
  refine lv_sipush (pc := 53) (v := nI (720)) C0.1 C0.2.1 d_MO_init_53 (by decide +kernel) ?_
  refine mg_newa (pc := 56) (ty := .int) (k := 58) (N' := 720) (cA := ca 1) (a0 := (720, .inl (fun _ => nI 0))) C0 (gw_t1 51 rfl rfl) rfl (fun c9 h9 => Option.some.inj (h9.symm.trans (hK.2 1 _ rfl).2)) hK hP hD hS hA (fun _ => rfl) (by omega) (by rw [show componentBytes .int = 4 from rfl]; omega) (mg_len fn58 f57) (show 0 + 1 + 1 + 1 + 1 + 1 + 1 ≤ 7 by omega) (show 0 + 720 + 40 + 180 + 15 + 300 + 720 ≤ 2015 by omega) d_MO_init_56 (fun q58 ws H hfr f58 hP hD hS => ?_)
  have f52 := (hfr (52) (by omega)).trans f52
  have fn59 := (hfr (59) (by omega)).trans fn59
  have f53 := (hfr (53) (by omega)).trans f53
  have f54 := (hfr (54) (by omega)).trans f54
  have f55 := (hfr (55) (by omega)).trans f55
  have f56 := (hfr (56) (by omega)).trans f56
  have f57 := (hfr (57) (by omega)).trans f57
  have hfm : ∀ j, j ≠ 52 ∧ j ≠ 53 ∧ j ≠ 54 ∧ j ≠ 55 ∧ j ≠ 56 ∧ j ≠ 57 ∧ j ≠ 58 ∧ j ≠ 59 → ws[j]? = ws0[j]? := fun j hj => (hfr j (by omega)).trans (hfm j hj)
  refine mg_putF (pc := 58) C0 hnm in_MO t_MO_ok n_MO hK hP hD hS (52) f52 rfl 9 (by decide) fl_MO_30 rfl rfl (ty := .array (.int)) (by decide +kernel) rfl rfl (Nat.le_of_ble_eq_true rfl) (fs' := [.int (nI 0), .int (nI 0), .ref (q53), .int (nI (1)), .ref (q54), .int (nI 0), .ref (q55), .ref (q56), .ref (q57), .ref (q58), .null, .int (nI 0)]) rfl d_MO_init_58 (fun ws H locs hfr f52 hP hD hS => ?_)
  have fn59 := (hfr (59) (by omega)).trans fn59
  have f53 := (hfr (53) (by omega)).trans f53
  have f54 := (hfr (54) (by omega)).trans f54
  have f55 := (hfr (55) (by omega)).trans f55
  have f56 := (hfr (56) (by omega)).trans f56
  have f57 := (hfr (57) (by omega)).trans f57
  have f58 := (hfr (58) (by omega)).trans f58
  have hfm : ∀ j, j ≠ 52 ∧ j ≠ 53 ∧ j ≠ 54 ∧ j ≠ 55 ∧ j ≠ 56 ∧ j ≠ 57 ∧ j ≠ 58 ∧ j ≠ 59 → ws[j]? = ws0[j]? := fun j hj => (hfr j (by omega)).trans (hfm j hj)
  refine lv_aload_n (pc := 61) C0.1 C0.2.1 d_MO_init_61 rfl (lv_at hl 0 rfl) ?_
  refine lv_bipush (pc := 62) (v := nI (40)) C0.1 C0.2.1 d_MO_init_62 (by decide +kernel) ?_
  refine mg_newa (pc := 64) (ty := .int) (k := 59) (N' := 40) (cA := ca 1) (a0 := (40, .inl (fun _ => nI 0))) C0 (gw_t1 51 rfl rfl) rfl (fun c9 h9 => Option.some.inj (h9.symm.trans (hK.2 1 _ rfl).2)) hK hP hD hS hA (fun _ => rfl) (by omega) (by rw [show componentBytes .int = 4 from rfl]; omega) (mg_len fn59 f58) (show 0 + 1 + 1 + 1 + 1 + 1 + 1 + 1 ≤ 7 by omega) (show 0 + 720 + 40 + 180 + 15 + 300 + 720 + 40 ≤ 2015 by omega) d_MO_init_64 (fun q59 ws H hfr f59 hP hD hS => ?_)
  have f52 := (hfr (52) (by omega)).trans f52
  have f53 := (hfr (53) (by omega)).trans f53
  have f54 := (hfr (54) (by omega)).trans f54
  have f55 := (hfr (55) (by omega)).trans f55
  have f56 := (hfr (56) (by omega)).trans f56
  have f57 := (hfr (57) (by omega)).trans f57
  have f58 := (hfr (58) (by omega)).trans f58
  have hfm : ∀ j, j ≠ 52 ∧ j ≠ 53 ∧ j ≠ 54 ∧ j ≠ 55 ∧ j ≠ 56 ∧ j ≠ 57 ∧ j ≠ 58 ∧ j ≠ 59 → ws[j]? = ws0[j]? := fun j hj => (hfr j (by omega)).trans (hfm j hj)
  refine mg_putF (pc := 66) C0 hnm in_MO t_MO_ok n_MO hK hP hD hS (52) f52 rfl 10 (by decide) fl_MO_33 rfl rfl (ty := .array (.int)) (by decide +kernel) rfl rfl (Nat.le_of_ble_eq_true rfl) (fs' := [.int (nI 0), .int (nI 0), .ref (q53), .int (nI (1)), .ref (q54), .int (nI 0), .ref (q55), .ref (q56), .ref (q57), .ref (q58), .ref (q59), .int (nI 0)]) rfl d_MO_init_66 (fun ws H locs hfr f52 hP hD hS => ?_)
  have f53 := (hfr (53) (by omega)).trans f53
  have f54 := (hfr (54) (by omega)).trans f54
  have f55 := (hfr (55) (by omega)).trans f55
  have f56 := (hfr (56) (by omega)).trans f56
  have f57 := (hfr (57) (by omega)).trans f57
  have f58 := (hfr (58) (by omega)).trans f58
  have f59 := (hfr (59) (by omega)).trans f59
  have hfm : ∀ j, j ≠ 52 ∧ j ≠ 53 ∧ j ≠ 54 ∧ j ≠ 55 ∧ j ≠ 56 ∧ j ≠ 57 ∧ j ≠ 58 ∧ j ≠ 59 → ws[j]? = ws0[j]? := fun j hj => (hfr j (by omega)).trans (hfm j hj)
  refine lv_aload_n (pc := 69) C0.1 C0.2.1 d_MO_init_69 rfl (lv_at hl 0 rfl) ?_
  refine lv_iload_n (pc := 70) C0.1 C0.2.1 d_MO_init_70 rfl (lv_at hl 1 rfl) ?_
  refine lv_iconst (pc := 71) (v := nI (2)) C0.1 C0.2.1 d_MO_init_71 (by decide +kernel) ?_
  refine mb_lt (pc := 72) (tgt := 85) C0 (by omega) (by omega) d_MO_init_72 (by decide) (fun hc => ?_) (fun hc => ?_)
  · exact absurd hc (by omega)
  · refine lv_iload_n (pc := 75) C0.1 C0.2.1 d_MO_init_75 rfl (lv_at hl 1 rfl) ?_
    refine lv_bipush (pc := 76) (v := nI (6)) C0.1 C0.2.1 d_MO_init_76 (by decide +kernel) ?_
    refine mb_gt (pc := 78) (tgt := 85) C0 (by omega) (by omega) d_MO_init_78 (by decide) (fun hc => ?_) (fun hc => ?_)
    · exact absurd hc (by omega)
    · refine lv_iload_n (pc := 81) C0.1 C0.2.1 d_MO_init_81 rfl (lv_at hl 1 rfl) ?_
      refine lv_goto (pc := 82) (tgt := 86) C0.1 C0.2.1 d_MO_init_82 (by decide) ?_
      refine mg_putF (pc := 86) C0 hnm in_MO t_MO_ok n_MO hK hP hD hS (52) f52 rfl 0 (by decide) fl_MO_36 rfl rfl (ty := .int) (by decide +kernel) rfl rfl (Nat.le_of_ble_eq_true rfl) (fs' := [.int (nI (n)), .int (nI 0), .ref (q53), .int (nI (1)), .ref (q54), .int (nI 0), .ref (q55), .ref (q56), .ref (q57), .ref (q58), .ref (q59), .int (nI 0)]) rfl d_MO_init_86 (fun ws H locs hfr f52 hP hD hS => ?_)
      have f53 := (hfr (53) (by omega)).trans f53
      have f54 := (hfr (54) (by omega)).trans f54
      have f55 := (hfr (55) (by omega)).trans f55
      have f56 := (hfr (56) (by omega)).trans f56
      have f57 := (hfr (57) (by omega)).trans f57
      have f58 := (hfr (58) (by omega)).trans f58
      have f59 := (hfr (59) (by omega)).trans f59
      have hfm : ∀ j, j ≠ 52 ∧ j ≠ 53 ∧ j ≠ 54 ∧ j ≠ 55 ∧ j ≠ 56 ∧ j ≠ 57 ∧ j ≠ 58 ∧ j ≠ 59 → ws[j]? = ws0[j]? := fun j hj => (hfr j (by omega)).trans (hfm j hj)
      refine lv_iconst (pc := 89) (v := nI (1)) C0.1 C0.2.1 d_MO_init_89 (by decide +kernel) ?_
      refine lv_istore_n (pc := 90) (lv' := [(2, .int (nI (1))), (0, .ref (q52)), (1, .int (nI (n)))]) C0.1 C0.2.1 d_MO_init_90 rfl hl (by decide) rfl (fun ls hl => ?_)
      refine lv_iconst (pc := 91) (v := nI (2)) C0.1 C0.2.1 d_MO_init_91 (by decide +kernel) ?_
      refine lv_istore_n (pc := 92) (lv' := [(3, .int (nI (2))), (2, .int (nI (1))), (0, .ref (q52)), (1, .int (nI (n)))]) C0.1 C0.2.1 d_MO_init_92 rfl hl (by decide) rfl (fun ls hl => ?_)
      have loop1 : ∀ (d : Nat) (k : Nat) (ws : va_W) (H : Heap) (locs : List Loc) (ls : Array Slot), n - k = d → (1 ≤ k) → (k ≤ n) → (∀ j, j ≠ 52 ∧ j ≠ 53 ∧ j ≠ 54 ∧ j ≠ 55 ∧ j ≠ 56 ∧ j ≠ 57 ∧ j ≠ 58 ∧ j ≠ 59 → ws[j]? = ws0[j]?) → ws[52]? = some (q52, .inr (4, [.int (nI (n)), .int (nI 0), .ref (q53), .int (nI (1)), .ref (q54), .int (nI 0), .ref (q55), .ref (q56), .ref (q57), .ref (q58), .ref (q59), .int (nI 0)])) → ws[53]? = some (q53, .inl (ca 1, 720, .inl (fun _ => nI 0))) → ws[54]? = some (q54, .inl (ca 1, 40, .inl (fun _ => nI 0))) → ws[55]? = some (q55, .inl (ca 2, 180, .inr (.inl (fun _ => 0)))) → ws[56]? = some (q56, .inl (ca 1, 15, .inl (fun _ => nI 0))) → ws[57]? = some (q57, .inl (ca 1, 300, .inl (fun _ => nI 0))) → ws[58]? = some (q58, .inl (ca 1, 720, .inl (fun _ => nI 0))) → ws[59]? = some (q59, .inl (ca 1, 40, .inl (fun _ => nI 0))) → lv_has ls 4 [(0, .ref (q52)), (2, .int (nI (pm_fc k))), (3, .int (nI (k + 1)))] → va_P D classes ws H → va_D A ws → va_S A s.heap H locs → W p l e (mg_rn 2 7 (2015)) s m args below meth c H locs (0 + 1 + 1 + 1 + 1 + 1 + 1 + 1) (0 + 720 + 40 + 180 + 15 + 300 + 720 + 40) Q (F0 m 93 ls []) := by
        intro d
        induction d using Nat.strongRecOn with
        | _ d ih_loop1 =>
          intro k ws H locs ls hd hk1 hkn hfm f52 f53 f54 f55 f56 f57 f58 f59 hl hP hD hS
          refine lv_iload_n (pc := 93) C0.1 C0.2.1 d_MO_init_93 rfl (lv_at hl 2 rfl) ?_
          refine lv_aload_n (pc := 94) C0.1 C0.2.1 d_MO_init_94 rfl (lv_at hl 0 rfl) ?_
          refine mg_get (pc := 95) C0 in_MO hK hP (52) f52 rfl 0 (by decide) fl_MO_36 rfl d_MO_init_95 ?_
          refine mb_gt (pc := 98) (tgt := 111) C0 (by omega) (by omega) d_MO_init_98 (by decide) (fun hc => ?_) (fun hc => ?_)
          · have hkk : k = n := by omega
            rw [hkk] at hl
            refine lv_aload_n (pc := 111) C0.1 C0.2.1 d_MO_init_111 rfl (lv_at hl 0 rfl) ?_
            refine lv_iload_n (pc := 112) C0.1 C0.2.1 d_MO_init_112 rfl (lv_at hl 1 rfl) ?_
            refine mg_putF (pc := 113) C0 hnm in_MO t_MO_ok n_MO hK hP hD hS (52) f52 rfl 1 (by decide) fl_MO_39 rfl rfl (ty := .int) (by decide +kernel) rfl rfl (Nat.le_of_ble_eq_true rfl) (fs' := [.int (nI (n)), .int (nI (pm_fc n)), .ref (q53), .int (nI (1)), .ref (q54), .int (nI 0), .ref (q55), .ref (q56), .ref (q57), .ref (q58), .ref (q59), .int (nI 0)]) rfl d_MO_init_113 (fun ws H locs hfr f52 hP hD hS => ?_)
            have f53 := (hfr (53) (by omega)).trans f53
            have f54 := (hfr (54) (by omega)).trans f54
            have f55 := (hfr (55) (by omega)).trans f55
            have f56 := (hfr (56) (by omega)).trans f56
            have f57 := (hfr (57) (by omega)).trans f57
            have f58 := (hfr (58) (by omega)).trans f58
            have f59 := (hfr (59) (by omega)).trans f59
            have hfm : ∀ j, j ≠ 52 ∧ j ≠ 53 ∧ j ≠ 54 ∧ j ≠ 55 ∧ j ≠ 56 ∧ j ≠ 57 ∧ j ≠ 58 ∧ j ≠ 59 → ws[j]? = ws0[j]? := fun j hj => (hfr j (by omega)).trans (hfm j hj)
            refine lv_iconst (pc := 116) (v := nI (0)) C0.1 C0.2.1 d_MO_init_116 (by decide +kernel) ?_
            refine lv_istore_n (pc := 117) (lv' := [(3, .int (nI (0))), (0, .ref (q52)), (2, .int (nI (pm_fc n)))]) C0.1 C0.2.1 d_MO_init_117 rfl hl (by decide) rfl (fun ls hl => ?_)
            have loop2 : ∀ (d : Nat) (r : Nat) (im : Nat → Int32) (ws : va_W) (H : Heap) (locs : List Loc) (ls : Array Slot), pm_fc n - r = d → (r ≤ pm_fc n) → (∀ r1, r1 < r → im r1 = nI (qk_p (pm_im n r1) n)) → (∀ j, j ≠ 52 ∧ j ≠ 53 ∧ j ≠ 54 ∧ j ≠ 55 ∧ j ≠ 56 ∧ j ≠ 57 ∧ j ≠ 58 ∧ j ≠ 59 → ws[j]? = ws0[j]?) → ws[52]? = some (q52, .inr (4, [.int (nI (n)), .int (nI (pm_fc n)), .ref (q53), .int (nI (1)), .ref (q54), .int (nI 0), .ref (q55), .ref (q56), .ref (q57), .ref (q58), .ref (q59), .int (nI 0)])) → ws[53]? = some (q53, .inl (ca 1, 720, .inl (im))) → ws[54]? = some (q54, .inl (ca 1, 40, .inl (fun _ => nI 0))) → ws[55]? = some (q55, .inl (ca 2, 180, .inr (.inl (fun _ => 0)))) → ws[56]? = some (q56, .inl (ca 1, 15, .inl (fun _ => nI 0))) → ws[57]? = some (q57, .inl (ca 1, 300, .inl (fun _ => nI 0))) → ws[58]? = some (q58, .inl (ca 1, 720, .inl (fun _ => nI 0))) → ws[59]? = some (q59, .inl (ca 1, 40, .inl (fun _ => nI 0))) → lv_has ls 4 [(0, .ref (q52)), (3, .int (nI (r)))] → va_P D classes ws H → va_D A ws → va_S A s.heap H locs → W p l e (mg_rn 2 7 (2015)) s m args below meth c H locs (0 + 1 + 1 + 1 + 1 + 1 + 1 + 1) (0 + 720 + 40 + 180 + 15 + 300 + 720 + 40) Q (F0 m 118 ls []) := by
              intro d
              induction d using Nat.strongRecOn with
              | _ d ih_loop2 =>
                intro r im ws H locs ls hd hr him hfm f52 f53 f54 f55 f56 f57 f58 f59 hl hP hD hS
                refine lv_iload_n (pc := 118) C0.1 C0.2.1 d_MO_init_118 rfl (lv_at hl 1 rfl) ?_
                refine lv_aload_n (pc := 119) C0.1 C0.2.1 d_MO_init_119 rfl (lv_at hl 0 rfl) ?_
                refine mg_get (pc := 120) C0 in_MO hK hP (52) f52 rfl 1 (by decide) fl_MO_39 rfl d_MO_init_120 ?_
                refine mb_ge (pc := 123) (tgt := 143) C0 (by omega) (by omega) d_MO_init_123 (by decide) (fun hc => ?_) (fun hc => ?_)
                · refine W.widen (k := 7) (n := 2015) (by omega) (by omega) ?_
                  exact hret _ _ _ 143 _ (⟨hfm, q53, q54, q55, q56, q57, q58, q59, f52, ⟨im, f53, fun r1 h9 => him r1 (by omega)⟩, ⟨_, f54, fun _ _ => rfl⟩, ⟨_, _, _, f55, f56, f57, fun i hi => absurd hi (by omega)⟩, ⟨_, f58⟩, ⟨_, f59, fun i hi => absurd hi (by omega)⟩, by omega, fun i hi => absurd hi (by omega), by omega, fun _ _ => hN0, by omega⟩) hP hD hS d_MO_init_143
                · have hrN := hc
                  refine lv_aload_n (pc := 126) C0.1 C0.2.1 d_MO_init_126 rfl (lv_at hl 0 rfl) ?_
                  refine mg_get (pc := 127) C0 in_MO hK hP (52) f52 rfl 2 (by decide) fl_MO_7 rfl d_MO_init_127 ?_
                  refine lv_iload_n (pc := 130) C0.1 C0.2.1 d_MO_init_130 rfl (lv_at hl 1 rfl) ?_
                  refine lv_aload_n (pc := 131) C0.1 C0.2.1 d_MO_init_131 rfl (lv_at hl 0 rfl) ?_
                  refine lv_iload_n (pc := 132) C0.1 C0.2.1 d_MO_init_132 rfl (lv_at hl 1 rfl) ?_
                  refine mg_ciR (pc := 133) (As := [.int (nI (r))]) (rest := [.int (nI (r)), .ref (q53)]) C0 (c_MO_imagesOf l D ca (mg_ad8 q52 q53 q54 q55 q56 q57 q58 q59) h2 h6 hrN ws f52) lk_MO_42 ⟨Nat.le_of_ble_eq_true rfl, Nat.le_of_ble_eq_true rfl⟩ ⟨show 0 + 1 + 1 + 1 + 1 + 1 + 1 + 1 ≤ 7 by omega, show 0 + 720 + 40 + 180 + 15 + 300 + 720 + 40 ≤ 2015 by omega⟩ f52 rfl hK hP hD hS hA rfl hl.1 rfl (Nat.le_of_ble_eq_true rfl) d_MO_init_133 (fun rv ws1 H locs hpost hP hD hS => ?_)
                  obtain ⟨hr1, hw⟩ := hpost
                  rw [hw] at hP hD
                  refine mg_top (show rv = nI (qk_p (pm_im n r) n) from hr1) ?_
                  refine mg_ist (pc := 136) C0 hK hP hD hS (53) 1 f53 rfl (j := r) (by omega) (by omega) d_MO_init_136 (fun ws H locs hfr f53 hP hD hS => ?_)
                  have f52 := (hfr (52) (by omega)).trans f52
                  have f54 := (hfr (54) (by omega)).trans f54
                  have f55 := (hfr (55) (by omega)).trans f55
                  have f56 := (hfr (56) (by omega)).trans f56
                  have f57 := (hfr (57) (by omega)).trans f57
                  have f58 := (hfr (58) (by omega)).trans f58
                  have f59 := (hfr (59) (by omega)).trans f59
                  have hfm : ∀ j, j ≠ 52 ∧ j ≠ 53 ∧ j ≠ 54 ∧ j ≠ 55 ∧ j ≠ 56 ∧ j ≠ 57 ∧ j ≠ 58 ∧ j ≠ 59 → ws[j]? = ws0[j]? := fun j hj => (hfr j (by omega)).trans (hfm j hj)
                  refine lv_iinc (pc := 137) (k := 1) (v := nI (r + 1)) (lv' := [(3, .int (nI (r + 1))), (0, .ref (q52))]) C0.1 C0.2.1 d_MO_init_137 hl rfl (nb_p1 _) (by decide) rfl (fun ls hl => ?_)
                  refine lv_goto (pc := 140) (tgt := 118) C0.1 C0.2.1 d_MO_init_140 (by decide) ?_
                  exact ih_loop2 _ (by omega) (r + 1) (upd im (r) (nI (qk_p (pm_im n r) n))) _ _ _ _ rfl (by omega) (fun r1 h9 => by
                    by_cases e9 : r1 = r
                    · subst e9; exact pk_us
                    · rw [pk_un e9]; exact him r1 (by omega)) hfm f52 f53 f54 f55 f56 f57 f58 f59 (lv_sub hl [1, 0] rfl) hP hD hS
            exact loop2 _ 0 _ _ _ _ _ rfl (by omega) (fun r1 h9 => absurd h9 (by omega)) hfm f52 f53 f54 f55 f56 f57 f58 f59 (lv_sub hl [1, 0] rfl) hP hD hS
          · refine lv_iload_n (pc := 101) C0.1 C0.2.1 d_MO_init_101 rfl (lv_at hl 1 rfl) ?_
            refine lv_iload_n (pc := 102) C0.1 C0.2.1 d_MO_init_102 rfl (lv_at hl 2 rfl) ?_
            refine mn_mul (pc := 103) C0 d_MO_init_103 ?_
            refine mg_top (show nI ((pm_fc k) * (k + 1)) = nI (pm_fc (k + 1)) from congrArg nI (Nat.mul_comm _ _)) ?_
            refine lv_istore_n (pc := 104) (lv' := [(2, .int (nI (pm_fc (k + 1)))), (0, .ref (q52)), (3, .int (nI (k + 1)))]) C0.1 C0.2.1 d_MO_init_104 rfl hl (by decide) rfl (fun ls hl => ?_)
            refine lv_iinc (pc := 105) (k := 2) (v := nI (k + 1 + 1)) (lv' := [(3, .int (nI (k + 1 + 1))), (2, .int (nI (pm_fc (k + 1)))), (0, .ref (q52))]) C0.1 C0.2.1 d_MO_init_105 hl rfl (nb_p1 _) (by decide) rfl (fun ls hl => ?_)
            refine lv_goto (pc := 108) (tgt := 93) C0.1 C0.2.1 d_MO_init_108 (by decide) ?_
            exact ih_loop1 _ (by omega) (k + 1) _ _ _ _ rfl (by omega) (by omega) hfm f52 f53 f54 f55 f56 f57 f58 f59 (lv_sub hl [2, 1, 0] rfl) hP hD hS
      exact loop1 _ 1 _ _ _ _ rfl (by omega) (by omega) hfm f52 f53 f54 f55 f56 f57 f58 f59 (lv_sub hl [2, 1, 0] rfl) hP hD hS
