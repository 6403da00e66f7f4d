/-! The constructor of the whole -/
abbrev mg_ad10 (q0 q1 q2 q3 q4 q5 q6 q7 q8 q9 : Nat) : Nat → Nat
  | 0 => q0
  | 1 => q1
  | 2 => q2
  | 3 => q3
  | 4 => q4
  | 5 => q5
  | 6 => q6
  | 7 => q7
  | 8 => q8
  | _ => q9
set_option maxHeartbeats 4000000 in
set_option maxRecDepth 100000 in
theorem c_MG_init0 (l : Launch) (D : va_G) (ca : Nat → ClassId) {n : Nat} (h2 : 2 ≤ n) (h6 : n ≤ 6) {x : Int32} (hx : x < 2 ∨ 6 < x) (h4 : n = 4) {q0 : Nat} {tx : Nat → Nat} {gs : Nat → Nat → Bool} (ws0 : va_W) (z0 : ws0[0]? = some (q0, .inr (0, [.null, .null, .null, .int (nI 0), .null, .int (nI 0), .null, .null]))) (hz : ∀ j, 1 ≤ j → ws0[j]? = none) : mg_NA R_SU l y_MG_init b_MG_init 5 4 51 (5548) D classes (tys_ ca) [.ref (q0), .int (x)] ws0 (fun w => (∀ j, 52 ≤ j → w[j]? = none) ∧ ∃ ad : Nat → Nat, ad 0 = q0 ∧ MGW ca ad n (0, tx, 1, fun _ => 0, 0, gs) w) := by
  have hN := pm_fc_le h6
  have hNn : pm_fc n * n ≤ 720 * 6 := Nat.mul_le_mul hN h6
  have hN0 := pm_fc_pos n
  have zn1 := hz 1 (by omega)
  have zn2 := hz 2 (by omega)
  have zn3 := hz 3 (by omega)
  have zn4 := hz 4 (by omega)
  have zn5 := hz 5 (by omega)
  have zn6 := hz 6 (by omega)
  have zn7 := hz 7 (by omega)
  have zn8 := hz 8 (by omega)
  have zn9 := hz 9 (by omega)
  refine mg_openNA (CA := R_SU) (own := R_MG) rfl (by decide) rfl (Nat.le_of_ble_eq_true rfl) ?_
  intro p e s m args below meth c A Q ls C0 hnm hao hK hA hP hD hS hl hret
  have hl : lv_has ls 5 [(0, .ref (q0)), (1, .int (x))] := hl
  have f0 := z0
  have fn1 := zn1
  have fn2 := zn2
  have fn3 := zn3
  have fn4 := zn4
  have fn5 := zn5
  have fn6 := zn6
  have fn7 := zn7
  have fn8 := zn8
  have fn9 := zn9
  have hfm : ∀ j, 10 ≤ j → ws0[j]? = ws0[j]? := fun _ _ => rfl
  refine lv_aload_n (pc := 0) C0.1 C0.2.1 d_MG_init_0 rfl (lv_at hl 0 rfl) ?_
  refine mg_obj (pc := 1) C0 (gw_t1 14 rfl rfl) (gw_t1 15 rfl rfl) (gw_t1 16 rfl rfl) hl.1 (Nat.le_of_ble_eq_true rfl) (Nat.le_of_ble_eq_true rfl) d_MG_init_1 ?_
  refine lv_iload_n (pc := 4) C0.1 C0.2.1 d_MG_init_4 rfl (lv_at hl 1 rfl) ?_
  refine lv_iconst (pc := 5) (v := nI (2)) C0.1 C0.2.1 d_MG_init_5 (by decide +kernel) ?_
  refine lv_icmp_lt (pc := 6) (tgt := 19) C0.1 C0.2.1 d_MG_init_6 (by decide) (fun hc => ?_) (fun hc => ?_)
  · refine lv_iconst (pc := 19) (v := nI (4)) C0.1 C0.2.1 d_MG_init_19 (by decide +kernel) ?_
    refine mg_top (show nI (4) = nI (n) from by rw [h4]) ?_
    refine lv_istore_n (pc := 20) (lv' := [(2, .int (nI (n))), (0, .ref (q0)), (1, .int (x))]) C0.1 C0.2.1 d_MG_init_20 rfl hl (by decide) rfl (fun ls hl => ?_)
    refine lv_aload_n (pc := 21) C0.1 C0.2.1 d_MG_init_21 rfl (lv_at hl 1 rfl) ?_
    refine mg_new (pc := 22) (k := 1) (ci := 1) (fs := [.int (nI 0), .int (nI 0), .null, .null]) C0 in_SY t_SY_ok (gw_t1 17 rfl rfl) (gw_t1 18 rfl rfl) (gw_t1 2 rfl rfl) hK hP hD hS hA rfl (fun j hj => by
      rcases (show j = 0 ∨ j = 1 ∨ j = 2 ∨ j = 3 by omega) with rfl | rfl | rfl | rfl <;> rfl) (mg_len fn1 f0) (show 0 + 1 ≤ 51 by omega) (show 0 + 4 ≤ 5548 by omega) d_MG_init_22 (fun q1 ws H hfr f1 hP hD hS => ?_)
    have f0 := (hfr (0) (by omega)).trans f0
    have fn2 := (hfr (2) (by omega)).trans fn2
    have fn3 := (hfr (3) (by omega)).trans fn3
    have fn4 := (hfr (4) (by omega)).trans fn4
    have fn5 := (hfr (5) (by omega)).trans fn5
    have fn6 := (hfr (6) (by omega)).trans fn6
    have fn7 := (hfr (7) (by omega)).trans fn7
    have fn8 := (hfr (8) (by omega)).trans fn8
    have fn9 := (hfr (9) (by omega)).trans fn9
    have hfm : ∀ j, 10 ≤ j → ws[j]? = ws0[j]? := fun j hj => (hfr j (by omega)).trans (hfm j hj)
    refine lv_dup (pc := 25) C0.1 C0.2.1 d_MG_init_25 rfl ?_
    refine lv_iload_n (pc := 26) C0.1 C0.2.1 d_MG_init_26 rfl (lv_at hl 0 rfl) ?_
    refine mg_inR (pc := 27) (As := [.int (nI (n))]) (rest := [.ref (q1), .ref (q0)]) C0 (c_SY_init l D ca h2 h6 ws f1 fn2 fn3) lk_MG_11 rfl ⟨Nat.le_of_ble_eq_true rfl, Nat.le_of_ble_eq_true rfl⟩ ⟨show 0 + 1 + 2 ≤ 51 by omega, show 0 + 4 + (pm_fc n * n + n) ≤ 5548 by omega⟩ hK hP hD hS hA rfl hl.1 rfl (Nat.le_of_ble_eq_true rfl) d_MG_init_27 (fun ws H locs hpost hP hD hS => ?_)
    obtain ⟨hfr, q2, q3, hsy⟩ := hpost
    have f0 := (hfr (0) (by omega)).trans f0
    have fn4 := (hfr (4) (by omega)).trans fn4
    have fn5 := (hfr (5) (by omega)).trans fn5
    have fn6 := (hfr (6) (by omega)).trans fn6
    have fn7 := (hfr (7) (by omega)).trans fn7
    have fn8 := (hfr (8) (by omega)).trans fn8
    have fn9 := (hfr (9) (by omega)).trans fn9
    have hfm : ∀ j, 10 ≤ j → ws[j]? = ws0[j]? := fun j hj => (hfr j (by omega)).trans (hfm j hj)
    refine mg_putF (pc := 30) C0 hnm in_MG t_MG_ok n_MG hK hP hD hS (0) f0 rfl 0 (by decide) fl_MG_14 rfl rfl (ty := .object "MotionGroups$Symmetry") (by decide +kernel) rfl rfl (Nat.le_of_ble_eq_true rfl) (fs' := [.ref (q1), .null, .null, .int (nI 0), .null, .int (nI 0), .null, .null]) rfl d_MG_init_30 (fun ws H locs hfr f0 hP hD hS => ?_)
    have fn4 := (hfr (4) (by omega)).trans fn4
    have fn5 := (hfr (5) (by omega)).trans fn5
    have fn6 := (hfr (6) (by omega)).trans fn6
    have fn7 := (hfr (7) (by omega)).trans fn7
    have fn8 := (hfr (8) (by omega)).trans fn8
    have fn9 := (hfr (9) (by omega)).trans fn9
    have hsy := sy_fr (hfr (1) (by omega)) (hfr (2) (by omega)) (hfr (3) (by omega)) hsy
    have hfm : ∀ j, 10 ≤ j → ws[j]? = ws0[j]? := fun j hj => (hfr j (by omega)).trans (hfm j hj)
    refine lv_aload_n (pc := 33) C0.1 C0.2.1 d_MG_init_33 rfl (lv_at hl 1 rfl) ?_
    obtain ⟨f9, f3, -⟩ := (⟨_, hsy.2.2.choose_spec, trivial⟩ : ∃ f9 : Nat → Int32, ws[3]? = some (q3, .inl (ca 1, n, .inl f9)) ∧ True)
    refine mg_new (pc := 34) (k := 4) (ci := 3) (fs := [.null, .int (nI 0), .null, .int (nI 0), .int (nI 0), .int (nI 0), .int (nI 0), .int (nI 0)]) C0 in_CT t_CT_ok (gw_t1 52 rfl rfl) (gw_t1 53 rfl rfl) (gw_t1 3 rfl rfl) hK hP hD hS hA rfl (fun j hj => by
      rcases (show j = 0 ∨ j = 1 ∨ j = 2 ∨ j = 3 ∨ j = 4 ∨ j = 5 ∨ j = 6 ∨ j = 7 by omega) with rfl | rfl | rfl | rfl | rfl | rfl | rfl | rfl <;> rfl) (mg_len fn4 f3) (show 0 + 1 + 2 + 1 ≤ 51 by omega) (show 0 + 4 + (pm_fc n * n + n) + 8 ≤ 5548 by omega) d_MG_init_34 (fun q4 ws H hfr f4 hP hD hS => ?_)
    have f0 := (hfr (0) (by omega)).trans f0
    have fn5 := (hfr (5) (by omega)).trans fn5
    have fn6 := (hfr (6) (by omega)).trans fn6
    have fn7 := (hfr (7) (by omega)).trans fn7
    have fn8 := (hfr (8) (by omega)).trans fn8
    have fn9 := (hfr (9) (by omega)).trans fn9
    have hsy := sy_fr (hfr (1) (by omega)) (hfr (2) (by omega)) (hfr (3) (by omega)) hsy
    have hfm : ∀ j, 10 ≤ j → ws[j]? = ws0[j]? := fun j hj => (hfr j (by omega)).trans (hfm j hj)
    refine lv_dup (pc := 37) C0.1 C0.2.1 d_MG_init_37 rfl ?_
    refine lv_iload_n (pc := 38) C0.1 C0.2.1 d_MG_init_38 rfl (lv_at hl 0 rfl) ?_
    refine mg_inR (pc := 39) (As := [.int (nI (n))]) (rest := [.ref (q4), .ref (q0)]) C0 (c_CT_init l D ca h2 h6 (tx := tx) ws f4 fn5 fn6) lk_MG_20 rfl ⟨Nat.le_of_ble_eq_true rfl, Nat.le_of_ble_eq_true rfl⟩ ⟨show 0 + 1 + 2 + 1 + 2 ≤ 51 by omega, show 0 + 4 + (pm_fc n * n + n) + 8 + (n + 40) ≤ 5548 by omega⟩ hK hP hD hS hA rfl hl.1 rfl (Nat.le_of_ble_eq_true rfl) d_MG_init_39 (fun ws H locs hpost hP hD hS => ?_)
    obtain ⟨hfr, q5, q6, hct⟩ := hpost
    have f0 := (hfr (0) (by omega)).trans f0
    have fn7 := (hfr (7) (by omega)).trans fn7
    have fn8 := (hfr (8) (by omega)).trans fn8
    have fn9 := (hfr (9) (by omega)).trans fn9
    have hsy := sy_fr (hfr (1) (by omega)) (hfr (2) (by omega)) (hfr (3) (by omega)) hsy
    have hfm : ∀ j, 10 ≤ j → ws[j]? = ws0[j]? := fun j hj => (hfr j (by omega)).trans (hfm j hj)
    refine mg_putF (pc := 42) C0 hnm in_MG t_MG_ok n_MG hK hP hD hS (0) f0 rfl 1 (by decide) fl_MG_21 rfl rfl (ty := .object "MotionGroups$CycleText") (by decide +kernel) rfl rfl (Nat.le_of_ble_eq_true rfl) (fs' := [.ref (q1), .ref (q4), .null, .int (nI 0), .null, .int (nI 0), .null, .null]) rfl d_MG_init_42 (fun ws H locs hfr f0 hP hD hS => ?_)
    have fn7 := (hfr (7) (by omega)).trans fn7
    have fn8 := (hfr (8) (by omega)).trans fn8
    have fn9 := (hfr (9) (by omega)).trans fn9
    have hsy := sy_fr (hfr (1) (by omega)) (hfr (2) (by omega)) (hfr (3) (by omega)) hsy
    have hct := ct_fr (hfr (4) (by omega)) (hfr (5) (by omega)) (hfr (6) (by omega)) hct
    have hfm : ∀ j, 10 ≤ j → ws[j]? = ws0[j]? := fun j hj => (hfr j (by omega)).trans (hfm j hj)
    refine lv_aload_n (pc := 45) C0.1 C0.2.1 d_MG_init_45 rfl (lv_at hl 1 rfl) ?_
    refine lv_bipush (pc := 46) (v := nI (40)) C0.1 C0.2.1 d_MG_init_46 (by decide +kernel) ?_
    obtain ⟨T9, f6, -⟩ := hct.2.2.1
    refine mg_newa (pc := 48) (ty := .int) (k := 7) (N' := 40) (cA := ca 1) (a0 := (40, .inl (fun _ => nI 0))) C0 (gw_t1 51 rfl rfl) rfl (fun c9 h9 => Option.some.inj (h9.symm.trans (hK.2 1 _ rfl).2)) hK hP hD hS hA (fun _ => rfl) (by omega) (by rw [show componentBytes .int = 4 from rfl]; omega) (mg_len fn7 f6) (show 0 + 1 + 2 + 1 + 2 + 1 ≤ 51 by omega) (show 0 + 4 + (pm_fc n * n + n) + 8 + (n + 40) + 40 ≤ 5548 by omega) d_MG_init_48 (fun q7 ws H hfr f7 hP hD hS => ?_)
    have f0 := (hfr (0) (by omega)).trans f0
    have fn8 := (hfr (8) (by omega)).trans fn8
    have fn9 := (hfr (9) (by omega)).trans fn9
    have f6 := (hfr (6) (by omega)).trans f6
    have hsy := sy_fr (hfr (1) (by omega)) (hfr (2) (by omega)) (hfr (3) (by omega)) hsy
    have hct := ct_fr (hfr (4) (by omega)) (hfr (5) (by omega)) (hfr (6) (by omega)) hct
    have hfm : ∀ j, 10 ≤ j → ws[j]? = ws0[j]? := fun j hj => (hfr j (by omega)).trans (hfm j hj)
    refine mg_putF (pc := 50) C0 hnm in_MG t_MG_ok n_MG hK hP hD hS (0) f0 rfl 2 (by decide) fl_MG_25 rfl rfl (ty := .array (.int)) (by decide +kernel) rfl rfl (Nat.le_of_ble_eq_true rfl) (fs' := [.ref (q1), .ref (q4), .ref (q7), .int (nI 0), .null, .int (nI 0), .null, .null]) rfl d_MG_init_50 (fun ws H locs hfr f0 hP hD hS => ?_)
    have fn8 := (hfr (8) (by omega)).trans fn8
    have fn9 := (hfr (9) (by omega)).trans fn9
    have f6 := (hfr (6) (by omega)).trans f6
    have f7 := (hfr (7) (by omega)).trans f7
    have hsy := sy_fr (hfr (1) (by omega)) (hfr (2) (by omega)) (hfr (3) (by omega)) hsy
    have hct := ct_fr (hfr (4) (by omega)) (hfr (5) (by omega)) (hfr (6) (by omega)) hct
    have hfm : ∀ j, 10 ≤ j → ws[j]? = ws0[j]? := fun j hj => (hfr j (by omega)).trans (hfm j hj)
    refine lv_aload_n (pc := 53) C0.1 C0.2.1 d_MG_init_53 rfl (lv_at hl 1 rfl) ?_
    refine mg_get (pc := 54) C0 in_MG hK hP (0) f0 rfl 2 (by decide) fl_MG_25 rfl d_MG_init_54 ?_
    refine lv_iconst (pc := 57) (v := nI (0)) C0.1 C0.2.1 d_MG_init_57 (by decide +kernel) ?_
    refine lv_iconst (pc := 58) (v := nI (0)) C0.1 C0.2.1 d_MG_init_58 (by decide +kernel) ?_
    refine mg_ist (pc := 59) C0 hK hP hD hS (7) 1 f7 rfl (j := 0) (by omega) (by omega) d_MG_init_59 (fun ws H locs hfr f7 hP hD hS => ?_)
    have f0 := (hfr (0) (by omega)).trans f0
    have fn8 := (hfr (8) (by omega)).trans fn8
    have fn9 := (hfr (9) (by omega)).trans fn9
    have f6 := (hfr (6) (by omega)).trans f6
    have hsy := sy_fr (hfr (1) (by omega)) (hfr (2) (by omega)) (hfr (3) (by omega)) hsy
    have hct := ct_fr (hfr (4) (by omega)) (hfr (5) (by omega)) (hfr (6) (by omega)) hct
    have hfm : ∀ j, 10 ≤ j → ws[j]? = ws0[j]? := fun j hj => (hfr j (by omega)).trans (hfm j hj)
    refine lv_aload_n (pc := 60) C0.1 C0.2.1 d_MG_init_60 rfl (lv_at hl 1 rfl) ?_
    refine lv_iconst (pc := 61) (v := nI (1)) C0.1 C0.2.1 d_MG_init_61 (by decide +kernel) ?_
    refine mg_put (pc := 62) C0 in_MG t_MG_ok n_MG hK hP hD hS (0) f0 rfl 3 (by decide) fl_MG_29 rfl (ty := .int) (by decide +kernel) rfl rfl (Nat.le_of_ble_eq_true rfl) (fs' := [.ref (q1), .ref (q4), .ref (q7), .int (nI (1)), .null, .int (nI 0), .null, .null]) rfl d_MG_init_62 (fun ws H locs hfr f0 hP hD hS => ?_)
    have fn8 := (hfr (8) (by omega)).trans fn8
    have fn9 := (hfr (9) (by omega)).trans fn9
    have f6 := (hfr (6) (by omega)).trans f6
    have f7 := (hfr (7) (by omega)).trans f7
    have hsy := sy_fr (hfr (1) (by omega)) (hfr (2) (by omega)) (hfr (3) (by omega)) hsy
    have hct := ct_fr (hfr (4) (by omega)) (hfr (5) (by omega)) (hfr (6) (by omega)) hct
    have hfm : ∀ j, 10 ≤ j → ws[j]? = ws0[j]? := fun j hj => (hfr j (by omega)).trans (hfm j hj)
    refine lv_aload_n (pc := 65) C0.1 C0.2.1 d_MG_init_65 rfl (lv_at hl 1 rfl) ?_
    have f1 : ws[1]? = some (q1, .inr (1, [.int (nI (n)), .int (nI (pm_fc n)), .ref (q2), .ref (q3)])) := hsy.1
    refine mg_get (pc := 66) C0 in_MG hK hP (0) f0 rfl 0 (by decide) fl_MG_14 rfl d_MG_init_66 ?_
    refine mg_get (pc := 69) C0 in_SY hK hP (1) f1 rfl 1 (by decide) fl_MG_33 rfl d_MG_init_69 ?_
    refine mg_newa (pc := 72) (ty := .int) (k := 8) (N' := pm_fc n) (cA := ca 1) (a0 := (pm_fc n, .inl (fun _ => nI 0))) C0 (gw_t1 51 rfl rfl) rfl (fun c9 h9 => Option.some.inj (h9.symm.trans (hK.2 1 _ rfl).2)) hK hP hD hS hA (fun _ => rfl) (by omega) (by rw [show componentBytes .int = 4 from rfl]; omega) (mg_len fn8 f7) (show 0 + 1 + 2 + 1 + 2 + 1 + 1 ≤ 51 by omega) (show 0 + 4 + (pm_fc n * n + n) + 8 + (n + 40) + 40 + (pm_fc n) ≤ 5548 by omega) d_MG_init_72 (fun q8 ws H hfr f8 hP hD hS => ?_)
    have f0 := (hfr (0) (by omega)).trans f0
    have fn9 := (hfr (9) (by omega)).trans fn9
    have f6 := (hfr (6) (by omega)).trans f6
    have f7 := (hfr (7) (by omega)).trans f7
    have f1 := (hfr (1) (by omega)).trans f1
    have hsy := sy_fr (hfr (1) (by omega)) (hfr (2) (by omega)) (hfr (3) (by omega)) hsy
    have hct := ct_fr (hfr (4) (by omega)) (hfr (5) (by omega)) (hfr (6) (by omega)) hct
    have hfm : ∀ j, 10 ≤ j → ws[j]? = ws0[j]? := fun j hj => (hfr j (by omega)).trans (hfm j hj)
    refine lv_astore_n (pc := 74) (lv' := [(3, .ref (q8)), (2, .int (nI (n))), (0, .ref (q0)), (1, .int (x))]) C0.1 C0.2.1 d_MG_init_74 rfl hl (by decide) rfl (fun ls hl => ?_)
    refine lv_aload_n (pc := 75) C0.1 C0.2.1 d_MG_init_75 rfl (lv_at hl 2 rfl) ?_
    refine lv_bipush (pc := 76) (v := nI (12)) C0.1 C0.2.1 d_MG_init_76 (by decide +kernel) ?_
    refine mg_newqA (pc := 78) (C := R_SU) (k := 9) (N' := 12) (cA := ca 4) C0 (gw_t1 85 rfl rfl) hao (fun c9 h9 => by
      obtain ⟨_, _, _, _, _, h9⟩ := h9
      obtain ⟨_, _, _, _, _, h8⟩ := (hK.2 4 _ rfl).2
      exact Option.some.inj (h9.symm.trans h8)) hK hP hD hS hA (by omega) (by omega) (mg_len fn9 f8) (show 0 + 1 + 2 + 1 + 2 + 1 + 1 + 1 ≤ 51 by omega) (show 0 + 4 + (pm_fc n * n + n) + 8 + (n + 40) + 40 + (pm_fc n) + 12 ≤ 5548 by omega) d_MG_init_78 (fun q9 ws H hfr f9 hP hD hS => ?_)
    have f0 := (hfr (0) (by omega)).trans f0
    have f6 := (hfr (6) (by omega)).trans f6
    have f7 := (hfr (7) (by omega)).trans f7
    have f1 := (hfr (1) (by omega)).trans f1
    have f8 := (hfr (8) (by omega)).trans f8
    have hsy := sy_fr (hfr (1) (by omega)) (hfr (2) (by omega)) (hfr (3) (by omega)) hsy
    have hct := ct_fr (hfr (4) (by omega)) (hfr (5) (by omega)) (hfr (6) (by omega)) hct
    have hfm : ∀ j, 10 ≤ j → ws[j]? = ws0[j]? := fun j hj => (hfr j (by omega)).trans (hfm j hj)
    refine mg_putF (pc := 81) C0 hnm in_MG t_MG_ok n_MG hK hP hD hS (0) f0 rfl 4 (by decide) fl_MG_38 rfl rfl (ty := .array (.object "MotionGroups$Subgroup")) (by decide +kernel) rfl rfl (Nat.le_of_ble_eq_true rfl) (fs' := [.ref (q1), .ref (q4), .ref (q7), .int (nI (1)), .ref (q9), .int (nI 0), .null, .null]) rfl d_MG_init_81 (fun ws H locs hfr f0 hP hD hS => ?_)
    have f6 := (hfr (6) (by omega)).trans f6
    have f7 := (hfr (7) (by omega)).trans f7
    have f1 := (hfr (1) (by omega)).trans f1
    have f8 := (hfr (8) (by omega)).trans f8
    have f9 := (hfr (9) (by omega)).trans f9
    have hsy := sy_fr (hfr (1) (by omega)) (hfr (2) (by omega)) (hfr (3) (by omega)) hsy
    have hct := ct_fr (hfr (4) (by omega)) (hfr (5) (by omega)) (hfr (6) (by omega)) hct
    have hfm : ∀ j, 10 ≤ j → ws[j]? = ws0[j]? := fun j hj => (hfr j (by omega)).trans (hfm j hj)
    refine lv_iconst (pc := 84) (v := nI (0)) C0.1 C0.2.1 d_MG_init_84 (by decide +kernel) ?_
    refine lv_istore (pc := 85) (lv' := [(4, .int (nI (0))), (3, .ref (q8)), (2, .int (nI (n))), (0, .ref (q0)), (1, .int (x))]) C0.1 C0.2.1 d_MG_init_85 hl (by decide) rfl (fun ls hl => ?_)
    refine W.widen (k := 9) (n := 5156) (by omega) (by omega) ?_
    have hsy : sy_ok ca (mg_ad10 q0 q1 q2 q3 q4 q5 q6 q7 q8 q9) n ws := sy_ad rfl rfl rfl hsy
    have hct : ct_ok ca (mg_ad10 q0 q1 q2 q3 q4 q5 q6 q7 q8 q9) n ws 0 tx := ct_ad rfl rfl rfl hct
    have loop : ∀ (d : Nat) (i : Nat) (ad : Nat → Nat) (gr : Nat → Option Nat) (R7 : Nat → Int32) (L8 : Nat → Int32) (ws : va_W) (H : Heap) (locs : List Loc) (ls : Array Slot), 12 - i = d → (i ≤ 12) → (ad 0 = q0 ∧ ad 1 = q1 ∧ ad 4 = q4 ∧ ad 7 = q7 ∧ ad 8 = q8 ∧ ad 9 = q9) → (R7 0 = nI 0) → (sy_ok ca ad n ws) → (ct_ok ca ad n ws 0 tx) → (∀ j, j < i → gr j = some (ad (10 + 3 * j))) → (∀ j, j < i → su_ok ca ad n j ws su_one (fun _ => 0) 0) → (∃ x9, ws[9 + 3 * i]? = some x9) → (∀ j, 10 + 3 * i ≤ j → ws[j]? = ws0[j]?) → ws[0]? = some (q0, .inr (0, [.ref (q1), .ref (q4), .ref (q7), .int (nI (1)), .ref (q9), .int (nI 0), .null, .null])) → ws[7]? = some (q7, .inl (ca 1, 40, .inl (R7))) → ws[8]? = some (q8, .inl (ca 1, pm_fc n, .inl (L8))) → ws[9]? = some (q9, .inl (ca 4, 12, .inr (.inr (.inr (.inr (gr)))))) → lv_has ls 5 [(0, .ref (q0)), (3, .ref (q8)), (4, .int (nI (i)))] → va_P D classes ws H → va_D A ws → va_S A s.heap H locs → W p l e (mg_rn 4 51 (5548)) s m args below meth c H locs (9 + 3 * i) (5156 + 28 * i) Q (F0 m 87 ls []) := by
      intro d
      induction d using Nat.strongRecOn with
      | _ d ih_loop =>
        intro i ad gr R7 L8 ws H locs ls hd hi ha hR hsy hct hgr hsu hpv hfm f0 f7 f8 f9 hl hP hD hS
        refine lv_iload (pc := 87) C0.1 C0.2.1 d_MG_init_87 (lv_at hl 2 rfl) ?_
        refine lv_bipush (pc := 89) (v := nI (12)) C0.1 C0.2.1 d_MG_init_89 (by decide +kernel) ?_
        refine mb_ge (pc := 91) (tgt := 119) C0 (by omega) (by omega) d_MG_init_91 (by decide) (fun hc => ?_) (fun hc => ?_)
        · have hi9 : i = 12 := by omega
          subst hi9
          obtain ⟨ha0, ha1, ha4, ha7, ha8, ha9⟩ := ha
          refine lv_aload_n (pc := 119) C0.1 C0.2.1 d_MG_init_119 rfl (lv_at hl 0 rfl) ?_
          refine lv_iconst (pc := 120) (v := nI (0)) C0.1 C0.2.1 d_MG_init_120 (by decide +kernel) ?_
          refine mg_put (pc := 121) C0 in_MG t_MG_ok n_MG hK hP hD hS (0) f0 rfl 5 (by decide) fl_MG_45 rfl (ty := .int) (by decide +kernel) rfl rfl (Nat.le_of_ble_eq_true rfl) (fs' := [.ref (q1), .ref (q4), .ref (q7), .int (nI (1)), .ref (q9), .int (nI (0)), .null, .null]) rfl d_MG_init_121 (fun ws H locs hfr f0 hP hD hS => ?_)
          have f7 := (hfr (7) (by omega)).trans f7
          have f8 := (hfr (8) (by omega)).trans f8
          have f9 := (hfr (9) (by omega)).trans f9
          have hsy := sy_fr (hfr (1) (by omega)) (hfr (2) (by omega)) (hfr (3) (by omega)) hsy
          have hct := ct_fr (hfr (4) (by omega)) (hfr (5) (by omega)) (hfr (6) (by omega)) hct
          have hfm : ∀ j, 10 + 3 * 12 ≤ j → ws[j]? = ws0[j]? := fun j hj => (hfr j (by omega)).trans (hfm j hj)
          have hsu := fun j (hj : j < 12) => su_fr (hfr _ (by omega)) (hfr _ (by omega)) (hfr _ (by omega)) (hsu j hj)
          have hpv : ∃ x9, ws[9 + 3 * 12]? = some x9 := by
            obtain ⟨x9, h9⟩ := hpv
            exact ⟨x9, (hfr _ (by omega)).trans h9⟩
          refine lv_aload_n (pc := 124) C0.1 C0.2.1 d_MG_init_124 rfl (lv_at hl 0 rfl) ?_
          have hln : ws.length = 10 + 3 * 12 := by
            obtain ⟨x9, h9⟩ := hpv
            have h8 := mg_len (k := 9 + 3 * 12) (by rw [show 9 + 3 * 12 + 1 = 10 + 3 * 12 by omega]; exact (hfm _ (Nat.le_refl _)).trans (hz _ (by omega))) h9
            omega
          have hem : ws[11 + 3 * 12]? = none := (hfm _ (by omega)).trans (hz _ (by omega))
          have heg : ws[12 + 3 * 12]? = none := (hfm _ (by omega)).trans (hz _ (by omega))
          have hfm : ∀ j, 13 + 3 * 12 ≤ j → ws[j]? = ws0[j]? := fun j hj => hfm j (by omega)
          refine mg_new (pc := 125) (k := 10 + 3 * 12) (ci := 2) (fs := [.int (nI 0), .null, .null, .null, .int (nI 0), .null]) C0 in_SU t_SU_ok (gw_t1 85 rfl rfl) (gw_t1 87 rfl rfl) (gw_t1 4 rfl rfl) hK hP hD hS hA rfl (fun j hj => by
            rcases (show j = 0 ∨ j = 1 ∨ j = 2 ∨ j = 3 ∨ j = 4 ∨ j = 5 by omega) with rfl | rfl | rfl | rfl | rfl | rfl <;> rfl) (hln) (show 9 + 3 * 12 + 1 ≤ 51 by omega) (show 5156 + 28 * 12 + 6 ≤ 5548 by omega) d_MG_init_125 (fun qe ws H hfr fo hP hD hS => ?_)
          have f0 := (hfr (0) (by omega)).trans f0
          have f7 := (hfr (7) (by omega)).trans f7
          have f8 := (hfr (8) (by omega)).trans f8
          have f9 := (hfr (9) (by omega)).trans f9
          have hem := (hfr (11 + 3 * 12) (by omega)).trans hem
          have heg := (hfr (12 + 3 * 12) (by omega)).trans heg
          have hsy := sy_fr (hfr (1) (by omega)) (hfr (2) (by omega)) (hfr (3) (by omega)) hsy
          have hct := ct_fr (hfr (4) (by omega)) (hfr (5) (by omega)) (hfr (6) (by omega)) hct
          have hfm : ∀ j, 13 + 3 * 12 ≤ j → ws[j]? = ws0[j]? := fun j hj => (hfr j (by omega)).trans (hfm j hj)
          have hsu := fun j (hj : j < 12) => su_fr (hfr _ (by omega)) (hfr _ (by omega)) (hfr _ (by omega)) (hsu j hj)
          refine lv_dup (pc := 128) C0.1 C0.2.1 d_MG_init_128 rfl ?_
          refine lv_aload_n (pc := 129) C0.1 C0.2.1 d_MG_init_129 rfl (lv_at hl 0 rfl) ?_
          refine mg_get (pc := 130) C0 in_MG hK hP (0) f0 rfl 0 (by decide) fl_MG_14 rfl d_MG_init_130 ?_
          refine lv_aload_n (pc := 133) C0.1 C0.2.1 d_MG_init_133 rfl (lv_at hl 1 rfl) ?_
          have hC := c_SU_init l D ca ad h2 h6 (i := 12) (qo := qe) ws
          have f1 := hsy.1
          rw [ha1] at hC f1
          rw [ha8] at hC
          refine mg_inR (pc := 134) (As := [.ref (q1), .ref (q8)]) (rest := [.ref (qe), .ref (q0)]) C0 (hC f1 fo hem heg) lk_MG_42 rfl ⟨Nat.le_of_ble_eq_true rfl, Nat.le_of_ble_eq_true rfl⟩ ⟨show 9 + 3 * 12 + 1 + 2 ≤ 51 by omega, show 5156 + 28 * 12 + 6 + ((pm_fc n + 63) / 64 + 10) ≤ 5548 by omega⟩ hK hP hD hS hA rfl hl.1 rfl (Nat.le_of_ble_eq_true rfl) d_MG_init_134 (fun ws H locs hpost hP hD hS => ?_)
          obtain ⟨hfr, ad1, ho, hag, hsu1⟩ := hpost
          have f0 := (hfr (0) (by omega)).trans f0
          have f7 := (hfr (7) (by omega)).trans f7
          have f8 := (hfr (8) (by omega)).trans f8
          have f9 := (hfr (9) (by omega)).trans f9
          have hsy := sy_fr (hfr (1) (by omega)) (hfr (2) (by omega)) (hfr (3) (by omega)) hsy
          have hct := ct_fr (hfr (4) (by omega)) (hfr (5) (by omega)) (hfr (6) (by omega)) hct
          have hfm : ∀ j, 13 + 3 * 12 ≤ j → ws[j]? = ws0[j]? := fun j hj => (hfr j (by omega)).trans (hfm j hj)
          have hsu := fun j (hj : j < 12) => su_fr (hfr _ (by omega)) (hfr _ (by omega)) (hfr _ (by omega)) (hsu j hj)
          refine mg_putF (pc := 137) C0 hnm in_MG t_MG_ok n_MG hK hP hD hS (0) f0 rfl 6 (by decide) fl_MG_48 rfl rfl (ty := .object "MotionGroups$Subgroup") (by decide +kernel) rfl rfl (Nat.le_of_ble_eq_true rfl) (fs' := [.ref (q1), .ref (q4), .ref (q7), .int (nI (1)), .ref (q9), .int (nI (0)), .ref (qe), .null]) rfl d_MG_init_137 (fun ws H locs hfr f0 hP hD hS => ?_)
          have f7 := (hfr (7) (by omega)).trans f7
          have f8 := (hfr (8) (by omega)).trans f8
          have f9 := (hfr (9) (by omega)).trans f9
          have hsy := sy_fr (hfr (1) (by omega)) (hfr (2) (by omega)) (hfr (3) (by omega)) hsy
          have hct := ct_fr (hfr (4) (by omega)) (hfr (5) (by omega)) (hfr (6) (by omega)) hct
          have hfm : ∀ j, 13 + 3 * 12 ≤ j → ws[j]? = ws0[j]? := fun j hj => (hfr j (by omega)).trans (hfm j hj)
          have hsu := fun j (hj : j < 12) => su_fr (hfr _ (by omega)) (hfr _ (by omega)) (hfr _ (by omega)) (hsu j hj)
          have hsu1 := su_fr (hfr _ (by omega)) (hfr _ (by omega)) (hfr _ (by omega)) hsu1
          have hsy := sy_ad (hag 1 (by omega)) (hag 2 (by omega)) (hag 3 (by omega)) hsy
          have hct := ct_ad (hag 4 (by omega)) (hag 5 (by omega)) (hag 6 (by omega)) hct
          have hgr : ∀ j, j < 12 → gr j = some (ad1 (10 + 3 * j)) := fun j hj => by rw [hag _ (by omega)]; exact hgr j hj
          have hsu : ∀ j, j < 12 + 1 → su_ok ca ad1 n j ws su_one (fun _ => 0) 0 := fun j hj => by
            by_cases e9 : j = 12
            · subst e9; exact hsu1
            · exact su_ad (hag 1 (by omega)) (hag 8 (by omega)) (hag _ (by omega)) (hag _ (by omega)) (hag _ (by omega)) (hsu j (by omega))
          have ha0 := (hag 0 (by omega)).trans ha0
          have ha1 := (hag 1 (by omega)).trans ha1
          have ha4 := (hag 4 (by omega)).trans ha4
          have ha7 := (hag 7 (by omega)).trans ha7
          have ha8 := (hag 8 (by omega)).trans ha8
          have ha9 := (hag 9 (by omega)).trans ha9
          have ha46 : ad1 46 = qe := ho
          have hpv : ∃ x9, ws[9 + 3 * 13]? = some x9 := by
            obtain ⟨fm_, fg_, ⟨-, -, fg9⟩, -⟩ := hsu1
            exact ⟨_, fg9⟩
          refine W.widen (k := 9 + 3 * (12 + 1)) (n := 5156 + 28 * (12 + 1)) (by omega) (by omega) ?_
          refine lv_aload_n (pc := 140) C0.1 C0.2.1 d_MG_init_140 rfl (lv_at hl 0 rfl) ?_
          have hln : ws.length = 10 + 3 * 13 := by
            obtain ⟨x9, h9⟩ := hpv
            have h8 := mg_len (k := 9 + 3 * 13) (by rw [show 9 + 3 * 13 + 1 = 10 + 3 * 13 by omega]; exact (hfm _ (Nat.le_refl _)).trans (hz _ (by omega))) h9
            omega
          have hem : ws[11 + 3 * 13]? = none := (hfm _ (by omega)).trans (hz _ (by omega))
          have heg : ws[12 + 3 * 13]? = none := (hfm _ (by omega)).trans (hz _ (by omega))
          have hfm : ∀ j, 13 + 3 * 13 ≤ j → ws[j]? = ws0[j]? := fun j hj => hfm j (by omega)
          refine mg_new (pc := 141) (k := 10 + 3 * 13) (ci := 2) (fs := [.int (nI 0), .null, .null, .null, .int (nI 0), .null]) C0 in_SU t_SU_ok (gw_t1 85 rfl rfl) (gw_t1 87 rfl rfl) (gw_t1 4 rfl rfl) hK hP hD hS hA rfl (fun j hj => by
            rcases (show j = 0 ∨ j = 1 ∨ j = 2 ∨ j = 3 ∨ j = 4 ∨ j = 5 by omega) with rfl | rfl | rfl | rfl | rfl | rfl <;> rfl) (hln) (show 9 + 3 * (12 + 1) + 1 ≤ 51 by omega) (show 5156 + 28 * (12 + 1) + 6 ≤ 5548 by omega) d_MG_init_141 (fun qd ws H hfr fo hP hD hS => ?_)
          have f0 := (hfr (0) (by omega)).trans f0
          have f7 := (hfr (7) (by omega)).trans f7
          have f8 := (hfr (8) (by omega)).trans f8
          have f9 := (hfr (9) (by omega)).trans f9
          have hem := (hfr (11 + 3 * 13) (by omega)).trans hem
          have heg := (hfr (12 + 3 * 13) (by omega)).trans heg
          have hsy := sy_fr (hfr (1) (by omega)) (hfr (2) (by omega)) (hfr (3) (by omega)) hsy
          have hct := ct_fr (hfr (4) (by omega)) (hfr (5) (by omega)) (hfr (6) (by omega)) hct
          have hfm : ∀ j, 13 + 3 * 13 ≤ j → ws[j]? = ws0[j]? := fun j hj => (hfr j (by omega)).trans (hfm j hj)
          have hsu := fun j (hj : j < 13) => su_fr (hfr _ (by omega)) (hfr _ (by omega)) (hfr _ (by omega)) (hsu j hj)
          refine lv_dup (pc := 144) C0.1 C0.2.1 d_MG_init_144 rfl ?_
          refine lv_aload_n (pc := 145) C0.1 C0.2.1 d_MG_init_145 rfl (lv_at hl 0 rfl) ?_
          refine mg_get (pc := 146) C0 in_MG hK hP (0) f0 rfl 0 (by decide) fl_MG_14 rfl d_MG_init_146 ?_
          refine lv_aload_n (pc := 149) C0.1 C0.2.1 d_MG_init_149 rfl (lv_at hl 1 rfl) ?_
          have hC := c_SU_init l D ca ad1 h2 h6 (i := 13) (qo := qd) ws
          have f1 := hsy.1
          rw [ha1] at hC f1
          rw [ha8] at hC
          refine mg_inR (pc := 150) (As := [.ref (q1), .ref (q8)]) (rest := [.ref (qd), .ref (q0)]) C0 (hC f1 fo hem heg) lk_MG_42 rfl ⟨Nat.le_of_ble_eq_true rfl, Nat.le_of_ble_eq_true rfl⟩ ⟨show 9 + 3 * (12 + 1) + 1 + 2 ≤ 51 by omega, show 5156 + 28 * (12 + 1) + 6 + ((pm_fc n + 63) / 64 + 10) ≤ 5548 by omega⟩ hK hP hD hS hA rfl hl.1 rfl (Nat.le_of_ble_eq_true rfl) d_MG_init_150 (fun ws H locs hpost hP hD hS => ?_)
          obtain ⟨hfr, ad2, ho, hag, hsu1⟩ := hpost
          have f0 := (hfr (0) (by omega)).trans f0
          have f7 := (hfr (7) (by omega)).trans f7
          have f8 := (hfr (8) (by omega)).trans f8
          have f9 := (hfr (9) (by omega)).trans f9
          have hsy := sy_fr (hfr (1) (by omega)) (hfr (2) (by omega)) (hfr (3) (by omega)) hsy
          have hct := ct_fr (hfr (4) (by omega)) (hfr (5) (by omega)) (hfr (6) (by omega)) hct
          have hfm : ∀ j, 13 + 3 * 13 ≤ j → ws[j]? = ws0[j]? := fun j hj => (hfr j (by omega)).trans (hfm j hj)
          have hsu := fun j (hj : j < 13) => su_fr (hfr _ (by omega)) (hfr _ (by omega)) (hfr _ (by omega)) (hsu j hj)
          refine mg_putF (pc := 153) C0 hnm in_MG t_MG_ok n_MG hK hP hD hS (0) f0 rfl 7 (by decide) fl_MG_52 rfl rfl (ty := .object "MotionGroups$Subgroup") (by decide +kernel) rfl rfl (Nat.le_of_ble_eq_true rfl) (fs' := [.ref (q1), .ref (q4), .ref (q7), .int (nI (1)), .ref (q9), .int (nI (0)), .ref (qe), .ref (qd)]) rfl d_MG_init_153 (fun ws H locs hfr f0 hP hD hS => ?_)
          have f7 := (hfr (7) (by omega)).trans f7
          have f8 := (hfr (8) (by omega)).trans f8
          have f9 := (hfr (9) (by omega)).trans f9
          have hsy := sy_fr (hfr (1) (by omega)) (hfr (2) (by omega)) (hfr (3) (by omega)) hsy
          have hct := ct_fr (hfr (4) (by omega)) (hfr (5) (by omega)) (hfr (6) (by omega)) hct
          have hfm : ∀ j, 13 + 3 * 13 ≤ j → ws[j]? = ws0[j]? := fun j hj => (hfr j (by omega)).trans (hfm j hj)
          have hsu := fun j (hj : j < 13) => su_fr (hfr _ (by omega)) (hfr _ (by omega)) (hfr _ (by omega)) (hsu j hj)
          have hsu1 := su_fr (hfr _ (by omega)) (hfr _ (by omega)) (hfr _ (by omega)) hsu1
          have hsy := sy_ad (hag 1 (by omega)) (hag 2 (by omega)) (hag 3 (by omega)) hsy
          have hct := ct_ad (hag 4 (by omega)) (hag 5 (by omega)) (hag 6 (by omega)) hct
          have hgr : ∀ j, j < 12 → gr j = some (ad2 (10 + 3 * j)) := fun j hj => by rw [hag _ (by omega)]; exact hgr j hj
          have hsu : ∀ j, j < 13 + 1 → su_ok ca ad2 n j ws su_one (fun _ => 0) 0 := fun j hj => by
            by_cases e9 : j = 13
            · subst e9; exact hsu1
            · exact su_ad (hag 1 (by omega)) (hag 8 (by omega)) (hag _ (by omega)) (hag _ (by omega)) (hag _ (by omega)) (hsu j (by omega))
          have ha0 := (hag 0 (by omega)).trans ha0
          have ha1 := (hag 1 (by omega)).trans ha1
          have ha4 := (hag 4 (by omega)).trans ha4
          have ha7 := (hag 7 (by omega)).trans ha7
          have ha8 := (hag 8 (by omega)).trans ha8
          have ha9 := (hag 9 (by omega)).trans ha9
          have ha46 := (hag 46 (by omega)).trans ha46
          have ha49 : ad2 49 = qd := ho
          refine W.widen (k := 9 + 3 * (13 + 1)) (n := 5156 + 28 * (13 + 1)) (by omega) (by omega) ?_
          refine W.widen (k := 51) (n := 5548) (by omega) (by omega) ?_
          exact hret _ _ _ 156 _ (⟨fun j hj => (hfm j (by omega)).trans (hz j (by omega)), ad2, ha0, by rw [ha0, ha1, ha4, ha7, ha9, ha46, ha49]; exact f0, hsy, hct, ⟨L8, by rw [ha8]; exact f8⟩, ⟨R7, by rw [ha7]; exact f7, fun j hj => by
            have e9 : j = 0 := by omega
            subst e9; exact hR⟩, ⟨gr, by rw [ha9]; exact f9, hgr⟩, fun j hj => by
            obtain ⟨x1, x2, h9, -⟩ := hsu j hj
            exact ⟨_, x1, x2, _, h9⟩, fun j hj => absurd hj (by omega), by omega, fun _ _ => hN0, by omega⟩) hP hD hS d_MG_init_156
        · have hi12 := hc
          obtain ⟨ha0, ha1, ha4, ha7, ha8, ha9⟩ := ha
          refine lv_aload_n (pc := 94) C0.1 C0.2.1 d_MG_init_94 rfl (lv_at hl 0 rfl) ?_
          refine mg_get (pc := 95) C0 in_MG hK hP (0) f0 rfl 4 (by decide) fl_MG_38 rfl d_MG_init_95 ?_
          refine lv_iload (pc := 98) C0.1 C0.2.1 d_MG_init_98 (lv_at hl 2 rfl) ?_
          have hln : ws.length = 10 + 3 * i := by
            obtain ⟨x9, h9⟩ := hpv
            have h8 := mg_len (k := 9 + 3 * i) (by rw [show 9 + 3 * i + 1 = 10 + 3 * i by omega]; exact (hfm _ (Nat.le_refl _)).trans (hz _ (by omega))) h9
            omega
          have hem : ws[11 + 3 * i]? = none := (hfm _ (by omega)).trans (hz _ (by omega))
          have heg : ws[12 + 3 * i]? = none := (hfm _ (by omega)).trans (hz _ (by omega))
          have hfm : ∀ j, 13 + 3 * i ≤ j → ws[j]? = ws0[j]? := fun j hj => hfm j (by omega)
          refine mg_new (pc := 100) (k := 10 + 3 * i) (ci := 2) (fs := [.int (nI 0), .null, .null, .null, .int (nI 0), .null]) C0 in_SU t_SU_ok (gw_t1 85 rfl rfl) (gw_t1 87 rfl rfl) (gw_t1 4 rfl rfl) hK hP hD hS hA rfl (fun j hj => by
            rcases (show j = 0 ∨ j = 1 ∨ j = 2 ∨ j = 3 ∨ j = 4 ∨ j = 5 by omega) with rfl | rfl | rfl | rfl | rfl | rfl <;> rfl) (hln) (show 9 + 3 * i + 1 ≤ 51 by omega) (show 5156 + 28 * i + 6 ≤ 5548 by omega) d_MG_init_100 (fun qo ws H hfr fo hP hD hS => ?_)
          have f0 := (hfr (0) (by omega)).trans f0
          have f7 := (hfr (7) (by omega)).trans f7
          have f8 := (hfr (8) (by omega)).trans f8
          have f9 := (hfr (9) (by omega)).trans f9
          have hem := (hfr (11 + 3 * i) (by omega)).trans hem
          have heg := (hfr (12 + 3 * i) (by omega)).trans heg
          have hsy := sy_fr (hfr (1) (by omega)) (hfr (2) (by omega)) (hfr (3) (by omega)) hsy
          have hct := ct_fr (hfr (4) (by omega)) (hfr (5) (by omega)) (hfr (6) (by omega)) hct
          have hfm : ∀ j, 13 + 3 * i ≤ j → ws[j]? = ws0[j]? := fun j hj => (hfr j (by omega)).trans (hfm j hj)
          have hsu := fun j (hj : j < i) => su_fr (hfr _ (by omega)) (hfr _ (by omega)) (hfr _ (by omega)) (hsu j hj)
          refine lv_dup (pc := 103) C0.1 C0.2.1 d_MG_init_103 rfl ?_
          refine lv_aload_n (pc := 104) C0.1 C0.2.1 d_MG_init_104 rfl (lv_at hl 0 rfl) ?_
          refine mg_get (pc := 105) C0 in_MG hK hP (0) f0 rfl 0 (by decide) fl_MG_14 rfl d_MG_init_105 ?_
          refine lv_aload_n (pc := 108) C0.1 C0.2.1 d_MG_init_108 rfl (lv_at hl 1 rfl) ?_
          have hC := c_SU_init l D ca ad h2 h6 (i := i) (qo := qo) ws
          have f1 := hsy.1
          rw [ha1] at hC f1
          rw [ha8] at hC
          refine mg_inR (pc := 109) (As := [.ref (q1), .ref (q8)]) (rest := [.ref (qo), .int (nI (i)), .ref (q9)]) C0 (hC f1 fo hem heg) lk_MG_42 rfl ⟨Nat.le_of_ble_eq_true rfl, Nat.le_of_ble_eq_true rfl⟩ ⟨show 9 + 3 * i + 1 + 2 ≤ 51 by omega, show 5156 + 28 * i + 6 + ((pm_fc n + 63) / 64 + 10) ≤ 5548 by omega⟩ hK hP hD hS hA rfl hl.1 rfl (Nat.le_of_ble_eq_true rfl) d_MG_init_109 (fun ws H locs hpost hP hD hS => ?_)
          obtain ⟨hfr, ad1, ho, hag, hsu1⟩ := hpost
          have f0 := (hfr (0) (by omega)).trans f0
          have f7 := (hfr (7) (by omega)).trans f7
          have f8 := (hfr (8) (by omega)).trans f8
          have f9 := (hfr (9) (by omega)).trans f9
          have hsy := sy_fr (hfr (1) (by omega)) (hfr (2) (by omega)) (hfr (3) (by omega)) hsy
          have hct := ct_fr (hfr (4) (by omega)) (hfr (5) (by omega)) (hfr (6) (by omega)) hct
          have hfm : ∀ j, 13 + 3 * i ≤ j → ws[j]? = ws0[j]? := fun j hj => (hfr j (by omega)).trans (hfm j hj)
          have hsu := fun j (hj : j < i) => su_fr (hfr _ (by omega)) (hfr _ (by omega)) (hfr _ (by omega)) (hsu j hj)
          have hsu9 := hsu1
          obtain ⟨fm_, fg_, ⟨fo, -, fg9⟩, -⟩ := hsu9
          rw [ho] at fo
          refine mg_ast (pc := 112) C0 hK hP hD hS 9 4 (10 + 3 * i) 2 f9 rfl fo rfl hi12 (by decide) d_MG_init_112 (fun ws H locs hfr f9 hP hD hS => ?_)
          have f0 := (hfr (0) (by omega)).trans f0
          have f7 := (hfr (7) (by omega)).trans f7
          have f8 := (hfr (8) (by omega)).trans f8
          have hsy := sy_fr (hfr (1) (by omega)) (hfr (2) (by omega)) (hfr (3) (by omega)) hsy
          have hct := ct_fr (hfr (4) (by omega)) (hfr (5) (by omega)) (hfr (6) (by omega)) hct
          have hfm : ∀ j, 13 + 3 * i ≤ j → ws[j]? = ws0[j]? := fun j hj => (hfr j (by omega)).trans (hfm j hj)
          have hsu := fun j (hj : j < i) => su_fr (hfr _ (by omega)) (hfr _ (by omega)) (hfr _ (by omega)) (hsu j hj)
          have hsu1 := su_fr (hfr _ (by omega)) (hfr _ (by omega)) (hfr _ (by omega)) hsu1
          have fg9 := (hfr (12 + 3 * i) (by omega)).trans fg9
          refine lv_iinc (pc := 113) (k := 2) (v := nI (i + 1)) (lv' := [(4, .int (nI (i + 1))), (0, .ref (q0)), (3, .ref (q8))]) C0.1 C0.2.1 d_MG_init_113 hl rfl (nb_p1 _) (by decide) rfl (fun ls hl => ?_)
          refine lv_goto (pc := 116) (tgt := 87) C0.1 C0.2.1 d_MG_init_116 (by decide) ?_
          refine W.widen (k := 9 + 3 * (i + 1)) (n := 5156 + 28 * (i + 1)) (by omega) (by omega) ?_
          exact ih_loop _ (by omega) (i + 1) ad1 _ R7 L8 _ _ _ _ rfl (by omega) (⟨(hag 0 (by omega)).trans ha0, (hag 1 (by omega)).trans ha1, (hag 4 (by omega)).trans ha4, (hag 7 (by omega)).trans ha7, (hag 8 (by omega)).trans ha8, (hag 9 (by omega)).trans ha9⟩) hR (sy_ad (hag 1 (by omega)) (hag 2 (by omega)) (hag 3 (by omega)) hsy) (ct_ad (hag 4 (by omega)) (hag 5 (by omega)) (hag 6 (by omega)) hct) (fun j hj => by
            by_cases e9 : j = i
            · subst e9; rw [ho]; exact if_pos rfl
            · rw [hag _ (by omega)]; exact (if_neg e9).trans (hgr j (by omega))) (fun j hj => by
            by_cases e9 : j = i
            · subst e9; exact hsu1
            · exact su_ad (hag 1 (by omega)) (hag 8 (by omega)) (hag _ (by omega)) (hag _ (by omega)) (hag _ (by omega)) (hsu j (by omega))) (⟨_, by rw [show 9 + 3 * (i + 1) = 12 + 3 * i by omega]; exact fg9⟩) (fun j hj => hfm j (by omega)) f0 f7 f8 f9 (lv_sub hl [1, 2, 0] rfl) hP hD hS
    exact loop _ 0 (mg_ad10 q0 q1 q2 q3 q4 q5 q6 q7 q8 q9) _ _ _ _ _ _ _ rfl (by omega) (⟨rfl, rfl, rfl, rfl, rfl, rfl⟩) pk_us hsy hct (fun j hj => absurd hj (by omega)) (fun j hj => absurd hj (by omega)) (⟨_, f9⟩) hfm f0 f7 f8 f9 (lv_sub hl [3, 1, 0] rfl) hP hD hS
  · refine lv_iload_n (pc := 9) C0.1 C0.2.1 d_MG_init_9 rfl (lv_at hl 1 rfl) ?_
    refine lv_bipush (pc := 10) (v := nI (6)) C0.1 C0.2.1 d_MG_init_10 (by decide +kernel) ?_
    refine lv_icmp_gt (pc := 12) (tgt := 19) C0.1 C0.2.1 d_MG_init_12 (by decide) (fun hc2 => ?_) (fun hc2 => ?_)
    · refine lv_iconst (pc := 19) (v := nI (4)) C0.1 C0.2.1 d_MG_init_19 (by decide +kernel) ?_
      refine mg_top (show nI (4) = nI (n) from by rw [h4]) ?_
      refine lv_istore_n (pc := 20) (lv' := [(2, .int (nI (n))), (0, .ref (q0)), (1, .int (x))]) C0.1 C0.2.1 d_MG_init_20 rfl hl (by decide) rfl (fun ls hl => ?_)
      refine lv_aload_n (pc := 21) C0.1 C0.2.1 d_MG_init_21 rfl (lv_at hl 1 rfl) ?_
      refine mg_new (pc := 22) (k := 1) (ci := 1) (fs := [.int (nI 0), .int (nI 0), .null, .null]) C0 in_SY t_SY_ok (gw_t1 17 rfl rfl) (gw_t1 18 rfl rfl) (gw_t1 2 rfl rfl) hK hP hD hS hA rfl (fun j hj => by
        rcases (show j = 0 ∨ j = 1 ∨ j = 2 ∨ j = 3 by omega) with rfl | rfl | rfl | rfl <;> rfl) (mg_len fn1 f0) (show 0 + 1 ≤ 51 by omega) (show 0 + 4 ≤ 5548 by omega) d_MG_init_22 (fun q1 ws H hfr f1 hP hD hS => ?_)
      have f0 := (hfr (0) (by omega)).trans f0
      have fn2 := (hfr (2) (by omega)).trans fn2
      have fn3 := (hfr (3) (by omega)).trans fn3
      have fn4 := (hfr (4) (by omega)).trans fn4
      have fn5 := (hfr (5) (by omega)).trans fn5
      have fn6 := (hfr (6) (by omega)).trans fn6
      have fn7 := (hfr (7) (by omega)).trans fn7
      have fn8 := (hfr (8) (by omega)).trans fn8
      have fn9 := (hfr (9) (by omega)).trans fn9
      have hfm : ∀ j, 10 ≤ j → ws[j]? = ws0[j]? := fun j hj => (hfr j (by omega)).trans (hfm j hj)
      refine lv_dup (pc := 25) C0.1 C0.2.1 d_MG_init_25 rfl ?_
      refine lv_iload_n (pc := 26) C0.1 C0.2.1 d_MG_init_26 rfl (lv_at hl 0 rfl) ?_
      refine mg_inR (pc := 27) (As := [.int (nI (n))]) (rest := [.ref (q1), .ref (q0)]) C0 (c_SY_init l D ca h2 h6 ws f1 fn2 fn3) lk_MG_11 rfl ⟨Nat.le_of_ble_eq_true rfl, Nat.le_of_ble_eq_true rfl⟩ ⟨show 0 + 1 + 2 ≤ 51 by omega, show 0 + 4 + (pm_fc n * n + n) ≤ 5548 by omega⟩ hK hP hD hS hA rfl hl.1 rfl (Nat.le_of_ble_eq_true rfl) d_MG_init_27 (fun ws H locs hpost hP hD hS => ?_)
      obtain ⟨hfr, q2, q3, hsy⟩ := hpost
      have f0 := (hfr (0) (by omega)).trans f0
      have fn4 := (hfr (4) (by omega)).trans fn4
      have fn5 := (hfr (5) (by omega)).trans fn5
      have fn6 := (hfr (6) (by omega)).trans fn6
      have fn7 := (hfr (7) (by omega)).trans fn7
      have fn8 := (hfr (8) (by omega)).trans fn8
      have fn9 := (hfr (9) (by omega)).trans fn9
      have hfm : ∀ j, 10 ≤ j → ws[j]? = ws0[j]? := fun j hj => (hfr j (by omega)).trans (hfm j hj)
      refine mg_putF (pc := 30) C0 hnm in_MG t_MG_ok n_MG hK hP hD hS (0) f0 rfl 0 (by decide) fl_MG_14 rfl rfl (ty := .object "MotionGroups$Symmetry") (by decide +kernel) rfl rfl (Nat.le_of_ble_eq_true rfl) (fs' := [.ref (q1), .null, .null, .int (nI 0), .null, .int (nI 0), .null, .null]) rfl d_MG_init_30 (fun ws H locs hfr f0 hP hD hS => ?_)
      have fn4 := (hfr (4) (by omega)).trans fn4
      have fn5 := (hfr (5) (by omega)).trans fn5
      have fn6 := (hfr (6) (by omega)).trans fn6
      have fn7 := (hfr (7) (by omega)).trans fn7
      have fn8 := (hfr (8) (by omega)).trans fn8
      have fn9 := (hfr (9) (by omega)).trans fn9
      have hsy := sy_fr (hfr (1) (by omega)) (hfr (2) (by omega)) (hfr (3) (by omega)) hsy
      have hfm : ∀ j, 10 ≤ j → ws[j]? = ws0[j]? := fun j hj => (hfr j (by omega)).trans (hfm j hj)
      refine lv_aload_n (pc := 33) C0.1 C0.2.1 d_MG_init_33 rfl (lv_at hl 1 rfl) ?_
      obtain ⟨f9, f3, -⟩ := (⟨_, hsy.2.2.choose_spec, trivial⟩ : ∃ f9 : Nat → Int32, ws[3]? = some (q3, .inl (ca 1, n, .inl f9)) ∧ True)
      refine mg_new (pc := 34) (k := 4) (ci := 3) (fs := [.null, .int (nI 0), .null, .int (nI 0), .int (nI 0), .int (nI 0), .int (nI 0), .int (nI 0)]) C0 in_CT t_CT_ok (gw_t1 52 rfl rfl) (gw_t1 53 rfl rfl) (gw_t1 3 rfl rfl) hK hP hD hS hA rfl (fun j hj => by
        rcases (show j = 0 ∨ j = 1 ∨ j = 2 ∨ j = 3 ∨ j = 4 ∨ j = 5 ∨ j = 6 ∨ j = 7 by omega) with rfl | rfl | rfl | rfl | rfl | rfl | rfl | rfl <;> rfl) (mg_len fn4 f3) (show 0 + 1 + 2 + 1 ≤ 51 by omega) (show 0 + 4 + (pm_fc n * n + n) + 8 ≤ 5548 by omega) d_MG_init_34 (fun q4 ws H hfr f4 hP hD hS => ?_)
      have f0 := (hfr (0) (by omega)).trans f0
      have fn5 := (hfr (5) (by omega)).trans fn5
      have fn6 := (hfr (6) (by omega)).trans fn6
      have fn7 := (hfr (7) (by omega)).trans fn7
      have fn8 := (hfr (8) (by omega)).trans fn8
      have fn9 := (hfr (9) (by omega)).trans fn9
      have hsy := sy_fr (hfr (1) (by omega)) (hfr (2) (by omega)) (hfr (3) (by omega)) hsy
      have hfm : ∀ j, 10 ≤ j → ws[j]? = ws0[j]? := fun j hj => (hfr j (by omega)).trans (hfm j hj)
      refine lv_dup (pc := 37) C0.1 C0.2.1 d_MG_init_37 rfl ?_
      refine lv_iload_n (pc := 38) C0.1 C0.2.1 d_MG_init_38 rfl (lv_at hl 0 rfl) ?_
      refine mg_inR (pc := 39) (As := [.int (nI (n))]) (rest := [.ref (q4), .ref (q0)]) C0 (c_CT_init l D ca h2 h6 (tx := tx) ws f4 fn5 fn6) lk_MG_20 rfl ⟨Nat.le_of_ble_eq_true rfl, Nat.le_of_ble_eq_true rfl⟩ ⟨show 0 + 1 + 2 + 1 + 2 ≤ 51 by omega, show 0 + 4 + (pm_fc n * n + n) + 8 + (n + 40) ≤ 5548 by omega⟩ hK hP hD hS hA rfl hl.1 rfl (Nat.le_of_ble_eq_true rfl) d_MG_init_39 (fun ws H locs hpost hP hD hS => ?_)
      obtain ⟨hfr, q5, q6, hct⟩ := hpost
      have f0 := (hfr (0) (by omega)).trans f0
      have fn7 := (hfr (7) (by omega)).trans fn7
      have fn8 := (hfr (8) (by omega)).trans fn8
      have fn9 := (hfr (9) (by omega)).trans fn9
      have hsy := sy_fr (hfr (1) (by omega)) (hfr (2) (by omega)) (hfr (3) (by omega)) hsy
      have hfm : ∀ j, 10 ≤ j → ws[j]? = ws0[j]? := fun j hj => (hfr j (by omega)).trans (hfm j hj)
      refine mg_putF (pc := 42) C0 hnm in_MG t_MG_ok n_MG hK hP hD hS (0) f0 rfl 1 (by decide) fl_MG_21 rfl rfl (ty := .object "MotionGroups$CycleText") (by decide +kernel) rfl rfl (Nat.le_of_ble_eq_true rfl) (fs' := [.ref (q1), .ref (q4), .null, .int (nI 0), .null, .int (nI 0), .null, .null]) rfl d_MG_init_42 (fun ws H locs hfr f0 hP hD hS => ?_)
      have fn7 := (hfr (7) (by omega)).trans fn7
      have fn8 := (hfr (8) (by omega)).trans fn8
      have fn9 := (hfr (9) (by omega)).trans fn9
      have hsy := sy_fr (hfr (1) (by omega)) (hfr (2) (by omega)) (hfr (3) (by omega)) hsy
      have hct := ct_fr (hfr (4) (by omega)) (hfr (5) (by omega)) (hfr (6) (by omega)) hct
      have hfm : ∀ j, 10 ≤ j → ws[j]? = ws0[j]? := fun j hj => (hfr j (by omega)).trans (hfm j hj)
      refine lv_aload_n (pc := 45) C0.1 C0.2.1 d_MG_init_45 rfl (lv_at hl 1 rfl) ?_
      refine lv_bipush (pc := 46) (v := nI (40)) C0.1 C0.2.1 d_MG_init_46 (by decide +kernel) ?_
      obtain ⟨T9, f6, -⟩ := hct.2.2.1
      refine mg_newa (pc := 48) (ty := .int) (k := 7) (N' := 40) (cA := ca 1) (a0 := (40, .inl (fun _ => nI 0))) C0 (gw_t1 51 rfl rfl) rfl (fun c9 h9 => Option.some.inj (h9.symm.trans (hK.2 1 _ rfl).2)) hK hP hD hS hA (fun _ => rfl) (by omega) (by rw [show componentBytes .int = 4 from rfl]; omega) (mg_len fn7 f6) (show 0 + 1 + 2 + 1 + 2 + 1 ≤ 51 by omega) (show 0 + 4 + (pm_fc n * n + n) + 8 + (n + 40) + 40 ≤ 5548 by omega) d_MG_init_48 (fun q7 ws H hfr f7 hP hD hS => ?_)
      have f0 := (hfr (0) (by omega)).trans f0
      have fn8 := (hfr (8) (by omega)).trans fn8
      have fn9 := (hfr (9) (by omega)).trans fn9
      have f6 := (hfr (6) (by omega)).trans f6
      have hsy := sy_fr (hfr (1) (by omega)) (hfr (2) (by omega)) (hfr (3) (by omega)) hsy
      have hct := ct_fr (hfr (4) (by omega)) (hfr (5) (by omega)) (hfr (6) (by omega)) hct
      have hfm : ∀ j, 10 ≤ j → ws[j]? = ws0[j]? := fun j hj => (hfr j (by omega)).trans (hfm j hj)
      refine mg_putF (pc := 50) C0 hnm in_MG t_MG_ok n_MG hK hP hD hS (0) f0 rfl 2 (by decide) fl_MG_25 rfl rfl (ty := .array (.int)) (by decide +kernel) rfl rfl (Nat.le_of_ble_eq_true rfl) (fs' := [.ref (q1), .ref (q4), .ref (q7), .int (nI 0), .null, .int (nI 0), .null, .null]) rfl d_MG_init_50 (fun ws H locs hfr f0 hP hD hS => ?_)
      have fn8 := (hfr (8) (by omega)).trans fn8
      have fn9 := (hfr (9) (by omega)).trans fn9
      have f6 := (hfr (6) (by omega)).trans f6
      have f7 := (hfr (7) (by omega)).trans f7
      have hsy := sy_fr (hfr (1) (by omega)) (hfr (2) (by omega)) (hfr (3) (by omega)) hsy
      have hct := ct_fr (hfr (4) (by omega)) (hfr (5) (by omega)) (hfr (6) (by omega)) hct
      have hfm : ∀ j, 10 ≤ j → ws[j]? = ws0[j]? := fun j hj => (hfr j (by omega)).trans (hfm j hj)
      refine lv_aload_n (pc := 53) C0.1 C0.2.1 d_MG_init_53 rfl (lv_at hl 1 rfl) ?_
      refine mg_get (pc := 54) C0 in_MG hK hP (0) f0 rfl 2 (by decide) fl_MG_25 rfl d_MG_init_54 ?_
      refine lv_iconst (pc := 57) (v := nI (0)) C0.1 C0.2.1 d_MG_init_57 (by decide +kernel) ?_
      refine lv_iconst (pc := 58) (v := nI (0)) C0.1 C0.2.1 d_MG_init_58 (by decide +kernel) ?_
      refine mg_ist (pc := 59) C0 hK hP hD hS (7) 1 f7 rfl (j := 0) (by omega) (by omega) d_MG_init_59 (fun ws H locs hfr f7 hP hD hS => ?_)
      have f0 := (hfr (0) (by omega)).trans f0
      have fn8 := (hfr (8) (by omega)).trans fn8
      have fn9 := (hfr (9) (by omega)).trans fn9
      have f6 := (hfr (6) (by omega)).trans f6
      have hsy := sy_fr (hfr (1) (by omega)) (hfr (2) (by omega)) (hfr (3) (by omega)) hsy
      have hct := ct_fr (hfr (4) (by omega)) (hfr (5) (by omega)) (hfr (6) (by omega)) hct
      have hfm : ∀ j, 10 ≤ j → ws[j]? = ws0[j]? := fun j hj => (hfr j (by omega)).trans (hfm j hj)
      refine lv_aload_n (pc := 60) C0.1 C0.2.1 d_MG_init_60 rfl (lv_at hl 1 rfl) ?_
      refine lv_iconst (pc := 61) (v := nI (1)) C0.1 C0.2.1 d_MG_init_61 (by decide +kernel) ?_
      refine mg_put (pc := 62) C0 in_MG t_MG_ok n_MG hK hP hD hS (0) f0 rfl 3 (by decide) fl_MG_29 rfl (ty := .int) (by decide +kernel) rfl rfl (Nat.le_of_ble_eq_true rfl) (fs' := [.ref (q1), .ref (q4), .ref (q7), .int (nI (1)), .null, .int (nI 0), .null, .null]) rfl d_MG_init_62 (fun ws H locs hfr f0 hP hD hS => ?_)
      have fn8 := (hfr (8) (by omega)).trans fn8
      have fn9 := (hfr (9) (by omega)).trans fn9
      have f6 := (hfr (6) (by omega)).trans f6
      have f7 := (hfr (7) (by omega)).trans f7
      have hsy := sy_fr (hfr (1) (by omega)) (hfr (2) (by omega)) (hfr (3) (by omega)) hsy
      have hct := ct_fr (hfr (4) (by omega)) (hfr (5) (by omega)) (hfr (6) (by omega)) hct
      have hfm : ∀ j, 10 ≤ j → ws[j]? = ws0[j]? := fun j hj => (hfr j (by omega)).trans (hfm j hj)
      refine lv_aload_n (pc := 65) C0.1 C0.2.1 d_MG_init_65 rfl (lv_at hl 1 rfl) ?_
      have f1 : ws[1]? = some (q1, .inr (1, [.int (nI (n)), .int (nI (pm_fc n)), .ref (q2), .ref (q3)])) := hsy.1
      refine mg_get (pc := 66) C0 in_MG hK hP (0) f0 rfl 0 (by decide) fl_MG_14 rfl d_MG_init_66 ?_
      refine mg_get (pc := 69) C0 in_SY hK hP (1) f1 rfl 1 (by decide) fl_MG_33 rfl d_MG_init_69 ?_
      refine mg_newa (pc := 72) (ty := .int) (k := 8) (N' := pm_fc n) (cA := ca 1) (a0 := (pm_fc n, .inl (fun _ => nI 0))) C0 (gw_t1 51 rfl rfl) rfl (fun c9 h9 => Option.some.inj (h9.symm.trans (hK.2 1 _ rfl).2)) hK hP hD hS hA (fun _ => rfl) (by omega) (by rw [show componentBytes .int = 4 from rfl]; omega) (mg_len fn8 f7) (show 0 + 1 + 2 + 1 + 2 + 1 + 1 ≤ 51 by omega) (show 0 + 4 + (pm_fc n * n + n) + 8 + (n + 40) + 40 + (pm_fc n) ≤ 5548 by omega) d_MG_init_72 (fun q8 ws H hfr f8 hP hD hS => ?_)
      have f0 := (hfr (0) (by omega)).trans f0
      have fn9 := (hfr (9) (by omega)).trans fn9
      have f6 := (hfr (6) (by omega)).trans f6
      have f7 := (hfr (7) (by omega)).trans f7
      have f1 := (hfr (1) (by omega)).trans f1
      have hsy := sy_fr (hfr (1) (by omega)) (hfr (2) (by omega)) (hfr (3) (by omega)) hsy
      have hct := ct_fr (hfr (4) (by omega)) (hfr (5) (by omega)) (hfr (6) (by omega)) hct
      have hfm : ∀ j, 10 ≤ j → ws[j]? = ws0[j]? := fun j hj => (hfr j (by omega)).trans (hfm j hj)
      refine lv_astore_n (pc := 74) (lv' := [(3, .ref (q8)), (2, .int (nI (n))), (0, .ref (q0)), (1, .int (x))]) C0.1 C0.2.1 d_MG_init_74 rfl hl (by decide) rfl (fun ls hl => ?_)
      refine lv_aload_n (pc := 75) C0.1 C0.2.1 d_MG_init_75 rfl (lv_at hl 2 rfl) ?_
      refine lv_bipush (pc := 76) (v := nI (12)) C0.1 C0.2.1 d_MG_init_76 (by decide +kernel) ?_
      refine mg_newqA (pc := 78) (C := R_SU) (k := 9) (N' := 12) (cA := ca 4) C0 (gw_t1 85 rfl rfl) hao (fun c9 h9 => by
        obtain ⟨_, _, _, _, _, h9⟩ := h9
        obtain ⟨_, _, _, _, _, h8⟩ := (hK.2 4 _ rfl).2
        exact Option.some.inj (h9.symm.trans h8)) hK hP hD hS hA (by omega) (by omega) (mg_len fn9 f8) (show 0 + 1 + 2 + 1 + 2 + 1 + 1 + 1 ≤ 51 by omega) (show 0 + 4 + (pm_fc n * n + n) + 8 + (n + 40) + 40 + (pm_fc n) + 12 ≤ 5548 by omega) d_MG_init_78 (fun q9 ws H hfr f9 hP hD hS => ?_)
      have f0 := (hfr (0) (by omega)).trans f0
      have f6 := (hfr (6) (by omega)).trans f6
      have f7 := (hfr (7) (by omega)).trans f7
      have f1 := (hfr (1) (by omega)).trans f1
      have f8 := (hfr (8) (by omega)).trans f8
      have hsy := sy_fr (hfr (1) (by omega)) (hfr (2) (by omega)) (hfr (3) (by omega)) hsy
      have hct := ct_fr (hfr (4) (by omega)) (hfr (5) (by omega)) (hfr (6) (by omega)) hct
      have hfm : ∀ j, 10 ≤ j → ws[j]? = ws0[j]? := fun j hj => (hfr j (by omega)).trans (hfm j hj)
      refine mg_putF (pc := 81) C0 hnm in_MG t_MG_ok n_MG hK hP hD hS (0) f0 rfl 4 (by decide) fl_MG_38 rfl rfl (ty := .array (.object "MotionGroups$Subgroup")) (by decide +kernel) rfl rfl (Nat.le_of_ble_eq_true rfl) (fs' := [.ref (q1), .ref (q4), .ref (q7), .int (nI (1)), .ref (q9), .int (nI 0), .null, .null]) rfl d_MG_init_81 (fun ws H locs hfr f0 hP hD hS => ?_)
      have f6 := (hfr (6) (by omega)).trans f6
      have f7 := (hfr (7) (by omega)).trans f7
      have f1 := (hfr (1) (by omega)).trans f1
      have f8 := (hfr (8) (by omega)).trans f8
      have f9 := (hfr (9) (by omega)).trans f9
      have hsy := sy_fr (hfr (1) (by omega)) (hfr (2) (by omega)) (hfr (3) (by omega)) hsy
      have hct := ct_fr (hfr (4) (by omega)) (hfr (5) (by omega)) (hfr (6) (by omega)) hct
      have hfm : ∀ j, 10 ≤ j → ws[j]? = ws0[j]? := fun j hj => (hfr j (by omega)).trans (hfm j hj)
      refine lv_iconst (pc := 84) (v := nI (0)) C0.1 C0.2.1 d_MG_init_84 (by decide +kernel) ?_
      refine lv_istore (pc := 85) (lv' := [(4, .int (nI (0))), (3, .ref (q8)), (2, .int (nI (n))), (0, .ref (q0)), (1, .int (x))]) C0.1 C0.2.1 d_MG_init_85 hl (by decide) rfl (fun ls hl => ?_)
      refine W.widen (k := 9) (n := 5156) (by omega) (by omega) ?_
      have hsy : sy_ok ca (mg_ad10 q0 q1 q2 q3 q4 q5 q6 q7 q8 q9) n ws := sy_ad rfl rfl rfl hsy
      have hct : ct_ok ca (mg_ad10 q0 q1 q2 q3 q4 q5 q6 q7 q8 q9) n ws 0 tx := ct_ad rfl rfl rfl hct
      have loop : ∀ (d : Nat) (i : Nat) (ad : Nat → Nat) (gr : Nat → Option Nat) (R7 : Nat → Int32) (L8 : Nat → Int32) (ws : va_W) (H : Heap) (locs : List Loc) (ls : Array Slot), 12 - i = d → (i ≤ 12) → (ad 0 = q0 ∧ ad 1 = q1 ∧ ad 4 = q4 ∧ ad 7 = q7 ∧ ad 8 = q8 ∧ ad 9 = q9) → (R7 0 = nI 0) → (sy_ok ca ad n ws) → (ct_ok ca ad n ws 0 tx) → (∀ j, j < i → gr j = some (ad (10 + 3 * j))) → (∀ j, j < i → su_ok ca ad n j ws su_one (fun _ => 0) 0) → (∃ x9, ws[9 + 3 * i]? = some x9) → (∀ j, 10 + 3 * i ≤ j → ws[j]? = ws0[j]?) → ws[0]? = some (q0, .inr (0, [.ref (q1), .ref (q4), .ref (q7), .int (nI (1)), .ref (q9), .int (nI 0), .null, .null])) → ws[7]? = some (q7, .inl (ca 1, 40, .inl (R7))) → ws[8]? = some (q8, .inl (ca 1, pm_fc n, .inl (L8))) → ws[9]? = some (q9, .inl (ca 4, 12, .inr (.inr (.inr (.inr (gr)))))) → lv_has ls 5 [(0, .ref (q0)), (3, .ref (q8)), (4, .int (nI (i)))] → va_P D classes ws H → va_D A ws → va_S A s.heap H locs → W p l e (mg_rn 4 51 (5548)) s m args below meth c H locs (9 + 3 * i) (5156 + 28 * i) Q (F0 m 87 ls []) := by
        intro d
        induction d using Nat.strongRecOn with
        | _ d ih_loop =>
          intro i ad gr R7 L8 ws H locs ls hd hi ha hR hsy hct hgr hsu hpv hfm f0 f7 f8 f9 hl hP hD hS
          refine lv_iload (pc := 87) C0.1 C0.2.1 d_MG_init_87 (lv_at hl 2 rfl) ?_
          refine lv_bipush (pc := 89) (v := nI (12)) C0.1 C0.2.1 d_MG_init_89 (by decide +kernel) ?_
          refine mb_ge (pc := 91) (tgt := 119) C0 (by omega) (by omega) d_MG_init_91 (by decide) (fun hc => ?_) (fun hc => ?_)
          · have hi9 : i = 12 := by omega
            subst hi9
            obtain ⟨ha0, ha1, ha4, ha7, ha8, ha9⟩ := ha
            refine lv_aload_n (pc := 119) C0.1 C0.2.1 d_MG_init_119 rfl (lv_at hl 0 rfl) ?_
            refine lv_iconst (pc := 120) (v := nI (0)) C0.1 C0.2.1 d_MG_init_120 (by decide +kernel) ?_
            refine mg_put (pc := 121) C0 in_MG t_MG_ok n_MG hK hP hD hS (0) f0 rfl 5 (by decide) fl_MG_45 rfl (ty := .int) (by decide +kernel) rfl rfl (Nat.le_of_ble_eq_true rfl) (fs' := [.ref (q1), .ref (q4), .ref (q7), .int (nI (1)), .ref (q9), .int (nI (0)), .null, .null]) rfl d_MG_init_121 (fun ws H locs hfr f0 hP hD hS => ?_)
            have f7 := (hfr (7) (by omega)).trans f7
            have f8 := (hfr (8) (by omega)).trans f8
            have f9 := (hfr (9) (by omega)).trans f9
            have hsy := sy_fr (hfr (1) (by omega)) (hfr (2) (by omega)) (hfr (3) (by omega)) hsy
            have hct := ct_fr (hfr (4) (by omega)) (hfr (5) (by omega)) (hfr (6) (by omega)) hct
            have hfm : ∀ j, 10 + 3 * 12 ≤ j → ws[j]? = ws0[j]? := fun j hj => (hfr j (by omega)).trans (hfm j hj)
            have hsu := fun j (hj : j < 12) => su_fr (hfr _ (by omega)) (hfr _ (by omega)) (hfr _ (by omega)) (hsu j hj)
            have hpv : ∃ x9, ws[9 + 3 * 12]? = some x9 := by
              obtain ⟨x9, h9⟩ := hpv
              exact ⟨x9, (hfr _ (by omega)).trans h9⟩
            refine lv_aload_n (pc := 124) C0.1 C0.2.1 d_MG_init_124 rfl (lv_at hl 0 rfl) ?_
            have hln : ws.length = 10 + 3 * 12 := by
              obtain ⟨x9, h9⟩ := hpv
              have h8 := mg_len (k := 9 + 3 * 12) (by rw [show 9 + 3 * 12 + 1 = 10 + 3 * 12 by omega]; exact (hfm _ (Nat.le_refl _)).trans (hz _ (by omega))) h9
              omega
            have hem : ws[11 + 3 * 12]? = none := (hfm _ (by omega)).trans (hz _ (by omega))
            have heg : ws[12 + 3 * 12]? = none := (hfm _ (by omega)).trans (hz _ (by omega))
            have hfm : ∀ j, 13 + 3 * 12 ≤ j → ws[j]? = ws0[j]? := fun j hj => hfm j (by omega)
            refine mg_new (pc := 125) (k := 10 + 3 * 12) (ci := 2) (fs := [.int (nI 0), .null, .null, .null, .int (nI 0), .null]) C0 in_SU t_SU_ok (gw_t1 85 rfl rfl) (gw_t1 87 rfl rfl) (gw_t1 4 rfl rfl) hK hP hD hS hA rfl (fun j hj => by
              rcases (show j = 0 ∨ j = 1 ∨ j = 2 ∨ j = 3 ∨ j = 4 ∨ j = 5 by omega) with rfl | rfl | rfl | rfl | rfl | rfl <;> rfl) (hln) (show 9 + 3 * 12 + 1 ≤ 51 by omega) (show 5156 + 28 * 12 + 6 ≤ 5548 by omega) d_MG_init_125 (fun qe ws H hfr fo hP hD hS => ?_)
            have f0 := (hfr (0) (by omega)).trans f0
            have f7 := (hfr (7) (by omega)).trans f7
            have f8 := (hfr (8) (by omega)).trans f8
            have f9 := (hfr (9) (by omega)).trans f9
            have hem := (hfr (11 + 3 * 12) (by omega)).trans hem
            have heg := (hfr (12 + 3 * 12) (by omega)).trans heg
            have hsy := sy_fr (hfr (1) (by omega)) (hfr (2) (by omega)) (hfr (3) (by omega)) hsy
            have hct := ct_fr (hfr (4) (by omega)) (hfr (5) (by omega)) (hfr (6) (by omega)) hct
            have hfm : ∀ j, 13 + 3 * 12 ≤ j → ws[j]? = ws0[j]? := fun j hj => (hfr j (by omega)).trans (hfm j hj)
            have hsu := fun j (hj : j < 12) => su_fr (hfr _ (by omega)) (hfr _ (by omega)) (hfr _ (by omega)) (hsu j hj)
            refine lv_dup (pc := 128) C0.1 C0.2.1 d_MG_init_128 rfl ?_
            refine lv_aload_n (pc := 129) C0.1 C0.2.1 d_MG_init_129 rfl (lv_at hl 0 rfl) ?_
            refine mg_get (pc := 130) C0 in_MG hK hP (0) f0 rfl 0 (by decide) fl_MG_14 rfl d_MG_init_130 ?_
            refine lv_aload_n (pc := 133) C0.1 C0.2.1 d_MG_init_133 rfl (lv_at hl 1 rfl) ?_
            have hC := c_SU_init l D ca ad h2 h6 (i := 12) (qo := qe) ws
            have f1 := hsy.1
            rw [ha1] at hC f1
            rw [ha8] at hC
            refine mg_inR (pc := 134) (As := [.ref (q1), .ref (q8)]) (rest := [.ref (qe), .ref (q0)]) C0 (hC f1 fo hem heg) lk_MG_42 rfl ⟨Nat.le_of_ble_eq_true rfl, Nat.le_of_ble_eq_true rfl⟩ ⟨show 9 + 3 * 12 + 1 + 2 ≤ 51 by omega, show 5156 + 28 * 12 + 6 + ((pm_fc n + 63) / 64 + 10) ≤ 5548 by omega⟩ hK hP hD hS hA rfl hl.1 rfl (Nat.le_of_ble_eq_true rfl) d_MG_init_134 (fun ws H locs hpost hP hD hS => ?_)
            obtain ⟨hfr, ad1, ho, hag, hsu1⟩ := hpost
            have f0 := (hfr (0) (by omega)).trans f0
            have f7 := (hfr (7) (by omega)).trans f7
            have f8 := (hfr (8) (by omega)).trans f8
            have f9 := (hfr (9) (by omega)).trans f9
            have hsy := sy_fr (hfr (1) (by omega)) (hfr (2) (by omega)) (hfr (3) (by omega)) hsy
            have hct := ct_fr (hfr (4) (by omega)) (hfr (5) (by omega)) (hfr (6) (by omega)) hct
            have hfm : ∀ j, 13 + 3 * 12 ≤ j → ws[j]? = ws0[j]? := fun j hj => (hfr j (by omega)).trans (hfm j hj)
            have hsu := fun j (hj : j < 12) => su_fr (hfr _ (by omega)) (hfr _ (by omega)) (hfr _ (by omega)) (hsu j hj)
            refine mg_putF (pc := 137) C0 hnm in_MG t_MG_ok n_MG hK hP hD hS (0) f0 rfl 6 (by decide) fl_MG_48 rfl rfl (ty := .object "MotionGroups$Subgroup") (by decide +kernel) rfl rfl (Nat.le_of_ble_eq_true rfl) (fs' := [.ref (q1), .ref (q4), .ref (q7), .int (nI (1)), .ref (q9), .int (nI (0)), .ref (qe), .null]) rfl d_MG_init_137 (fun ws H locs hfr f0 hP hD hS => ?_)
            have f7 := (hfr (7) (by omega)).trans f7
            have f8 := (hfr (8) (by omega)).trans f8
            have f9 := (hfr (9) (by omega)).trans f9
            have hsy := sy_fr (hfr (1) (by omega)) (hfr (2) (by omega)) (hfr (3) (by omega)) hsy
            have hct := ct_fr (hfr (4) (by omega)) (hfr (5) (by omega)) (hfr (6) (by omega)) hct
            have hfm : ∀ j, 13 + 3 * 12 ≤ j → ws[j]? = ws0[j]? := fun j hj => (hfr j (by omega)).trans (hfm j hj)
            have hsu := fun j (hj : j < 12) => su_fr (hfr _ (by omega)) (hfr _ (by omega)) (hfr _ (by omega)) (hsu j hj)
            have hsu1 := su_fr (hfr _ (by omega)) (hfr _ (by omega)) (hfr _ (by omega)) hsu1
            have hsy := sy_ad (hag 1 (by omega)) (hag 2 (by omega)) (hag 3 (by omega)) hsy
            have hct := ct_ad (hag 4 (by omega)) (hag 5 (by omega)) (hag 6 (by omega)) hct
            have hgr : ∀ j, j < 12 → gr j = some (ad1 (10 + 3 * j)) := fun j hj => by rw [hag _ (by omega)]; exact hgr j hj
            have hsu : ∀ j, j < 12 + 1 → su_ok ca ad1 n j ws su_one (fun _ => 0) 0 := fun j hj => by
              by_cases e9 : j = 12
              · subst e9; exact hsu1
              · exact su_ad (hag 1 (by omega)) (hag 8 (by omega)) (hag _ (by omega)) (hag _ (by omega)) (hag _ (by omega)) (hsu j (by omega))
            have ha0 := (hag 0 (by omega)).trans ha0
            have ha1 := (hag 1 (by omega)).trans ha1
            have ha4 := (hag 4 (by omega)).trans ha4
            have ha7 := (hag 7 (by omega)).trans ha7
            have ha8 := (hag 8 (by omega)).trans ha8
            have ha9 := (hag 9 (by omega)).trans ha9
            have ha46 : ad1 46 = qe := ho
            have hpv : ∃ x9, ws[9 + 3 * 13]? = some x9 := by
              obtain ⟨fm_, fg_, ⟨-, -, fg9⟩, -⟩ := hsu1
              exact ⟨_, fg9⟩
            refine W.widen (k := 9 + 3 * (12 + 1)) (n := 5156 + 28 * (12 + 1)) (by omega) (by omega) ?_
            refine lv_aload_n (pc := 140) C0.1 C0.2.1 d_MG_init_140 rfl (lv_at hl 0 rfl) ?_
            have hln : ws.length = 10 + 3 * 13 := by
              obtain ⟨x9, h9⟩ := hpv
              have h8 := mg_len (k := 9 + 3 * 13) (by rw [show 9 + 3 * 13 + 1 = 10 + 3 * 13 by omega]; exact (hfm _ (Nat.le_refl _)).trans (hz _ (by omega))) h9
              omega
            have hem : ws[11 + 3 * 13]? = none := (hfm _ (by omega)).trans (hz _ (by omega))
            have heg : ws[12 + 3 * 13]? = none := (hfm _ (by omega)).trans (hz _ (by omega))
            have hfm : ∀ j, 13 + 3 * 13 ≤ j → ws[j]? = ws0[j]? := fun j hj => hfm j (by omega)
            refine mg_new (pc := 141) (k := 10 + 3 * 13) (ci := 2) (fs := [.int (nI 0), .null, .null, .null, .int (nI 0), .null]) C0 in_SU t_SU_ok (gw_t1 85 rfl rfl) (gw_t1 87 rfl rfl) (gw_t1 4 rfl rfl) hK hP hD hS hA rfl (fun j hj => by
              rcases (show j = 0 ∨ j = 1 ∨ j = 2 ∨ j = 3 ∨ j = 4 ∨ j = 5 by omega) with rfl | rfl | rfl | rfl | rfl | rfl <;> rfl) (hln) (show 9 + 3 * (12 + 1) + 1 ≤ 51 by omega) (show 5156 + 28 * (12 + 1) + 6 ≤ 5548 by omega) d_MG_init_141 (fun qd ws H hfr fo hP hD hS => ?_)
            have f0 := (hfr (0) (by omega)).trans f0
            have f7 := (hfr (7) (by omega)).trans f7
            have f8 := (hfr (8) (by omega)).trans f8
            have f9 := (hfr (9) (by omega)).trans f9
            have hem := (hfr (11 + 3 * 13) (by omega)).trans hem
            have heg := (hfr (12 + 3 * 13) (by omega)).trans heg
            have hsy := sy_fr (hfr (1) (by omega)) (hfr (2) (by omega)) (hfr (3) (by omega)) hsy
            have hct := ct_fr (hfr (4) (by omega)) (hfr (5) (by omega)) (hfr (6) (by omega)) hct
            have hfm : ∀ j, 13 + 3 * 13 ≤ j → ws[j]? = ws0[j]? := fun j hj => (hfr j (by omega)).trans (hfm j hj)
            have hsu := fun j (hj : j < 13) => su_fr (hfr _ (by omega)) (hfr _ (by omega)) (hfr _ (by omega)) (hsu j hj)
            refine lv_dup (pc := 144) C0.1 C0.2.1 d_MG_init_144 rfl ?_
            refine lv_aload_n (pc := 145) C0.1 C0.2.1 d_MG_init_145 rfl (lv_at hl 0 rfl) ?_
            refine mg_get (pc := 146) C0 in_MG hK hP (0) f0 rfl 0 (by decide) fl_MG_14 rfl d_MG_init_146 ?_
            refine lv_aload_n (pc := 149) C0.1 C0.2.1 d_MG_init_149 rfl (lv_at hl 1 rfl) ?_
            have hC := c_SU_init l D ca ad1 h2 h6 (i := 13) (qo := qd) ws
            have f1 := hsy.1
            rw [ha1] at hC f1
            rw [ha8] at hC
            refine mg_inR (pc := 150) (As := [.ref (q1), .ref (q8)]) (rest := [.ref (qd), .ref (q0)]) C0 (hC f1 fo hem heg) lk_MG_42 rfl ⟨Nat.le_of_ble_eq_true rfl, Nat.le_of_ble_eq_true rfl⟩ ⟨show 9 + 3 * (12 + 1) + 1 + 2 ≤ 51 by omega, show 5156 + 28 * (12 + 1) + 6 + ((pm_fc n + 63) / 64 + 10) ≤ 5548 by omega⟩ hK hP hD hS hA rfl hl.1 rfl (Nat.le_of_ble_eq_true rfl) d_MG_init_150 (fun ws H locs hpost hP hD hS => ?_)
            obtain ⟨hfr, ad2, ho, hag, hsu1⟩ := hpost
            have f0 := (hfr (0) (by omega)).trans f0
            have f7 := (hfr (7) (by omega)).trans f7
            have f8 := (hfr (8) (by omega)).trans f8
            have f9 := (hfr (9) (by omega)).trans f9
            have hsy := sy_fr (hfr (1) (by omega)) (hfr (2) (by omega)) (hfr (3) (by omega)) hsy
            have hct := ct_fr (hfr (4) (by omega)) (hfr (5) (by omega)) (hfr (6) (by omega)) hct
            have hfm : ∀ j, 13 + 3 * 13 ≤ j → ws[j]? = ws0[j]? := fun j hj => (hfr j (by omega)).trans (hfm j hj)
            have hsu := fun j (hj : j < 13) => su_fr (hfr _ (by omega)) (hfr _ (by omega)) (hfr _ (by omega)) (hsu j hj)
            refine mg_putF (pc := 153) C0 hnm in_MG t_MG_ok n_MG hK hP hD hS (0) f0 rfl 7 (by decide) fl_MG_52 rfl rfl (ty := .object "MotionGroups$Subgroup") (by decide +kernel) rfl rfl (Nat.le_of_ble_eq_true rfl) (fs' := [.ref (q1), .ref (q4), .ref (q7), .int (nI (1)), .ref (q9), .int (nI (0)), .ref (qe), .ref (qd)]) rfl d_MG_init_153 (fun ws H locs hfr f0 hP hD hS => ?_)
            have f7 := (hfr (7) (by omega)).trans f7
            have f8 := (hfr (8) (by omega)).trans f8
            have f9 := (hfr (9) (by omega)).trans f9
            have hsy := sy_fr (hfr (1) (by omega)) (hfr (2) (by omega)) (hfr (3) (by omega)) hsy
            have hct := ct_fr (hfr (4) (by omega)) (hfr (5) (by omega)) (hfr (6) (by omega)) hct
            have hfm : ∀ j, 13 + 3 * 13 ≤ j → ws[j]? = ws0[j]? := fun j hj => (hfr j (by omega)).trans (hfm j hj)
            have hsu := fun j (hj : j < 13) => su_fr (hfr _ (by omega)) (hfr _ (by omega)) (hfr _ (by omega)) (hsu j hj)
            have hsu1 := su_fr (hfr _ (by omega)) (hfr _ (by omega)) (hfr _ (by omega)) hsu1
            have hsy := sy_ad (hag 1 (by omega)) (hag 2 (by omega)) (hag 3 (by omega)) hsy
            have hct := ct_ad (hag 4 (by omega)) (hag 5 (by omega)) (hag 6 (by omega)) hct
            have hgr : ∀ j, j < 12 → gr j = some (ad2 (10 + 3 * j)) := fun j hj => by rw [hag _ (by omega)]; exact hgr j hj
            have hsu : ∀ j, j < 13 + 1 → su_ok ca ad2 n j ws su_one (fun _ => 0) 0 := fun j hj => by
              by_cases e9 : j = 13
              · subst e9; exact hsu1
              · exact su_ad (hag 1 (by omega)) (hag 8 (by omega)) (hag _ (by omega)) (hag _ (by omega)) (hag _ (by omega)) (hsu j (by omega))
            have ha0 := (hag 0 (by omega)).trans ha0
            have ha1 := (hag 1 (by omega)).trans ha1
            have ha4 := (hag 4 (by omega)).trans ha4
            have ha7 := (hag 7 (by omega)).trans ha7
            have ha8 := (hag 8 (by omega)).trans ha8
            have ha9 := (hag 9 (by omega)).trans ha9
            have ha46 := (hag 46 (by omega)).trans ha46
            have ha49 : ad2 49 = qd := ho
            refine W.widen (k := 9 + 3 * (13 + 1)) (n := 5156 + 28 * (13 + 1)) (by omega) (by omega) ?_
            refine W.widen (k := 51) (n := 5548) (by omega) (by omega) ?_
            exact hret _ _ _ 156 _ (⟨fun j hj => (hfm j (by omega)).trans (hz j (by omega)), ad2, ha0, by rw [ha0, ha1, ha4, ha7, ha9, ha46, ha49]; exact f0, hsy, hct, ⟨L8, by rw [ha8]; exact f8⟩, ⟨R7, by rw [ha7]; exact f7, fun j hj => by
              have e9 : j = 0 := by omega
              subst e9; exact hR⟩, ⟨gr, by rw [ha9]; exact f9, hgr⟩, fun j hj => by
              obtain ⟨x1, x2, h9, -⟩ := hsu j hj
              exact ⟨_, x1, x2, _, h9⟩, fun j hj => absurd hj (by omega), by omega, fun _ _ => hN0, by omega⟩) hP hD hS d_MG_init_156
          · have hi12 := hc
            obtain ⟨ha0, ha1, ha4, ha7, ha8, ha9⟩ := ha
            refine lv_aload_n (pc := 94) C0.1 C0.2.1 d_MG_init_94 rfl (lv_at hl 0 rfl) ?_
            refine mg_get (pc := 95) C0 in_MG hK hP (0) f0 rfl 4 (by decide) fl_MG_38 rfl d_MG_init_95 ?_
            refine lv_iload (pc := 98) C0.1 C0.2.1 d_MG_init_98 (lv_at hl 2 rfl) ?_
            have hln : ws.length = 10 + 3 * i := by
              obtain ⟨x9, h9⟩ := hpv
              have h8 := mg_len (k := 9 + 3 * i) (by rw [show 9 + 3 * i + 1 = 10 + 3 * i by omega]; exact (hfm _ (Nat.le_refl _)).trans (hz _ (by omega))) h9
              omega
            have hem : ws[11 + 3 * i]? = none := (hfm _ (by omega)).trans (hz _ (by omega))
            have heg : ws[12 + 3 * i]? = none := (hfm _ (by omega)).trans (hz _ (by omega))
            have hfm : ∀ j, 13 + 3 * i ≤ j → ws[j]? = ws0[j]? := fun j hj => hfm j (by omega)
            refine mg_new (pc := 100) (k := 10 + 3 * i) (ci := 2) (fs := [.int (nI 0), .null, .null, .null, .int (nI 0), .null]) C0 in_SU t_SU_ok (gw_t1 85 rfl rfl) (gw_t1 87 rfl rfl) (gw_t1 4 rfl rfl) hK hP hD hS hA rfl (fun j hj => by
              rcases (show j = 0 ∨ j = 1 ∨ j = 2 ∨ j = 3 ∨ j = 4 ∨ j = 5 by omega) with rfl | rfl | rfl | rfl | rfl | rfl <;> rfl) (hln) (show 9 + 3 * i + 1 ≤ 51 by omega) (show 5156 + 28 * i + 6 ≤ 5548 by omega) d_MG_init_100 (fun qo ws H hfr fo hP hD hS => ?_)
            have f0 := (hfr (0) (by omega)).trans f0
            have f7 := (hfr (7) (by omega)).trans f7
            have f8 := (hfr (8) (by omega)).trans f8
            have f9 := (hfr (9) (by omega)).trans f9
            have hem := (hfr (11 + 3 * i) (by omega)).trans hem
            have heg := (hfr (12 + 3 * i) (by omega)).trans heg
            have hsy := sy_fr (hfr (1) (by omega)) (hfr (2) (by omega)) (hfr (3) (by omega)) hsy
            have hct := ct_fr (hfr (4) (by omega)) (hfr (5) (by omega)) (hfr (6) (by omega)) hct
            have hfm : ∀ j, 13 + 3 * i ≤ j → ws[j]? = ws0[j]? := fun j hj => (hfr j (by omega)).trans (hfm j hj)
            have hsu := fun j (hj : j < i) => su_fr (hfr _ (by omega)) (hfr _ (by omega)) (hfr _ (by omega)) (hsu j hj)
            refine lv_dup (pc := 103) C0.1 C0.2.1 d_MG_init_103 rfl ?_
            refine lv_aload_n (pc := 104) C0.1 C0.2.1 d_MG_init_104 rfl (lv_at hl 0 rfl) ?_
            refine mg_get (pc := 105) C0 in_MG hK hP (0) f0 rfl 0 (by decide) fl_MG_14 rfl d_MG_init_105 ?_
            refine lv_aload_n (pc := 108) C0.1 C0.2.1 d_MG_init_108 rfl (lv_at hl 1 rfl) ?_
            have hC := c_SU_init l D ca ad h2 h6 (i := i) (qo := qo) ws
            have f1 := hsy.1
            rw [ha1] at hC f1
            rw [ha8] at hC
            refine mg_inR (pc := 109) (As := [.ref (q1), .ref (q8)]) (rest := [.ref (qo), .int (nI (i)), .ref (q9)]) C0 (hC f1 fo hem heg) lk_MG_42 rfl ⟨Nat.le_of_ble_eq_true rfl, Nat.le_of_ble_eq_true rfl⟩ ⟨show 9 + 3 * i + 1 + 2 ≤ 51 by omega, show 5156 + 28 * i + 6 + ((pm_fc n + 63) / 64 + 10) ≤ 5548 by omega⟩ hK hP hD hS hA rfl hl.1 rfl (Nat.le_of_ble_eq_true rfl) d_MG_init_109 (fun ws H locs hpost hP hD hS => ?_)
            obtain ⟨hfr, ad1, ho, hag, hsu1⟩ := hpost
            have f0 := (hfr (0) (by omega)).trans f0
            have f7 := (hfr (7) (by omega)).trans f7
            have f8 := (hfr (8) (by omega)).trans f8
            have f9 := (hfr (9) (by omega)).trans f9
            have hsy := sy_fr (hfr (1) (by omega)) (hfr (2) (by omega)) (hfr (3) (by omega)) hsy
            have hct := ct_fr (hfr (4) (by omega)) (hfr (5) (by omega)) (hfr (6) (by omega)) hct
            have hfm : ∀ j, 13 + 3 * i ≤ j → ws[j]? = ws0[j]? := fun j hj => (hfr j (by omega)).trans (hfm j hj)
            have hsu := fun j (hj : j < i) => su_fr (hfr _ (by omega)) (hfr _ (by omega)) (hfr _ (by omega)) (hsu j hj)
            have hsu9 := hsu1
            obtain ⟨fm_, fg_, ⟨fo, -, fg9⟩, -⟩ := hsu9
            rw [ho] at fo
            refine mg_ast (pc := 112) C0 hK hP hD hS 9 4 (10 + 3 * i) 2 f9 rfl fo rfl hi12 (by decide) d_MG_init_112 (fun ws H locs hfr f9 hP hD hS => ?_)
            have f0 := (hfr (0) (by omega)).trans f0
            have f7 := (hfr (7) (by omega)).trans f7
            have f8 := (hfr (8) (by omega)).trans f8
            have hsy := sy_fr (hfr (1) (by omega)) (hfr (2) (by omega)) (hfr (3) (by omega)) hsy
            have hct := ct_fr (hfr (4) (by omega)) (hfr (5) (by omega)) (hfr (6) (by omega)) hct
            have hfm : ∀ j, 13 + 3 * i ≤ j → ws[j]? = ws0[j]? := fun j hj => (hfr j (by omega)).trans (hfm j hj)
            have hsu := fun j (hj : j < i) => su_fr (hfr _ (by omega)) (hfr _ (by omega)) (hfr _ (by omega)) (hsu j hj)
            have hsu1 := su_fr (hfr _ (by omega)) (hfr _ (by omega)) (hfr _ (by omega)) hsu1
            have fg9 := (hfr (12 + 3 * i) (by omega)).trans fg9
            refine lv_iinc (pc := 113) (k := 2) (v := nI (i + 1)) (lv' := [(4, .int (nI (i + 1))), (0, .ref (q0)), (3, .ref (q8))]) C0.1 C0.2.1 d_MG_init_113 hl rfl (nb_p1 _) (by decide) rfl (fun ls hl => ?_)
            refine lv_goto (pc := 116) (tgt := 87) C0.1 C0.2.1 d_MG_init_116 (by decide) ?_
            refine W.widen (k := 9 + 3 * (i + 1)) (n := 5156 + 28 * (i + 1)) (by omega) (by omega) ?_
            exact ih_loop _ (by omega) (i + 1) ad1 _ R7 L8 _ _ _ _ rfl (by omega) (⟨(hag 0 (by omega)).trans ha0, (hag 1 (by omega)).trans ha1, (hag 4 (by omega)).trans ha4, (hag 7 (by omega)).trans ha7, (hag 8 (by omega)).trans ha8, (hag 9 (by omega)).trans ha9⟩) hR (sy_ad (hag 1 (by omega)) (hag 2 (by omega)) (hag 3 (by omega)) hsy) (ct_ad (hag 4 (by omega)) (hag 5 (by omega)) (hag 6 (by omega)) hct) (fun j hj => by
              by_cases e9 : j = i
              · subst e9; rw [ho]; exact if_pos rfl
              · rw [hag _ (by omega)]; exact (if_neg e9).trans (hgr j (by omega))) (fun j hj => by
              by_cases e9 : j = i
              · subst e9; exact hsu1
              · exact su_ad (hag 1 (by omega)) (hag 8 (by omega)) (hag _ (by omega)) (hag _ (by omega)) (hag _ (by omega)) (hsu j (by omega))) (⟨_, by rw [show 9 + 3 * (i + 1) = 12 + 3 * i by omega]; exact fg9⟩) (fun j hj => hfm j (by omega)) f0 f7 f8 f9 (lv_sub hl [1, 2, 0] rfl) hP hD hS
      exact loop _ 0 (mg_ad10 q0 q1 q2 q3 q4 q5 q6 q7 q8 q9) _ _ _ _ _ _ _ rfl (by omega) (⟨rfl, rfl, rfl, rfl, rfl, rfl⟩) pk_us hsy hct (fun j hj => absurd hj (by omega)) (fun j hj => absurd hj (by omega)) (⟨_, f9⟩) hfm f0 f7 f8 f9 (lv_sub hl [3, 1, 0] rfl) hP hD hS
    · exact (hx.elim hc hc2).elim
set_option maxHeartbeats 4000000 in
set_option maxRecDepth 100000 in
theorem c_MG_init1 (l : Launch) (D : va_G) (ca : Nat → ClassId) {n : Nat} (h2 : 2 ≤ n) (h6 : n ≤ 6) {q0 : Nat} {tx : Nat → Nat} {gs : Nat → Nat → Bool} (ws0 : va_W) (z0 : ws0[0]? = some (q0, .inr (0, [.null, .null, .null, .int (nI 0), .null, .int (nI 0), .null, .null]))) (hz : ∀ j, 1 ≤ j → ws0[j]? = none) : mg_NA R_SU l y_MG_init b_MG_init 5 4 51 (5548) D classes (tys_ ca) [.ref (q0), .int (nI (n))] ws0 (fun w => (∀ j, 52 ≤ j → w[j]? = none) ∧ ∃ ad : Nat → Nat, ad 0 = q0 ∧ MGW ca ad n (0, tx, 1, fun _ => 0, 0, gs) w) := by
  have hN := pm_fc_le h6
  have hNn : pm_fc n * n ≤ 720 * 6 := Nat.mul_le_mul hN h6
  have hN0 := pm_fc_pos n
  have zn1 := hz 1 (by omega)
  have zn2 := hz 2 (by omega)
  have zn3 := hz 3 (by omega)
  have zn4 := hz 4 (by omega)
  have zn5 := hz 5 (by omega)
  have zn6 := hz 6 (by omega)
  have zn7 := hz 7 (by omega)
  have zn8 := hz 8 (by omega)
  have zn9 := hz 9 (by omega)
  refine mg_openNA (CA := R_SU) (own := R_MG) rfl (by decide) rfl (Nat.le_of_ble_eq_true rfl) ?_
  intro p e s m args below meth c A Q ls C0 hnm hao hK hA hP hD hS hl hret
  have hl : lv_has ls 5 [(0, .ref (q0)), (1, .int (nI (n)))] := hl
  have f0 := z0
  have fn1 := zn1
  have fn2 := zn2
  have fn3 := zn3
  have fn4 := zn4
  have fn5 := zn5
  have fn6 := zn6
  have fn7 := zn7
  have fn8 := zn8
  have fn9 := zn9
  have hfm : ∀ j, 10 ≤ j → ws0[j]? = ws0[j]? := fun _ _ => rfl
  refine lv_aload_n (pc := 0) C0.1 C0.2.1 d_MG_init_0 rfl (lv_at hl 0 rfl) ?_
  refine mg_obj (pc := 1) C0 (gw_t1 14 rfl rfl) (gw_t1 15 rfl rfl) (gw_t1 16 rfl rfl) hl.1 (Nat.le_of_ble_eq_true rfl) (Nat.le_of_ble_eq_true rfl) d_MG_init_1 ?_
  refine lv_iload_n (pc := 4) C0.1 C0.2.1 d_MG_init_4 rfl (lv_at hl 1 rfl) ?_
  refine lv_iconst (pc := 5) (v := nI (2)) C0.1 C0.2.1 d_MG_init_5 (by decide +kernel) ?_
  refine mb_lt (pc := 6) (tgt := 19) C0 (by omega) (by omega) d_MG_init_6 (by decide) (fun hc => ?_) (fun hc => ?_)
  · exact absurd hc (by omega)
  · refine lv_iload_n (pc := 9) C0.1 C0.2.1 d_MG_init_9 rfl (lv_at hl 1 rfl) ?_
    refine lv_bipush (pc := 10) (v := nI (6)) C0.1 C0.2.1 d_MG_init_10 (by decide +kernel) ?_
    refine mb_gt (pc := 12) (tgt := 19) C0 (by omega) (by omega) d_MG_init_12 (by decide) (fun hc => ?_) (fun hc => ?_)
    · exact absurd hc (by omega)
    · refine lv_iload_n (pc := 15) C0.1 C0.2.1 d_MG_init_15 rfl (lv_at hl 1 rfl) ?_
      refine lv_goto (pc := 16) (tgt := 20) C0.1 C0.2.1 d_MG_init_16 (by decide) ?_
      refine lv_istore_n (pc := 20) (lv' := [(2, .int (nI (n))), (0, .ref (q0)), (1, .int (nI (n)))]) C0.1 C0.2.1 d_MG_init_20 rfl hl (by decide) rfl (fun ls hl => ?_)
      refine lv_aload_n (pc := 21) C0.1 C0.2.1 d_MG_init_21 rfl (lv_at hl 1 rfl) ?_
      refine mg_new (pc := 22) (k := 1) (ci := 1) (fs := [.int (nI 0), .int (nI 0), .null, .null]) C0 in_SY t_SY_ok (gw_t1 17 rfl rfl) (gw_t1 18 rfl rfl) (gw_t1 2 rfl rfl) hK hP hD hS hA rfl (fun j hj => by
        rcases (show j = 0 ∨ j = 1 ∨ j = 2 ∨ j = 3 by omega) with rfl | rfl | rfl | rfl <;> rfl) (mg_len fn1 f0) (show 0 + 1 ≤ 51 by omega) (show 0 + 4 ≤ 5548 by omega) d_MG_init_22 (fun q1 ws H hfr f1 hP hD hS => ?_)
      have f0 := (hfr (0) (by omega)).trans f0
      have fn2 := (hfr (2) (by omega)).trans fn2
      have fn3 := (hfr (3) (by omega)).trans fn3
      have fn4 := (hfr (4) (by omega)).trans fn4
      have fn5 := (hfr (5) (by omega)).trans fn5
      have fn6 := (hfr (6) (by omega)).trans fn6
      have fn7 := (hfr (7) (by omega)).trans fn7
      have fn8 := (hfr (8) (by omega)).trans fn8
      have fn9 := (hfr (9) (by omega)).trans fn9
      have hfm : ∀ j, 10 ≤ j → ws[j]? = ws0[j]? := fun j hj => (hfr j (by omega)).trans (hfm j hj)
      refine lv_dup (pc := 25) C0.1 C0.2.1 d_MG_init_25 rfl ?_
      refine lv_iload_n (pc := 26) C0.1 C0.2.1 d_MG_init_26 rfl (lv_at hl 0 rfl) ?_
      refine mg_inR (pc := 27) (As := [.int (nI (n))]) (rest := [.ref (q1), .ref (q0)]) C0 (c_SY_init l D ca h2 h6 ws f1 fn2 fn3) lk_MG_11 rfl ⟨Nat.le_of_ble_eq_true rfl, Nat.le_of_ble_eq_true rfl⟩ ⟨show 0 + 1 + 2 ≤ 51 by omega, show 0 + 4 + (pm_fc n * n + n) ≤ 5548 by omega⟩ hK hP hD hS hA rfl hl.1 rfl (Nat.le_of_ble_eq_true rfl) d_MG_init_27 (fun ws H locs hpost hP hD hS => ?_)
      obtain ⟨hfr, q2, q3, hsy⟩ := hpost
      have f0 := (hfr (0) (by omega)).trans f0
      have fn4 := (hfr (4) (by omega)).trans fn4
      have fn5 := (hfr (5) (by omega)).trans fn5
      have fn6 := (hfr (6) (by omega)).trans fn6
      have fn7 := (hfr (7) (by omega)).trans fn7
      have fn8 := (hfr (8) (by omega)).trans fn8
      have fn9 := (hfr (9) (by omega)).trans fn9
      have hfm : ∀ j, 10 ≤ j → ws[j]? = ws0[j]? := fun j hj => (hfr j (by omega)).trans (hfm j hj)
      refine mg_putF (pc := 30) C0 hnm in_MG t_MG_ok n_MG hK hP hD hS (0) f0 rfl 0 (by decide) fl_MG_14 rfl rfl (ty := .object "MotionGroups$Symmetry") (by decide +kernel) rfl rfl (Nat.le_of_ble_eq_true rfl) (fs' := [.ref (q1), .null, .null, .int (nI 0), .null, .int (nI 0), .null, .null]) rfl d_MG_init_30 (fun ws H locs hfr f0 hP hD hS => ?_)
      have fn4 := (hfr (4) (by omega)).trans fn4
      have fn5 := (hfr (5) (by omega)).trans fn5
      have fn6 := (hfr (6) (by omega)).trans fn6
      have fn7 := (hfr (7) (by omega)).trans fn7
      have fn8 := (hfr (8) (by omega)).trans fn8
      have fn9 := (hfr (9) (by omega)).trans fn9
      have hsy := sy_fr (hfr (1) (by omega)) (hfr (2) (by omega)) (hfr (3) (by omega)) hsy
      have hfm : ∀ j, 10 ≤ j → ws[j]? = ws0[j]? := fun j hj => (hfr j (by omega)).trans (hfm j hj)
      refine lv_aload_n (pc := 33) C0.1 C0.2.1 d_MG_init_33 rfl (lv_at hl 1 rfl) ?_
      obtain ⟨f9, f3, -⟩ := (⟨_, hsy.2.2.choose_spec, trivial⟩ : ∃ f9 : Nat → Int32, ws[3]? = some (q3, .inl (ca 1, n, .inl f9)) ∧ True)
      refine mg_new (pc := 34) (k := 4) (ci := 3) (fs := [.null, .int (nI 0), .null, .int (nI 0), .int (nI 0), .int (nI 0), .int (nI 0), .int (nI 0)]) C0 in_CT t_CT_ok (gw_t1 52 rfl rfl) (gw_t1 53 rfl rfl) (gw_t1 3 rfl rfl) hK hP hD hS hA rfl (fun j hj => by
        rcases (show j = 0 ∨ j = 1 ∨ j = 2 ∨ j = 3 ∨ j = 4 ∨ j = 5 ∨ j = 6 ∨ j = 7 by omega) with rfl | rfl | rfl | rfl | rfl | rfl | rfl | rfl <;> rfl) (mg_len fn4 f3) (show 0 + 1 + 2 + 1 ≤ 51 by omega) (show 0 + 4 + (pm_fc n * n + n) + 8 ≤ 5548 by omega) d_MG_init_34 (fun q4 ws H hfr f4 hP hD hS => ?_)
      have f0 := (hfr (0) (by omega)).trans f0
      have fn5 := (hfr (5) (by omega)).trans fn5
      have fn6 := (hfr (6) (by omega)).trans fn6
      have fn7 := (hfr (7) (by omega)).trans fn7
      have fn8 := (hfr (8) (by omega)).trans fn8
      have fn9 := (hfr (9) (by omega)).trans fn9
      have hsy := sy_fr (hfr (1) (by omega)) (hfr (2) (by omega)) (hfr (3) (by omega)) hsy
      have hfm : ∀ j, 10 ≤ j → ws[j]? = ws0[j]? := fun j hj => (hfr j (by omega)).trans (hfm j hj)
      refine lv_dup (pc := 37) C0.1 C0.2.1 d_MG_init_37 rfl ?_
      refine lv_iload_n (pc := 38) C0.1 C0.2.1 d_MG_init_38 rfl (lv_at hl 0 rfl) ?_
      refine mg_inR (pc := 39) (As := [.int (nI (n))]) (rest := [.ref (q4), .ref (q0)]) C0 (c_CT_init l D ca h2 h6 (tx := tx) ws f4 fn5 fn6) lk_MG_20 rfl ⟨Nat.le_of_ble_eq_true rfl, Nat.le_of_ble_eq_true rfl⟩ ⟨show 0 + 1 + 2 + 1 + 2 ≤ 51 by omega, show 0 + 4 + (pm_fc n * n + n) + 8 + (n + 40) ≤ 5548 by omega⟩ hK hP hD hS hA rfl hl.1 rfl (Nat.le_of_ble_eq_true rfl) d_MG_init_39 (fun ws H locs hpost hP hD hS => ?_)
      obtain ⟨hfr, q5, q6, hct⟩ := hpost
      have f0 := (hfr (0) (by omega)).trans f0
      have fn7 := (hfr (7) (by omega)).trans fn7
      have fn8 := (hfr (8) (by omega)).trans fn8
      have fn9 := (hfr (9) (by omega)).trans fn9
      have hsy := sy_fr (hfr (1) (by omega)) (hfr (2) (by omega)) (hfr (3) (by omega)) hsy
      have hfm : ∀ j, 10 ≤ j → ws[j]? = ws0[j]? := fun j hj => (hfr j (by omega)).trans (hfm j hj)
      refine mg_putF (pc := 42) C0 hnm in_MG t_MG_ok n_MG hK hP hD hS (0) f0 rfl 1 (by decide) fl_MG_21 rfl rfl (ty := .object "MotionGroups$CycleText") (by decide +kernel) rfl rfl (Nat.le_of_ble_eq_true rfl) (fs' := [.ref (q1), .ref (q4), .null, .int (nI 0), .null, .int (nI 0), .null, .null]) rfl d_MG_init_42 (fun ws H locs hfr f0 hP hD hS => ?_)
      have fn7 := (hfr (7) (by omega)).trans fn7
      have fn8 := (hfr (8) (by omega)).trans fn8
      have fn9 := (hfr (9) (by omega)).trans fn9
      have hsy := sy_fr (hfr (1) (by omega)) (hfr (2) (by omega)) (hfr (3) (by omega)) hsy
      have hct := ct_fr (hfr (4) (by omega)) (hfr (5) (by omega)) (hfr (6) (by omega)) hct
      have hfm : ∀ j, 10 ≤ j → ws[j]? = ws0[j]? := fun j hj => (hfr j (by omega)).trans (hfm j hj)
      refine lv_aload_n (pc := 45) C0.1 C0.2.1 d_MG_init_45 rfl (lv_at hl 1 rfl) ?_
      refine lv_bipush (pc := 46) (v := nI (40)) C0.1 C0.2.1 d_MG_init_46 (by decide +kernel) ?_
      obtain ⟨T9, f6, -⟩ := hct.2.2.1
      refine mg_newa (pc := 48) (ty := .int) (k := 7) (N' := 40) (cA := ca 1) (a0 := (40, .inl (fun _ => nI 0))) C0 (gw_t1 51 rfl rfl) rfl (fun c9 h9 => Option.some.inj (h9.symm.trans (hK.2 1 _ rfl).2)) hK hP hD hS hA (fun _ => rfl) (by omega) (by rw [show componentBytes .int = 4 from rfl]; omega) (mg_len fn7 f6) (show 0 + 1 + 2 + 1 + 2 + 1 ≤ 51 by omega) (show 0 + 4 + (pm_fc n * n + n) + 8 + (n + 40) + 40 ≤ 5548 by omega) d_MG_init_48 (fun q7 ws H hfr f7 hP hD hS => ?_)
      have f0 := (hfr (0) (by omega)).trans f0
      have fn8 := (hfr (8) (by omega)).trans fn8
      have fn9 := (hfr (9) (by omega)).trans fn9
      have f6 := (hfr (6) (by omega)).trans f6
      have hsy := sy_fr (hfr (1) (by omega)) (hfr (2) (by omega)) (hfr (3) (by omega)) hsy
      have hct := ct_fr (hfr (4) (by omega)) (hfr (5) (by omega)) (hfr (6) (by omega)) hct
      have hfm : ∀ j, 10 ≤ j → ws[j]? = ws0[j]? := fun j hj => (hfr j (by omega)).trans (hfm j hj)
      refine mg_putF (pc := 50) C0 hnm in_MG t_MG_ok n_MG hK hP hD hS (0) f0 rfl 2 (by decide) fl_MG_25 rfl rfl (ty := .array (.int)) (by decide +kernel) rfl rfl (Nat.le_of_ble_eq_true rfl) (fs' := [.ref (q1), .ref (q4), .ref (q7), .int (nI 0), .null, .int (nI 0), .null, .null]) rfl d_MG_init_50 (fun ws H locs hfr f0 hP hD hS => ?_)
      have fn8 := (hfr (8) (by omega)).trans fn8
      have fn9 := (hfr (9) (by omega)).trans fn9
      have f6 := (hfr (6) (by omega)).trans f6
      have f7 := (hfr (7) (by omega)).trans f7
      have hsy := sy_fr (hfr (1) (by omega)) (hfr (2) (by omega)) (hfr (3) (by omega)) hsy
      have hct := ct_fr (hfr (4) (by omega)) (hfr (5) (by omega)) (hfr (6) (by omega)) hct
      have hfm : ∀ j, 10 ≤ j → ws[j]? = ws0[j]? := fun j hj => (hfr j (by omega)).trans (hfm j hj)
      refine lv_aload_n (pc := 53) C0.1 C0.2.1 d_MG_init_53 rfl (lv_at hl 1 rfl) ?_
      refine mg_get (pc := 54) C0 in_MG hK hP (0) f0 rfl 2 (by decide) fl_MG_25 rfl d_MG_init_54 ?_
      refine lv_iconst (pc := 57) (v := nI (0)) C0.1 C0.2.1 d_MG_init_57 (by decide +kernel) ?_
      refine lv_iconst (pc := 58) (v := nI (0)) C0.1 C0.2.1 d_MG_init_58 (by decide +kernel) ?_
      refine mg_ist (pc := 59) C0 hK hP hD hS (7) 1 f7 rfl (j := 0) (by omega) (by omega) d_MG_init_59 (fun ws H locs hfr f7 hP hD hS => ?_)
      have f0 := (hfr (0) (by omega)).trans f0
      have fn8 := (hfr (8) (by omega)).trans fn8
      have fn9 := (hfr (9) (by omega)).trans fn9
      have f6 := (hfr (6) (by omega)).trans f6
      have hsy := sy_fr (hfr (1) (by omega)) (hfr (2) (by omega)) (hfr (3) (by omega)) hsy
      have hct := ct_fr (hfr (4) (by omega)) (hfr (5) (by omega)) (hfr (6) (by omega)) hct
      have hfm : ∀ j, 10 ≤ j → ws[j]? = ws0[j]? := fun j hj => (hfr j (by omega)).trans (hfm j hj)
      refine lv_aload_n (pc := 60) C0.1 C0.2.1 d_MG_init_60 rfl (lv_at hl 1 rfl) ?_
      refine lv_iconst (pc := 61) (v := nI (1)) C0.1 C0.2.1 d_MG_init_61 (by decide +kernel) ?_
      refine mg_put (pc := 62) C0 in_MG t_MG_ok n_MG hK hP hD hS (0) f0 rfl 3 (by decide) fl_MG_29 rfl (ty := .int) (by decide +kernel) rfl rfl (Nat.le_of_ble_eq_true rfl) (fs' := [.ref (q1), .ref (q4), .ref (q7), .int (nI (1)), .null, .int (nI 0), .null, .null]) rfl d_MG_init_62 (fun ws H locs hfr f0 hP hD hS => ?_)
      have fn8 := (hfr (8) (by omega)).trans fn8
      have fn9 := (hfr (9) (by omega)).trans fn9
      have f6 := (hfr (6) (by omega)).trans f6
      have f7 := (hfr (7) (by omega)).trans f7
      have hsy := sy_fr (hfr (1) (by omega)) (hfr (2) (by omega)) (hfr (3) (by omega)) hsy
      have hct := ct_fr (hfr (4) (by omega)) (hfr (5) (by omega)) (hfr (6) (by omega)) hct
      have hfm : ∀ j, 10 ≤ j → ws[j]? = ws0[j]? := fun j hj => (hfr j (by omega)).trans (hfm j hj)
      refine lv_aload_n (pc := 65) C0.1 C0.2.1 d_MG_init_65 rfl (lv_at hl 1 rfl) ?_
      have f1 : ws[1]? = some (q1, .inr (1, [.int (nI (n)), .int (nI (pm_fc n)), .ref (q2), .ref (q3)])) := hsy.1
      refine mg_get (pc := 66) C0 in_MG hK hP (0) f0 rfl 0 (by decide) fl_MG_14 rfl d_MG_init_66 ?_
      refine mg_get (pc := 69) C0 in_SY hK hP (1) f1 rfl 1 (by decide) fl_MG_33 rfl d_MG_init_69 ?_
      refine mg_newa (pc := 72) (ty := .int) (k := 8) (N' := pm_fc n) (cA := ca 1) (a0 := (pm_fc n, .inl (fun _ => nI 0))) C0 (gw_t1 51 rfl rfl) rfl (fun c9 h9 => Option.some.inj (h9.symm.trans (hK.2 1 _ rfl).2)) hK hP hD hS hA (fun _ => rfl) (by omega) (by rw [show componentBytes .int = 4 from rfl]; omega) (mg_len fn8 f7) (show 0 + 1 + 2 + 1 + 2 + 1 + 1 ≤ 51 by omega) (show 0 + 4 + (pm_fc n * n + n) + 8 + (n + 40) + 40 + (pm_fc n) ≤ 5548 by omega) d_MG_init_72 (fun q8 ws H hfr f8 hP hD hS => ?_)
      have f0 := (hfr (0) (by omega)).trans f0
      have fn9 := (hfr (9) (by omega)).trans fn9
      have f6 := (hfr (6) (by omega)).trans f6
      have f7 := (hfr (7) (by omega)).trans f7
      have f1 := (hfr (1) (by omega)).trans f1
      have hsy := sy_fr (hfr (1) (by omega)) (hfr (2) (by omega)) (hfr (3) (by omega)) hsy
      have hct := ct_fr (hfr (4) (by omega)) (hfr (5) (by omega)) (hfr (6) (by omega)) hct
      have hfm : ∀ j, 10 ≤ j → ws[j]? = ws0[j]? := fun j hj => (hfr j (by omega)).trans (hfm j hj)
      refine lv_astore_n (pc := 74) (lv' := [(3, .ref (q8)), (2, .int (nI (n))), (0, .ref (q0)), (1, .int (nI (n)))]) C0.1 C0.2.1 d_MG_init_74 rfl hl (by decide) rfl (fun ls hl => ?_)
      refine lv_aload_n (pc := 75) C0.1 C0.2.1 d_MG_init_75 rfl (lv_at hl 2 rfl) ?_
      refine lv_bipush (pc := 76) (v := nI (12)) C0.1 C0.2.1 d_MG_init_76 (by decide +kernel) ?_
      refine mg_newqA (pc := 78) (C := R_SU) (k := 9) (N' := 12) (cA := ca 4) C0 (gw_t1 85 rfl rfl) hao (fun c9 h9 => by
        obtain ⟨_, _, _, _, _, h9⟩ := h9
        obtain ⟨_, _, _, _, _, h8⟩ := (hK.2 4 _ rfl).2
        exact Option.some.inj (h9.symm.trans h8)) hK hP hD hS hA (by omega) (by omega) (mg_len fn9 f8) (show 0 + 1 + 2 + 1 + 2 + 1 + 1 + 1 ≤ 51 by omega) (show 0 + 4 + (pm_fc n * n + n) + 8 + (n + 40) + 40 + (pm_fc n) + 12 ≤ 5548 by omega) d_MG_init_78 (fun q9 ws H hfr f9 hP hD hS => ?_)
      have f0 := (hfr (0) (by omega)).trans f0
      have f6 := (hfr (6) (by omega)).trans f6
      have f7 := (hfr (7) (by omega)).trans f7
      have f1 := (hfr (1) (by omega)).trans f1
      have f8 := (hfr (8) (by omega)).trans f8
      have hsy := sy_fr (hfr (1) (by omega)) (hfr (2) (by omega)) (hfr (3) (by omega)) hsy
      have hct := ct_fr (hfr (4) (by omega)) (hfr (5) (by omega)) (hfr (6) (by omega)) hct
      have hfm : ∀ j, 10 ≤ j → ws[j]? = ws0[j]? := fun j hj => (hfr j (by omega)).trans (hfm j hj)
      refine mg_putF (pc := 81) C0 hnm in_MG t_MG_ok n_MG hK hP hD hS (0) f0 rfl 4 (by decide) fl_MG_38 rfl rfl (ty := .array (.object "MotionGroups$Subgroup")) (by decide +kernel) rfl rfl (Nat.le_of_ble_eq_true rfl) (fs' := [.ref (q1), .ref (q4), .ref (q7), .int (nI (1)), .ref (q9), .int (nI 0), .null, .null]) rfl d_MG_init_81 (fun ws H locs hfr f0 hP hD hS => ?_)
      have f6 := (hfr (6) (by omega)).trans f6
      have f7 := (hfr (7) (by omega)).trans f7
      have f1 := (hfr (1) (by omega)).trans f1
      have f8 := (hfr (8) (by omega)).trans f8
      have f9 := (hfr (9) (by omega)).trans f9
      have hsy := sy_fr (hfr (1) (by omega)) (hfr (2) (by omega)) (hfr (3) (by omega)) hsy
      have hct := ct_fr (hfr (4) (by omega)) (hfr (5) (by omega)) (hfr (6) (by omega)) hct
      have hfm : ∀ j, 10 ≤ j → ws[j]? = ws0[j]? := fun j hj => (hfr j (by omega)).trans (hfm j hj)
      refine lv_iconst (pc := 84) (v := nI (0)) C0.1 C0.2.1 d_MG_init_84 (by decide +kernel) ?_
      refine lv_istore (pc := 85) (lv' := [(4, .int (nI (0))), (3, .ref (q8)), (2, .int (nI (n))), (0, .ref (q0)), (1, .int (nI (n)))]) C0.1 C0.2.1 d_MG_init_85 hl (by decide) rfl (fun ls hl => ?_)
      refine W.widen (k := 9) (n := 5156) (by omega) (by omega) ?_
      have hsy : sy_ok ca (mg_ad10 q0 q1 q2 q3 q4 q5 q6 q7 q8 q9) n ws := sy_ad rfl rfl rfl hsy
      have hct : ct_ok ca (mg_ad10 q0 q1 q2 q3 q4 q5 q6 q7 q8 q9) n ws 0 tx := ct_ad rfl rfl rfl hct
      have loop : ∀ (d : Nat) (i : Nat) (ad : Nat → Nat) (gr : Nat → Option Nat) (R7 : Nat → Int32) (L8 : Nat → Int32) (ws : va_W) (H : Heap) (locs : List Loc) (ls : Array Slot), 12 - i = d → (i ≤ 12) → (ad 0 = q0 ∧ ad 1 = q1 ∧ ad 4 = q4 ∧ ad 7 = q7 ∧ ad 8 = q8 ∧ ad 9 = q9) → (R7 0 = nI 0) → (sy_ok ca ad n ws) → (ct_ok ca ad n ws 0 tx) → (∀ j, j < i → gr j = some (ad (10 + 3 * j))) → (∀ j, j < i → su_ok ca ad n j ws su_one (fun _ => 0) 0) → (∃ x9, ws[9 + 3 * i]? = some x9) → (∀ j, 10 + 3 * i ≤ j → ws[j]? = ws0[j]?) → ws[0]? = some (q0, .inr (0, [.ref (q1), .ref (q4), .ref (q7), .int (nI (1)), .ref (q9), .int (nI 0), .null, .null])) → ws[7]? = some (q7, .inl (ca 1, 40, .inl (R7))) → ws[8]? = some (q8, .inl (ca 1, pm_fc n, .inl (L8))) → ws[9]? = some (q9, .inl (ca 4, 12, .inr (.inr (.inr (.inr (gr)))))) → lv_has ls 5 [(0, .ref (q0)), (3, .ref (q8)), (4, .int (nI (i)))] → va_P D classes ws H → va_D A ws → va_S A s.heap H locs → W p l e (mg_rn 4 51 (5548)) s m args below meth c H locs (9 + 3 * i) (5156 + 28 * i) Q (F0 m 87 ls []) := by
        intro d
        induction d using Nat.strongRecOn with
        | _ d ih_loop =>
          intro i ad gr R7 L8 ws H locs ls hd hi ha hR hsy hct hgr hsu hpv hfm f0 f7 f8 f9 hl hP hD hS
          refine lv_iload (pc := 87) C0.1 C0.2.1 d_MG_init_87 (lv_at hl 2 rfl) ?_
          refine lv_bipush (pc := 89) (v := nI (12)) C0.1 C0.2.1 d_MG_init_89 (by decide +kernel) ?_
          refine mb_ge (pc := 91) (tgt := 119) C0 (by omega) (by omega) d_MG_init_91 (by decide) (fun hc => ?_) (fun hc => ?_)
          · have hi9 : i = 12 := by omega
            subst hi9
            obtain ⟨ha0, ha1, ha4, ha7, ha8, ha9⟩ := ha
            refine lv_aload_n (pc := 119) C0.1 C0.2.1 d_MG_init_119 rfl (lv_at hl 0 rfl) ?_
            refine lv_iconst (pc := 120) (v := nI (0)) C0.1 C0.2.1 d_MG_init_120 (by decide +kernel) ?_
            refine mg_put (pc := 121) C0 in_MG t_MG_ok n_MG hK hP hD hS (0) f0 rfl 5 (by decide) fl_MG_45 rfl (ty := .int) (by decide +kernel) rfl rfl (Nat.le_of_ble_eq_true rfl) (fs' := [.ref (q1), .ref (q4), .ref (q7), .int (nI (1)), .ref (q9), .int (nI (0)), .null, .null]) rfl d_MG_init_121 (fun ws H locs hfr f0 hP hD hS => ?_)
            have f7 := (hfr (7) (by omega)).trans f7
            have f8 := (hfr (8) (by omega)).trans f8
            have f9 := (hfr (9) (by omega)).trans f9
            have hsy := sy_fr (hfr (1) (by omega)) (hfr (2) (by omega)) (hfr (3) (by omega)) hsy
            have hct := ct_fr (hfr (4) (by omega)) (hfr (5) (by omega)) (hfr (6) (by omega)) hct
            have hfm : ∀ j, 10 + 3 * 12 ≤ j → ws[j]? = ws0[j]? := fun j hj => (hfr j (by omega)).trans (hfm j hj)
            have hsu := fun j (hj : j < 12) => su_fr (hfr _ (by omega)) (hfr _ (by omega)) (hfr _ (by omega)) (hsu j hj)
            have hpv : ∃ x9, ws[9 + 3 * 12]? = some x9 := by
              obtain ⟨x9, h9⟩ := hpv
              exact ⟨x9, (hfr _ (by omega)).trans h9⟩
            refine lv_aload_n (pc := 124) C0.1 C0.2.1 d_MG_init_124 rfl (lv_at hl 0 rfl) ?_
            have hln : ws.length = 10 + 3 * 12 := by
              obtain ⟨x9, h9⟩ := hpv
              have h8 := mg_len (k := 9 + 3 * 12) (by rw [show 9 + 3 * 12 + 1 = 10 + 3 * 12 by omega]; exact (hfm _ (Nat.le_refl _)).trans (hz _ (by omega))) h9
              omega
            have hem : ws[11 + 3 * 12]? = none := (hfm _ (by omega)).trans (hz _ (by omega))
            have heg : ws[12 + 3 * 12]? = none := (hfm _ (by omega)).trans (hz _ (by omega))
            have hfm : ∀ j, 13 + 3 * 12 ≤ j → ws[j]? = ws0[j]? := fun j hj => hfm j (by omega)
            refine mg_new (pc := 125) (k := 10 + 3 * 12) (ci := 2) (fs := [.int (nI 0), .null, .null, .null, .int (nI 0), .null]) C0 in_SU t_SU_ok (gw_t1 85 rfl rfl) (gw_t1 87 rfl rfl) (gw_t1 4 rfl rfl) hK hP hD hS hA rfl (fun j hj => by
              rcases (show j = 0 ∨ j = 1 ∨ j = 2 ∨ j = 3 ∨ j = 4 ∨ j = 5 by omega) with rfl | rfl | rfl | rfl | rfl | rfl <;> rfl) (hln) (show 9 + 3 * 12 + 1 ≤ 51 by omega) (show 5156 + 28 * 12 + 6 ≤ 5548 by omega) d_MG_init_125 (fun qe ws H hfr fo hP hD hS => ?_)
            have f0 := (hfr (0) (by omega)).trans f0
            have f7 := (hfr (7) (by omega)).trans f7
            have f8 := (hfr (8) (by omega)).trans f8
            have f9 := (hfr (9) (by omega)).trans f9
            have hem := (hfr (11 + 3 * 12) (by omega)).trans hem
            have heg := (hfr (12 + 3 * 12) (by omega)).trans heg
            have hsy := sy_fr (hfr (1) (by omega)) (hfr (2) (by omega)) (hfr (3) (by omega)) hsy
            have hct := ct_fr (hfr (4) (by omega)) (hfr (5) (by omega)) (hfr (6) (by omega)) hct
            have hfm : ∀ j, 13 + 3 * 12 ≤ j → ws[j]? = ws0[j]? := fun j hj => (hfr j (by omega)).trans (hfm j hj)
            have hsu := fun j (hj : j < 12) => su_fr (hfr _ (by omega)) (hfr _ (by omega)) (hfr _ (by omega)) (hsu j hj)
            refine lv_dup (pc := 128) C0.1 C0.2.1 d_MG_init_128 rfl ?_
            refine lv_aload_n (pc := 129) C0.1 C0.2.1 d_MG_init_129 rfl (lv_at hl 0 rfl) ?_
            refine mg_get (pc := 130) C0 in_MG hK hP (0) f0 rfl 0 (by decide) fl_MG_14 rfl d_MG_init_130 ?_
            refine lv_aload_n (pc := 133) C0.1 C0.2.1 d_MG_init_133 rfl (lv_at hl 1 rfl) ?_
            have hC := c_SU_init l D ca ad h2 h6 (i := 12) (qo := qe) ws
            have f1 := hsy.1
            rw [ha1] at hC f1
            rw [ha8] at hC
            refine mg_inR (pc := 134) (As := [.ref (q1), .ref (q8)]) (rest := [.ref (qe), .ref (q0)]) C0 (hC f1 fo hem heg) lk_MG_42 rfl ⟨Nat.le_of_ble_eq_true rfl, Nat.le_of_ble_eq_true rfl⟩ ⟨show 9 + 3 * 12 + 1 + 2 ≤ 51 by omega, show 5156 + 28 * 12 + 6 + ((pm_fc n + 63) / 64 + 10) ≤ 5548 by omega⟩ hK hP hD hS hA rfl hl.1 rfl (Nat.le_of_ble_eq_true rfl) d_MG_init_134 (fun ws H locs hpost hP hD hS => ?_)
            obtain ⟨hfr, ad1, ho, hag, hsu1⟩ := hpost
            have f0 := (hfr (0) (by omega)).trans f0
            have f7 := (hfr (7) (by omega)).trans f7
            have f8 := (hfr (8) (by omega)).trans f8
            have f9 := (hfr (9) (by omega)).trans f9
            have hsy := sy_fr (hfr (1) (by omega)) (hfr (2) (by omega)) (hfr (3) (by omega)) hsy
            have hct := ct_fr (hfr (4) (by omega)) (hfr (5) (by omega)) (hfr (6) (by omega)) hct
            have hfm : ∀ j, 13 + 3 * 12 ≤ j → ws[j]? = ws0[j]? := fun j hj => (hfr j (by omega)).trans (hfm j hj)
            have hsu := fun j (hj : j < 12) => su_fr (hfr _ (by omega)) (hfr _ (by omega)) (hfr _ (by omega)) (hsu j hj)
            refine mg_putF (pc := 137) C0 hnm in_MG t_MG_ok n_MG hK hP hD hS (0) f0 rfl 6 (by decide) fl_MG_48 rfl rfl (ty := .object "MotionGroups$Subgroup") (by decide +kernel) rfl rfl (Nat.le_of_ble_eq_true rfl) (fs' := [.ref (q1), .ref (q4), .ref (q7), .int (nI (1)), .ref (q9), .int (nI (0)), .ref (qe), .null]) rfl d_MG_init_137 (fun ws H locs hfr f0 hP hD hS => ?_)
            have f7 := (hfr (7) (by omega)).trans f7
            have f8 := (hfr (8) (by omega)).trans f8
            have f9 := (hfr (9) (by omega)).trans f9
            have hsy := sy_fr (hfr (1) (by omega)) (hfr (2) (by omega)) (hfr (3) (by omega)) hsy
            have hct := ct_fr (hfr (4) (by omega)) (hfr (5) (by omega)) (hfr (6) (by omega)) hct
            have hfm : ∀ j, 13 + 3 * 12 ≤ j → ws[j]? = ws0[j]? := fun j hj => (hfr j (by omega)).trans (hfm j hj)
            have hsu := fun j (hj : j < 12) => su_fr (hfr _ (by omega)) (hfr _ (by omega)) (hfr _ (by omega)) (hsu j hj)
            have hsu1 := su_fr (hfr _ (by omega)) (hfr _ (by omega)) (hfr _ (by omega)) hsu1
            have hsy := sy_ad (hag 1 (by omega)) (hag 2 (by omega)) (hag 3 (by omega)) hsy
            have hct := ct_ad (hag 4 (by omega)) (hag 5 (by omega)) (hag 6 (by omega)) hct
            have hgr : ∀ j, j < 12 → gr j = some (ad1 (10 + 3 * j)) := fun j hj => by rw [hag _ (by omega)]; exact hgr j hj
            have hsu : ∀ j, j < 12 + 1 → su_ok ca ad1 n j ws su_one (fun _ => 0) 0 := fun j hj => by
              by_cases e9 : j = 12
              · subst e9; exact hsu1
              · exact su_ad (hag 1 (by omega)) (hag 8 (by omega)) (hag _ (by omega)) (hag _ (by omega)) (hag _ (by omega)) (hsu j (by omega))
            have ha0 := (hag 0 (by omega)).trans ha0
            have ha1 := (hag 1 (by omega)).trans ha1
            have ha4 := (hag 4 (by omega)).trans ha4
            have ha7 := (hag 7 (by omega)).trans ha7
            have ha8 := (hag 8 (by omega)).trans ha8
            have ha9 := (hag 9 (by omega)).trans ha9
            have ha46 : ad1 46 = qe := ho
            have hpv : ∃ x9, ws[9 + 3 * 13]? = some x9 := by
              obtain ⟨fm_, fg_, ⟨-, -, fg9⟩, -⟩ := hsu1
              exact ⟨_, fg9⟩
            refine W.widen (k := 9 + 3 * (12 + 1)) (n := 5156 + 28 * (12 + 1)) (by omega) (by omega) ?_
            refine lv_aload_n (pc := 140) C0.1 C0.2.1 d_MG_init_140 rfl (lv_at hl 0 rfl) ?_
            have hln : ws.length = 10 + 3 * 13 := by
              obtain ⟨x9, h9⟩ := hpv
              have h8 := mg_len (k := 9 + 3 * 13) (by rw [show 9 + 3 * 13 + 1 = 10 + 3 * 13 by omega]; exact (hfm _ (Nat.le_refl _)).trans (hz _ (by omega))) h9
              omega
            have hem : ws[11 + 3 * 13]? = none := (hfm _ (by omega)).trans (hz _ (by omega))
            have heg : ws[12 + 3 * 13]? = none := (hfm _ (by omega)).trans (hz _ (by omega))
            have hfm : ∀ j, 13 + 3 * 13 ≤ j → ws[j]? = ws0[j]? := fun j hj => hfm j (by omega)
            refine mg_new (pc := 141) (k := 10 + 3 * 13) (ci := 2) (fs := [.int (nI 0), .null, .null, .null, .int (nI 0), .null]) C0 in_SU t_SU_ok (gw_t1 85 rfl rfl) (gw_t1 87 rfl rfl) (gw_t1 4 rfl rfl) hK hP hD hS hA rfl (fun j hj => by
              rcases (show j = 0 ∨ j = 1 ∨ j = 2 ∨ j = 3 ∨ j = 4 ∨ j = 5 by omega) with rfl | rfl | rfl | rfl | rfl | rfl <;> rfl) (hln) (show 9 + 3 * (12 + 1) + 1 ≤ 51 by omega) (show 5156 + 28 * (12 + 1) + 6 ≤ 5548 by omega) d_MG_init_141 (fun qd ws H hfr fo hP hD hS => ?_)
            have f0 := (hfr (0) (by omega)).trans f0
            have f7 := (hfr (7) (by omega)).trans f7
            have f8 := (hfr (8) (by omega)).trans f8
            have f9 := (hfr (9) (by omega)).trans f9
            have hem := (hfr (11 + 3 * 13) (by omega)).trans hem
            have heg := (hfr (12 + 3 * 13) (by omega)).trans heg
            have hsy := sy_fr (hfr (1) (by omega)) (hfr (2) (by omega)) (hfr (3) (by omega)) hsy
            have hct := ct_fr (hfr (4) (by omega)) (hfr (5) (by omega)) (hfr (6) (by omega)) hct
            have hfm : ∀ j, 13 + 3 * 13 ≤ j → ws[j]? = ws0[j]? := fun j hj => (hfr j (by omega)).trans (hfm j hj)
            have hsu := fun j (hj : j < 13) => su_fr (hfr _ (by omega)) (hfr _ (by omega)) (hfr _ (by omega)) (hsu j hj)
            refine lv_dup (pc := 144) C0.1 C0.2.1 d_MG_init_144 rfl ?_
            refine lv_aload_n (pc := 145) C0.1 C0.2.1 d_MG_init_145 rfl (lv_at hl 0 rfl) ?_
            refine mg_get (pc := 146) C0 in_MG hK hP (0) f0 rfl 0 (by decide) fl_MG_14 rfl d_MG_init_146 ?_
            refine lv_aload_n (pc := 149) C0.1 C0.2.1 d_MG_init_149 rfl (lv_at hl 1 rfl) ?_
            have hC := c_SU_init l D ca ad1 h2 h6 (i := 13) (qo := qd) ws
            have f1 := hsy.1
            rw [ha1] at hC f1
            rw [ha8] at hC
            refine mg_inR (pc := 150) (As := [.ref (q1), .ref (q8)]) (rest := [.ref (qd), .ref (q0)]) C0 (hC f1 fo hem heg) lk_MG_42 rfl ⟨Nat.le_of_ble_eq_true rfl, Nat.le_of_ble_eq_true rfl⟩ ⟨show 9 + 3 * (12 + 1) + 1 + 2 ≤ 51 by omega, show 5156 + 28 * (12 + 1) + 6 + ((pm_fc n + 63) / 64 + 10) ≤ 5548 by omega⟩ hK hP hD hS hA rfl hl.1 rfl (Nat.le_of_ble_eq_true rfl) d_MG_init_150 (fun ws H locs hpost hP hD hS => ?_)
            obtain ⟨hfr, ad2, ho, hag, hsu1⟩ := hpost
            have f0 := (hfr (0) (by omega)).trans f0
            have f7 := (hfr (7) (by omega)).trans f7
            have f8 := (hfr (8) (by omega)).trans f8
            have f9 := (hfr (9) (by omega)).trans f9
            have hsy := sy_fr (hfr (1) (by omega)) (hfr (2) (by omega)) (hfr (3) (by omega)) hsy
            have hct := ct_fr (hfr (4) (by omega)) (hfr (5) (by omega)) (hfr (6) (by omega)) hct
            have hfm : ∀ j, 13 + 3 * 13 ≤ j → ws[j]? = ws0[j]? := fun j hj => (hfr j (by omega)).trans (hfm j hj)
            have hsu := fun j (hj : j < 13) => su_fr (hfr _ (by omega)) (hfr _ (by omega)) (hfr _ (by omega)) (hsu j hj)
            refine mg_putF (pc := 153) C0 hnm in_MG t_MG_ok n_MG hK hP hD hS (0) f0 rfl 7 (by decide) fl_MG_52 rfl rfl (ty := .object "MotionGroups$Subgroup") (by decide +kernel) rfl rfl (Nat.le_of_ble_eq_true rfl) (fs' := [.ref (q1), .ref (q4), .ref (q7), .int (nI (1)), .ref (q9), .int (nI (0)), .ref (qe), .ref (qd)]) rfl d_MG_init_153 (fun ws H locs hfr f0 hP hD hS => ?_)
            have f7 := (hfr (7) (by omega)).trans f7
            have f8 := (hfr (8) (by omega)).trans f8
            have f9 := (hfr (9) (by omega)).trans f9
            have hsy := sy_fr (hfr (1) (by omega)) (hfr (2) (by omega)) (hfr (3) (by omega)) hsy
            have hct := ct_fr (hfr (4) (by omega)) (hfr (5) (by omega)) (hfr (6) (by omega)) hct
            have hfm : ∀ j, 13 + 3 * 13 ≤ j → ws[j]? = ws0[j]? := fun j hj => (hfr j (by omega)).trans (hfm j hj)
            have hsu := fun j (hj : j < 13) => su_fr (hfr _ (by omega)) (hfr _ (by omega)) (hfr _ (by omega)) (hsu j hj)
            have hsu1 := su_fr (hfr _ (by omega)) (hfr _ (by omega)) (hfr _ (by omega)) hsu1
            have hsy := sy_ad (hag 1 (by omega)) (hag 2 (by omega)) (hag 3 (by omega)) hsy
            have hct := ct_ad (hag 4 (by omega)) (hag 5 (by omega)) (hag 6 (by omega)) hct
            have hgr : ∀ j, j < 12 → gr j = some (ad2 (10 + 3 * j)) := fun j hj => by rw [hag _ (by omega)]; exact hgr j hj
            have hsu : ∀ j, j < 13 + 1 → su_ok ca ad2 n j ws su_one (fun _ => 0) 0 := fun j hj => by
              by_cases e9 : j = 13
              · subst e9; exact hsu1
              · exact su_ad (hag 1 (by omega)) (hag 8 (by omega)) (hag _ (by omega)) (hag _ (by omega)) (hag _ (by omega)) (hsu j (by omega))
            have ha0 := (hag 0 (by omega)).trans ha0
            have ha1 := (hag 1 (by omega)).trans ha1
            have ha4 := (hag 4 (by omega)).trans ha4
            have ha7 := (hag 7 (by omega)).trans ha7
            have ha8 := (hag 8 (by omega)).trans ha8
            have ha9 := (hag 9 (by omega)).trans ha9
            have ha46 := (hag 46 (by omega)).trans ha46
            have ha49 : ad2 49 = qd := ho
            refine W.widen (k := 9 + 3 * (13 + 1)) (n := 5156 + 28 * (13 + 1)) (by omega) (by omega) ?_
            refine W.widen (k := 51) (n := 5548) (by omega) (by omega) ?_
            exact hret _ _ _ 156 _ (⟨fun j hj => (hfm j (by omega)).trans (hz j (by omega)), ad2, ha0, by rw [ha0, ha1, ha4, ha7, ha9, ha46, ha49]; exact f0, hsy, hct, ⟨L8, by rw [ha8]; exact f8⟩, ⟨R7, by rw [ha7]; exact f7, fun j hj => by
              have e9 : j = 0 := by omega
              subst e9; exact hR⟩, ⟨gr, by rw [ha9]; exact f9, hgr⟩, fun j hj => by
              obtain ⟨x1, x2, h9, -⟩ := hsu j hj
              exact ⟨_, x1, x2, _, h9⟩, fun j hj => absurd hj (by omega), by omega, fun _ _ => hN0, by omega⟩) hP hD hS d_MG_init_156
          · have hi12 := hc
            obtain ⟨ha0, ha1, ha4, ha7, ha8, ha9⟩ := ha
            refine lv_aload_n (pc := 94) C0.1 C0.2.1 d_MG_init_94 rfl (lv_at hl 0 rfl) ?_
            refine mg_get (pc := 95) C0 in_MG hK hP (0) f0 rfl 4 (by decide) fl_MG_38 rfl d_MG_init_95 ?_
            refine lv_iload (pc := 98) C0.1 C0.2.1 d_MG_init_98 (lv_at hl 2 rfl) ?_
            have hln : ws.length = 10 + 3 * i := by
              obtain ⟨x9, h9⟩ := hpv
              have h8 := mg_len (k := 9 + 3 * i) (by rw [show 9 + 3 * i + 1 = 10 + 3 * i by omega]; exact (hfm _ (Nat.le_refl _)).trans (hz _ (by omega))) h9
              omega
            have hem : ws[11 + 3 * i]? = none := (hfm _ (by omega)).trans (hz _ (by omega))
            have heg : ws[12 + 3 * i]? = none := (hfm _ (by omega)).trans (hz _ (by omega))
            have hfm : ∀ j, 13 + 3 * i ≤ j → ws[j]? = ws0[j]? := fun j hj => hfm j (by omega)
            refine mg_new (pc := 100) (k := 10 + 3 * i) (ci := 2) (fs := [.int (nI 0), .null, .null, .null, .int (nI 0), .null]) C0 in_SU t_SU_ok (gw_t1 85 rfl rfl) (gw_t1 87 rfl rfl) (gw_t1 4 rfl rfl) hK hP hD hS hA rfl (fun j hj => by
              rcases (show j = 0 ∨ j = 1 ∨ j = 2 ∨ j = 3 ∨ j = 4 ∨ j = 5 by omega) with rfl | rfl | rfl | rfl | rfl | rfl <;> rfl) (hln) (show 9 + 3 * i + 1 ≤ 51 by omega) (show 5156 + 28 * i + 6 ≤ 5548 by omega) d_MG_init_100 (fun qo ws H hfr fo hP hD hS => ?_)
            have f0 := (hfr (0) (by omega)).trans f0
            have f7 := (hfr (7) (by omega)).trans f7
            have f8 := (hfr (8) (by omega)).trans f8
            have f9 := (hfr (9) (by omega)).trans f9
            have hem := (hfr (11 + 3 * i) (by omega)).trans hem
            have heg := (hfr (12 + 3 * i) (by omega)).trans heg
            have hsy := sy_fr (hfr (1) (by omega)) (hfr (2) (by omega)) (hfr (3) (by omega)) hsy
            have hct := ct_fr (hfr (4) (by omega)) (hfr (5) (by omega)) (hfr (6) (by omega)) hct
            have hfm : ∀ j, 13 + 3 * i ≤ j → ws[j]? = ws0[j]? := fun j hj => (hfr j (by omega)).trans (hfm j hj)
            have hsu := fun j (hj : j < i) => su_fr (hfr _ (by omega)) (hfr _ (by omega)) (hfr _ (by omega)) (hsu j hj)
            refine lv_dup (pc := 103) C0.1 C0.2.1 d_MG_init_103 rfl ?_
            refine lv_aload_n (pc := 104) C0.1 C0.2.1 d_MG_init_104 rfl (lv_at hl 0 rfl) ?_
            refine mg_get (pc := 105) C0 in_MG hK hP (0) f0 rfl 0 (by decide) fl_MG_14 rfl d_MG_init_105 ?_
            refine lv_aload_n (pc := 108) C0.1 C0.2.1 d_MG_init_108 rfl (lv_at hl 1 rfl) ?_
            have hC := c_SU_init l D ca ad h2 h6 (i := i) (qo := qo) ws
            have f1 := hsy.1
            rw [ha1] at hC f1
            rw [ha8] at hC
            refine mg_inR (pc := 109) (As := [.ref (q1), .ref (q8)]) (rest := [.ref (qo), .int (nI (i)), .ref (q9)]) C0 (hC f1 fo hem heg) lk_MG_42 rfl ⟨Nat.le_of_ble_eq_true rfl, Nat.le_of_ble_eq_true rfl⟩ ⟨show 9 + 3 * i + 1 + 2 ≤ 51 by omega, show 5156 + 28 * i + 6 + ((pm_fc n + 63) / 64 + 10) ≤ 5548 by omega⟩ hK hP hD hS hA rfl hl.1 rfl (Nat.le_of_ble_eq_true rfl) d_MG_init_109 (fun ws H locs hpost hP hD hS => ?_)
            obtain ⟨hfr, ad1, ho, hag, hsu1⟩ := hpost
            have f0 := (hfr (0) (by omega)).trans f0
            have f7 := (hfr (7) (by omega)).trans f7
            have f8 := (hfr (8) (by omega)).trans f8
            have f9 := (hfr (9) (by omega)).trans f9
            have hsy := sy_fr (hfr (1) (by omega)) (hfr (2) (by omega)) (hfr (3) (by omega)) hsy
            have hct := ct_fr (hfr (4) (by omega)) (hfr (5) (by omega)) (hfr (6) (by omega)) hct
            have hfm : ∀ j, 13 + 3 * i ≤ j → ws[j]? = ws0[j]? := fun j hj => (hfr j (by omega)).trans (hfm j hj)
            have hsu := fun j (hj : j < i) => su_fr (hfr _ (by omega)) (hfr _ (by omega)) (hfr _ (by omega)) (hsu j hj)
            have hsu9 := hsu1
            obtain ⟨fm_, fg_, ⟨fo, -, fg9⟩, -⟩ := hsu9
            rw [ho] at fo
            refine mg_ast (pc := 112) C0 hK hP hD hS 9 4 (10 + 3 * i) 2 f9 rfl fo rfl hi12 (by decide) d_MG_init_112 (fun ws H locs hfr f9 hP hD hS => ?_)
            have f0 := (hfr (0) (by omega)).trans f0
            have f7 := (hfr (7) (by omega)).trans f7
            have f8 := (hfr (8) (by omega)).trans f8
            have hsy := sy_fr (hfr (1) (by omega)) (hfr (2) (by omega)) (hfr (3) (by omega)) hsy
            have hct := ct_fr (hfr (4) (by omega)) (hfr (5) (by omega)) (hfr (6) (by omega)) hct
            have hfm : ∀ j, 13 + 3 * i ≤ j → ws[j]? = ws0[j]? := fun j hj => (hfr j (by omega)).trans (hfm j hj)
            have hsu := fun j (hj : j < i) => su_fr (hfr _ (by omega)) (hfr _ (by omega)) (hfr _ (by omega)) (hsu j hj)
            have hsu1 := su_fr (hfr _ (by omega)) (hfr _ (by omega)) (hfr _ (by omega)) hsu1
            have fg9 := (hfr (12 + 3 * i) (by omega)).trans fg9
            refine lv_iinc (pc := 113) (k := 2) (v := nI (i + 1)) (lv' := [(4, .int (nI (i + 1))), (0, .ref (q0)), (3, .ref (q8))]) C0.1 C0.2.1 d_MG_init_113 hl rfl (nb_p1 _) (by decide) rfl (fun ls hl => ?_)
            refine lv_goto (pc := 116) (tgt := 87) C0.1 C0.2.1 d_MG_init_116 (by decide) ?_
            refine W.widen (k := 9 + 3 * (i + 1)) (n := 5156 + 28 * (i + 1)) (by omega) (by omega) ?_
            exact ih_loop _ (by omega) (i + 1) ad1 _ R7 L8 _ _ _ _ rfl (by omega) (⟨(hag 0 (by omega)).trans ha0, (hag 1 (by omega)).trans ha1, (hag 4 (by omega)).trans ha4, (hag 7 (by omega)).trans ha7, (hag 8 (by omega)).trans ha8, (hag 9 (by omega)).trans ha9⟩) hR (sy_ad (hag 1 (by omega)) (hag 2 (by omega)) (hag 3 (by omega)) hsy) (ct_ad (hag 4 (by omega)) (hag 5 (by omega)) (hag 6 (by omega)) hct) (fun j hj => by
              by_cases e9 : j = i
              · subst e9; rw [ho]; exact if_pos rfl
              · rw [hag _ (by omega)]; exact (if_neg e9).trans (hgr j (by omega))) (fun j hj => by
              by_cases e9 : j = i
              · subst e9; exact hsu1
              · exact su_ad (hag 1 (by omega)) (hag 8 (by omega)) (hag _ (by omega)) (hag _ (by omega)) (hag _ (by omega)) (hsu j (by omega))) (⟨_, by rw [show 9 + 3 * (i + 1) = 12 + 3 * i by omega]; exact fg9⟩) (fun j hj => hfm j (by omega)) f0 f7 f8 f9 (lv_sub hl [1, 2, 0] rfl) hP hD hS
      exact loop _ 0 (mg_ad10 q0 q1 q2 q3 q4 q5 q6 q7 q8 q9) _ _ _ _ _ _ _ rfl (by omega) (⟨rfl, rfl, rfl, rfl, rfl, rfl⟩) pk_us hsy hct (fun j hj => absurd hj (by omega)) (fun j hj => absurd hj (by omega)) (⟨_, f9⟩) hfm f0 f7 f8 f9 (lv_sub hl [3, 1, 0] rfl) hP hD hS
