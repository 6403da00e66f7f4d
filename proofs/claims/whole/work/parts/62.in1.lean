/-! The class's constructors -/
abbrev mg_ad3 (q1 q2 q3 : Nat) : Nat → Nat
  | 1 => q1
  | 2 => q2
  | _ => q3
set_option maxHeartbeats 4000000 in
set_option maxRecDepth 100000 in
theorem c_SY_init (l : Launch) (D : va_G) (ca : Nat → ClassId) {n : Nat} (h2 : 2 ≤ n) (h6 : n ≤ 6) {q1 : Nat} (ws0 : va_W) (z1 : ws0[1]? = some (q1, .inr (1, [.int (nI 0), .int (nI 0), .null, .null]))) (zn2 : ws0[2]? = none) (zn3 : ws0[3]? = none) : mg_N l y_SY_init b_SY_init 3 3 2 (pm_fc n * n + n) D classes (tys_ ca) [.ref (q1), .int (nI (n))] ws0 (fun w => (∀ j, j ≠ 1 ∧ j ≠ 2 ∧ j ≠ 3 → w[j]? = ws0[j]?) ∧ ∃ q2 q3 : Nat, sy_ok ca (mg_ad3 q1 q2 q3) n w) := by
  have hN := pm_fc_le h6
  refine mg_openN (own := R_SY) rfl (by decide) rfl (Nat.le_of_ble_eq_true rfl) ?_
  intro p e s m args below meth c A Q ls C0 hnm hK hA hP hD hS hl hret
  have hl : lv_has ls 3 [(0, .ref (q1)), (1, .int (nI (n)))] := hl
  have f1 := z1
  have fn2 := zn2
  have fn3 := zn3
  have hfm : ∀ j, j ≠ 1 ∧ j ≠ 2 ∧ j ≠ 3 → ws0[j]? = ws0[j]? := fun _ _ => rfl
  have hNn : pm_fc n * n ≤ 720 * 6 := Nat.mul_le_mul hN h6
  refine lv_aload_n (pc := 0) C0.1 C0.2.1 d_SY_init_0 rfl (lv_at hl 0 rfl) ?_
  refine mg_obj (pc := 1) C0 (gw_t1 22 rfl rfl) (gw_t1 15 rfl rfl) (gw_t1 16 rfl rfl) hl.1 (Nat.le_of_ble_eq_true rfl) (Nat.le_of_ble_eq_true rfl) d_SY_init_1 ?_
  refine lv_aload_n (pc := 4) C0.1 C0.2.1 d_SY_init_4 rfl (lv_at hl 0 rfl) ?_
  refine lv_iload_n (pc := 5) C0.1 C0.2.1 d_SY_init_5 rfl (lv_at hl 1 rfl) ?_
  refine mg_putF (pc := 6) C0 hnm in_SY t_SY_ok n_SY hK hP hD hS (1) f1 rfl 0 (by decide) fl_SY_7 rfl rfl (ty := .int) (by decide +kernel) rfl rfl (Nat.le_of_ble_eq_true rfl) (fs' := [.int (nI (n)), .int (nI 0), .null, .null]) rfl d_SY_init_6 (fun ws H locs hfr f1 hP hD hS => ?_)
  have fn2 := (hfr (2) (by omega)).trans fn2
  have fn3 := (hfr (3) (by omega)).trans fn3
  have hfm : ∀ j, j ≠ 1 ∧ j ≠ 2 ∧ j ≠ 3 → ws[j]? = ws0[j]? := fun j hj => (hfr j (by omega)).trans (hfm j hj)
  refine lv_aload_n (pc := 9) C0.1 C0.2.1 d_SY_init_9 rfl (lv_at hl 0 rfl) ?_
  refine lv_iload_n (pc := 10) C0.1 C0.2.1 d_SY_init_10 rfl (lv_at hl 1 rfl) ?_
  refine mg_siR (pc := 11) (As := [.int (nI (n))]) (rest := [.ref (q1)]) C0 (c_SY_factorial l D ca (fun _ => 0) h2 h6 ws) lk_SY_13 ⟨Nat.le_of_ble_eq_true rfl, Nat.le_of_ble_eq_true rfl⟩ ⟨show 0 ≤ 2 by omega, show 0 ≤ pm_fc n * n + n by omega⟩ hK hP hD hS hA rfl hl.1 rfl (Nat.le_of_ble_eq_true rfl) d_SY_init_11 (fun rv ws1 H locs hpost hP hD hS => ?_)
  obtain ⟨hr1, hw⟩ := hpost
  rw [hw] at hP hD
  refine mg_top (show rv = nI (pm_fc n) from hr1) ?_
  refine mg_putF (pc := 14) C0 hnm in_SY t_SY_ok n_SY hK hP hD hS (1) f1 rfl 1 (by decide) fl_SY_17 rfl rfl (ty := .int) (by decide +kernel) rfl rfl (Nat.le_of_ble_eq_true rfl) (fs' := [.int (nI (n)), .int (nI (pm_fc n)), .null, .null]) rfl d_SY_init_14 (fun ws H locs hfr f1 hP hD hS => ?_)
  have fn2 := (hfr (2) (by omega)).trans fn2
  have fn3 := (hfr (3) (by omega)).trans fn3
  have hfm : ∀ j, j ≠ 1 ∧ j ≠ 2 ∧ j ≠ 3 → ws[j]? = ws0[j]? := fun j hj => (hfr j (by omega)).trans (hfm j hj)
  refine lv_aload_n (pc := 17) C0.1 C0.2.1 d_SY_init_17 rfl (lv_at hl 0 rfl) ?_
  refine lv_aload_n (pc := 18) C0.1 C0.2.1 d_SY_init_18 rfl (lv_at hl 0 rfl) ?_
  refine mg_get (pc := 19) C0 in_SY hK hP (1) f1 rfl 1 (by decide) fl_SY_17 rfl d_SY_init_19 ?_
  refine lv_iload_n (pc := 22) C0.1 C0.2.1 d_SY_init_22 rfl (lv_at hl 1 rfl) ?_
  refine mn_mul (pc := 23) C0 d_SY_init_23 ?_
  refine mg_newa (pc := 24) (ty := .byte) (k := 2) (N' := (pm_fc n) * n) (cA := ca 0) (a0 := ((pm_fc n) * n, .inl (fun _ => nI 0))) C0 (gw_t1 50 rfl rfl) rfl (fun c9 h9 => Option.some.inj (h9.symm.trans (hK.2 0 _ rfl).2)) hK hP hD hS hA (fun _ => rfl) (by omega) (by rw [show componentBytes .byte = 1 from rfl]; omega) (mg_len fn2 f1) (show 0 + 1 ≤ 2 by omega) (show 0 + ((pm_fc n) * n) ≤ pm_fc n * n + n by omega) d_SY_init_24 (fun q2 ws H hfr f2 hP hD hS => ?_)
  have f1 := (hfr (1) (by omega)).trans f1
  have fn3 := (hfr (3) (by omega)).trans fn3
  have hfm : ∀ j, j ≠ 1 ∧ j ≠ 2 ∧ j ≠ 3 → ws[j]? = ws0[j]? := fun j hj => (hfr j (by omega)).trans (hfm j hj)
  refine mg_putF (pc := 26) C0 hnm in_SY t_SY_ok n_SY hK hP hD hS (1) f1 rfl 2 (by decide) fl_SY_20 rfl rfl (ty := .array (.byte)) (by decide +kernel) rfl rfl (Nat.le_of_ble_eq_true rfl) (fs' := [.int (nI (n)), .int (nI (pm_fc n)), .ref (q2), .null]) rfl d_SY_init_26 (fun ws H locs hfr f1 hP hD hS => ?_)
  have fn3 := (hfr (3) (by omega)).trans fn3
  have f2 := (hfr (2) (by omega)).trans f2
  have hfm : ∀ j, j ≠ 1 ∧ j ≠ 2 ∧ j ≠ 3 → ws[j]? = ws0[j]? := fun j hj => (hfr j (by omega)).trans (hfm j hj)
  refine lv_aload_n (pc := 29) C0.1 C0.2.1 d_SY_init_29 rfl (lv_at hl 0 rfl) ?_
  refine lv_iload_n (pc := 30) C0.1 C0.2.1 d_SY_init_30 rfl (lv_at hl 1 rfl) ?_
  refine mg_newa (pc := 31) (ty := .int) (k := 3) (N' := n) (cA := ca 1) (a0 := (n, .inl (fun _ => nI 0))) C0 (gw_t1 51 rfl rfl) rfl (fun c9 h9 => Option.some.inj (h9.symm.trans (hK.2 1 _ rfl).2)) hK hP hD hS hA (fun _ => rfl) (by omega) (by rw [show componentBytes .int = 4 from rfl]; omega) (mg_len fn3 f2) (show 0 + 1 + 1 ≤ 2 by omega) (show 0 + ((pm_fc n) * n) + n ≤ pm_fc n * n + n by omega) d_SY_init_31 (fun q3 ws H hfr f3 hP hD hS => ?_)
  have f1 := (hfr (1) (by omega)).trans f1
  have f2 := (hfr (2) (by omega)).trans f2
  have hfm : ∀ j, j ≠ 1 ∧ j ≠ 2 ∧ j ≠ 3 → ws[j]? = ws0[j]? := fun j hj => (hfr j (by omega)).trans (hfm j hj)
  refine mg_putF (pc := 33) C0 hnm in_SY t_SY_ok n_SY hK hP hD hS (1) f1 rfl 3 (by decide) fl_SY_24 rfl rfl (ty := .array (.int)) (by decide +kernel) rfl rfl (Nat.le_of_ble_eq_true rfl) (fs' := [.int (nI (n)), .int (nI (pm_fc n)), .ref (q2), .ref (q3)]) rfl d_SY_init_33 (fun ws H locs hfr f1 hP hD hS => ?_)
  have f2 := (hfr (2) (by omega)).trans f2
  have f3 := (hfr (3) (by omega)).trans f3
  have hfm : ∀ j, j ≠ 1 ∧ j ≠ 2 ∧ j ≠ 3 → ws[j]? = ws0[j]? := fun j hj => (hfr j (by omega)).trans (hfm j hj)
  refine lv_iconst (pc := 36) (v := nI (0)) C0.1 C0.2.1 d_SY_init_36 (by decide +kernel) ?_
  refine lv_istore_n (pc := 37) (lv' := [(2, .int (nI (0))), (0, .ref (q1)), (1, .int (nI (n)))]) C0.1 C0.2.1 d_SY_init_37 rfl hl (by decide) rfl (fun ls hl => ?_)
  have loop : ∀ (d : Nat) (r : Nat) (t : Nat → Int32) (f : Nat → Int32) (ws : va_W) (H : Heap) (locs : List Loc) (ls : Array Slot), pm_fc n - r = d → (r ≤ pm_fc n) → (∀ r1 x, r1 < r → x < n → t (r1 * n + x) = nI (pm_im n r1 x)) → (∀ j, j ≠ 1 ∧ j ≠ 2 ∧ j ≠ 3 → ws[j]? = ws0[j]?) → ws[1]? = some (q1, .inr (1, [.int (nI (n)), .int (nI (pm_fc n)), .ref (q2), .ref (q3)])) → ws[2]? = some (q2, .inl (ca 0, pm_fc n * n, .inl (t))) → ws[3]? = some (q3, .inl (ca 1, n, .inl (f))) → lv_has ls 3 [(0, .ref (q1)), (1, .int (nI (n))), (2, .int (nI (r)))] → va_P D classes ws H → va_D A ws → va_S A s.heap H locs → W p l e (mg_rn 3 2 (pm_fc n * n + n)) s m args below meth c H locs (0 + 1 + 1) (0 + ((pm_fc n) * n) + n) Q (F0 m 38 ls []) := by
    intro d
    induction d using Nat.strongRecOn with
    | _ d ih_loop =>
      intro r t f ws H locs ls hd hr ht hfm f1 f2 f3 hl hP hD hS
      refine lv_iload_n (pc := 38) C0.1 C0.2.1 d_SY_init_38 rfl (lv_at hl 2 rfl) ?_
      refine lv_aload_n (pc := 39) C0.1 C0.2.1 d_SY_init_39 rfl (lv_at hl 0 rfl) ?_
      refine mg_get (pc := 40) C0 in_SY hK hP (1) f1 rfl 1 (by decide) fl_SY_17 rfl d_SY_init_40 ?_
      refine mb_ge (pc := 43) (tgt := 57) C0 (by omega) (by omega) d_SY_init_43 (by decide) (fun hc => ?_) (fun hc => ?_)
      · refine W.widen (k := 2) (n := pm_fc n * n + n) (by omega) (by omega) ?_
        exact hret _ _ _ 57 _ (⟨hfm, q2, q3, f1, ⟨t, f2, fun r1 x h9 hx => ht r1 x (by omega) hx⟩, f, f3⟩) hP hD hS d_SY_init_57
      · have hrN := hc
        refine lv_aload_n (pc := 46) C0.1 C0.2.1 d_SY_init_46 rfl (lv_at hl 0 rfl) ?_
        refine lv_iload_n (pc := 47) C0.1 C0.2.1 d_SY_init_47 rfl (lv_at hl 2 rfl) ?_
        refine mg_cvR (pc := 48) (As := [.int (nI (r))]) (rest := []) C0 (c_SY_writeImages l D ca (mg_ad3 q1 q2 q3) h2 h6 hrN ws f1 f2 f3) lk_SY_28 ⟨Nat.le_of_ble_eq_true rfl, Nat.le_of_ble_eq_true rfl⟩ ⟨show 0 + 1 + 1 ≤ 2 by omega, show 0 + ((pm_fc n) * n) + n ≤ pm_fc n * n + n by omega⟩ f1 rfl hK hP hD hS hA rfl hl.1 rfl (Nat.le_of_ble_eq_true rfl) d_SY_init_48 (fun ws H locs hpost hP hD hS => ?_)
        obtain ⟨hfr, ⟨t2, f2, hnw, hod⟩, f9, f3⟩ := hpost
        have f1 := (hfr (1) (by omega)).trans f1
        have hfm : ∀ j, j ≠ 1 ∧ j ≠ 2 ∧ j ≠ 3 → ws[j]? = ws0[j]? := fun j hj => (hfr j (by omega)).trans (hfm j hj)
        refine lv_iinc (pc := 51) (k := 2) (v := nI (r + 1)) (lv' := [(2, .int (nI (r + 1))), (0, .ref (q1)), (1, .int (nI (n)))]) C0.1 C0.2.1 d_SY_init_51 hl rfl (nb_p1 _) (by decide) rfl (fun ls hl => ?_)
        refine lv_goto (pc := 54) (tgt := 38) C0.1 C0.2.1 d_SY_init_54 (by decide) ?_
        exact ih_loop _ (by omega) (r + 1) t2 f9 _ _ _ _ rfl (by omega) (fun r1 x h9 hx => by
          by_cases e9 : r1 = r
          · subst e9; exact hnw x hx
          · rw [hod _ (pm_ix (by omega) hx)]; exact ht r1 x (by omega) hx) hfm f1 f2 f3 (lv_sub hl [1, 2, 0] rfl) hP hD hS
  exact loop _ 0 _ _ _ _ _ _ rfl (by omega) (fun r1 x h9 => absurd h9 (by omega)) hfm f1 f2 f3 (lv_sub hl [1, 2, 0] rfl) hP hD hS
