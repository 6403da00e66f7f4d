/-! The class itself: contracts, first part -/
set_option maxHeartbeats 4000000 in
set_option maxRecDepth 100000 in
theorem c_MG_isPermutation0 (l : Launch) (D : va_G) (ca : Nat → ClassId) (ad : Nat → Nat) {pc gc : Nat} {x : Int32} (hx : x < 0 ∨ nI pc ≤ x) (ws0 : va_W) (z0 : ws0[0]? = some (ad 0, .inr (0, [.ref (ad 1), .ref (ad 4), .ref (ad 7), .int (nI (pc)), .ref (ad 9), .int (nI (gc)), .ref (ad 46), .ref (ad 49)]))) : mg_I l y_MG_isPermutation b_MG_isPermutation 2 (.boolean) 1 D classes (tys_ ca) [.ref (ad 0), .int (x)] ws0 (fun v w => v = nI 0 ∧ w = ws0) := by
  refine mg_openI (own := R_MG) rfl (by decide) (Nat.le_of_ble_eq_true rfl) ?_
  intro p e s m args below meth c A Q ls C0 hK hA hP hD hS hl hret
  have hl : lv_has ls 2 [(0, .ref (ad 0)), (1, .int (x))] := hl
  have f0 := z0
  refine lv_iload_n (pc := 0) C0.1 C0.2.1 d_MG_isPermutation_0 rfl (lv_at hl 1 rfl) ?_
  refine lv_if_lt (pc := 1) (tgt := 16) C0.1 C0.2.1 d_MG_isPermutation_1 (by decide) (fun hc => ?_) (fun hc => ?_)
  · refine lv_iconst (pc := 16) (v := nI (0)) C0.1 C0.2.1 d_MG_isPermutation_16 (by decide +kernel) ?_
    exact hret _ _ _ _ 17 _ (rfl) (⟨rfl, rfl⟩) hP hD hS d_MG_isPermutation_17
  · refine lv_iload_n (pc := 4) C0.1 C0.2.1 d_MG_isPermutation_4 rfl (lv_at hl 1 rfl) ?_
    refine lv_aload_n (pc := 5) C0.1 C0.2.1 d_MG_isPermutation_5 rfl (lv_at hl 0 rfl) ?_
    refine mg_get (pc := 6) C0 in_MG hK hP (0) f0 rfl 3 (by decide) fl_MG_29 rfl d_MG_isPermutation_6 ?_
    refine lv_icmp_ge (pc := 9) (tgt := 16) C0.1 C0.2.1 d_MG_isPermutation_9 (by decide) (fun hc2 => ?_) (fun hc2 => ?_)
    · refine lv_iconst (pc := 16) (v := nI (0)) C0.1 C0.2.1 d_MG_isPermutation_16 (by decide +kernel) ?_
      exact hret _ _ _ _ 17 _ (rfl) (⟨rfl, rfl⟩) hP hD hS d_MG_isPermutation_17
    · exact (hx.elim hc hc2).elim
set_option maxHeartbeats 4000000 in
set_option maxRecDepth 100000 in
theorem c_MG_isPermutation1 (l : Launch) (D : va_G) (ca : Nat → ClassId) (ad : Nat → Nat) {pc gc j : Nat} (hj : j < pc) (hk : pc < 2 ^ 31 ∧ gc < 2 ^ 31) (ws0 : va_W) (z0 : ws0[0]? = some (ad 0, .inr (0, [.ref (ad 1), .ref (ad 4), .ref (ad 7), .int (nI (pc)), .ref (ad 9), .int (nI (gc)), .ref (ad 46), .ref (ad 49)]))) : mg_I l y_MG_isPermutation b_MG_isPermutation 2 (.boolean) 1 D classes (tys_ ca) [.ref (ad 0), .int (nI (j))] ws0 (fun v w => v = nI 1 ∧ w = ws0) := by
  refine mg_openI (own := R_MG) rfl (by decide) (Nat.le_of_ble_eq_true rfl) ?_
  intro p e s m args below meth c A Q ls C0 hK hA hP hD hS hl hret
  have hl : lv_has ls 2 [(0, .ref (ad 0)), (1, .int (nI (j)))] := hl
  have f0 := z0
  refine lv_iload_n (pc := 0) C0.1 C0.2.1 d_MG_isPermutation_0 rfl (lv_at hl 1 rfl) ?_
  refine mz_lt (pc := 1) (tgt := 16) C0 (by omega) d_MG_isPermutation_1 (by decide) ?_
  refine lv_iload_n (pc := 4) C0.1 C0.2.1 d_MG_isPermutation_4 rfl (lv_at hl 1 rfl) ?_
  refine lv_aload_n (pc := 5) C0.1 C0.2.1 d_MG_isPermutation_5 rfl (lv_at hl 0 rfl) ?_
  refine mg_get (pc := 6) C0 in_MG hK hP (0) f0 rfl 3 (by decide) fl_MG_29 rfl d_MG_isPermutation_6 ?_
  refine mb_ge (pc := 9) (tgt := 16) C0 (by omega) (by omega) d_MG_isPermutation_9 (by decide) (fun hc => ?_) (fun hc => ?_)
  · exact absurd hc (by omega)
  · refine lv_iconst (pc := 12) (v := nI (1)) C0.1 C0.2.1 d_MG_isPermutation_12 (by decide +kernel) ?_
    refine lv_goto (pc := 13) (tgt := 17) C0.1 C0.2.1 d_MG_isPermutation_13 (by decide) ?_
    exact hret _ _ _ _ 17 _ (rfl) (⟨rfl, rfl⟩) hP hD hS d_MG_isPermutation_17
set_option maxHeartbeats 4000000 in
set_option maxRecDepth 100000 in
theorem c_MG_isGroup0 (l : Launch) (D : va_G) (ca : Nat → ClassId) (ad : Nat → Nat) {pc gc : Nat} {x : Int32} (hx : x < 0 ∨ nI gc ≤ x) (ws0 : va_W) (z0 : ws0[0]? = some (ad 0, .inr (0, [.ref (ad 1), .ref (ad 4), .ref (ad 7), .int (nI (pc)), .ref (ad 9), .int (nI (gc)), .ref (ad 46), .ref (ad 49)]))) : mg_I l y_MG_isGroup b_MG_isGroup 2 (.boolean) 1 D classes (tys_ ca) [.ref (ad 0), .int (x)] ws0 (fun v w => v = nI 0 ∧ w = ws0) := by
  refine mg_openI (own := R_MG) rfl (by decide) (Nat.le_of_ble_eq_true rfl) ?_
  intro p e s m args below meth c A Q ls C0 hK hA hP hD hS hl hret
  have hl : lv_has ls 2 [(0, .ref (ad 0)), (1, .int (x))] := hl
  have f0 := z0
  refine lv_iload_n (pc := 0) C0.1 C0.2.1 d_MG_isGroup_0 rfl (lv_at hl 1 rfl) ?_
  refine lv_if_lt (pc := 1) (tgt := 16) C0.1 C0.2.1 d_MG_isGroup_1 (by decide) (fun hc => ?_) (fun hc => ?_)
  · refine lv_iconst (pc := 16) (v := nI (0)) C0.1 C0.2.1 d_MG_isGroup_16 (by decide +kernel) ?_
    exact hret _ _ _ _ 17 _ (rfl) (⟨rfl, rfl⟩) hP hD hS d_MG_isGroup_17
  · refine lv_iload_n (pc := 4) C0.1 C0.2.1 d_MG_isGroup_4 rfl (lv_at hl 1 rfl) ?_
    refine lv_aload_n (pc := 5) C0.1 C0.2.1 d_MG_isGroup_5 rfl (lv_at hl 0 rfl) ?_
    refine mg_get (pc := 6) C0 in_MG hK hP (0) f0 rfl 5 (by decide) fl_MG_45 rfl d_MG_isGroup_6 ?_
    refine lv_icmp_ge (pc := 9) (tgt := 16) C0.1 C0.2.1 d_MG_isGroup_9 (by decide) (fun hc2 => ?_) (fun hc2 => ?_)
    · refine lv_iconst (pc := 16) (v := nI (0)) C0.1 C0.2.1 d_MG_isGroup_16 (by decide +kernel) ?_
      exact hret _ _ _ _ 17 _ (rfl) (⟨rfl, rfl⟩) hP hD hS d_MG_isGroup_17
    · exact (hx.elim hc hc2).elim
set_option maxHeartbeats 4000000 in
set_option maxRecDepth 100000 in
theorem c_MG_isGroup1 (l : Launch) (D : va_G) (ca : Nat → ClassId) (ad : Nat → Nat) {pc gc j : Nat} (hj : j < gc) (hk : pc < 2 ^ 31 ∧ gc < 2 ^ 31) (ws0 : va_W) (z0 : ws0[0]? = some (ad 0, .inr (0, [.ref (ad 1), .ref (ad 4), .ref (ad 7), .int (nI (pc)), .ref (ad 9), .int (nI (gc)), .ref (ad 46), .ref (ad 49)]))) : mg_I l y_MG_isGroup b_MG_isGroup 2 (.boolean) 1 D classes (tys_ ca) [.ref (ad 0), .int (nI (j))] ws0 (fun v w => v = nI 1 ∧ w = ws0) := by
  refine mg_openI (own := R_MG) rfl (by decide) (Nat.le_of_ble_eq_true rfl) ?_
  intro p e s m args below meth c A Q ls C0 hK hA hP hD hS hl hret
  have hl : lv_has ls 2 [(0, .ref (ad 0)), (1, .int (nI (j)))] := hl
  have f0 := z0
  refine lv_iload_n (pc := 0) C0.1 C0.2.1 d_MG_isGroup_0 rfl (lv_at hl 1 rfl) ?_
  refine mz_lt (pc := 1) (tgt := 16) C0 (by omega) d_MG_isGroup_1 (by decide) ?_
  refine lv_iload_n (pc := 4) C0.1 C0.2.1 d_MG_isGroup_4 rfl (lv_at hl 1 rfl) ?_
  refine lv_aload_n (pc := 5) C0.1 C0.2.1 d_MG_isGroup_5 rfl (lv_at hl 0 rfl) ?_
  refine mg_get (pc := 6) C0 in_MG hK hP (0) f0 rfl 5 (by decide) fl_MG_45 rfl d_MG_isGroup_6 ?_
  refine mb_ge (pc := 9) (tgt := 16) C0 (by omega) (by omega) d_MG_isGroup_9 (by decide) (fun hc => ?_) (fun hc => ?_)
  · exact absurd hc (by omega)
  · refine lv_iconst (pc := 12) (v := nI (1)) C0.1 C0.2.1 d_MG_isGroup_12 (by decide +kernel) ?_
    refine lv_goto (pc := 13) (tgt := 17) C0.1 C0.2.1 d_MG_isGroup_13 (by decide) ?_
    exact hret _ _ _ _ 17 _ (rfl) (⟨rfl, rfl⟩) hP hD hS d_MG_isGroup_17
set_option maxHeartbeats 4000000 in
set_option maxRecDepth 100000 in
theorem c_MG_keep (l : Launch) (D : va_G) (ca : Nat → ClassId) (ad : Nat → Nat) {n : Nat} (h2 : 2 ≤ n) (h6 : n ≤ 6) {len : Nat} {tx : Nat → Nat} {pc : Nat} {rk : Nat → Nat} {gc : Nat} {gs : Nat → Nat → Bool} {r : Nat} (hr : r < pm_fc n) (ws0 : va_W) (h : MGW ca ad n (len, tx, pc, rk, gc, gs) ws0) : mg_I l y_MG_keep b_MG_keep 2 (.int) 1 D classes (tys_ ca) [.ref (ad 0), .int (nI (r))] ws0 (fun v w => v = (sp_keep (len, tx, pc, rk, gc, gs) r).1 ∧ MGW ca ad n (sp_keep (len, tx, pc, rk, gc, gs) r).2 w ∧ ∀ j, 52 ≤ j → w[j]? = ws0[j]?) := by
  have hM := h
  obtain ⟨z0, hsy, hct, hli, ⟨R, z7, hR⟩, ⟨gr, z9, hgr⟩, hraw, hgs, hp, hrk, hg⟩ := h
  have z1 := hsy.1
  have hN := pm_fc_le h6
  have g0 := pm_gp h2 h6
  refine mg_openI (own := R_MG) rfl (by decide) (Nat.le_of_ble_eq_true rfl) ?_
  intro p e s m args below meth c A Q ls C0 hK hA hP hD hS hl hret
  have hl : lv_has ls 2 [(0, .ref (ad 0)), (1, .int (nI (r)))] := hl
  have f0 := z0
  have f7 := z7
  have hfm : ∀ j, 52 ≤ j → ws0[j]? = ws0[j]? := fun _ _ => rfl
  refine lv_aload_n (pc := 0) C0.1 C0.2.1 d_MG_keep_0 rfl (lv_at hl 0 rfl) ?_
  refine mg_get (pc := 1) C0 in_MG hK hP (0) f0 rfl 3 (by decide) fl_MG_29 rfl d_MG_keep_1 ?_
  refine lv_bipush (pc := 4) (v := nI (40)) C0.1 C0.2.1 d_MG_keep_4 (by decide +kernel) ?_
  refine mb_lt (pc := 6) (tgt := 11) C0 (by omega) (by omega) d_MG_keep_6 (by decide) (fun hc => ?_) (fun hc => ?_)
  · have E : sp_keep (len, tx, pc, rk, gc, gs) r = (nI pc, (len, tx, pc + 1, su_up rk pc r, gc, gs)) := if_pos hc
    have hw2 : ∀ j, j ≠ 0 ∧ j ≠ 7 → ws0[j]? = ws0[j]? := fun _ _ => rfl
    have hfm := hw2
    refine lv_aload_n (pc := 11) C0.1 C0.2.1 d_MG_keep_11 rfl (lv_at hl 0 rfl) ?_
    refine mg_get (pc := 12) C0 in_MG hK hP (0) f0 rfl 2 (by decide) fl_MG_25 rfl d_MG_keep_12 ?_
    refine lv_aload_n (pc := 15) C0.1 C0.2.1 d_MG_keep_15 rfl (lv_at hl 0 rfl) ?_
    refine mg_get (pc := 16) C0 in_MG hK hP (0) f0 rfl 3 (by decide) fl_MG_29 rfl d_MG_keep_16 ?_
    refine lv_iload_n (pc := 19) C0.1 C0.2.1 d_MG_keep_19 rfl (lv_at hl 1 rfl) ?_
    refine mg_ist (pc := 20) C0 hK hP hD hS (7) 1 f7 rfl (j := pc) (by omega) (by omega) d_MG_keep_20 (fun ws H locs hfr f7 hP hD hS => ?_)
    have f0 := (hfr (0) (by omega)).trans f0
    have hfm : ∀ j, j ≠ 0 ∧ j ≠ 7 → ws[j]? = ws0[j]? := fun j hj => (hfr j (by omega)).trans (hfm j hj)
    refine lv_aload_n (pc := 21) C0.1 C0.2.1 d_MG_keep_21 rfl (lv_at hl 0 rfl) ?_
    refine lv_dup (pc := 22) C0.1 C0.2.1 d_MG_keep_22 rfl ?_
    refine mg_get (pc := 23) C0 in_MG hK hP (0) f0 rfl 3 (by decide) fl_MG_29 rfl d_MG_keep_23 ?_
    refine lv_iconst (pc := 26) (v := nI (1)) C0.1 C0.2.1 d_MG_keep_26 (by decide +kernel) ?_
    refine mn_add (pc := 27) C0 d_MG_keep_27 ?_
    refine mg_put (pc := 28) C0 in_MG t_MG_ok n_MG hK hP hD hS (0) f0 rfl 3 (by decide) fl_MG_29 rfl (ty := .int) (by decide +kernel) rfl rfl (Nat.le_of_ble_eq_true rfl) (fs' := [.ref (ad 1), .ref (ad 4), .ref (ad 7), .int (nI (pc + 1)), .ref (ad 9), .int (nI (gc)), .ref (ad 46), .ref (ad 49)]) rfl d_MG_keep_28 (fun ws H locs hfr f0 hP hD hS => ?_)
    have f7 := (hfr (7) (by omega)).trans f7
    have hfm : ∀ j, j ≠ 0 ∧ j ≠ 7 → ws[j]? = ws0[j]? := fun j hj => (hfr j (by omega)).trans (hfm j hj)
    refine lv_aload_n (pc := 31) C0.1 C0.2.1 d_MG_keep_31 rfl (lv_at hl 0 rfl) ?_
    refine mg_get (pc := 32) C0 in_MG hK hP (0) f0 rfl 3 (by decide) fl_MG_29 rfl d_MG_keep_32 ?_
    refine lv_iconst (pc := 35) (v := nI (1)) C0.1 C0.2.1 d_MG_keep_35 (by decide +kernel) ?_
    refine mn_sub (pc := 36) C0 (by omega) d_MG_keep_36 ?_
    rw [Nat.add_sub_cancel]
    exact hret _ _ _ _ 37 _ (rfl) (⟨by rw [E], by
        rw [E]
        exact mgw_obj hM hfm f0 f7 (fun i hi => by
          by_cases e : i = pc
          · subst e; rw [pk_us, su_us]
          · rw [pk_un e, su_un _ _ e]; exact hR i (by omega)) (by omega) (fun i hi => by
          by_cases e : i = pc
          · subst e; rw [su_us]; exact hr
          · rw [su_un _ _ e]; exact hrk i (by omega)) (Nat.le_refl _), fun j hj => hfm j (by omega)⟩) hP hD hS d_MG_keep_37
  · have E : sp_keep (len, tx, pc, rk, gc, gs) r = ((-1), (len, tx, pc, rk, gc, gs)) := if_neg (by omega)
    refine lv_iconst (pc := 9) (v := (-1)) C0.1 C0.2.1 d_MG_keep_9 (by decide +kernel) ?_
    exact hret _ _ _ _ 10 _ (rfl) (⟨by rw [E], by rw [E]; exact hM, hfm⟩) hP hD hS d_MG_keep_10
set_option maxHeartbeats 4000000 in
set_option maxRecDepth 100000 in
theorem c_MG_product (l : Launch) (D : va_G) (ca : Nat → ClassId) (ad : Nat → Nat) {n : Nat} (h2 : 2 ≤ n) (h6 : n ≤ 6) {len : Nat} {tx : Nat → Nat} {pc : Nat} {rk : Nat → Nat} {gc : Nat} {gs : Nat → Nat → Bool} {a b : Int32} (ws0 : va_W) (h : MGW ca ad n (len, tx, pc, rk, gc, gs) ws0) : mg_I l y_MG_product b_MG_product 3 (.int) 4 D classes (tys_ ca) [.ref (ad 0), .int (a), .int (b)] ws0 (fun v w => v = (sp_product n (len, tx, pc, rk, gc, gs) a b).1 ∧ MGW ca ad n (sp_product n (len, tx, pc, rk, gc, gs) a b).2 w ∧ ∀ j, 52 ≤ j → w[j]? = ws0[j]?) := by
  have hM := h
  obtain ⟨z0, hsy, hct, hli, ⟨R, z7, hR⟩, ⟨gr, z9, hgr⟩, hraw, hgs, hp, hrk, hg⟩ := h
  have z1 := hsy.1
  have hN := pm_fc_le h6
  have g0 := pm_gp h2 h6
  refine mg_openI (own := R_MG) rfl (by decide) (Nat.le_of_ble_eq_true rfl) ?_
  intro p e s m args below meth c A Q ls C0 hK hA hP hD hS hl hret
  have hl : lv_has ls 3 [(0, .ref (ad 0)), (1, .int (a)), (2, .int (b))] := hl
  have f0 := z0
  have f1 := z1
  have f7 := z7
  have f9 := z9
  have hfm : ∀ j, 52 ≤ j → ws0[j]? = ws0[j]? := fun _ _ => rfl
  have hk_ : pc < 2 ^ 31 ∧ gc < 2 ^ 31 := ⟨by omega, by omega⟩
  rcases sp_ix_or a (k := pc) (by omega) with ⟨hb_i, he⟩ | ⟨i, hi, rfl, he⟩
  · refine lv_aload_n (pc := 0) C0.1 C0.2.1 d_MG_product_0 rfl (lv_at hl 0 rfl) ?_
    refine lv_iload_n (pc := 1) C0.1 C0.2.1 d_MG_product_1 rfl (lv_at hl 1 rfl) ?_
    refine mg_ci (pc := 2) (As := [.int (a)]) (rest := []) C0 (c_MG_isPermutation0 l D ca ad hb_i ws0 f0) lk_MG_77 (by decide) f0 rfl hK hP hD hS hA rfl hl.1 rfl (Nat.le_of_ble_eq_true rfl) d_MG_product_2 (fun rv ws1 H locs hpost hP hD hS => ?_)
    obtain ⟨hr1, hw⟩ := hpost
    rw [hw] at hP hD
    refine mg_top (show rv = nI (0) from hr1) ?_
    refine mz_eq (pc := 5) (tgt := 16) C0 (by decide) d_MG_product_5 (by decide) (fun _ => ?_) (fun h9 => absurd rfl h9)
    have E : sp_product n (len, tx, pc, rk, gc, gs) a b = ((-1), (len, tx, pc, rk, gc, gs)) := by simp only [sp_product, he]
    refine lv_iconst (pc := 16) (v := (-1)) C0.1 C0.2.1 d_MG_product_16 (by decide +kernel) ?_
    exact hret _ _ _ _ 17 _ (rfl) (⟨by rw [E], by rw [E]; exact hM, hfm⟩) hP hD hS d_MG_product_17
  · refine lv_aload_n (pc := 0) C0.1 C0.2.1 d_MG_product_0 rfl (lv_at hl 0 rfl) ?_
    refine lv_iload_n (pc := 1) C0.1 C0.2.1 d_MG_product_1 rfl (lv_at hl 1 rfl) ?_
    refine mg_ci (pc := 2) (As := [.int (nI (i))]) (rest := []) C0 (c_MG_isPermutation1 l D ca ad hi hk_ ws0 f0) lk_MG_77 (by decide) f0 rfl hK hP hD hS hA rfl hl.1 rfl (Nat.le_of_ble_eq_true rfl) d_MG_product_2 (fun rv ws1 H locs hpost hP hD hS => ?_)
    obtain ⟨hr1, hw⟩ := hpost
    rw [hw] at hP hD
    refine mg_top (show rv = nI (1) from hr1) ?_
    refine mz_eq (pc := 5) (tgt := 16) C0 (by decide) d_MG_product_5 (by decide) (fun h9 => absurd h9 (by decide)) (fun _ => ?_)
    refine lv_aload_n (pc := 8) C0.1 C0.2.1 d_MG_product_8 rfl (lv_at hl 0 rfl) ?_
    refine lv_iload_n (pc := 9) C0.1 C0.2.1 d_MG_product_9 rfl (lv_at hl 2 rfl) ?_
    rcases sp_ix_or b (k := pc) (by omega) with ⟨hb_q, he2⟩ | ⟨q, hq, rfl, he2⟩
    · refine mg_ci (pc := 10) (As := [.int (b)]) (rest := []) C0 (c_MG_isPermutation0 l D ca ad hb_q ws0 f0) lk_MG_77 (by decide) f0 rfl hK hP hD hS hA rfl hl.1 rfl (Nat.le_of_ble_eq_true rfl) d_MG_product_10 (fun rv ws1 H locs hpost hP hD hS => ?_)
      obtain ⟨hr1, hw⟩ := hpost
      rw [hw] at hP hD
      refine mg_top (show rv = nI (0) from hr1) ?_
      refine mz_ne (pc := 13) (tgt := 18) C0 (by decide) d_MG_product_13 (by decide) (fun h9 => absurd rfl h9) (fun _ => ?_)
      have E : sp_product n (len, tx, pc, rk, gc, gs) (nI i) b = ((-1), (len, tx, pc, rk, gc, gs)) := by simp only [sp_product, he, he2]
      refine lv_iconst (pc := 16) (v := (-1)) C0.1 C0.2.1 d_MG_product_16 (by decide +kernel) ?_
      exact hret _ _ _ _ 17 _ (rfl) (⟨by rw [E], by rw [E]; exact hM, hfm⟩) hP hD hS d_MG_product_17
    · refine mg_ci (pc := 10) (As := [.int (nI (q))]) (rest := []) C0 (c_MG_isPermutation1 l D ca ad hq hk_ ws0 f0) lk_MG_77 (by decide) f0 rfl hK hP hD hS hA rfl hl.1 rfl (Nat.le_of_ble_eq_true rfl) d_MG_product_10 (fun rv ws1 H locs hpost hP hD hS => ?_)
      obtain ⟨hr1, hw⟩ := hpost
      rw [hw] at hP hD
      refine mg_top (show rv = nI (1) from hr1) ?_
      refine mz_ne (pc := 13) (tgt := 18) C0 (by decide) d_MG_product_13 (by decide) (fun _ => ?_) (fun h9 => absurd h9 (by decide))
      refine lv_aload_n (pc := 18) C0.1 C0.2.1 d_MG_product_18 rfl (lv_at hl 0 rfl) ?_
      refine lv_aload_n (pc := 19) C0.1 C0.2.1 d_MG_product_19 rfl (lv_at hl 0 rfl) ?_
      refine mg_get (pc := 20) C0 in_MG hK hP (0) f0 rfl 0 (by decide) fl_MG_14 rfl d_MG_product_20 ?_
      refine lv_aload_n (pc := 23) C0.1 C0.2.1 d_MG_product_23 rfl (lv_at hl 0 rfl) ?_
      refine mg_get (pc := 24) C0 in_MG hK hP (0) f0 rfl 2 (by decide) fl_MG_25 rfl d_MG_product_24 ?_
      refine lv_iload_n (pc := 27) C0.1 C0.2.1 d_MG_product_27 rfl (lv_at hl 1 rfl) ?_
      refine mg_ild (pc := 28) C0 hK hP (7) 1 f7 rfl (j := i) (by omega) (by omega) d_MG_product_28 ?_
      refine mg_top (show R (i) = nI (rk i) from hR i hi) ?_
      refine lv_aload_n (pc := 29) C0.1 C0.2.1 d_MG_product_29 rfl (lv_at hl 0 rfl) ?_
      refine mg_get (pc := 30) C0 in_MG hK hP (0) f0 rfl 2 (by decide) fl_MG_25 rfl d_MG_product_30 ?_
      refine lv_iload_n (pc := 33) C0.1 C0.2.1 d_MG_product_33 rfl (lv_at hl 2 rfl) ?_
      refine mg_ild (pc := 34) C0 hK hP (7) 1 f7 rfl (j := q) (by omega) (by omega) d_MG_product_34 ?_
      refine mg_top (show R (q) = nI (rk q) from hR q hq) ?_
      refine mg_ci (pc := 35) (As := [.int (nI (rk i)), .int (nI (rk q))]) (rest := [.ref (ad 0)]) C0 (c_SY_multiply l D ca ad h2 h6 (hrk i hi) (hrk q hq) ws0 hsy) lk_MG_81 (by decide) f1 rfl hK hP hD hS hA rfl hl.1 rfl (Nat.le_of_ble_eq_true rfl) d_MG_product_35 (fun rv ws H locs hpost hP hD hS => ?_)
      obtain ⟨hr1, hfr, hsy⟩ := hpost
      have f0 := (hfr (0) (by omega)).trans f0
      have f1 := (hfr (1) (by omega)).trans f1
      have f7 := (hfr (7) (by omega)).trans f7
      have f9 := (hfr (9) (by omega)).trans f9
      have hfm : ∀ j, 52 ≤ j → ws[j]? = ws0[j]? := fun j hj => (hfr j (by omega)).trans (hfm j hj)
      refine mg_top (show rv = nI (pm_mu n (rk i) (rk q)) from hr1) ?_
      refine mg_ci (pc := 38) (As := [.int (nI (pm_mu n (rk i) (rk q)))]) (rest := []) C0 (c_MG_keep l D ca ad h2 h6 (gp_m g0 (hrk i hi) (hrk q hq)) ws (mgw_row hM hfr hsy)) lk_MG_73 (by decide) f0 rfl hK hP hD hS hA rfl hl.1 rfl (Nat.le_of_ble_eq_true rfl) d_MG_product_38 (fun rv ws H locs hpost hP hD hS => ?_)
      obtain ⟨hr1, hM1, hfr⟩ := hpost
      have hfm : ∀ j, 52 ≤ j → ws[j]? = ws0[j]? := fun j hj => (hfr j (by omega)).trans (hfm j hj)
      have E : sp_product n (len, tx, pc, rk, gc, gs) (nI i) (nI q) = sp_keep (len, tx, pc, rk, gc, gs) (pm_mu n (rk i) (rk q)) := by simp only [sp_product, he, he2]
      exact hret _ _ _ _ 41 _ (rfl) (⟨by rw [E]; exact hr1, by rw [E]; exact hM1, hfm⟩) hP hD hS d_MG_product_41
set_option maxHeartbeats 4000000 in
set_option maxRecDepth 100000 in
theorem c_MG_inverse (l : Launch) (D : va_G) (ca : Nat → ClassId) (ad : Nat → Nat) {n : Nat} (h2 : 2 ≤ n) (h6 : n ≤ 6) {len : Nat} {tx : Nat → Nat} {pc : Nat} {rk : Nat → Nat} {gc : Nat} {gs : Nat → Nat → Bool} {a : Int32} (ws0 : va_W) (h : MGW ca ad n (len, tx, pc, rk, gc, gs) ws0) : mg_I l y_MG_inverse b_MG_inverse 2 (.int) 4 D classes (tys_ ca) [.ref (ad 0), .int (a)] ws0 (fun v w => v = (sp_inverse n (len, tx, pc, rk, gc, gs) a).1 ∧ MGW ca ad n (sp_inverse n (len, tx, pc, rk, gc, gs) a).2 w ∧ ∀ j, 52 ≤ j → w[j]? = ws0[j]?) := by
  have hM := h
  obtain ⟨z0, hsy, hct, hli, ⟨R, z7, hR⟩, ⟨gr, z9, hgr⟩, hraw, hgs, hp, hrk, hg⟩ := h
  have z1 := hsy.1
  have hN := pm_fc_le h6
  have g0 := pm_gp h2 h6
  refine mg_openI (own := R_MG) rfl (by decide) (Nat.le_of_ble_eq_true rfl) ?_
  intro p e s m args below meth c A Q ls C0 hK hA hP hD hS hl hret
  have hl : lv_has ls 2 [(0, .ref (ad 0)), (1, .int (a))] := hl
  have f0 := z0
  have f1 := z1
  have f7 := z7
  have f9 := z9
  have hfm : ∀ j, 52 ≤ j → ws0[j]? = ws0[j]? := fun _ _ => rfl
  have hk_ : pc < 2 ^ 31 ∧ gc < 2 ^ 31 := ⟨by omega, by omega⟩
  rcases sp_ix_or a (k := pc) (by omega) with ⟨hb_i, he⟩ | ⟨i, hi, rfl, he⟩
  · refine lv_aload_n (pc := 0) C0.1 C0.2.1 d_MG_inverse_0 rfl (lv_at hl 0 rfl) ?_
    refine lv_iload_n (pc := 1) C0.1 C0.2.1 d_MG_inverse_1 rfl (lv_at hl 1 rfl) ?_
    refine mg_ci (pc := 2) (As := [.int (a)]) (rest := []) C0 (c_MG_isPermutation0 l D ca ad hb_i ws0 f0) lk_MG_77 (by decide) f0 rfl hK hP hD hS hA rfl hl.1 rfl (Nat.le_of_ble_eq_true rfl) d_MG_inverse_2 (fun rv ws1 H locs hpost hP hD hS => ?_)
    obtain ⟨hr1, hw⟩ := hpost
    rw [hw] at hP hD
    refine mg_top (show rv = nI (0) from hr1) ?_
    refine mz_eq (pc := 5) (tgt := 28) C0 (by decide) d_MG_inverse_5 (by decide) (fun _ => ?_) (fun h9 => absurd rfl h9)
    have E : sp_inverse n (len, tx, pc, rk, gc, gs) a = ((-1), (len, tx, pc, rk, gc, gs)) := by simp only [sp_inverse, he]
    refine lv_iconst (pc := 28) (v := (-1)) C0.1 C0.2.1 d_MG_inverse_28 (by decide +kernel) ?_
    exact hret _ _ _ _ 29 _ (rfl) (⟨by rw [E], by rw [E]; exact hM, hfm⟩) hP hD hS d_MG_inverse_29
  · refine lv_aload_n (pc := 0) C0.1 C0.2.1 d_MG_inverse_0 rfl (lv_at hl 0 rfl) ?_
    refine lv_iload_n (pc := 1) C0.1 C0.2.1 d_MG_inverse_1 rfl (lv_at hl 1 rfl) ?_
    refine mg_ci (pc := 2) (As := [.int (nI (i))]) (rest := []) C0 (c_MG_isPermutation1 l D ca ad hi hk_ ws0 f0) lk_MG_77 (by decide) f0 rfl hK hP hD hS hA rfl hl.1 rfl (Nat.le_of_ble_eq_true rfl) d_MG_inverse_2 (fun rv ws1 H locs hpost hP hD hS => ?_)
    obtain ⟨hr1, hw⟩ := hpost
    rw [hw] at hP hD
    refine mg_top (show rv = nI (1) from hr1) ?_
    refine mz_eq (pc := 5) (tgt := 28) C0 (by decide) d_MG_inverse_5 (by decide) (fun h9 => absurd h9 (by decide)) (fun _ => ?_)
    refine lv_aload_n (pc := 8) C0.1 C0.2.1 d_MG_inverse_8 rfl (lv_at hl 0 rfl) ?_
    refine lv_aload_n (pc := 9) C0.1 C0.2.1 d_MG_inverse_9 rfl (lv_at hl 0 rfl) ?_
    refine mg_get (pc := 10) C0 in_MG hK hP (0) f0 rfl 0 (by decide) fl_MG_14 rfl d_MG_inverse_10 ?_
    refine lv_aload_n (pc := 13) C0.1 C0.2.1 d_MG_inverse_13 rfl (lv_at hl 0 rfl) ?_
    refine mg_get (pc := 14) C0 in_MG hK hP (0) f0 rfl 2 (by decide) fl_MG_25 rfl d_MG_inverse_14 ?_
    refine lv_iload_n (pc := 17) C0.1 C0.2.1 d_MG_inverse_17 rfl (lv_at hl 1 rfl) ?_
    refine mg_ild (pc := 18) C0 hK hP (7) 1 f7 rfl (j := i) (by omega) (by omega) d_MG_inverse_18 ?_
    refine mg_top (show R (i) = nI (rk i) from hR i hi) ?_
    refine mg_ci (pc := 19) (As := [.int (nI (rk i))]) (rest := [.ref (ad 0)]) C0 (c_SY_invert l D ca ad h2 h6 (hrk i hi) ws0 hsy) lk_MG_85 (by decide) f1 rfl hK hP hD hS hA rfl hl.1 rfl (Nat.le_of_ble_eq_true rfl) d_MG_inverse_19 (fun rv ws H locs hpost hP hD hS => ?_)
    obtain ⟨hr1, hfr, hsy⟩ := hpost
    have f0 := (hfr (0) (by omega)).trans f0
    have f1 := (hfr (1) (by omega)).trans f1
    have f7 := (hfr (7) (by omega)).trans f7
    have f9 := (hfr (9) (by omega)).trans f9
    have hfm : ∀ j, 52 ≤ j → ws[j]? = ws0[j]? := fun j hj => (hfr j (by omega)).trans (hfm j hj)
    refine mg_top (show rv = nI (pm_iv n (rk i)) from hr1) ?_
    refine mg_ci (pc := 22) (As := [.int (nI (pm_iv n (rk i)))]) (rest := []) C0 (c_MG_keep l D ca ad h2 h6 (gp_i g0 (hrk i hi)) ws (mgw_row hM hfr hsy)) lk_MG_73 (by decide) f0 rfl hK hP hD hS hA rfl hl.1 rfl (Nat.le_of_ble_eq_true rfl) d_MG_inverse_22 (fun rv ws H locs hpost hP hD hS => ?_)
    obtain ⟨hr1, hM1, hfr⟩ := hpost
    have hfm : ∀ j, 52 ≤ j → ws[j]? = ws0[j]? := fun j hj => (hfr j (by omega)).trans (hfm j hj)
    have E : sp_inverse n (len, tx, pc, rk, gc, gs) (nI i) = sp_keep (len, tx, pc, rk, gc, gs) (pm_iv n (rk i)) := by simp only [sp_inverse, he]
    refine lv_goto (pc := 25) (tgt := 29) C0.1 C0.2.1 d_MG_inverse_25 (by decide) ?_
    exact hret _ _ _ _ 29 _ (rfl) (⟨by rw [E]; exact hr1, by rw [E]; exact hM1, hfm⟩) hP hD hS d_MG_inverse_29
set_option maxHeartbeats 4000000 in
set_option maxRecDepth 100000 in
theorem c_MG_images (l : Launch) (D : va_G) (ca : Nat → ClassId) (ad : Nat → Nat) {n : Nat} (h2 : 2 ≤ n) (h6 : n ≤ 6) {len : Nat} {tx : Nat → Nat} {pc : Nat} {rk : Nat → Nat} {gc : Nat} {gs : Nat → Nat → Bool} {a : Int32} (ws0 : va_W) (h : MGW ca ad n (len, tx, pc, rk, gc, gs) ws0) : mg_I l y_MG_images b_MG_images 2 (.int) 4 D classes (tys_ ca) [.ref (ad 0), .int (a)] ws0 (fun v w => v = (sp_images n (len, tx, pc, rk, gc, gs) a).1 ∧ MGW ca ad n (sp_images n (len, tx, pc, rk, gc, gs) a).2 w ∧ ∀ j, 52 ≤ j → w[j]? = ws0[j]?) := by
  have hM := h
  obtain ⟨z0, hsy, hct, hli, ⟨R, z7, hR⟩, ⟨gr, z9, hgr⟩, hraw, hgs, hp, hrk, hg⟩ := h
  have z1 := hsy.1
  have hN := pm_fc_le h6
  have g0 := pm_gp h2 h6
  refine mg_openI (own := R_MG) rfl (by decide) (Nat.le_of_ble_eq_true rfl) ?_
  intro p e s m args below meth c A Q ls C0 hK hA hP hD hS hl hret
  have hl : lv_has ls 2 [(0, .ref (ad 0)), (1, .int (a))] := hl
  have f0 := z0
  have f1 := z1
  have f7 := z7
  have f9 := z9
  have hfm : ∀ j, 52 ≤ j → ws0[j]? = ws0[j]? := fun _ _ => rfl
  have hk_ : pc < 2 ^ 31 ∧ gc < 2 ^ 31 := ⟨by omega, by omega⟩
  rcases sp_ix_or a (k := pc) (by omega) with ⟨hb_i, he⟩ | ⟨i, hi, rfl, he⟩
  · refine lv_aload_n (pc := 0) C0.1 C0.2.1 d_MG_images_0 rfl (lv_at hl 0 rfl) ?_
    refine lv_iload_n (pc := 1) C0.1 C0.2.1 d_MG_images_1 rfl (lv_at hl 1 rfl) ?_
    refine mg_ci (pc := 2) (As := [.int (a)]) (rest := []) C0 (c_MG_isPermutation0 l D ca ad hb_i ws0 f0) lk_MG_77 (by decide) f0 rfl hK hP hD hS hA rfl hl.1 rfl (Nat.le_of_ble_eq_true rfl) d_MG_images_2 (fun rv ws1 H locs hpost hP hD hS => ?_)
    obtain ⟨hr1, hw⟩ := hpost
    rw [hw] at hP hD
    refine mg_top (show rv = nI (0) from hr1) ?_
    refine mz_eq (pc := 5) (tgt := 24) C0 (by decide) d_MG_images_5 (by decide) (fun _ => ?_) (fun h9 => absurd rfl h9)
    have E : sp_images n (len, tx, pc, rk, gc, gs) a = ((-1), (len, tx, pc, rk, gc, gs)) := by simp only [sp_images, he]
    refine lv_iconst (pc := 24) (v := (-1)) C0.1 C0.2.1 d_MG_images_24 (by decide +kernel) ?_
    exact hret _ _ _ _ 25 _ (rfl) (⟨by rw [E], by rw [E]; exact hM, hfm⟩) hP hD hS d_MG_images_25
  · refine lv_aload_n (pc := 0) C0.1 C0.2.1 d_MG_images_0 rfl (lv_at hl 0 rfl) ?_
    refine lv_iload_n (pc := 1) C0.1 C0.2.1 d_MG_images_1 rfl (lv_at hl 1 rfl) ?_
    refine mg_ci (pc := 2) (As := [.int (nI (i))]) (rest := []) C0 (c_MG_isPermutation1 l D ca ad hi hk_ ws0 f0) lk_MG_77 (by decide) f0 rfl hK hP hD hS hA rfl hl.1 rfl (Nat.le_of_ble_eq_true rfl) d_MG_images_2 (fun rv ws1 H locs hpost hP hD hS => ?_)
    obtain ⟨hr1, hw⟩ := hpost
    rw [hw] at hP hD
    refine mg_top (show rv = nI (1) from hr1) ?_
    refine mz_eq (pc := 5) (tgt := 24) C0 (by decide) d_MG_images_5 (by decide) (fun h9 => absurd h9 (by decide)) (fun _ => ?_)
    refine lv_aload_n (pc := 8) C0.1 C0.2.1 d_MG_images_8 rfl (lv_at hl 0 rfl) ?_
    refine mg_get (pc := 9) C0 in_MG hK hP (0) f0 rfl 0 (by decide) fl_MG_14 rfl d_MG_images_9 ?_
    refine lv_aload_n (pc := 12) C0.1 C0.2.1 d_MG_images_12 rfl (lv_at hl 0 rfl) ?_
    refine mg_get (pc := 13) C0 in_MG hK hP (0) f0 rfl 2 (by decide) fl_MG_25 rfl d_MG_images_13 ?_
    refine lv_iload_n (pc := 16) C0.1 C0.2.1 d_MG_images_16 rfl (lv_at hl 1 rfl) ?_
    refine mg_ild (pc := 17) C0 hK hP (7) 1 f7 rfl (j := i) (by omega) (by omega) d_MG_images_17 ?_
    refine mg_top (show R (i) = nI (rk i) from hR i hi) ?_
    refine mg_ci (pc := 18) (As := [.int (nI (rk i))]) (rest := []) C0 (c_SY_digits l D ca ad h2 h6 (hrk i hi) ws0 hsy) lk_MG_88 (by decide) f1 rfl hK hP hD hS hA rfl hl.1 rfl (Nat.le_of_ble_eq_true rfl) d_MG_images_18 (fun rv ws1 H locs hpost hP hD hS => ?_)
    obtain ⟨hr1, hw⟩ := hpost
    rw [hw] at hP hD
    have E : sp_images n (len, tx, pc, rk, gc, gs) (nI i) = (nI (pm_ds n (rk i) n), (len, tx, pc, rk, gc, gs)) := by simp only [sp_images, he]
    refine lv_goto (pc := 21) (tgt := 25) C0.1 C0.2.1 d_MG_images_21 (by decide) ?_
    exact hret _ _ _ _ 25 _ (rfl) (⟨by rw [E]; exact hr1, by rw [E]; exact hM, hfm⟩) hP hD hS d_MG_images_25
set_option maxHeartbeats 4000000 in
set_option maxRecDepth 100000 in
theorem c_MG_order (l : Launch) (D : va_G) (ca : Nat → ClassId) (ad : Nat → Nat) {n : Nat} (h2 : 2 ≤ n) (h6 : n ≤ 6) {len : Nat} {tx : Nat → Nat} {pc : Nat} {rk : Nat → Nat} {gc : Nat} {gs : Nat → Nat → Bool} {a : Int32} (ws0 : va_W) (h : MGW ca ad n (len, tx, pc, rk, gc, gs) ws0) : mg_I l y_MG_order b_MG_order 2 (.int) 4 D classes (tys_ ca) [.ref (ad 0), .int (a)] ws0 (fun v w => v = (sp_order n (len, tx, pc, rk, gc, gs) a).1 ∧ MGW ca ad n (sp_order n (len, tx, pc, rk, gc, gs) a).2 w ∧ ∀ j, 52 ≤ j → w[j]? = ws0[j]?) := by
  have hM := h
  obtain ⟨z0, hsy, hct, hli, ⟨R, z7, hR⟩, ⟨gr, z9, hgr⟩, hraw, hgs, hp, hrk, hg⟩ := h
  have z1 := hsy.1
  have hN := pm_fc_le h6
  have g0 := pm_gp h2 h6
  refine mg_openI (own := R_MG) rfl (by decide) (Nat.le_of_ble_eq_true rfl) ?_
  intro p e s m args below meth c A Q ls C0 hK hA hP hD hS hl hret
  have hl : lv_has ls 2 [(0, .ref (ad 0)), (1, .int (a))] := hl
  have f0 := z0
  have f1 := z1
  have f7 := z7
  have f9 := z9
  have hfm : ∀ j, 52 ≤ j → ws0[j]? = ws0[j]? := fun _ _ => rfl
  have hk_ : pc < 2 ^ 31 ∧ gc < 2 ^ 31 := ⟨by omega, by omega⟩
  rcases sp_ix_or a (k := gc) (by omega) with ⟨hb_i, he⟩ | ⟨i, hi, rfl, he⟩
  · refine lv_aload_n (pc := 0) C0.1 C0.2.1 d_MG_order_0 rfl (lv_at hl 0 rfl) ?_
    refine lv_iload_n (pc := 1) C0.1 C0.2.1 d_MG_order_1 rfl (lv_at hl 1 rfl) ?_
    refine mg_ci (pc := 2) (As := [.int (a)]) (rest := []) C0 (c_MG_isGroup0 l D ca ad hb_i ws0 f0) lk_MG_94 (by decide) f0 rfl hK hP hD hS hA rfl hl.1 rfl (Nat.le_of_ble_eq_true rfl) d_MG_order_2 (fun rv ws1 H locs hpost hP hD hS => ?_)
    obtain ⟨hr1, hw⟩ := hpost
    rw [hw] at hP hD
    refine mg_top (show rv = nI (0) from hr1) ?_
    refine mz_eq (pc := 5) (tgt := 20) C0 (by decide) d_MG_order_5 (by decide) (fun _ => ?_) (fun h9 => absurd rfl h9)
    have E : sp_order n (len, tx, pc, rk, gc, gs) a = ((-1), (len, tx, pc, rk, gc, gs)) := by simp only [sp_order, he]
    refine lv_iconst (pc := 20) (v := (-1)) C0.1 C0.2.1 d_MG_order_20 (by decide +kernel) ?_
    exact hret _ _ _ _ 21 _ (rfl) (⟨by rw [E], by rw [E]; exact hM, hfm⟩) hP hD hS d_MG_order_21
  · refine lv_aload_n (pc := 0) C0.1 C0.2.1 d_MG_order_0 rfl (lv_at hl 0 rfl) ?_
    refine lv_iload_n (pc := 1) C0.1 C0.2.1 d_MG_order_1 rfl (lv_at hl 1 rfl) ?_
    refine mg_ci (pc := 2) (As := [.int (nI (i))]) (rest := []) C0 (c_MG_isGroup1 l D ca ad hi hk_ ws0 f0) lk_MG_94 (by decide) f0 rfl hK hP hD hS hA rfl hl.1 rfl (Nat.le_of_ble_eq_true rfl) d_MG_order_2 (fun rv ws1 H locs hpost hP hD hS => ?_)
    obtain ⟨hr1, hw⟩ := hpost
    rw [hw] at hP hD
    refine mg_top (show rv = nI (1) from hr1) ?_
    refine mz_eq (pc := 5) (tgt := 20) C0 (by decide) d_MG_order_5 (by decide) (fun h9 => absurd h9 (by decide)) (fun _ => ?_)
    obtain ⟨G, k, hsu⟩ := hgs i hi
    have hsx := hsu
    obtain ⟨f_, g_, ⟨fo, fm, fg⟩, hwd, hgG, hgen, h2k⟩ := hsx
    have hcn := ma_cn_le (gs i) (pm_fc n)
    refine lv_aload_n (pc := 8) C0.1 C0.2.1 d_MG_order_8 rfl (lv_at hl 0 rfl) ?_
    refine mg_get (pc := 9) C0 in_MG hK hP (0) f0 rfl 4 (by decide) fl_MG_38 rfl d_MG_order_9 ?_
    refine lv_iload_n (pc := 12) C0.1 C0.2.1 d_MG_order_12 rfl (lv_at hl 1 rfl) ?_
    refine mg_ald (pc := 13) C0 hK hP (9) 4 f9 rfl (j := i) (b := ad (10 + 3 * i)) (by omega) (by omega) (hgr i (by omega)) d_MG_order_13 ?_
    have E : sp_order n (len, tx, pc, rk, gc, gs) (nI i) = (nI (ma_cn (gs i) (pm_fc n)), (len, tx, pc, rk, gc, gs)) := by simp only [sp_order, he]
    refine mg_get (pc := 14) C0 in_SU hK hP (10 + 3 * i) fo rfl 0 (by decide) fl_MG_100 rfl d_MG_order_14 ?_
    refine lv_goto (pc := 17) (tgt := 21) C0.1 C0.2.1 d_MG_order_17 (by decide) ?_
    exact hret _ _ _ _ 21 _ (rfl) (⟨by rw [E], by rw [E]; exact hM, hfm⟩) hP hD hS d_MG_order_21
set_option maxHeartbeats 4000000 in
set_option maxRecDepth 100000 in
theorem c_MG_contains (l : Launch) (D : va_G) (ca : Nat → ClassId) (ad : Nat → Nat) {n : Nat} (h2 : 2 ≤ n) (h6 : n ≤ 6) {len : Nat} {tx : Nat → Nat} {pc : Nat} {rk : Nat → Nat} {gc : Nat} {gs : Nat → Nat → Bool} {a b : Int32} (ws0 : va_W) (h : MGW ca ad n (len, tx, pc, rk, gc, gs) ws0) : mg_I l y_MG_contains b_MG_contains 3 (.boolean) 4 D classes (tys_ ca) [.ref (ad 0), .int (a), .int (b)] ws0 (fun v w => v = (sp_contains (len, tx, pc, rk, gc, gs) a b).1 ∧ MGW ca ad n (sp_contains (len, tx, pc, rk, gc, gs) a b).2 w ∧ ∀ j, 52 ≤ j → w[j]? = ws0[j]?) := by
  have hM := h
  obtain ⟨z0, hsy, hct, hli, ⟨R, z7, hR⟩, ⟨gr, z9, hgr⟩, hraw, hgs, hp, hrk, hg⟩ := h
  have z1 := hsy.1
  have hN := pm_fc_le h6
  have g0 := pm_gp h2 h6
  refine mg_openI (own := R_MG) rfl (by decide) (Nat.le_of_ble_eq_true rfl) ?_
  intro p e s m args below meth c A Q ls C0 hK hA hP hD hS hl hret
  have hl : lv_has ls 3 [(0, .ref (ad 0)), (1, .int (a)), (2, .int (b))] := hl
  have f0 := z0
  have f1 := z1
  have f7 := z7
  have f9 := z9
  have hfm : ∀ j, 52 ≤ j → ws0[j]? = ws0[j]? := fun _ _ => rfl
  have hk_ : pc < 2 ^ 31 ∧ gc < 2 ^ 31 := ⟨by omega, by omega⟩
  rcases sp_ix_or a (k := gc) (by omega) with ⟨hb_i, he⟩ | ⟨i, hi, rfl, he⟩
  · refine lv_aload_n (pc := 0) C0.1 C0.2.1 d_MG_contains_0 rfl (lv_at hl 0 rfl) ?_
    refine lv_iload_n (pc := 1) C0.1 C0.2.1 d_MG_contains_1 rfl (lv_at hl 1 rfl) ?_
    refine mg_ci (pc := 2) (As := [.int (a)]) (rest := []) C0 (c_MG_isGroup0 l D ca ad hb_i ws0 f0) lk_MG_94 (by decide) f0 rfl hK hP hD hS hA rfl hl.1 rfl (Nat.le_of_ble_eq_true rfl) d_MG_contains_2 (fun rv ws1 H locs hpost hP hD hS => ?_)
    obtain ⟨hr1, hw⟩ := hpost
    rw [hw] at hP hD
    refine mg_top (show rv = nI (0) from hr1) ?_
    refine mz_eq (pc := 5) (tgt := 38) C0 (by decide) d_MG_contains_5 (by decide) (fun _ => ?_) (fun h9 => absurd rfl h9)
    have E : sp_contains (len, tx, pc, rk, gc, gs) a b = (nI 0, (len, tx, pc, rk, gc, gs)) := by simp only [sp_contains, he]
    refine lv_iconst (pc := 38) (v := nI (0)) C0.1 C0.2.1 d_MG_contains_38 (by decide +kernel) ?_
    exact hret _ _ _ _ 39 _ (rfl) (⟨by rw [E], by rw [E]; exact hM, hfm⟩) hP hD hS d_MG_contains_39
  · refine lv_aload_n (pc := 0) C0.1 C0.2.1 d_MG_contains_0 rfl (lv_at hl 0 rfl) ?_
    refine lv_iload_n (pc := 1) C0.1 C0.2.1 d_MG_contains_1 rfl (lv_at hl 1 rfl) ?_
    refine mg_ci (pc := 2) (As := [.int (nI (i))]) (rest := []) C0 (c_MG_isGroup1 l D ca ad hi hk_ ws0 f0) lk_MG_94 (by decide) f0 rfl hK hP hD hS hA rfl hl.1 rfl (Nat.le_of_ble_eq_true rfl) d_MG_contains_2 (fun rv ws1 H locs hpost hP hD hS => ?_)
    obtain ⟨hr1, hw⟩ := hpost
    rw [hw] at hP hD
    refine mg_top (show rv = nI (1) from hr1) ?_
    refine mz_eq (pc := 5) (tgt := 38) C0 (by decide) d_MG_contains_5 (by decide) (fun h9 => absurd h9 (by decide)) (fun _ => ?_)
    refine lv_aload_n (pc := 8) C0.1 C0.2.1 d_MG_contains_8 rfl (lv_at hl 0 rfl) ?_
    refine lv_iload_n (pc := 9) C0.1 C0.2.1 d_MG_contains_9 rfl (lv_at hl 2 rfl) ?_
    rcases sp_ix_or b (k := pc) (by omega) with ⟨hb_q, he2⟩ | ⟨q, hq, rfl, he2⟩
    · refine mg_ci (pc := 10) (As := [.int (b)]) (rest := []) C0 (c_MG_isPermutation0 l D ca ad hb_q ws0 f0) lk_MG_77 (by decide) f0 rfl hK hP hD hS hA rfl hl.1 rfl (Nat.le_of_ble_eq_true rfl) d_MG_contains_10 (fun rv ws1 H locs hpost hP hD hS => ?_)
      obtain ⟨hr1, hw⟩ := hpost
      rw [hw] at hP hD
      refine mg_top (show rv = nI (0) from hr1) ?_
      refine mz_eq (pc := 13) (tgt := 38) C0 (by decide) d_MG_contains_13 (by decide) (fun _ => ?_) (fun h9 => absurd rfl h9)
      have E : sp_contains (len, tx, pc, rk, gc, gs) (nI i) b = (nI 0, (len, tx, pc, rk, gc, gs)) := by simp only [sp_contains, he, he2]
      refine lv_iconst (pc := 38) (v := nI (0)) C0.1 C0.2.1 d_MG_contains_38 (by decide +kernel) ?_
      exact hret _ _ _ _ 39 _ (rfl) (⟨by rw [E], by rw [E]; exact hM, hfm⟩) hP hD hS d_MG_contains_39
    · refine mg_ci (pc := 10) (As := [.int (nI (q))]) (rest := []) C0 (c_MG_isPermutation1 l D ca ad hq hk_ ws0 f0) lk_MG_77 (by decide) f0 rfl hK hP hD hS hA rfl hl.1 rfl (Nat.le_of_ble_eq_true rfl) d_MG_contains_10 (fun rv ws1 H locs hpost hP hD hS => ?_)
      obtain ⟨hr1, hw⟩ := hpost
      rw [hw] at hP hD
      refine mg_top (show rv = nI (1) from hr1) ?_
      refine mz_eq (pc := 13) (tgt := 38) C0 (by decide) d_MG_contains_13 (by decide) (fun h9 => absurd h9 (by decide)) (fun _ => ?_)
      obtain ⟨G, k, hsu⟩ := hgs i hi
      have hsx := hsu
      obtain ⟨f_, g_, ⟨fo, fm, fg⟩, hwd, hgG, hgen, h2k⟩ := hsx
      have hcn := ma_cn_le (gs i) (pm_fc n)
      refine lv_aload_n (pc := 16) C0.1 C0.2.1 d_MG_contains_16 rfl (lv_at hl 0 rfl) ?_
      refine mg_get (pc := 17) C0 in_MG hK hP (0) f0 rfl 4 (by decide) fl_MG_38 rfl d_MG_contains_17 ?_
      refine lv_iload_n (pc := 20) C0.1 C0.2.1 d_MG_contains_20 rfl (lv_at hl 1 rfl) ?_
      refine mg_ald (pc := 21) C0 hK hP (9) 4 f9 rfl (j := i) (b := ad (10 + 3 * i)) (by omega) (by omega) (hgr i (by omega)) d_MG_contains_21 ?_
      refine lv_aload_n (pc := 22) C0.1 C0.2.1 d_MG_contains_22 rfl (lv_at hl 0 rfl) ?_
      refine mg_get (pc := 23) C0 in_MG hK hP (0) f0 rfl 2 (by decide) fl_MG_25 rfl d_MG_contains_23 ?_
      refine lv_iload_n (pc := 26) C0.1 C0.2.1 d_MG_contains_26 rfl (lv_at hl 2 rfl) ?_
      refine mg_ild (pc := 27) C0 hK hP (7) 1 f7 rfl (j := q) (by omega) (by omega) d_MG_contains_27 ?_
      refine mg_top (show R (q) = nI (rk q) from hR q hq) ?_
      refine mg_ci (pc := 28) (As := [.int (nI (rk q))]) (rest := []) C0 (c_SU_has l D ca ad h2 h6 (hrk q hq) ws0 fo fm) lk_MG_101 (by decide) fo rfl hK hP hD hS hA rfl hl.1 rfl (Nat.le_of_ble_eq_true rfl) d_MG_contains_28 (fun rv ws1 H locs hpost hP hD hS => ?_)
      obtain ⟨hr1, hw⟩ := hpost
      rw [hw] at hP hD
      rw [su_wd_lt hwd (hrk q hq)] at hr1
      have E : sp_contains (len, tx, pc, rk, gc, gs) (nI i) (nI q) = (nI (if gs i (rk q) = true then 1 else 0), (len, tx, pc, rk, gc, gs)) := by simp only [sp_contains, he, he2]
      cases hs : gs i (rk q) with
      | true =>
          rw [hs, if_pos rfl] at hr1 E
          refine mg_top (show rv = nI (1) from hr1) ?_
          refine mz_eq (pc := 31) (tgt := 38) C0 (by decide) d_MG_contains_31 (by decide) (fun h9 => absurd h9 (by decide)) (fun _ => ?_)
          refine lv_iconst (pc := 34) (v := nI (1)) C0.1 C0.2.1 d_MG_contains_34 (by decide +kernel) ?_
          refine lv_goto (pc := 35) (tgt := 39) C0.1 C0.2.1 d_MG_contains_35 (by decide) ?_
          exact hret _ _ _ _ 39 _ (rfl) (⟨by rw [E], by rw [E]; exact hM, hfm⟩) hP hD hS d_MG_contains_39
      | false =>
          rw [hs, if_neg (by decide)] at hr1 E
          refine mg_top (show rv = nI (0) from hr1) ?_
          refine mz_eq (pc := 31) (tgt := 38) C0 (by decide) d_MG_contains_31 (by decide) (fun _ => ?_) (fun h9 => absurd rfl h9)
          refine lv_iconst (pc := 38) (v := nI (0)) C0.1 C0.2.1 d_MG_contains_38 (by decide +kernel) ?_
          exact hret _ _ _ _ 39 _ (rfl) (⟨by rw [E], by rw [E]; exact hM, hfm⟩) hP hD hS d_MG_contains_39
set_option maxHeartbeats 4000000 in
set_option maxRecDepth 100000 in
theorem c_MG_element (l : Launch) (D : va_G) (ca : Nat → ClassId) (ad : Nat → Nat) {n : Nat} (h2 : 2 ≤ n) (h6 : n ≤ 6) {len : Nat} {tx : Nat → Nat} {pc : Nat} {rk : Nat → Nat} {gc : Nat} {gs : Nat → Nat → Bool} {a b : Int32} (ws0 : va_W) (h : MGW ca ad n (len, tx, pc, rk, gc, gs) ws0) : mg_I l y_MG_element b_MG_element 3 (.int) 4 D classes (tys_ ca) [.ref (ad 0), .int (a), .int (b)] ws0 (fun v w => v = (sp_element n (len, tx, pc, rk, gc, gs) a b).1 ∧ MGW ca ad n (sp_element n (len, tx, pc, rk, gc, gs) a b).2 w ∧ ∀ j, 52 ≤ j → w[j]? = ws0[j]?) := by
  have hM := h
  obtain ⟨z0, hsy, hct, hli, ⟨R, z7, hR⟩, ⟨gr, z9, hgr⟩, hraw, hgs, hp, hrk, hg⟩ := h
  have z1 := hsy.1
  have hN := pm_fc_le h6
  have g0 := pm_gp h2 h6
  refine mg_openI (own := R_MG) rfl (by decide) (Nat.le_of_ble_eq_true rfl) ?_
  intro p e s m args below meth c A Q ls C0 hK hA hP hD hS hl hret
  have hl : lv_has ls 3 [(0, .ref (ad 0)), (1, .int (a)), (2, .int (b))] := hl
  have f0 := z0
  have f1 := z1
  have f7 := z7
  have f9 := z9
  have hfm : ∀ j, 52 ≤ j → ws0[j]? = ws0[j]? := fun _ _ => rfl
  have hk_ : pc < 2 ^ 31 ∧ gc < 2 ^ 31 := ⟨by omega, by omega⟩
  rcases sp_ix_or a (k := gc) (by omega) with ⟨hb_i, he⟩ | ⟨i, hi, rfl, he⟩
  · refine lv_aload_n (pc := 0) C0.1 C0.2.1 d_MG_element_0 rfl (lv_at hl 0 rfl) ?_
    refine lv_iload_n (pc := 1) C0.1 C0.2.1 d_MG_element_1 rfl (lv_at hl 1 rfl) ?_
    refine mg_ci (pc := 2) (As := [.int (a)]) (rest := []) C0 (c_MG_isGroup0 l D ca ad hb_i ws0 f0) lk_MG_94 (by decide) f0 rfl hK hP hD hS hA rfl hl.1 rfl (Nat.le_of_ble_eq_true rfl) d_MG_element_2 (fun rv ws1 H locs hpost hP hD hS => ?_)
    obtain ⟨hr1, hw⟩ := hpost
    rw [hw] at hP hD
    refine mg_top (show rv = nI (0) from hr1) ?_
    refine mz_eq (pc := 5) (tgt := 25) C0 (by decide) d_MG_element_5 (by decide) (fun _ => ?_) (fun h9 => absurd rfl h9)
    have E : sp_element n (len, tx, pc, rk, gc, gs) a b = ((-1), (len, tx, pc, rk, gc, gs)) := by simp only [sp_element, he]
    refine lv_iconst (pc := 25) (v := (-1)) C0.1 C0.2.1 d_MG_element_25 (by decide +kernel) ?_
    exact hret _ _ _ _ 26 _ (rfl) (⟨by rw [E], by rw [E]; exact hM, hfm⟩) hP hD hS d_MG_element_26
  · refine lv_aload_n (pc := 0) C0.1 C0.2.1 d_MG_element_0 rfl (lv_at hl 0 rfl) ?_
    refine lv_iload_n (pc := 1) C0.1 C0.2.1 d_MG_element_1 rfl (lv_at hl 1 rfl) ?_
    refine mg_ci (pc := 2) (As := [.int (nI (i))]) (rest := []) C0 (c_MG_isGroup1 l D ca ad hi hk_ ws0 f0) lk_MG_94 (by decide) f0 rfl hK hP hD hS hA rfl hl.1 rfl (Nat.le_of_ble_eq_true rfl) d_MG_element_2 (fun rv ws1 H locs hpost hP hD hS => ?_)
    obtain ⟨hr1, hw⟩ := hpost
    rw [hw] at hP hD
    refine mg_top (show rv = nI (1) from hr1) ?_
    refine mz_eq (pc := 5) (tgt := 25) C0 (by decide) d_MG_element_5 (by decide) (fun h9 => absurd h9 (by decide)) (fun _ => ?_)
    obtain ⟨G, k, hsu⟩ := hgs i hi
    have hsx := hsu
    obtain ⟨f_, g_, ⟨fo, fm, fg⟩, hwd, hgG, hgen, h2k⟩ := hsx
    have hcn := ma_cn_le (gs i) (pm_fc n)
    rcases sp_ix_or b (k := ma_cn (gs i) (pm_fc n)) (by omega) with ⟨hb_q, he2⟩ | ⟨q, hq, rfl, he2⟩
    · refine lv_iload_n (pc := 8) C0.1 C0.2.1 d_MG_element_8 rfl (lv_at hl 2 rfl) ?_
      refine lv_if_lt (pc := 9) (tgt := 25) C0.1 C0.2.1 d_MG_element_9 (by decide) (fun hc => ?_) (fun hc => ?_)
      · have E : sp_element n (len, tx, pc, rk, gc, gs) (nI i) b = ((-1), (len, tx, pc, rk, gc, gs)) := by simp only [sp_element, he, he2]
        refine lv_iconst (pc := 25) (v := (-1)) C0.1 C0.2.1 d_MG_element_25 (by decide +kernel) ?_
        exact hret _ _ _ _ 26 _ (rfl) (⟨by rw [E], by rw [E]; exact hM, hfm⟩) hP hD hS d_MG_element_26
      · refine lv_iload_n (pc := 12) C0.1 C0.2.1 d_MG_element_12 rfl (lv_at hl 2 rfl) ?_
        refine lv_aload_n (pc := 13) C0.1 C0.2.1 d_MG_element_13 rfl (lv_at hl 0 rfl) ?_
        refine mg_get (pc := 14) C0 in_MG hK hP (0) f0 rfl 4 (by decide) fl_MG_38 rfl d_MG_element_14 ?_
        refine lv_iload_n (pc := 17) C0.1 C0.2.1 d_MG_element_17 rfl (lv_at hl 1 rfl) ?_
        refine mg_ald (pc := 18) C0 hK hP (9) 4 f9 rfl (j := i) (b := ad (10 + 3 * i)) (by omega) (by omega) (hgr i (by omega)) d_MG_element_18 ?_
        refine mg_get (pc := 19) C0 in_SU hK hP (10 + 3 * i) fo rfl 0 (by decide) fl_MG_100 rfl d_MG_element_19 ?_
        refine lv_icmp_lt (pc := 22) (tgt := 27) C0.1 C0.2.1 d_MG_element_22 (by decide) (fun hc2 => ?_) (fun hc2 => ?_)
        · exact (hb_q.elim hc (fun h9 => Int32.not_lt.mpr h9 hc2)).elim
        · have E : sp_element n (len, tx, pc, rk, gc, gs) (nI i) b = ((-1), (len, tx, pc, rk, gc, gs)) := by simp only [sp_element, he, he2]
          refine lv_iconst (pc := 25) (v := (-1)) C0.1 C0.2.1 d_MG_element_25 (by decide +kernel) ?_
          exact hret _ _ _ _ 26 _ (rfl) (⟨by rw [E], by rw [E]; exact hM, hfm⟩) hP hD hS d_MG_element_26
    · refine lv_iload_n (pc := 8) C0.1 C0.2.1 d_MG_element_8 rfl (lv_at hl 2 rfl) ?_
      refine mz_lt (pc := 9) (tgt := 25) C0 (by omega) d_MG_element_9 (by decide) ?_
      refine lv_iload_n (pc := 12) C0.1 C0.2.1 d_MG_element_12 rfl (lv_at hl 2 rfl) ?_
      refine lv_aload_n (pc := 13) C0.1 C0.2.1 d_MG_element_13 rfl (lv_at hl 0 rfl) ?_
      refine mg_get (pc := 14) C0 in_MG hK hP (0) f0 rfl 4 (by decide) fl_MG_38 rfl d_MG_element_14 ?_
      refine lv_iload_n (pc := 17) C0.1 C0.2.1 d_MG_element_17 rfl (lv_at hl 1 rfl) ?_
      refine mg_ald (pc := 18) C0 hK hP (9) 4 f9 rfl (j := i) (b := ad (10 + 3 * i)) (by omega) (by omega) (hgr i (by omega)) d_MG_element_18 ?_
      refine mg_get (pc := 19) C0 in_SU hK hP (10 + 3 * i) fo rfl 0 (by decide) fl_MG_100 rfl d_MG_element_19 ?_
      refine mb_lt (pc := 22) (tgt := 27) C0 (by omega) (by omega) d_MG_element_22 (by decide) (fun hc => ?_) (fun hc => ?_)
      · refine lv_aload_n (pc := 27) C0.1 C0.2.1 d_MG_element_27 rfl (lv_at hl 0 rfl) ?_
        refine lv_aload_n (pc := 28) C0.1 C0.2.1 d_MG_element_28 rfl (lv_at hl 0 rfl) ?_
        refine mg_get (pc := 29) C0 in_MG hK hP (0) f0 rfl 4 (by decide) fl_MG_38 rfl d_MG_element_29 ?_
        refine lv_iload_n (pc := 32) C0.1 C0.2.1 d_MG_element_32 rfl (lv_at hl 1 rfl) ?_
        refine mg_ald (pc := 33) C0 hK hP (9) 4 f9 rfl (j := i) (b := ad (10 + 3 * i)) (by omega) (by omega) (hgr i (by omega)) d_MG_element_33 ?_
        refine lv_iload_n (pc := 34) C0.1 C0.2.1 d_MG_element_34 rfl (lv_at hl 2 rfl) ?_
        refine mg_ci (pc := 35) (As := [.int (nI (q))]) (rest := [.ref (ad 0)]) C0 (c_SU_member l D ca ad h2 h6 hq ws0 hsy hsu) lk_MG_104 (by decide) fo rfl hK hP hD hS hA rfl hl.1 rfl (Nat.le_of_ble_eq_true rfl) d_MG_element_35 (fun rv ws1 H locs hpost hP hD hS => ?_)
        obtain ⟨hr1, hw⟩ := hpost
        rw [hw] at hP hD
        refine mg_top (show rv = nI (ma_el (gs i) q (pm_fc n)) from hr1) ?_
        have hel : ma_el (gs i) q (pm_fc n) < pm_fc n := by
          obtain ⟨r, h1, h3, h4⟩ := ma_cn_ex hq
          rw [ma_el_eq h3 h4 h1]; exact h1
        refine mg_ci (pc := 38) (As := [.int (nI (ma_el (gs i) q (pm_fc n)))]) (rest := []) C0 (c_MG_keep l D ca ad h2 h6 hel ws0 hM) lk_MG_73 (by decide) f0 rfl hK hP hD hS hA rfl hl.1 rfl (Nat.le_of_ble_eq_true rfl) d_MG_element_38 (fun rv ws H locs hpost hP hD hS => ?_)
        obtain ⟨hr1, hM1, hfr⟩ := hpost
        have hfm : ∀ j, 52 ≤ j → ws[j]? = ws0[j]? := fun j hj => (hfr j (by omega)).trans (hfm j hj)
        have E : sp_element n (len, tx, pc, rk, gc, gs) (nI i) (nI q) = sp_keep (len, tx, pc, rk, gc, gs) (ma_el (gs i) q (pm_fc n)) := by simp only [sp_element, he, he2]
        exact hret _ _ _ _ 41 _ (rfl) (⟨by rw [E]; exact hr1, by rw [E]; exact hM1, hfm⟩) hP hD hS d_MG_element_41
      · exact absurd hc (by omega)
set_option maxHeartbeats 4000000 in
set_option maxRecDepth 100000 in
theorem c_MG_least (l : Launch) (D : va_G) (ca : Nat → ClassId) (ad : Nat → Nat) {n : Nat} (h2 : 2 ≤ n) (h6 : n ≤ 6) {len : Nat} {tx : Nat → Nat} {pc : Nat} {rk : Nat → Nat} {gc : Nat} {gs : Nat → Nat → Bool} {a b : Int32} (ws0 : va_W) (h : MGW ca ad n (len, tx, pc, rk, gc, gs) ws0) : mg_I l y_MG_least b_MG_least 3 (.int) 5 D classes (tys_ ca) [.ref (ad 0), .int (a), .int (b)] ws0 (fun v w => v = (sp_least n (len, tx, pc, rk, gc, gs) a b).1 ∧ MGW ca ad n (sp_least n (len, tx, pc, rk, gc, gs) a b).2 w ∧ ∀ j, 52 ≤ j → w[j]? = ws0[j]?) := by
  have hM := h
  obtain ⟨z0, hsy, hct, hli, ⟨R, z7, hR⟩, ⟨gr, z9, hgr⟩, hraw, hgs, hp, hrk, hg⟩ := h
  have z1 := hsy.1
  have hN := pm_fc_le h6
  have g0 := pm_gp h2 h6
  refine mg_openI (own := R_MG) rfl (by decide) (Nat.le_of_ble_eq_true rfl) ?_
  intro p e s m args below meth c A Q ls C0 hK hA hP hD hS hl hret
  have hl : lv_has ls 3 [(0, .ref (ad 0)), (1, .int (a)), (2, .int (b))] := hl
  have f0 := z0
  have f1 := z1
  have f7 := z7
  have f9 := z9
  have hfm : ∀ j, 52 ≤ j → ws0[j]? = ws0[j]? := fun _ _ => rfl
  have hk_ : pc < 2 ^ 31 ∧ gc < 2 ^ 31 := ⟨by omega, by omega⟩
  rcases sp_ix_or a (k := gc) (by omega) with ⟨hb_i, he⟩ | ⟨i, hi, rfl, he⟩
  · refine lv_aload_n (pc := 0) C0.1 C0.2.1 d_MG_least_0 rfl (lv_at hl 0 rfl) ?_
    refine lv_iload_n (pc := 1) C0.1 C0.2.1 d_MG_least_1 rfl (lv_at hl 1 rfl) ?_
    refine mg_ci (pc := 2) (As := [.int (a)]) (rest := []) C0 (c_MG_isGroup0 l D ca ad hb_i ws0 f0) lk_MG_94 (by decide) f0 rfl hK hP hD hS hA rfl hl.1 rfl (Nat.le_of_ble_eq_true rfl) d_MG_least_2 (fun rv ws1 H locs hpost hP hD hS => ?_)
    obtain ⟨hr1, hw⟩ := hpost
    rw [hw] at hP hD
    refine mg_top (show rv = nI (0) from hr1) ?_
    refine mz_eq (pc := 5) (tgt := 16) C0 (by decide) d_MG_least_5 (by decide) (fun _ => ?_) (fun h9 => absurd rfl h9)
    have E : sp_least n (len, tx, pc, rk, gc, gs) a b = ((-1), (len, tx, pc, rk, gc, gs)) := by simp only [sp_least, he]
    refine lv_iconst (pc := 16) (v := (-1)) C0.1 C0.2.1 d_MG_least_16 (by decide +kernel) ?_
    exact hret _ _ _ _ 17 _ (rfl) (⟨by rw [E], by rw [E]; exact hM, hfm⟩) hP hD hS d_MG_least_17
  · refine lv_aload_n (pc := 0) C0.1 C0.2.1 d_MG_least_0 rfl (lv_at hl 0 rfl) ?_
    refine lv_iload_n (pc := 1) C0.1 C0.2.1 d_MG_least_1 rfl (lv_at hl 1 rfl) ?_
    refine mg_ci (pc := 2) (As := [.int (nI (i))]) (rest := []) C0 (c_MG_isGroup1 l D ca ad hi hk_ ws0 f0) lk_MG_94 (by decide) f0 rfl hK hP hD hS hA rfl hl.1 rfl (Nat.le_of_ble_eq_true rfl) d_MG_least_2 (fun rv ws1 H locs hpost hP hD hS => ?_)
    obtain ⟨hr1, hw⟩ := hpost
    rw [hw] at hP hD
    refine mg_top (show rv = nI (1) from hr1) ?_
    refine mz_eq (pc := 5) (tgt := 16) C0 (by decide) d_MG_least_5 (by decide) (fun h9 => absurd h9 (by decide)) (fun _ => ?_)
    refine lv_aload_n (pc := 8) C0.1 C0.2.1 d_MG_least_8 rfl (lv_at hl 0 rfl) ?_
    refine lv_iload_n (pc := 9) C0.1 C0.2.1 d_MG_least_9 rfl (lv_at hl 2 rfl) ?_
    rcases sp_ix_or b (k := pc) (by omega) with ⟨hb_q, he2⟩ | ⟨q, hq, rfl, he2⟩
    · refine mg_ci (pc := 10) (As := [.int (b)]) (rest := []) C0 (c_MG_isPermutation0 l D ca ad hb_q ws0 f0) lk_MG_77 (by decide) f0 rfl hK hP hD hS hA rfl hl.1 rfl (Nat.le_of_ble_eq_true rfl) d_MG_least_10 (fun rv ws1 H locs hpost hP hD hS => ?_)
      obtain ⟨hr1, hw⟩ := hpost
      rw [hw] at hP hD
      refine mg_top (show rv = nI (0) from hr1) ?_
      refine mz_ne (pc := 13) (tgt := 18) C0 (by decide) d_MG_least_13 (by decide) (fun h9 => absurd rfl h9) (fun _ => ?_)
      have E : sp_least n (len, tx, pc, rk, gc, gs) (nI i) b = ((-1), (len, tx, pc, rk, gc, gs)) := by simp only [sp_least, he, he2]
      refine lv_iconst (pc := 16) (v := (-1)) C0.1 C0.2.1 d_MG_least_16 (by decide +kernel) ?_
      exact hret _ _ _ _ 17 _ (rfl) (⟨by rw [E], by rw [E]; exact hM, hfm⟩) hP hD hS d_MG_least_17
    · refine mg_ci (pc := 10) (As := [.int (nI (q))]) (rest := []) C0 (c_MG_isPermutation1 l D ca ad hq hk_ ws0 f0) lk_MG_77 (by decide) f0 rfl hK hP hD hS hA rfl hl.1 rfl (Nat.le_of_ble_eq_true rfl) d_MG_least_10 (fun rv ws1 H locs hpost hP hD hS => ?_)
      obtain ⟨hr1, hw⟩ := hpost
      rw [hw] at hP hD
      refine mg_top (show rv = nI (1) from hr1) ?_
      refine mz_ne (pc := 13) (tgt := 18) C0 (by decide) d_MG_least_13 (by decide) (fun _ => ?_) (fun h9 => absurd h9 (by decide))
      obtain ⟨G, k, hsu⟩ := hgs i hi
      have hsx := hsu
      obtain ⟨f_, g_, ⟨fo, fm, fg⟩, hwd, hgG, hgen, h2k⟩ := hsx
      have hcn := ma_cn_le (gs i) (pm_fc n)
      refine lv_aload_n (pc := 18) C0.1 C0.2.1 d_MG_least_18 rfl (lv_at hl 0 rfl) ?_
      refine lv_aload_n (pc := 19) C0.1 C0.2.1 d_MG_least_19 rfl (lv_at hl 0 rfl) ?_
      refine mg_get (pc := 20) C0 in_MG hK hP (0) f0 rfl 4 (by decide) fl_MG_38 rfl d_MG_least_20 ?_
      refine lv_iload_n (pc := 23) C0.1 C0.2.1 d_MG_least_23 rfl (lv_at hl 1 rfl) ?_
      refine mg_ald (pc := 24) C0 hK hP (9) 4 f9 rfl (j := i) (b := ad (10 + 3 * i)) (by omega) (by omega) (hgr i (by omega)) d_MG_least_24 ?_
      refine lv_aload_n (pc := 25) C0.1 C0.2.1 d_MG_least_25 rfl (lv_at hl 0 rfl) ?_
      refine mg_get (pc := 26) C0 in_MG hK hP (0) f0 rfl 2 (by decide) fl_MG_25 rfl d_MG_least_26 ?_
      refine lv_iload_n (pc := 29) C0.1 C0.2.1 d_MG_least_29 rfl (lv_at hl 2 rfl) ?_
      refine mg_ild (pc := 30) C0 hK hP (7) 1 f7 rfl (j := q) (by omega) (by omega) d_MG_least_30 ?_
      refine mg_top (show R (q) = nI (rk q) from hR q hq) ?_
      refine mg_ci (pc := 31) (As := [.int (nI (rk q))]) (rest := [.ref (ad 0)]) C0 (c_SU_leastOfCoset l D ca ad h2 h6 (hrk q hq) ws0 hsy hsu) lk_MG_107 (by decide) fo rfl hK hP hD hS hA rfl hl.1 rfl (Nat.le_of_ble_eq_true rfl) d_MG_least_31 (fun rv ws H locs hpost hP hD hS => ?_)
      obtain ⟨hr1, hfr, hsy⟩ := hpost
      have f0 := (hfr (0) (by omega)).trans f0
      have f1 := (hfr (1) (by omega)).trans f1
      have f7 := (hfr (7) (by omega)).trans f7
      have f9 := (hfr (9) (by omega)).trans f9
      have fo := (hfr (10 + 3 * i) (by omega)).trans fo
      have hfm : ∀ j, 52 ≤ j → ws[j]? = ws0[j]? := fun j hj => (hfr j (by omega)).trans (hfm j hj)
      refine mg_top (show rv = nI (su_lf n (gs i) (rk q) (pm_fc n)) from hr1) ?_
      refine mg_ci (pc := 34) (As := [.int (nI (su_lf n (gs i) (rk q) (pm_fc n)))]) (rest := []) C0 (c_MG_keep l D ca ad h2 h6 (Nat.lt_of_le_of_lt (su_lf_le _ _ _ _) (hrk q hq)) ws (mgw_row hM hfr hsy)) lk_MG_73 (by decide) f0 rfl hK hP hD hS hA rfl hl.1 rfl (Nat.le_of_ble_eq_true rfl) d_MG_least_34 (fun rv ws H locs hpost hP hD hS => ?_)
      obtain ⟨hr1, hM1, hfr⟩ := hpost
      have hfm : ∀ j, 52 ≤ j → ws[j]? = ws0[j]? := fun j hj => (hfr j (by omega)).trans (hfm j hj)
      have E : sp_least n (len, tx, pc, rk, gc, gs) (nI i) (nI q) = sp_keep (len, tx, pc, rk, gc, gs) (su_lf n (gs i) (rk q) (pm_fc n)) := by simp only [sp_least, he, he2]
      exact hret _ _ _ _ 37 _ (rfl) (⟨by rw [E]; exact hr1, by rw [E]; exact hM1, hfm⟩) hP hD hS d_MG_least_37
set_option maxHeartbeats 4000000 in
set_option maxRecDepth 100000 in
theorem c_MG_orbit (l : Launch) (D : va_G) (ca : Nat → ClassId) (ad : Nat → Nat) {n : Nat} (h2 : 2 ≤ n) (h6 : n ≤ 6) {len : Nat} {tx : Nat → Nat} {pc : Nat} {rk : Nat → Nat} {gc : Nat} {gs : Nat → Nat → Bool} {a b : Int32} (ws0 : va_W) (h : MGW ca ad n (len, tx, pc, rk, gc, gs) ws0) : mg_I l y_MG_orbit b_MG_orbit 3 (.int) 4 D classes (tys_ ca) [.ref (ad 0), .int (a), .int (b)] ws0 (fun v w => v = (sp_orbit n (len, tx, pc, rk, gc, gs) a b).1 ∧ MGW ca ad n (sp_orbit n (len, tx, pc, rk, gc, gs) a b).2 w ∧ ∀ j, 52 ≤ j → w[j]? = ws0[j]?) := by
  have hM := h
  obtain ⟨z0, hsy, hct, hli, ⟨R, z7, hR⟩, ⟨gr, z9, hgr⟩, hraw, hgs, hp, hrk, hg⟩ := h
  have z1 := hsy.1
  have hN := pm_fc_le h6
  have g0 := pm_gp h2 h6
  refine mg_openI (own := R_MG) rfl (by decide) (Nat.le_of_ble_eq_true rfl) ?_
  intro p e s m args below meth c A Q ls C0 hK hA hP hD hS hl hret
  have hl : lv_has ls 3 [(0, .ref (ad 0)), (1, .int (a)), (2, .int (b))] := hl
  have f0 := z0
  have f1 := z1
  have f7 := z7
  have f9 := z9
  have hfm : ∀ j, 52 ≤ j → ws0[j]? = ws0[j]? := fun _ _ => rfl
  have hk_ : pc < 2 ^ 31 ∧ gc < 2 ^ 31 := ⟨by omega, by omega⟩
  rcases sp_ix_or a (k := gc) (by omega) with ⟨hb_i, he⟩ | ⟨i, hi, rfl, he⟩
  · refine lv_aload_n (pc := 0) C0.1 C0.2.1 d_MG_orbit_0 rfl (lv_at hl 0 rfl) ?_
    refine lv_iload_n (pc := 1) C0.1 C0.2.1 d_MG_orbit_1 rfl (lv_at hl 1 rfl) ?_
    refine mg_ci (pc := 2) (As := [.int (a)]) (rest := []) C0 (c_MG_isGroup0 l D ca ad hb_i ws0 f0) lk_MG_94 (by decide) f0 rfl hK hP hD hS hA rfl hl.1 rfl (Nat.le_of_ble_eq_true rfl) d_MG_orbit_2 (fun rv ws1 H locs hpost hP hD hS => ?_)
    obtain ⟨hr1, hw⟩ := hpost
    rw [hw] at hP hD
    refine mg_top (show rv = nI (0) from hr1) ?_
    refine mz_eq (pc := 5) (tgt := 23) C0 (by decide) d_MG_orbit_5 (by decide) (fun _ => ?_) (fun h9 => absurd rfl h9)
    have E : sp_orbit n (len, tx, pc, rk, gc, gs) a b = ((-1), (len, tx, pc, rk, gc, gs)) := by simp only [sp_orbit, he]
    refine lv_iconst (pc := 23) (v := (-1)) C0.1 C0.2.1 d_MG_orbit_23 (by decide +kernel) ?_
    exact hret _ _ _ _ 24 _ (rfl) (⟨by rw [E], by rw [E]; exact hM, hfm⟩) hP hD hS d_MG_orbit_24
  · refine lv_aload_n (pc := 0) C0.1 C0.2.1 d_MG_orbit_0 rfl (lv_at hl 0 rfl) ?_
    refine lv_iload_n (pc := 1) C0.1 C0.2.1 d_MG_orbit_1 rfl (lv_at hl 1 rfl) ?_
    refine mg_ci (pc := 2) (As := [.int (nI (i))]) (rest := []) C0 (c_MG_isGroup1 l D ca ad hi hk_ ws0 f0) lk_MG_94 (by decide) f0 rfl hK hP hD hS hA rfl hl.1 rfl (Nat.le_of_ble_eq_true rfl) d_MG_orbit_2 (fun rv ws1 H locs hpost hP hD hS => ?_)
    obtain ⟨hr1, hw⟩ := hpost
    rw [hw] at hP hD
    refine mg_top (show rv = nI (1) from hr1) ?_
    refine mz_eq (pc := 5) (tgt := 23) C0 (by decide) d_MG_orbit_5 (by decide) (fun h9 => absurd h9 (by decide)) (fun _ => ?_)
    rcases sp_ix_or b (k := n) (by omega) with ⟨hb_q, he2⟩ | ⟨q, hq, rfl, he2⟩
    · refine lv_iload_n (pc := 8) C0.1 C0.2.1 d_MG_orbit_8 rfl (lv_at hl 2 rfl) ?_
      refine lv_if_lt (pc := 9) (tgt := 23) C0.1 C0.2.1 d_MG_orbit_9 (by decide) (fun hc => ?_) (fun hc => ?_)
      · have E : sp_orbit n (len, tx, pc, rk, gc, gs) (nI i) b = ((-1), (len, tx, pc, rk, gc, gs)) := by simp only [sp_orbit, he, he2]
        refine lv_iconst (pc := 23) (v := (-1)) C0.1 C0.2.1 d_MG_orbit_23 (by decide +kernel) ?_
        exact hret _ _ _ _ 24 _ (rfl) (⟨by rw [E], by rw [E]; exact hM, hfm⟩) hP hD hS d_MG_orbit_24
      · refine lv_iload_n (pc := 12) C0.1 C0.2.1 d_MG_orbit_12 rfl (lv_at hl 2 rfl) ?_
        refine lv_aload_n (pc := 13) C0.1 C0.2.1 d_MG_orbit_13 rfl (lv_at hl 0 rfl) ?_
        refine mg_get (pc := 14) C0 in_MG hK hP (0) f0 rfl 0 (by decide) fl_MG_14 rfl d_MG_orbit_14 ?_
        refine mg_get (pc := 17) C0 in_SY hK hP (1) f1 rfl 0 (by decide) fl_MG_110 rfl d_MG_orbit_17 ?_
        refine lv_icmp_lt (pc := 20) (tgt := 25) C0.1 C0.2.1 d_MG_orbit_20 (by decide) (fun hc2 => ?_) (fun hc2 => ?_)
        · exact (hb_q.elim hc (fun h9 => Int32.not_lt.mpr h9 hc2)).elim
        · have E : sp_orbit n (len, tx, pc, rk, gc, gs) (nI i) b = ((-1), (len, tx, pc, rk, gc, gs)) := by simp only [sp_orbit, he, he2]
          refine lv_iconst (pc := 23) (v := (-1)) C0.1 C0.2.1 d_MG_orbit_23 (by decide +kernel) ?_
          exact hret _ _ _ _ 24 _ (rfl) (⟨by rw [E], by rw [E]; exact hM, hfm⟩) hP hD hS d_MG_orbit_24
    · refine lv_iload_n (pc := 8) C0.1 C0.2.1 d_MG_orbit_8 rfl (lv_at hl 2 rfl) ?_
      refine mz_lt (pc := 9) (tgt := 23) C0 (by omega) d_MG_orbit_9 (by decide) ?_
      refine lv_iload_n (pc := 12) C0.1 C0.2.1 d_MG_orbit_12 rfl (lv_at hl 2 rfl) ?_
      refine lv_aload_n (pc := 13) C0.1 C0.2.1 d_MG_orbit_13 rfl (lv_at hl 0 rfl) ?_
      refine mg_get (pc := 14) C0 in_MG hK hP (0) f0 rfl 0 (by decide) fl_MG_14 rfl d_MG_orbit_14 ?_
      refine mg_get (pc := 17) C0 in_SY hK hP (1) f1 rfl 0 (by decide) fl_MG_110 rfl d_MG_orbit_17 ?_
      refine mb_lt (pc := 20) (tgt := 25) C0 (by omega) (by omega) d_MG_orbit_20 (by decide) (fun hc => ?_) (fun hc => ?_)
      · obtain ⟨G, k, hsu⟩ := hgs i hi
        have hsx := hsu
        obtain ⟨f_, g_, ⟨fo, fm, fg⟩, hwd, hgG, hgen, h2k⟩ := hsx
        have hcn := ma_cn_le (gs i) (pm_fc n)
        refine lv_aload_n (pc := 25) C0.1 C0.2.1 d_MG_orbit_25 rfl (lv_at hl 0 rfl) ?_
        refine mg_get (pc := 26) C0 in_MG hK hP (0) f0 rfl 4 (by decide) fl_MG_38 rfl d_MG_orbit_26 ?_
        refine lv_iload_n (pc := 29) C0.1 C0.2.1 d_MG_orbit_29 rfl (lv_at hl 1 rfl) ?_
        refine mg_ald (pc := 30) C0 hK hP (9) 4 f9 rfl (j := i) (b := ad (10 + 3 * i)) (by omega) (by omega) (hgr i (by omega)) d_MG_orbit_30 ?_
        refine lv_iload_n (pc := 31) C0.1 C0.2.1 d_MG_orbit_31 rfl (lv_at hl 2 rfl) ?_
        refine mg_ci (pc := 32) (As := [.int (nI (q))]) (rest := []) C0 (c_SU_pointsReachedFrom l D ca ad h2 h6 hq ws0 hsy hsu) lk_MG_113 (by decide) fo rfl hK hP hD hS hA rfl hl.1 rfl (Nat.le_of_ble_eq_true rfl) d_MG_orbit_32 (fun rv ws1 H locs hpost hP hD hS => ?_)
        obtain ⟨hr1, hw⟩ := hpost
        rw [hw] at hP hD
        have E : sp_orbit n (len, tx, pc, rk, gc, gs) (nI i) (nI q) = (nI (su_ob n (gs i) q (pm_fc n)), (len, tx, pc, rk, gc, gs)) := by simp only [sp_orbit, he, he2]
        exact hret _ _ _ _ 35 _ (rfl) (⟨by rw [E]; exact hr1, by rw [E]; exact hM, hfm⟩) hP hD hS d_MG_orbit_35
      · exact absurd hc (by omega)
set_option maxHeartbeats 4000000 in
set_option maxRecDepth 100000 in
theorem c_MG_generate (l : Launch) (D : va_G) (ca : Nat → ClassId) (ad : Nat → Nat) {n : Nat} (h2 : 2 ≤ n) (h6 : n ≤ 6) {len : Nat} {tx : Nat → Nat} {pc : Nat} {rk : Nat → Nat} {gc : Nat} {gs : Nat → Nat → Bool} {a b : Int32} (ws0 : va_W) (h : MGW ca ad n (len, tx, pc, rk, gc, gs) ws0) : mg_I l y_MG_generate b_MG_generate 3 (.int) 6 D classes (tys_ ca) [.ref (ad 0), .int (a), .int (b)] ws0 (fun v w => v = (sp_generate n (len, tx, pc, rk, gc, gs) a b).1 ∧ MGW ca ad n (sp_generate n (len, tx, pc, rk, gc, gs) a b).2 w ∧ ∀ j, 52 ≤ j → w[j]? = ws0[j]?) := by
  have hM := h
  obtain ⟨z0, hsy, hct, hli, ⟨R, z7, hR⟩, ⟨gr, z9, hgr⟩, hraw, hgs, hp, hrk, hg⟩ := h
  have z1 := hsy.1
  have hN := pm_fc_le h6
  have g0 := pm_gp h2 h6
  refine mg_openI (own := R_MG) rfl (by decide) (Nat.le_of_ble_eq_true rfl) ?_
  intro p e s m args below meth c A Q ls C0 hK hA hP hD hS hl hret
  have hl : lv_has ls 3 [(0, .ref (ad 0)), (1, .int (a)), (2, .int (b))] := hl
  have f0 := z0
  have f1 := z1
  have f7 := z7
  have f9 := z9
  have hfm : ∀ j, 52 ≤ j → ws0[j]? = ws0[j]? := fun _ _ => rfl
  have hk_ : pc < 2 ^ 31 ∧ gc < 2 ^ 31 := ⟨by omega, by omega⟩
  rcases sp_ix_or a (k := gc) (by omega) with ⟨hb_i, he⟩ | ⟨i, hi, rfl, he⟩
  · refine lv_aload_n (pc := 0) C0.1 C0.2.1 d_MG_generate_0 rfl (lv_at hl 0 rfl) ?_
    refine lv_iload_n (pc := 1) C0.1 C0.2.1 d_MG_generate_1 rfl (lv_at hl 1 rfl) ?_
    refine mg_ci (pc := 2) (As := [.int (a)]) (rest := []) C0 (c_MG_isGroup0 l D ca ad hb_i ws0 f0) lk_MG_94 (by decide) f0 rfl hK hP hD hS hA rfl hl.1 rfl (Nat.le_of_ble_eq_true rfl) d_MG_generate_2 (fun rv ws1 H locs hpost hP hD hS => ?_)
    obtain ⟨hr1, hw⟩ := hpost
    rw [hw] at hP hD
    refine mg_top (show rv = nI (0) from hr1) ?_
    refine mz_eq (pc := 5) (tgt := 16) C0 (by decide) d_MG_generate_5 (by decide) (fun _ => ?_) (fun h9 => absurd rfl h9)
    have E : sp_generate n (len, tx, pc, rk, gc, gs) a b = ((-1), (len, tx, pc, rk, gc, gs)) := by simp only [sp_generate, he]
    refine lv_iconst (pc := 16) (v := (-1)) C0.1 C0.2.1 d_MG_generate_16 (by decide +kernel) ?_
    exact hret _ _ _ _ 17 _ (rfl) (⟨by rw [E], by rw [E]; exact hM, hfm⟩) hP hD hS d_MG_generate_17
  · refine lv_aload_n (pc := 0) C0.1 C0.2.1 d_MG_generate_0 rfl (lv_at hl 0 rfl) ?_
    refine lv_iload_n (pc := 1) C0.1 C0.2.1 d_MG_generate_1 rfl (lv_at hl 1 rfl) ?_
    refine mg_ci (pc := 2) (As := [.int (nI (i))]) (rest := []) C0 (c_MG_isGroup1 l D ca ad hi hk_ ws0 f0) lk_MG_94 (by decide) f0 rfl hK hP hD hS hA rfl hl.1 rfl (Nat.le_of_ble_eq_true rfl) d_MG_generate_2 (fun rv ws1 H locs hpost hP hD hS => ?_)
    obtain ⟨hr1, hw⟩ := hpost
    rw [hw] at hP hD
    refine mg_top (show rv = nI (1) from hr1) ?_
    refine mz_eq (pc := 5) (tgt := 16) C0 (by decide) d_MG_generate_5 (by decide) (fun h9 => absurd h9 (by decide)) (fun _ => ?_)
    refine lv_aload_n (pc := 8) C0.1 C0.2.1 d_MG_generate_8 rfl (lv_at hl 0 rfl) ?_
    refine lv_iload_n (pc := 9) C0.1 C0.2.1 d_MG_generate_9 rfl (lv_at hl 2 rfl) ?_
    rcases sp_ix_or b (k := pc) (by omega) with ⟨hb_q, he2⟩ | ⟨q, hq, rfl, he2⟩
    · refine mg_ci (pc := 10) (As := [.int (b)]) (rest := []) C0 (c_MG_isPermutation0 l D ca ad hb_q ws0 f0) lk_MG_77 (by decide) f0 rfl hK hP hD hS hA rfl hl.1 rfl (Nat.le_of_ble_eq_true rfl) d_MG_generate_10 (fun rv ws1 H locs hpost hP hD hS => ?_)
      obtain ⟨hr1, hw⟩ := hpost
      rw [hw] at hP hD
      refine mg_top (show rv = nI (0) from hr1) ?_
      refine mz_ne (pc := 13) (tgt := 18) C0 (by decide) d_MG_generate_13 (by decide) (fun h9 => absurd rfl h9) (fun _ => ?_)
      have E : sp_generate n (len, tx, pc, rk, gc, gs) (nI i) b = ((-1), (len, tx, pc, rk, gc, gs)) := by simp only [sp_generate, he, he2]
      refine lv_iconst (pc := 16) (v := (-1)) C0.1 C0.2.1 d_MG_generate_16 (by decide +kernel) ?_
      exact hret _ _ _ _ 17 _ (rfl) (⟨by rw [E], by rw [E]; exact hM, hfm⟩) hP hD hS d_MG_generate_17
    · refine mg_ci (pc := 10) (As := [.int (nI (q))]) (rest := []) C0 (c_MG_isPermutation1 l D ca ad hq hk_ ws0 f0) lk_MG_77 (by decide) f0 rfl hK hP hD hS hA rfl hl.1 rfl (Nat.le_of_ble_eq_true rfl) d_MG_generate_10 (fun rv ws1 H locs hpost hP hD hS => ?_)
      obtain ⟨hr1, hw⟩ := hpost
      rw [hw] at hP hD
      refine mg_top (show rv = nI (1) from hr1) ?_
      refine mz_ne (pc := 13) (tgt := 18) C0 (by decide) d_MG_generate_13 (by decide) (fun _ => ?_) (fun h9 => absurd h9 (by decide))
      obtain ⟨G, k, hsu⟩ := hgs i hi
      have hsx := hsu
      obtain ⟨f_, g_, ⟨fo, fm, fg⟩, hwd, hgG, hgen, h2k⟩ := hsx
      have hcn := ma_cn_le (gs i) (pm_fc n)
      refine lv_aload_n (pc := 18) C0.1 C0.2.1 d_MG_generate_18 rfl (lv_at hl 0 rfl) ?_
      refine mg_get (pc := 19) C0 in_MG hK hP (0) f0 rfl 4 (by decide) fl_MG_38 rfl d_MG_generate_19 ?_
      refine lv_iload_n (pc := 22) C0.1 C0.2.1 d_MG_generate_22 rfl (lv_at hl 1 rfl) ?_
      refine mg_ald (pc := 23) C0 hK hP (9) 4 f9 rfl (j := i) (b := ad (10 + 3 * i)) (by omega) (by omega) (hgr i (by omega)) d_MG_generate_23 ?_
      refine lv_aload_n (pc := 24) C0.1 C0.2.1 d_MG_generate_24 rfl (lv_at hl 0 rfl) ?_
      refine mg_get (pc := 25) C0 in_MG hK hP (0) f0 rfl 2 (by decide) fl_MG_25 rfl d_MG_generate_25 ?_
      refine lv_iload_n (pc := 28) C0.1 C0.2.1 d_MG_generate_28 rfl (lv_at hl 2 rfl) ?_
      refine mg_ild (pc := 29) C0 hK hP (7) 1 f7 rfl (j := q) (by omega) (by omega) d_MG_generate_29 ?_
      refine mg_top (show R (q) = nI (rk q) from hR q hq) ?_
      refine mg_cv (pc := 30) (As := [.int (nI (rk q))]) (rest := []) C0 (c_SU_add l D ca ad h2 h6 (hrk q hq) ws0 hsy hli hsu) lk_MG_97 (by decide) fo rfl hK hP hD hS hA rfl hl.1 rfl (Nat.le_of_ble_eq_true rfl) d_MG_generate_30 (fun ws H locs hpost hP hD hS => ?_)
      obtain ⟨hfr, hsy, hli, S1, G1, k1, hsu, hext, -, -⟩ := hpost
      have f0 := (hfr (0) (by omega)).trans f0
      have f1 := (hfr (1) (by omega)).trans f1
      have f7 := (hfr (7) (by omega)).trans f7
      have f9 := (hfr (9) (by omega)).trans f9
      have hfm : ∀ j, 52 ≤ j → ws[j]? = ws0[j]? := fun j hj => (hfr j (by omega)).trans (hfm j hj)
      have hM1 := mgw_su hM hi hfr hsy hli hsu
      have e1 := sp_gen_eq hext
      obtain ⟨f_, g_, ⟨fo, fm, fg⟩, -⟩ := hsu
      have E : sp_generate n (len, tx, pc, rk, gc, gs) (nI i) (nI q) = (nI (ma_cn S1 (pm_fc n)), (len, tx, pc, rk, gc, sp_up gs i S1)) := by simp only [sp_generate, he, he2, e1]
      refine lv_aload_n (pc := 33) C0.1 C0.2.1 d_MG_generate_33 rfl (lv_at hl 0 rfl) ?_
      refine mg_get (pc := 34) C0 in_MG hK hP (0) f0 rfl 4 (by decide) fl_MG_38 rfl d_MG_generate_34 ?_
      refine lv_iload_n (pc := 37) C0.1 C0.2.1 d_MG_generate_37 rfl (lv_at hl 1 rfl) ?_
      refine mg_ald (pc := 38) C0 hK hP (9) 4 f9 rfl (j := i) (b := ad (10 + 3 * i)) (by omega) (by omega) (hgr i (by omega)) d_MG_generate_38 ?_
      refine mg_get (pc := 39) C0 in_SU hK hP (10 + 3 * i) fo rfl 0 (by decide) fl_MG_100 rfl d_MG_generate_39 ?_
      exact hret _ _ _ _ 42 _ (rfl) (⟨by rw [E], by rw [E]; exact hM1, hfm⟩) hP hD hS d_MG_generate_42
set_option maxHeartbeats 4000000 in
set_option maxRecDepth 100000 in
theorem c_MG_group (l : Launch) (D : va_G) (ca : Nat → ClassId) (ad : Nat → Nat) {n : Nat} (h2 : 2 ≤ n) (h6 : n ≤ 6) {len : Nat} {tx : Nat → Nat} {pc : Nat} {rk : Nat → Nat} {gc : Nat} {gs : Nat → Nat → Bool} (ws0 : va_W) (h : MGW ca ad n (len, tx, pc, rk, gc, gs) ws0) : mg_I l y_MG_group b_MG_group 1 (.int) 3 D classes (tys_ ca) [.ref (ad 0)] ws0 (fun v w => v = (sp_group (len, tx, pc, rk, gc, gs)).1 ∧ MGW ca ad n (sp_group (len, tx, pc, rk, gc, gs)).2 w ∧ ∀ j, 52 ≤ j → w[j]? = ws0[j]?) := by
  have hM := h
  obtain ⟨z0, hsy, hct, hli, ⟨R, z7, hR⟩, ⟨gr, z9, hgr⟩, hraw, hgs, hp, hrk, hg⟩ := h
  have z1 := hsy.1
  have hN := pm_fc_le h6
  have g0 := pm_gp h2 h6
  refine mg_openI (own := R_MG) rfl (by decide) (Nat.le_of_ble_eq_true rfl) ?_
  intro p e s m args below meth c A Q ls C0 hK hA hP hD hS hl hret
  have hl : lv_has ls 1 [(0, .ref (ad 0))] := hl
  have f0 := z0
  have f1 := z1
  have f7 := z7
  have f9 := z9
  have hfm : ∀ j, 52 ≤ j → ws0[j]? = ws0[j]? := fun _ _ => rfl
  refine lv_aload_n (pc := 0) C0.1 C0.2.1 d_MG_group_0 rfl (lv_at hl 0 rfl) ?_
  refine mg_get (pc := 1) C0 in_MG hK hP (0) f0 rfl 5 (by decide) fl_MG_45 rfl d_MG_group_1 ?_
  refine lv_bipush (pc := 4) (v := nI (12)) C0.1 C0.2.1 d_MG_group_4 (by decide +kernel) ?_
  refine mb_lt (pc := 6) (tgt := 11) C0 (by omega) (by omega) d_MG_group_6 (by decide) (fun hc => ?_) (fun hc => ?_)
  · have hgc12 := hc
    have E : sp_group (len, tx, pc, rk, gc, gs) = (nI gc, (len, tx, pc, rk, gc + 1, sp_up gs gc su_one)) := if_pos hc
    obtain ⟨sz, f, g, kc, fo, fm, fg⟩ := hraw gc (by omega)
    refine lv_aload_n (pc := 11) C0.1 C0.2.1 d_MG_group_11 rfl (lv_at hl 0 rfl) ?_
    refine mg_get (pc := 12) C0 in_MG hK hP (0) f0 rfl 4 (by decide) fl_MG_38 rfl d_MG_group_12 ?_
    refine lv_aload_n (pc := 15) C0.1 C0.2.1 d_MG_group_15 rfl (lv_at hl 0 rfl) ?_
    refine mg_get (pc := 16) C0 in_MG hK hP (0) f0 rfl 5 (by decide) fl_MG_45 rfl d_MG_group_16 ?_
    refine mg_ald (pc := 19) C0 hK hP (9) 4 f9 rfl (j := gc) (b := ad (10 + 3 * gc)) (by omega) (by omega) (hgr gc (by omega)) d_MG_group_19 ?_
    refine mg_cv (pc := 20) (As := []) (rest := []) C0 (c_SU_becomeTrivial l D ca ad h2 h6 (fun _ => 0) ws0 fo fm fg) lk_MG_91 (by decide) fo rfl hK hP hD hS hA rfl hl.1 rfl (Nat.le_of_ble_eq_true rfl) d_MG_group_20 (fun ws H locs hpost hP hD hS => ?_)
    obtain ⟨hfr, hsu⟩ := hpost
    have f0 := (hfr (0) (by omega)).trans f0
    have f1 := (hfr (1) (by omega)).trans f1
    have f7 := (hfr (7) (by omega)).trans f7
    have f9 := (hfr (9) (by omega)).trans f9
    have hfm : ∀ j, 52 ≤ j → ws[j]? = ws0[j]? := fun j hj => (hfr j (by omega)).trans (hfm j hj)
    have hfa := hfr
    refine lv_aload_n (pc := 23) C0.1 C0.2.1 d_MG_group_23 rfl (lv_at hl 0 rfl) ?_
    refine lv_dup (pc := 24) C0.1 C0.2.1 d_MG_group_24 rfl ?_
    refine mg_get (pc := 25) C0 in_MG hK hP (0) f0 rfl 5 (by decide) fl_MG_45 rfl d_MG_group_25 ?_
    refine lv_iconst (pc := 28) (v := nI (1)) C0.1 C0.2.1 d_MG_group_28 (by decide +kernel) ?_
    refine mn_add (pc := 29) C0 d_MG_group_29 ?_
    refine mg_put (pc := 30) C0 in_MG t_MG_ok n_MG hK hP hD hS (0) f0 rfl 5 (by decide) fl_MG_45 rfl (ty := .int) (by decide +kernel) rfl rfl (Nat.le_of_ble_eq_true rfl) (fs' := [.ref (ad 1), .ref (ad 4), .ref (ad 7), .int (nI (pc)), .ref (ad 9), .int (nI (gc + 1)), .ref (ad 46), .ref (ad 49)]) rfl d_MG_group_30 (fun ws H locs hfr f0 hP hD hS => ?_)
    have f1 := (hfr (1) (by omega)).trans f1
    have f7 := (hfr (7) (by omega)).trans f7
    have f9 := (hfr (9) (by omega)).trans f9
    have hfm : ∀ j, 52 ≤ j → ws[j]? = ws0[j]? := fun j hj => (hfr j (by omega)).trans (hfm j hj)
    refine lv_aload_n (pc := 33) C0.1 C0.2.1 d_MG_group_33 rfl (lv_at hl 0 rfl) ?_
    refine mg_get (pc := 34) C0 in_MG hK hP (0) f0 rfl 5 (by decide) fl_MG_45 rfl d_MG_group_34 ?_
    refine lv_iconst (pc := 37) (v := nI (1)) C0.1 C0.2.1 d_MG_group_37 (by decide +kernel) ?_
    refine mn_sub (pc := 38) C0 (by omega) d_MG_group_38 ?_
    rw [Nat.add_sub_cancel]
    have hfb : ∀ j, j ≠ 0 ∧ j ≠ 10 + 3 * gc ∧ j ≠ 11 + 3 * gc → ws[j]? = ws0[j]? := fun j hj => (hfr j (by omega)).trans (hfa j (by omega))
    exact hret _ _ _ _ 39 _ (rfl) (⟨by rw [E], by
        rw [E]
        have hsu1 := su_fr (hfr _ (by omega)) (hfr _ (by omega)) (hfr _ (by omega)) hsu
        exact ⟨f0, sy_fr (hfb 1 (by omega)) (hfb 2 (by omega)) (hfb 3 (by omega)) hsy, ct_fr (hfb 4 (by omega)) (hfb 5 (by omega)) (hfb 6 (by omega)) hct, li_fr (hfb 8 (by omega)) hli, ⟨R, f7, hR⟩, ⟨gr, f9, hgr⟩, fun j hj => by
          by_cases e9 : j = gc
          · subst e9
            obtain ⟨f2, g2, h9, -⟩ := hsu1
            exact ⟨_, f2, g2, _, h9⟩
          · obtain ⟨a9, b9, c9, d9, h9⟩ := hraw j hj
            exact ⟨a9, b9, c9, d9, su_at_fr (hfb _ (by omega)) (hfb _ (by omega)) (hfb _ (by omega)) h9⟩, fun j hj => by
          by_cases e9 : j = gc
          · subst e9
            rw [sp_us]
            exact ⟨_, _, hsu1⟩
          · obtain ⟨a9, b9, h9⟩ := hgs j (by omega)
            rw [sp_un _ _ e9]
            exact ⟨a9, b9, su_fr (hfb _ (by omega)) (hfb _ (by omega)) (hfb _ (by omega)) h9⟩, hp, hrk, by omega⟩, hfm⟩) hP hD hS d_MG_group_39
  · have E : sp_group (len, tx, pc, rk, gc, gs) = ((-1), (len, tx, pc, rk, gc, gs)) := if_neg (by omega)
    refine lv_iconst (pc := 9) (v := (-1)) C0.1 C0.2.1 d_MG_group_9 (by decide +kernel) ?_
    exact hret _ _ _ _ 10 _ (rfl) (⟨by rw [E], by rw [E]; exact hM, hfm⟩) hP hD hS d_MG_group_10
set_option maxHeartbeats 4000000 in
set_option maxRecDepth 100000 in
theorem c_MG_type (l : Launch) (D : va_G) (ca : Nat → ClassId) (ad : Nat → Nat) {n : Nat} (h2 : 2 ≤ n) (h6 : n ≤ 6) {len : Nat} {tx : Nat → Nat} {pc : Nat} {rk : Nat → Nat} {gc : Nat} {gs : Nat → Nat → Bool} {word x : Int32} (ws0 : va_W) (h : MGW ca ad n (len, tx, pc, rk, gc, gs) ws0) : mg_I l y_MG_type b_MG_type 3 (.boolean) 3 D classes (tys_ ca) [.ref (ad 0), .int (word), .int (x)] ws0 (fun v w => v = (sp_type (len, tx, pc, rk, gc, gs) word x).1 ∧ MGW ca ad n (sp_type (len, tx, pc, rk, gc, gs) word x).2 w ∧ ∀ j, 52 ≤ j → w[j]? = ws0[j]?) := by
  have hM := h
  obtain ⟨z0, hsy, hct, hli, ⟨R, z7, hR⟩, ⟨gr, z9, hgr⟩, hraw, hgs, hp, hrk, hg⟩ := h
  have z1 := hsy.1
  have hN := pm_fc_le h6
  have g0 := pm_gp h2 h6
  refine mg_openI (own := R_MG) rfl (by decide) (Nat.le_of_ble_eq_true rfl) ?_
  intro p e s m args below meth c A Q ls C0 hK hA hP hD hS hl hret
  have hl : lv_has ls 3 [(0, .ref (ad 0)), (1, .int (word)), (2, .int (x))] := hl
  have f0 := z0
  have hfm : ∀ j, 52 ≤ j → ws0[j]? = ws0[j]? := fun _ _ => rfl
  obtain ⟨⟨op, fi, la, se, f4⟩, ⟨P, f5⟩, ⟨T, f6, hT⟩, hlen, htx⟩ := hct
  by_cases hx : x < 1 ∨ 4 < x
  · refine lv_aload_n (pc := 0) C0.1 C0.2.1 d_MG_type_0 rfl (lv_at hl 0 rfl) ?_
    refine mg_get (pc := 1) C0 in_MG hK hP (0) f0 rfl 1 (by decide) fl_MG_21 rfl d_MG_type_1 ?_
    refine lv_iload_n (pc := 4) C0.1 C0.2.1 d_MG_type_4 rfl (lv_at hl 1 rfl) ?_
    refine lv_iload_n (pc := 5) C0.1 C0.2.1 d_MG_type_5 rfl (lv_at hl 2 rfl) ?_
    refine mg_ci (pc := 6) (As := [.int (word), .int (x)]) (rest := []) C0 (c_CT_append0 l D ca ad h2 h6 hx ws0 f4) lk_MG_55 (by decide) f4 rfl hK hP hD hS hA rfl hl.1 rfl (Nat.le_of_ble_eq_true rfl) d_MG_type_6 (fun rv ws1 H locs hpost hP hD hS => ?_)
    obtain ⟨hr1, hw⟩ := hpost
    rw [hw] at hP hD
    have E : sp_type (len, tx, pc, rk, gc, gs) word x = (nI 0, (len, tx, pc, rk, gc, gs)) := if_neg (fun h9 => h9.1 hx)
    refine mg_top (show rv = nI (0) from hr1) ?_
    exact hret _ _ _ _ 9 _ (rfl) (⟨by rw [E], by rw [E]; exact hM, hfm⟩) hP hD hS d_MG_type_9
  · obtain ⟨m0, hm1, hm4, rfl⟩ : ∃ m0 : Nat, 1 ≤ m0 ∧ m0 ≤ 4 ∧ x = nI m0 := by
      have h9 : ¬ x < 0 := fun h9 => hx (Or.inl (by rw [Int32.lt_iff_toInt_lt] at h9 ⊢; have h7 : (0 : Int32).toInt = 0 := by decide
                                                    have h8 : (1 : Int32).toInt = 1 := by decide
                                                    omega))
      obtain ⟨j, hj, rfl⟩ := nI_of h9
      refine ⟨j, ?_, ?_, rfl⟩
      · rcases Nat.eq_zero_or_pos j with h7 | h7
        · subst h7; exact absurd (Or.inl (by decide)) hx
        · exact h7
      · rcases Nat.lt_or_ge 4 j with h7 | h7
        · exact absurd (Or.inr (show nI 4 < nI j from nI_lt h7 hj)) hx
        · exact h7
    have hcl : (nI m0).toNatClampNeg = m0 := nI_clamp (by omega)
    refine lv_aload_n (pc := 0) C0.1 C0.2.1 d_MG_type_0 rfl (lv_at hl 0 rfl) ?_
    refine mg_get (pc := 1) C0 in_MG hK hP (0) f0 rfl 1 (by decide) fl_MG_21 rfl d_MG_type_1 ?_
    refine lv_iload_n (pc := 4) C0.1 C0.2.1 d_MG_type_4 rfl (lv_at hl 1 rfl) ?_
    refine lv_iload_n (pc := 5) C0.1 C0.2.1 d_MG_type_5 rfl (lv_at hl 2 rfl) ?_
    refine mg_ci (pc := 6) (As := [.int (word), .int (nI (m0))]) (rest := []) C0 (c_CT_append1 l D ca ad h2 h6 hlen hT hm1 hm4 ws0 f4 f6) lk_MG_55 (by decide) f4 rfl hK hP hD hS hA rfl hl.1 rfl (Nat.le_of_ble_eq_true rfl) d_MG_type_6 (fun rv ws H locs hpost hP hD hS => ?_)
    rcases hpost with ⟨hok, hr1, hw⟩ | ⟨hok, hr1, hfr, f4, T1, f6, hT1⟩
    · rw [hw] at hP hD
      have E : sp_type (len, tx, pc, rk, gc, gs) word (nI m0) = (nI 0, (len, tx, pc, rk, gc, gs)) := if_neg (fun h9 => by rw [hcl, hok] at h9; exact absurd h9.2 (by decide))
      refine mg_top (show rv = nI (0) from hr1) ?_
      exact hret _ _ _ _ 9 _ (rfl) (⟨by rw [E], by rw [E]; exact hM, hfm⟩) hP hD hS d_MG_type_9
    · have E : sp_type (len, tx, pc, rk, gc, gs) word (nI m0) = (nI 1, (len + m0, ty_tx len m0 word tx, pc, rk, gc, gs)) := by
        have h9 : ¬ (nI m0 < 1 ∨ 4 < nI m0) ∧ ty_ok len (nI m0).toNatClampNeg word = true := ⟨hx, by rw [hcl]; exact hok⟩
        show (if _ then _ else _) = _
        rw [if_pos h9, hcl]
      refine mg_top (show rv = nI (1) from hr1) ?_
      have hok2 := ty_ok2 hok
      exact hret _ _ _ _ 9 _ (rfl) (⟨by rw [E], by
          rw [E]
          exact mgw_ct hM (fun j hj => hfr j (by omega)) ⟨⟨_, _, _, _, f4⟩, ⟨P, (hfr 5 (by omega)).trans f5⟩, ⟨T1, f6, hT1⟩, hok2.1, fun i hi => by
            unfold ty_tx
            by_cases e9 : i < len
            · rw [if_pos e9]; exact htx i e9
            · rw [if_neg e9]; have h7 := (hok2.2 (m0 - 1 - (i - len)) (by omega)).2; omega⟩, fun j hj => hfr j (by omega)⟩) hP hD hS d_MG_type_9
set_option maxHeartbeats 4000000 in
set_option maxRecDepth 100000 in
theorem c_MG_clear (l : Launch) (D : va_G) (ca : Nat → ClassId) (ad : Nat → Nat) {n : Nat} (h2 : 2 ≤ n) (h6 : n ≤ 6) {len : Nat} {tx : Nat → Nat} {pc : Nat} {rk : Nat → Nat} {gc : Nat} {gs : Nat → Nat → Bool} (ws0 : va_W) (h : MGW ca ad n (len, tx, pc, rk, gc, gs) ws0) : mg_I l y_MG_clear b_MG_clear 2 (.int) 2 D classes (tys_ ca) [.ref (ad 0)] ws0 (fun v w => v = (sp_clear (len, tx, pc, rk, gc, gs)).1 ∧ MGW ca ad n (sp_clear (len, tx, pc, rk, gc, gs)).2 w ∧ ∀ j, 52 ≤ j → w[j]? = ws0[j]?) := by
  have hM := h
  obtain ⟨z0, hsy, hct, hli, ⟨R, z7, hR⟩, ⟨gr, z9, hgr⟩, hraw, hgs, hp, hrk, hg⟩ := h
  have z1 := hsy.1
  have hN := pm_fc_le h6
  have g0 := pm_gp h2 h6
  refine mg_openI (own := R_MG) rfl (by decide) (Nat.le_of_ble_eq_true rfl) ?_
  intro p e s m args below meth c A Q ls C0 hK hA hP hD hS hl hret
  have hl : lv_has ls 2 [(0, .ref (ad 0))] := hl
  have f0 := z0
  have f1 := z1
  have f7 := z7
  have f9 := z9
  have hfm : ∀ j, 52 ≤ j → ws0[j]? = ws0[j]? := fun _ _ => rfl
  obtain ⟨⟨op, fi, la, se, f4⟩, ⟨P, f5⟩, ⟨T, f6, hT⟩, hlen, htx⟩ := hct
  have hfm : ∀ j, j ≠ 0 ∧ j ≠ 4 → ws0[j]? = ws0[j]? := fun _ _ => rfl
  refine lv_aload_n (pc := 0) C0.1 C0.2.1 d_MG_clear_0 rfl (lv_at hl 0 rfl) ?_
  refine mg_get (pc := 1) C0 in_MG hK hP (0) f0 rfl 5 (by decide) fl_MG_45 rfl d_MG_clear_1 ?_
  refine lv_istore_n (pc := 4) (lv' := [(1, .int (nI (gc))), (0, .ref (ad 0))]) C0.1 C0.2.1 d_MG_clear_4 rfl hl (by decide) rfl (fun ls hl => ?_)
  refine lv_aload_n (pc := 5) C0.1 C0.2.1 d_MG_clear_5 rfl (lv_at hl 1 rfl) ?_
  refine lv_iconst (pc := 6) (v := nI (0)) C0.1 C0.2.1 d_MG_clear_6 (by decide +kernel) ?_
  refine mg_put (pc := 7) C0 in_MG t_MG_ok n_MG hK hP hD hS (0) f0 rfl 5 (by decide) fl_MG_45 rfl (ty := .int) (by decide +kernel) rfl rfl (Nat.le_of_ble_eq_true rfl) (fs' := [.ref (ad 1), .ref (ad 4), .ref (ad 7), .int (nI (pc)), .ref (ad 9), .int (nI (0)), .ref (ad 46), .ref (ad 49)]) rfl d_MG_clear_7 (fun ws H locs hfr f0 hP hD hS => ?_)
  have f1 := (hfr (1) (by omega)).trans f1
  have f7 := (hfr (7) (by omega)).trans f7
  have f9 := (hfr (9) (by omega)).trans f9
  have f4 := (hfr (4) (by omega)).trans f4
  have f6 := (hfr (6) (by omega)).trans f6
  have f5 := (hfr (5) (by omega)).trans f5
  have hfm : ∀ j, j ≠ 0 ∧ j ≠ 4 → ws[j]? = ws0[j]? := fun j hj => (hfr j (by omega)).trans (hfm j hj)
  refine lv_aload_n (pc := 10) C0.1 C0.2.1 d_MG_clear_10 rfl (lv_at hl 1 rfl) ?_
  refine lv_iconst (pc := 11) (v := nI (1)) C0.1 C0.2.1 d_MG_clear_11 (by decide +kernel) ?_
  refine mg_put (pc := 12) C0 in_MG t_MG_ok n_MG hK hP hD hS (0) f0 rfl 3 (by decide) fl_MG_29 rfl (ty := .int) (by decide +kernel) rfl rfl (Nat.le_of_ble_eq_true rfl) (fs' := [.ref (ad 1), .ref (ad 4), .ref (ad 7), .int (nI (1)), .ref (ad 9), .int (nI (0)), .ref (ad 46), .ref (ad 49)]) rfl d_MG_clear_12 (fun ws H locs hfr f0 hP hD hS => ?_)
  have f1 := (hfr (1) (by omega)).trans f1
  have f7 := (hfr (7) (by omega)).trans f7
  have f9 := (hfr (9) (by omega)).trans f9
  have f4 := (hfr (4) (by omega)).trans f4
  have f6 := (hfr (6) (by omega)).trans f6
  have f5 := (hfr (5) (by omega)).trans f5
  have hfm : ∀ j, j ≠ 0 ∧ j ≠ 4 → ws[j]? = ws0[j]? := fun j hj => (hfr j (by omega)).trans (hfm j hj)
  refine lv_aload_n (pc := 15) C0.1 C0.2.1 d_MG_clear_15 rfl (lv_at hl 1 rfl) ?_
  refine mg_get (pc := 16) C0 in_MG hK hP (0) f0 rfl 1 (by decide) fl_MG_21 rfl d_MG_clear_16 ?_
  refine mg_cv (pc := 19) (As := []) (rest := []) C0 (c_CT_forget l D ca ad h2 h6 ws f4) lk_MG_63 (by decide) f4 rfl hK hP hD hS hA rfl hl.1 rfl (Nat.le_of_ble_eq_true rfl) d_MG_clear_19 (fun ws H locs hpost hP hD hS => ?_)
  obtain ⟨hfr, f4⟩ := hpost
  have f0 := (hfr (0) (by omega)).trans f0
  have f1 := (hfr (1) (by omega)).trans f1
  have f7 := (hfr (7) (by omega)).trans f7
  have f9 := (hfr (9) (by omega)).trans f9
  have f6 := (hfr (6) (by omega)).trans f6
  have f5 := (hfr (5) (by omega)).trans f5
  have hfm : ∀ j, j ≠ 0 ∧ j ≠ 4 → ws[j]? = ws0[j]? := fun j hj => (hfr j (by omega)).trans (hfm j hj)
  refine lv_iload_n (pc := 22) C0.1 C0.2.1 d_MG_clear_22 rfl (lv_at hl 0 rfl) ?_
  have E : sp_clear (len, tx, pc, rk, gc, gs) = (nI gc, (0, tx, 1, rk, 0, gs)) := rfl
  exact hret _ _ _ _ 23 _ (rfl) (⟨by rw [E], by
      rw [E]
      exact ⟨f0, sy_fr (hfm 1 (by omega)) (hfm 2 (by omega)) (hfm 3 (by omega)) hsy, ⟨⟨_, _, _, _, f4⟩, ⟨P, f5⟩, ⟨T, f6, fun i hi => absurd hi (by omega)⟩, by omega, fun i hi => absurd hi (by omega)⟩, li_fr (hfm 8 (by omega)) hli, ⟨R, f7, fun i hi => hR i (by omega)⟩, ⟨gr, f9, hgr⟩, fun j hj => by
        obtain ⟨a9, b9, c9, d9, h9⟩ := hraw j hj
        exact ⟨a9, b9, c9, d9, su_at_fr (hfm _ (by omega)) (hfm _ (by omega)) (hfm _ (by omega)) h9⟩, fun j hj => absurd hj (by omega), by omega, fun i hi => hrk i (by omega), by omega⟩, fun j hj => hfm j (by omega)⟩) hP hD hS d_MG_clear_23
