/-! The reference: its calls, first part -/
set_option maxHeartbeats 4000000 in
set_option maxRecDepth 100000 in
theorem c_MO_isPermutation0 (l : Launch) (D : va_G) (ca : Nat → ClassId) (ad : Nat → Nat) {n : Nat} {gcx lenx : Int32} {pc : Nat} {x : Int32} (hb_j : x < 0 ∨ nI pc ≤ x) (hk : pc < 2 ^ 30) (ws0 : va_W) (zx : ws0[52]? = some (ad 52, .inr (4, [.int (nI (n)), .int (nI (pm_fc n)), .ref (ad 53), .int (nI (pc)), .ref (ad 54), .int (gcx), .ref (ad 55), .ref (ad 56), .ref (ad 57), .ref (ad 58), .ref (ad 59), .int (lenx)]))) : mg_I l y_MO_isPermutation b_MO_isPermutation 2 (.boolean) 2 D classes (tys_ ca) [.ref (ad 52), .int (x)] ws0 (fun v w => v = nI 0 ∧ w = ws0) := by
  refine mg_openI (own := R_MO) rfl (by decide) (Nat.le_of_ble_eq_true rfl) ?_
  intro p e s m args below meth c A Q ls C0 hK hA hP hD hS hl hret
  have hl : lv_has ls 2 [(0, .ref (ad 52)), (1, .int (x))] := hl
  have fx := zx
  refine lv_iload_n (pc := 0) C0.1 C0.2.1 d_MO_isPermutation_0 rfl (lv_at hl 1 rfl) ?_
  refine lv_iconst (pc := 1) (v := nI (0)) C0.1 C0.2.1 d_MO_isPermutation_1 (by decide +kernel) ?_
  refine lv_aload_n (pc := 2) C0.1 C0.2.1 d_MO_isPermutation_2 rfl (lv_at hl 0 rfl) ?_
  refine mg_get (pc := 3) C0 in_MO hK hP (52) fx rfl 3 (by decide) fl_MO_13 rfl d_MO_isPermutation_3 ?_
  refine lv_iconst (pc := 6) (v := nI (1)) C0.1 C0.2.1 d_MO_isPermutation_6 (by decide +kernel) ?_
  refine lv_isub (pc := 7) C0.1 C0.2.1 d_MO_isPermutation_7 ?_
  refine mg_si (pc := 8) (As := [.int (x), .int (nI (0)), .int ((nI (pc)) - (nI (1)))]) (rest := []) C0 (c_MO_in l D ca ad ws0) lk_MO_85 (by decide) hK hP hD hS hA rfl hl.1 rfl (Nat.le_of_ble_eq_true rfl) d_MO_isPermutation_8 (fun rv ws1 H locs hpost hP hD hS => ?_)
  obtain ⟨hr1, hw⟩ := hpost
  rw [hw] at hP hD
  refine mg_top (show rv = nI (0) from hr1.elim (fun h9 => h9.2) (fun h9 => (hb_j.elim h9.1.1 (fun h8 => h9.1.2 (mo_hi1 hk h8))).elim)) ?_
  exact hret _ _ _ _ 11 _ (rfl) (⟨rfl, rfl⟩) hP hD hS d_MO_isPermutation_11
set_option maxHeartbeats 4000000 in
set_option maxRecDepth 100000 in
theorem c_MO_isPermutation1 (l : Launch) (D : va_G) (ca : Nat → ClassId) (ad : Nat → Nat) {n : Nat} {gcx lenx : Int32} {pc j : Nat} (hj : j < pc) (hk : pc < 2 ^ 30) (ws0 : va_W) (zx : ws0[52]? = some (ad 52, .inr (4, [.int (nI (n)), .int (nI (pm_fc n)), .ref (ad 53), .int (nI (pc)), .ref (ad 54), .int (gcx), .ref (ad 55), .ref (ad 56), .ref (ad 57), .ref (ad 58), .ref (ad 59), .int (lenx)]))) : mg_I l y_MO_isPermutation b_MO_isPermutation 2 (.boolean) 2 D classes (tys_ ca) [.ref (ad 52), .int (nI (j))] ws0 (fun v w => v = nI 1 ∧ w = ws0) := by
  refine mg_openI (own := R_MO) rfl (by decide) (Nat.le_of_ble_eq_true rfl) ?_
  intro p e s m args below meth c A Q ls C0 hK hA hP hD hS hl hret
  have hl : lv_has ls 2 [(0, .ref (ad 52)), (1, .int (nI (j)))] := hl
  have fx := zx
  refine lv_iload_n (pc := 0) C0.1 C0.2.1 d_MO_isPermutation_0 rfl (lv_at hl 1 rfl) ?_
  refine lv_iconst (pc := 1) (v := nI (0)) C0.1 C0.2.1 d_MO_isPermutation_1 (by decide +kernel) ?_
  refine lv_aload_n (pc := 2) C0.1 C0.2.1 d_MO_isPermutation_2 rfl (lv_at hl 0 rfl) ?_
  refine mg_get (pc := 3) C0 in_MO hK hP (52) fx rfl 3 (by decide) fl_MO_13 rfl d_MO_isPermutation_3 ?_
  refine lv_iconst (pc := 6) (v := nI (1)) C0.1 C0.2.1 d_MO_isPermutation_6 (by decide +kernel) ?_
  refine lv_isub (pc := 7) C0.1 C0.2.1 d_MO_isPermutation_7 ?_
  refine mg_si (pc := 8) (As := [.int (nI (j)), .int (nI (0)), .int ((nI (pc)) - (nI (1)))]) (rest := []) C0 (c_MO_in l D ca ad ws0) lk_MO_85 (by decide) hK hP hD hS hA rfl hl.1 rfl (Nat.le_of_ble_eq_true rfl) d_MO_isPermutation_8 (fun rv ws1 H locs hpost hP hD hS => ?_)
  obtain ⟨hr1, hw⟩ := hpost
  rw [hw] at hP hD
  refine mg_top (show rv = nI (1) from hr1.elim (fun h9 => (h9.1.elim (fun h8 => nI_pos (by omega) h8) (fun h8 => mo_hi0 hk hj h8)).elim) (fun h9 => h9.2)) ?_
  exact hret _ _ _ _ 11 _ (rfl) (⟨rfl, rfl⟩) hP hD hS d_MO_isPermutation_11
set_option maxHeartbeats 4000000 in
set_option maxRecDepth 100000 in
theorem c_MO_isGroup0 (l : Launch) (D : va_G) (ca : Nat → ClassId) (ad : Nat → Nat) {n : Nat} {pcx lenx : Int32} {gc : Nat} {x : Int32} (hb_j : x < 0 ∨ nI gc ≤ x) (hk : gc < 2 ^ 30) (ws0 : va_W) (zx : ws0[52]? = some (ad 52, .inr (4, [.int (nI (n)), .int (nI (pm_fc n)), .ref (ad 53), .int (pcx), .ref (ad 54), .int (nI (gc)), .ref (ad 55), .ref (ad 56), .ref (ad 57), .ref (ad 58), .ref (ad 59), .int (lenx)]))) : mg_I l y_MO_isGroup b_MO_isGroup 2 (.boolean) 2 D classes (tys_ ca) [.ref (ad 52), .int (x)] ws0 (fun v w => v = nI 0 ∧ w = ws0) := by
  refine mg_openI (own := R_MO) rfl (by decide) (Nat.le_of_ble_eq_true rfl) ?_
  intro p e s m args below meth c A Q ls C0 hK hA hP hD hS hl hret
  have hl : lv_has ls 2 [(0, .ref (ad 52)), (1, .int (x))] := hl
  have fx := zx
  refine lv_iload_n (pc := 0) C0.1 C0.2.1 d_MO_isGroup_0 rfl (lv_at hl 1 rfl) ?_
  refine lv_iconst (pc := 1) (v := nI (0)) C0.1 C0.2.1 d_MO_isGroup_1 (by decide +kernel) ?_
  refine lv_aload_n (pc := 2) C0.1 C0.2.1 d_MO_isGroup_2 rfl (lv_at hl 0 rfl) ?_
  refine mg_get (pc := 3) C0 in_MO hK hP (52) fx rfl 5 (by decide) fl_MO_95 rfl d_MO_isGroup_3 ?_
  refine lv_iconst (pc := 6) (v := nI (1)) C0.1 C0.2.1 d_MO_isGroup_6 (by decide +kernel) ?_
  refine lv_isub (pc := 7) C0.1 C0.2.1 d_MO_isGroup_7 ?_
  refine mg_si (pc := 8) (As := [.int (x), .int (nI (0)), .int ((nI (gc)) - (nI (1)))]) (rest := []) C0 (c_MO_in l D ca ad ws0) lk_MO_85 (by decide) hK hP hD hS hA rfl hl.1 rfl (Nat.le_of_ble_eq_true rfl) d_MO_isGroup_8 (fun rv ws1 H locs hpost hP hD hS => ?_)
  obtain ⟨hr1, hw⟩ := hpost
  rw [hw] at hP hD
  refine mg_top (show rv = nI (0) from hr1.elim (fun h9 => h9.2) (fun h9 => (hb_j.elim h9.1.1 (fun h8 => h9.1.2 (mo_hi1 hk h8))).elim)) ?_
  exact hret _ _ _ _ 11 _ (rfl) (⟨rfl, rfl⟩) hP hD hS d_MO_isGroup_11
set_option maxHeartbeats 4000000 in
set_option maxRecDepth 100000 in
theorem c_MO_isGroup1 (l : Launch) (D : va_G) (ca : Nat → ClassId) (ad : Nat → Nat) {n : Nat} {pcx lenx : Int32} {gc j : Nat} (hj : j < gc) (hk : gc < 2 ^ 30) (ws0 : va_W) (zx : ws0[52]? = some (ad 52, .inr (4, [.int (nI (n)), .int (nI (pm_fc n)), .ref (ad 53), .int (pcx), .ref (ad 54), .int (nI (gc)), .ref (ad 55), .ref (ad 56), .ref (ad 57), .ref (ad 58), .ref (ad 59), .int (lenx)]))) : mg_I l y_MO_isGroup b_MO_isGroup 2 (.boolean) 2 D classes (tys_ ca) [.ref (ad 52), .int (nI (j))] ws0 (fun v w => v = nI 1 ∧ w = ws0) := by
  refine mg_openI (own := R_MO) rfl (by decide) (Nat.le_of_ble_eq_true rfl) ?_
  intro p e s m args below meth c A Q ls C0 hK hA hP hD hS hl hret
  have hl : lv_has ls 2 [(0, .ref (ad 52)), (1, .int (nI (j)))] := hl
  have fx := zx
  refine lv_iload_n (pc := 0) C0.1 C0.2.1 d_MO_isGroup_0 rfl (lv_at hl 1 rfl) ?_
  refine lv_iconst (pc := 1) (v := nI (0)) C0.1 C0.2.1 d_MO_isGroup_1 (by decide +kernel) ?_
  refine lv_aload_n (pc := 2) C0.1 C0.2.1 d_MO_isGroup_2 rfl (lv_at hl 0 rfl) ?_
  refine mg_get (pc := 3) C0 in_MO hK hP (52) fx rfl 5 (by decide) fl_MO_95 rfl d_MO_isGroup_3 ?_
  refine lv_iconst (pc := 6) (v := nI (1)) C0.1 C0.2.1 d_MO_isGroup_6 (by decide +kernel) ?_
  refine lv_isub (pc := 7) C0.1 C0.2.1 d_MO_isGroup_7 ?_
  refine mg_si (pc := 8) (As := [.int (nI (j)), .int (nI (0)), .int ((nI (gc)) - (nI (1)))]) (rest := []) C0 (c_MO_in l D ca ad ws0) lk_MO_85 (by decide) hK hP hD hS hA rfl hl.1 rfl (Nat.le_of_ble_eq_true rfl) d_MO_isGroup_8 (fun rv ws1 H locs hpost hP hD hS => ?_)
  obtain ⟨hr1, hw⟩ := hpost
  rw [hw] at hP hD
  refine mg_top (show rv = nI (1) from hr1.elim (fun h9 => (h9.1.elim (fun h8 => nI_pos (by omega) h8) (fun h8 => mo_hi0 hk hj h8)).elim) (fun h9 => h9.2)) ?_
  exact hret _ _ _ _ 11 _ (rfl) (⟨rfl, rfl⟩) hP hD hS d_MO_isGroup_11
set_option maxHeartbeats 4000000 in
set_option maxRecDepth 100000 in
theorem c_MO_keep (l : Launch) (D : va_G) (ca : Nat → ClassId) (ad : Nat → Nat) {n : Nat} (h2 : 2 ≤ n) (h6 : n ≤ 6) {len : Nat} {tx : Nat → Nat} {pc : Nat} {rk : Nat → Nat} {gc : Nat} {gs : Nat → Nat → Bool} {r : Nat} (hr : r < pm_fc n) (h40 : pc < 40) (ws0 : va_W) (h : MOW ca ad n (len, tx, pc, rk, gc, gs) ws0) : mg_I l y_MO_keep b_MO_keep 2 (.int) 1 D classes (tys_ ca) [.ref (ad 52), .int (nI (r))] ws0 (fun v w => v = (sp_keep (len, tx, pc, rk, gc, gs) r).1 ∧ MOW ca ad n (sp_keep (len, tx, pc, rk, gc, gs) r).2 w ∧ ∀ j, j < 52 → w[j]? = ws0[j]?) := by
  have hM := h
  obtain ⟨zx, ⟨im, zi, him⟩, ⟨pe, ze, hpe⟩, ⟨st, my, ge, zs, zy, zg, hgs⟩, ⟨fn, znn⟩, ⟨ch, zc, hch⟩, hlen, htx, hp, hrk, hg⟩ := h
  have hN := pm_fc_le h6
  have g0 := pm_gp h2 h6
  have hk_ : pc < 2 ^ 30 ∧ gc < 2 ^ 30 := ⟨by omega, by omega⟩
  refine mg_openI (own := R_MO) rfl (by decide) (Nat.le_of_ble_eq_true rfl) ?_
  intro p e s m args below meth c A Q ls C0 hK hA hP hD hS hl hret
  have hl : lv_has ls 2 [(0, .ref (ad 52)), (1, .int (nI (r)))] := hl
  have fx := zx
  have fi := zi
  have fe := ze
  have fs := zs
  have fy := zy
  have fg := zg
  have fnn := znn
  have fc := zc
  have hfm : ∀ j, j ≠ 52 ∧ j ≠ 54 → ws0[j]? = ws0[j]? := fun _ _ => rfl
  have E : sp_keep (len, tx, pc, rk, gc, gs) r = (nI pc, (len, tx, pc + 1, su_up rk pc r, gc, gs)) := if_pos h40
  refine lv_aload_n (pc := 0) C0.1 C0.2.1 d_MO_keep_0 rfl (lv_at hl 0 rfl) ?_
  refine mg_get (pc := 1) C0 in_MO hK hP (52) fx rfl 4 (by decide) fl_MO_17 rfl d_MO_keep_1 ?_
  refine lv_aload_n (pc := 4) C0.1 C0.2.1 d_MO_keep_4 rfl (lv_at hl 0 rfl) ?_
  refine mg_get (pc := 5) C0 in_MO hK hP (52) fx rfl 3 (by decide) fl_MO_13 rfl d_MO_keep_5 ?_
  refine lv_iload_n (pc := 8) C0.1 C0.2.1 d_MO_keep_8 rfl (lv_at hl 1 rfl) ?_
  refine mg_ist (pc := 9) C0 hK hP hD hS (54) 1 fe rfl (j := pc) (by omega) (by omega) d_MO_keep_9 (fun ws H locs hfr fe hP hD hS => ?_)
  have fx := (hfr (52) (by omega)).trans fx
  have fi := (hfr (53) (by omega)).trans fi
  have fs := (hfr (55) (by omega)).trans fs
  have fy := (hfr (56) (by omega)).trans fy
  have fg := (hfr (57) (by omega)).trans fg
  have fnn := (hfr (58) (by omega)).trans fnn
  have fc := (hfr (59) (by omega)).trans fc
  have hfm : ∀ j, j ≠ 52 ∧ j ≠ 54 → ws[j]? = ws0[j]? := fun j hj => (hfr j (by omega)).trans (hfm j hj)
  refine lv_aload_n (pc := 10) C0.1 C0.2.1 d_MO_keep_10 rfl (lv_at hl 0 rfl) ?_
  refine lv_aload_n (pc := 11) C0.1 C0.2.1 d_MO_keep_11 rfl (lv_at hl 0 rfl) ?_
  refine mg_get (pc := 12) C0 in_MO hK hP (52) fx rfl 3 (by decide) fl_MO_13 rfl d_MO_keep_12 ?_
  refine lv_iconst (pc := 15) (v := nI (1)) C0.1 C0.2.1 d_MO_keep_15 (by decide +kernel) ?_
  refine mn_add (pc := 16) C0 d_MO_keep_16 ?_
  refine mg_put (pc := 17) C0 in_MO t_MO_ok n_MO hK hP hD hS (52) fx rfl 3 (by decide) fl_MO_13 rfl (ty := .int) (by decide +kernel) rfl rfl (Nat.le_of_ble_eq_true rfl) (fs' := [.int (nI (n)), .int (nI (pm_fc n)), .ref (ad 53), .int (nI (pc + 1)), .ref (ad 54), .int (nI (gc)), .ref (ad 55), .ref (ad 56), .ref (ad 57), .ref (ad 58), .ref (ad 59), .int (nI (len))]) rfl d_MO_keep_17 (fun ws H locs hfr fx hP hD hS => ?_)
  have fi := (hfr (53) (by omega)).trans fi
  have fe := (hfr (54) (by omega)).trans fe
  have fs := (hfr (55) (by omega)).trans fs
  have fy := (hfr (56) (by omega)).trans fy
  have fg := (hfr (57) (by omega)).trans fg
  have fnn := (hfr (58) (by omega)).trans fnn
  have fc := (hfr (59) (by omega)).trans fc
  have hfm : ∀ j, j ≠ 52 ∧ j ≠ 54 → ws[j]? = ws0[j]? := fun j hj => (hfr j (by omega)).trans (hfm j hj)
  refine lv_aload_n (pc := 20) C0.1 C0.2.1 d_MO_keep_20 rfl (lv_at hl 0 rfl) ?_
  refine mg_get (pc := 21) C0 in_MO hK hP (52) fx rfl 3 (by decide) fl_MO_13 rfl d_MO_keep_21 ?_
  refine lv_iconst (pc := 24) (v := nI (1)) C0.1 C0.2.1 d_MO_keep_24 (by decide +kernel) ?_
  refine mn_sub (pc := 25) C0 (by omega) d_MO_keep_25 ?_
  rw [Nat.add_sub_cancel]
  exact hret _ _ _ _ 26 _ (rfl) (⟨by rw [E], by
      rw [E]
      exact ⟨fx, ⟨im, fi, him⟩, ⟨_, fe, fun i hi => by
        by_cases e : i = pc
        · subst e; rw [pk_us, su_us]
        · rw [pk_un e, su_un _ _ e]; exact hpe i (by omega)⟩, ⟨_, _, _, fs, fy, fg, hgs⟩, ⟨_, fnn⟩, ⟨ch, fc, hch⟩, hlen, htx, by omega, fun i hi => by
        by_cases e : i = pc
        · subst e; rw [su_us]; exact hr
        · rw [su_un _ _ e]; exact hrk i (by omega), hg⟩, fun j hj => hfm j (by omega)⟩) hP hD hS d_MO_keep_26
set_option maxHeartbeats 4000000 in
set_option maxRecDepth 100000 in
theorem c_MO_product (l : Launch) (D : va_G) (ca : Nat → ClassId) (ad : Nat → Nat) {n : Nat} (h2 : 2 ≤ n) (h6 : n ≤ 6) {len : Nat} {tx : Nat → Nat} {pc : Nat} {rk : Nat → Nat} {gc : Nat} {gs : Nat → Nat → Bool} {a b : Int32} (ws0 : va_W) (h : MOW ca ad n (len, tx, pc, rk, gc, gs) ws0) : mg_I l y_MO_product b_MO_product 3 (.int) 3 D classes (tys_ ca) [.ref (ad 52), .int (a), .int (b)] ws0 (fun v w => v = (sp_product n (len, tx, pc, rk, gc, gs) a b).1 ∧ MOW ca ad n (sp_product n (len, tx, pc, rk, gc, gs) a b).2 w ∧ ∀ j, j < 52 → w[j]? = ws0[j]?) := by
  have hM := h
  obtain ⟨zx, ⟨im, zi, him⟩, ⟨pe, ze, hpe⟩, ⟨st, my, ge, zs, zy, zg, hgs⟩, ⟨fn, znn⟩, ⟨ch, zc, hch⟩, hlen, htx, hp, hrk, hg⟩ := h
  have hN := pm_fc_le h6
  have g0 := pm_gp h2 h6
  have hk_ : pc < 2 ^ 30 ∧ gc < 2 ^ 30 := ⟨by omega, by omega⟩
  refine mg_openI (own := R_MO) rfl (by decide) (Nat.le_of_ble_eq_true rfl) ?_
  intro p e s m args below meth c A Q ls C0 hK hA hP hD hS hl hret
  have hl : lv_has ls 3 [(0, .ref (ad 52)), (1, .int (a)), (2, .int (b))] := hl
  have fx := zx
  have fi := zi
  have fe := ze
  have fs := zs
  have fy := zy
  have fg := zg
  have fnn := znn
  have fc := zc
  rcases sp_ix_or a (k := pc) (by omega) with ⟨hb_i, he⟩ | ⟨i, hi, rfl, he⟩
  · refine lv_aload_n (pc := 0) C0.1 C0.2.1 d_MO_product_0 rfl (lv_at hl 0 rfl) ?_
    refine lv_iload_n (pc := 1) C0.1 C0.2.1 d_MO_product_1 rfl (lv_at hl 1 rfl) ?_
    refine mg_ci (pc := 2) (As := [.int (a)]) (rest := []) C0 (c_MO_isPermutation0 l D ca ad hb_i hk_.1 ws0 fx) lk_MO_98 (by decide) fx rfl hK hP hD hS hA rfl hl.1 rfl (Nat.le_of_ble_eq_true rfl) d_MO_product_2 (fun rv ws1 H locs hpost hP hD hS => ?_)
    obtain ⟨hr1, hw⟩ := hpost
    rw [hw] at hP hD
    refine mg_top (show rv = nI (0) from hr1) ?_
    refine mz_eq (pc := 5) (tgt := 48) C0 (by decide) d_MO_product_5 (by decide) (fun _ => ?_) (fun h9 => absurd rfl h9)
    have E : sp_product n (len, tx, pc, rk, gc, gs) a b = ((-1), (len, tx, pc, rk, gc, gs)) := by simp only [sp_product, he]
    refine lv_iconst (pc := 48) (v := (-1)) C0.1 C0.2.1 d_MO_product_48 (by decide +kernel) ?_
    exact hret _ _ _ _ 49 _ (rfl) (⟨by rw [E], by rw [E]; exact hM, fun _ _ => rfl⟩) hP hD hS d_MO_product_49
  · refine lv_aload_n (pc := 0) C0.1 C0.2.1 d_MO_product_0 rfl (lv_at hl 0 rfl) ?_
    refine lv_iload_n (pc := 1) C0.1 C0.2.1 d_MO_product_1 rfl (lv_at hl 1 rfl) ?_
    refine mg_ci (pc := 2) (As := [.int (nI (i))]) (rest := []) C0 (c_MO_isPermutation1 l D ca ad hi hk_.1 ws0 fx) lk_MO_98 (by decide) fx rfl hK hP hD hS hA rfl hl.1 rfl (Nat.le_of_ble_eq_true rfl) d_MO_product_2 (fun rv ws1 H locs hpost hP hD hS => ?_)
    obtain ⟨hr1, hw⟩ := hpost
    rw [hw] at hP hD
    refine mg_top (show rv = nI (1) from hr1) ?_
    refine mz_eq (pc := 5) (tgt := 48) C0 (by decide) d_MO_product_5 (by decide) (fun h9 => absurd h9 (by decide)) (fun _ => ?_)
    refine lv_aload_n (pc := 8) C0.1 C0.2.1 d_MO_product_8 rfl (lv_at hl 0 rfl) ?_
    refine lv_iload_n (pc := 9) C0.1 C0.2.1 d_MO_product_9 rfl (lv_at hl 2 rfl) ?_
    rcases sp_ix_or b (k := pc) (by omega) with ⟨hb_q, he2⟩ | ⟨q, hq, rfl, he2⟩
    · refine mg_ci (pc := 10) (As := [.int (b)]) (rest := []) C0 (c_MO_isPermutation0 l D ca ad hb_q hk_.1 ws0 fx) lk_MO_98 (by decide) fx rfl hK hP hD hS hA rfl hl.1 rfl (Nat.le_of_ble_eq_true rfl) d_MO_product_10 (fun rv ws1 H locs hpost hP hD hS => ?_)
      obtain ⟨hr1, hw⟩ := hpost
      rw [hw] at hP hD
      refine mg_top (show rv = nI (0) from hr1) ?_
      refine mz_eq (pc := 13) (tgt := 48) C0 (by decide) d_MO_product_13 (by decide) (fun _ => ?_) (fun h9 => absurd rfl h9)
      have E : sp_product n (len, tx, pc, rk, gc, gs) (nI i) b = ((-1), (len, tx, pc, rk, gc, gs)) := by simp only [sp_product, he, he2]
      refine lv_iconst (pc := 48) (v := (-1)) C0.1 C0.2.1 d_MO_product_48 (by decide +kernel) ?_
      exact hret _ _ _ _ 49 _ (rfl) (⟨by rw [E], by rw [E]; exact hM, fun _ _ => rfl⟩) hP hD hS d_MO_product_49
    · refine mg_ci (pc := 10) (As := [.int (nI (q))]) (rest := []) C0 (c_MO_isPermutation1 l D ca ad hq hk_.1 ws0 fx) lk_MO_98 (by decide) fx rfl hK hP hD hS hA rfl hl.1 rfl (Nat.le_of_ble_eq_true rfl) d_MO_product_10 (fun rv ws1 H locs hpost hP hD hS => ?_)
      obtain ⟨hr1, hw⟩ := hpost
      rw [hw] at hP hD
      refine mg_top (show rv = nI (1) from hr1) ?_
      refine mz_eq (pc := 13) (tgt := 48) C0 (by decide) d_MO_product_13 (by decide) (fun h9 => absurd h9 (by decide)) (fun _ => ?_)
      refine lv_aload_n (pc := 16) C0.1 C0.2.1 d_MO_product_16 rfl (lv_at hl 0 rfl) ?_
      refine mg_get (pc := 17) C0 in_MO hK hP (52) fx rfl 3 (by decide) fl_MO_13 rfl d_MO_product_17 ?_
      refine lv_bipush (pc := 20) (v := nI (40)) C0.1 C0.2.1 d_MO_product_20 (by decide +kernel) ?_
      refine mb_ge (pc := 22) (tgt := 48) C0 (by omega) (by omega) d_MO_product_22 (by decide) (fun hc => ?_) (fun hc => ?_)
      · have E : sp_product n (len, tx, pc, rk, gc, gs) (nI i) (nI q) = ((-1), (len, tx, pc, rk, gc, gs)) := by simp only [sp_product, he, he2, sp_keep, if_neg (show ¬ pc < 40 by omega)]
        refine lv_iconst (pc := 48) (v := (-1)) C0.1 C0.2.1 d_MO_product_48 (by decide +kernel) ?_
        exact hret _ _ _ _ 49 _ (rfl) (⟨by rw [E], by rw [E]; exact hM, fun _ _ => rfl⟩) hP hD hS d_MO_product_49
      · have h40 : pc < 40 := by omega
        refine lv_aload_n (pc := 25) C0.1 C0.2.1 d_MO_product_25 rfl (lv_at hl 0 rfl) ?_
        refine lv_aload_n (pc := 26) C0.1 C0.2.1 d_MO_product_26 rfl (lv_at hl 0 rfl) ?_
        refine lv_aload_n (pc := 27) C0.1 C0.2.1 d_MO_product_27 rfl (lv_at hl 0 rfl) ?_
        refine mg_get (pc := 28) C0 in_MO hK hP (52) fx rfl 4 (by decide) fl_MO_17 rfl d_MO_product_28 ?_
        refine lv_iload_n (pc := 31) C0.1 C0.2.1 d_MO_product_31 rfl (lv_at hl 1 rfl) ?_
        refine mg_ild (pc := 32) C0 hK hP (54) 1 fe rfl (j := i) (by omega) (by omega) d_MO_product_32 ?_
        refine mg_top (show pe (i) = nI (rk i) from hpe i hi) ?_
        refine lv_aload_n (pc := 33) C0.1 C0.2.1 d_MO_product_33 rfl (lv_at hl 0 rfl) ?_
        refine mg_get (pc := 34) C0 in_MO hK hP (52) fx rfl 4 (by decide) fl_MO_17 rfl d_MO_product_34 ?_
        refine lv_iload_n (pc := 37) C0.1 C0.2.1 d_MO_product_37 rfl (lv_at hl 2 rfl) ?_
        refine mg_ild (pc := 38) C0 hK hP (54) 1 fe rfl (j := q) (by omega) (by omega) d_MO_product_38 ?_
        refine mg_top (show pe (q) = nI (rk q) from hpe q hq) ?_
        refine mg_ci (pc := 39) (As := [.int (nI (rk i)), .int (nI (rk q))]) (rest := [.ref (ad 52)]) C0 (c_MO_times l D ca ad h2 h6 him (hrk i hi) (hrk q hq) ws0 fx fi) lk_MO_64 (by decide) fx rfl hK hP hD hS hA rfl hl.1 rfl (Nat.le_of_ble_eq_true rfl) d_MO_product_39 (fun rv ws1 H locs hpost hP hD hS => ?_)
        obtain ⟨hr1, hw⟩ := hpost
        rw [hw] at hP hD
        refine mg_top (show rv = nI (pm_mu n (rk i) (rk q)) from hr1) ?_
        refine mg_ci (pc := 42) (As := [.int (nI (pm_mu n (rk i) (rk q)))]) (rest := []) C0 (c_MO_keep l D ca ad h2 h6 (gp_m g0 (hrk i hi) (hrk q hq)) h40 ws0 hM) lk_MO_92 (by decide) fx rfl hK hP hD hS hA rfl hl.1 rfl (Nat.le_of_ble_eq_true rfl) d_MO_product_42 (fun rv ws H locs hpost hP hD hS => ?_)
        obtain ⟨hr1, hM1, hfr⟩ := hpost
        have E : sp_product n (len, tx, pc, rk, gc, gs) (nI i) (nI q) = sp_keep (len, tx, pc, rk, gc, gs) (pm_mu n (rk i) (rk q)) := by simp only [sp_product, he, he2]
        refine lv_goto (pc := 45) (tgt := 49) C0.1 C0.2.1 d_MO_product_45 (by decide) ?_
        exact hret _ _ _ _ 49 _ (rfl) (⟨by rw [E]; exact hr1, by rw [E]; exact hM1, hfr⟩) hP hD hS d_MO_product_49
set_option maxHeartbeats 4000000 in
set_option maxRecDepth 100000 in
theorem c_MO_inverse (l : Launch) (D : va_G) (ca : Nat → ClassId) (ad : Nat → Nat) {n : Nat} (h2 : 2 ≤ n) (h6 : n ≤ 6) {len : Nat} {tx : Nat → Nat} {pc : Nat} {rk : Nat → Nat} {gc : Nat} {gs : Nat → Nat → Bool} {a : Int32} (ws0 : va_W) (h : MOW ca ad n (len, tx, pc, rk, gc, gs) ws0) : mg_I l y_MO_inverse b_MO_inverse 2 (.int) 3 D classes (tys_ ca) [.ref (ad 52), .int (a)] ws0 (fun v w => v = (sp_inverse n (len, tx, pc, rk, gc, gs) a).1 ∧ MOW ca ad n (sp_inverse n (len, tx, pc, rk, gc, gs) a).2 w ∧ ∀ j, j < 52 → w[j]? = ws0[j]?) := by
  have hM := h
  obtain ⟨zx, ⟨im, zi, him⟩, ⟨pe, ze, hpe⟩, ⟨st, my, ge, zs, zy, zg, hgs⟩, ⟨fn, znn⟩, ⟨ch, zc, hch⟩, hlen, htx, hp, hrk, hg⟩ := h
  have hN := pm_fc_le h6
  have g0 := pm_gp h2 h6
  have hk_ : pc < 2 ^ 30 ∧ gc < 2 ^ 30 := ⟨by omega, by omega⟩
  refine mg_openI (own := R_MO) rfl (by decide) (Nat.le_of_ble_eq_true rfl) ?_
  intro p e s m args below meth c A Q ls C0 hK hA hP hD hS hl hret
  have hl : lv_has ls 2 [(0, .ref (ad 52)), (1, .int (a))] := hl
  have fx := zx
  have fi := zi
  have fe := ze
  have fs := zs
  have fy := zy
  have fg := zg
  have fnn := znn
  have fc := zc
  rcases sp_ix_or a (k := pc) (by omega) with ⟨hb_i, he⟩ | ⟨i, hi, rfl, he⟩
  · refine lv_aload_n (pc := 0) C0.1 C0.2.1 d_MO_inverse_0 rfl (lv_at hl 0 rfl) ?_
    refine lv_iload_n (pc := 1) C0.1 C0.2.1 d_MO_inverse_1 rfl (lv_at hl 1 rfl) ?_
    refine mg_ci (pc := 2) (As := [.int (a)]) (rest := []) C0 (c_MO_isPermutation0 l D ca ad hb_i hk_.1 ws0 fx) lk_MO_98 (by decide) fx rfl hK hP hD hS hA rfl hl.1 rfl (Nat.le_of_ble_eq_true rfl) d_MO_inverse_2 (fun rv ws1 H locs hpost hP hD hS => ?_)
    obtain ⟨hr1, hw⟩ := hpost
    rw [hw] at hP hD
    refine mg_top (show rv = nI (0) from hr1) ?_
    refine mz_eq (pc := 5) (tgt := 34) C0 (by decide) d_MO_inverse_5 (by decide) (fun _ => ?_) (fun h9 => absurd rfl h9)
    have E : sp_inverse n (len, tx, pc, rk, gc, gs) a = ((-1), (len, tx, pc, rk, gc, gs)) := by simp only [sp_inverse, he]
    refine lv_iconst (pc := 34) (v := (-1)) C0.1 C0.2.1 d_MO_inverse_34 (by decide +kernel) ?_
    exact hret _ _ _ _ 35 _ (rfl) (⟨by rw [E], by rw [E]; exact hM, fun _ _ => rfl⟩) hP hD hS d_MO_inverse_35
  · refine lv_aload_n (pc := 0) C0.1 C0.2.1 d_MO_inverse_0 rfl (lv_at hl 0 rfl) ?_
    refine lv_iload_n (pc := 1) C0.1 C0.2.1 d_MO_inverse_1 rfl (lv_at hl 1 rfl) ?_
    refine mg_ci (pc := 2) (As := [.int (nI (i))]) (rest := []) C0 (c_MO_isPermutation1 l D ca ad hi hk_.1 ws0 fx) lk_MO_98 (by decide) fx rfl hK hP hD hS hA rfl hl.1 rfl (Nat.le_of_ble_eq_true rfl) d_MO_inverse_2 (fun rv ws1 H locs hpost hP hD hS => ?_)
    obtain ⟨hr1, hw⟩ := hpost
    rw [hw] at hP hD
    refine mg_top (show rv = nI (1) from hr1) ?_
    refine mz_eq (pc := 5) (tgt := 34) C0 (by decide) d_MO_inverse_5 (by decide) (fun h9 => absurd h9 (by decide)) (fun _ => ?_)
    refine lv_aload_n (pc := 8) C0.1 C0.2.1 d_MO_inverse_8 rfl (lv_at hl 0 rfl) ?_
    refine mg_get (pc := 9) C0 in_MO hK hP (52) fx rfl 3 (by decide) fl_MO_13 rfl d_MO_inverse_9 ?_
    refine lv_bipush (pc := 12) (v := nI (40)) C0.1 C0.2.1 d_MO_inverse_12 (by decide +kernel) ?_
    refine mb_ge (pc := 14) (tgt := 34) C0 (by omega) (by omega) d_MO_inverse_14 (by decide) (fun hc => ?_) (fun hc => ?_)
    · have E : sp_inverse n (len, tx, pc, rk, gc, gs) (nI i) = ((-1), (len, tx, pc, rk, gc, gs)) := by simp only [sp_inverse, he, sp_keep, if_neg (show ¬ pc < 40 by omega)]
      refine lv_iconst (pc := 34) (v := (-1)) C0.1 C0.2.1 d_MO_inverse_34 (by decide +kernel) ?_
      exact hret _ _ _ _ 35 _ (rfl) (⟨by rw [E], by rw [E]; exact hM, fun _ _ => rfl⟩) hP hD hS d_MO_inverse_35
    · have h40 : pc < 40 := by omega
      refine lv_aload_n (pc := 17) C0.1 C0.2.1 d_MO_inverse_17 rfl (lv_at hl 0 rfl) ?_
      refine lv_aload_n (pc := 18) C0.1 C0.2.1 d_MO_inverse_18 rfl (lv_at hl 0 rfl) ?_
      refine lv_aload_n (pc := 19) C0.1 C0.2.1 d_MO_inverse_19 rfl (lv_at hl 0 rfl) ?_
      refine mg_get (pc := 20) C0 in_MO hK hP (52) fx rfl 4 (by decide) fl_MO_17 rfl d_MO_inverse_20 ?_
      refine lv_iload_n (pc := 23) C0.1 C0.2.1 d_MO_inverse_23 rfl (lv_at hl 1 rfl) ?_
      refine mg_ild (pc := 24) C0 hK hP (54) 1 fe rfl (j := i) (by omega) (by omega) d_MO_inverse_24 ?_
      refine mg_top (show pe (i) = nI (rk i) from hpe i hi) ?_
      refine mg_ci (pc := 25) (As := [.int (nI (rk i))]) (rest := [.ref (ad 52)]) C0 (c_MO_inverted l D ca ad h2 h6 him (hrk i hi) ws0 fx fi) lk_MO_72 (by decide) fx rfl hK hP hD hS hA rfl hl.1 rfl (Nat.le_of_ble_eq_true rfl) d_MO_inverse_25 (fun rv ws1 H locs hpost hP hD hS => ?_)
      obtain ⟨hr1, hw⟩ := hpost
      rw [hw] at hP hD
      refine mg_top (show rv = nI (pm_iv n (rk i)) from hr1) ?_
      refine mg_ci (pc := 28) (As := [.int (nI (pm_iv n (rk i)))]) (rest := []) C0 (c_MO_keep l D ca ad h2 h6 (gp_i g0 (hrk i hi)) h40 ws0 hM) lk_MO_92 (by decide) fx rfl hK hP hD hS hA rfl hl.1 rfl (Nat.le_of_ble_eq_true rfl) d_MO_inverse_28 (fun rv ws H locs hpost hP hD hS => ?_)
      obtain ⟨hr1, hM1, hfr⟩ := hpost
      have E : sp_inverse n (len, tx, pc, rk, gc, gs) (nI i) = sp_keep (len, tx, pc, rk, gc, gs) (pm_iv n (rk i)) := by simp only [sp_inverse, he]
      refine lv_goto (pc := 31) (tgt := 35) C0.1 C0.2.1 d_MO_inverse_31 (by decide) ?_
      exact hret _ _ _ _ 35 _ (rfl) (⟨by rw [E]; exact hr1, by rw [E]; exact hM1, hfr⟩) hP hD hS d_MO_inverse_35
set_option maxHeartbeats 4000000 in
set_option maxRecDepth 100000 in
theorem c_MO_images (l : Launch) (D : va_G) (ca : Nat → ClassId) (ad : Nat → Nat) {n : Nat} (h2 : 2 ≤ n) (h6 : n ≤ 6) {len : Nat} {tx : Nat → Nat} {pc : Nat} {rk : Nat → Nat} {gc : Nat} {gs : Nat → Nat → Bool} {a : Int32} (ws0 : va_W) (h : MOW ca ad n (len, tx, pc, rk, gc, gs) ws0) : mg_I l y_MO_images b_MO_images 4 (.int) 3 D classes (tys_ ca) [.ref (ad 52), .int (a)] ws0 (fun v w => v = (sp_images n (len, tx, pc, rk, gc, gs) a).1 ∧ MOW ca ad n (sp_images n (len, tx, pc, rk, gc, gs) a).2 w ∧ ∀ j, j < 52 → w[j]? = ws0[j]?) := by
  have hM := h
  obtain ⟨zx, ⟨im, zi, him⟩, ⟨pe, ze, hpe⟩, ⟨st, my, ge, zs, zy, zg, hgs⟩, ⟨fn, znn⟩, ⟨ch, zc, hch⟩, hlen, htx, hp, hrk, hg⟩ := h
  have hN := pm_fc_le h6
  have g0 := pm_gp h2 h6
  have hk_ : pc < 2 ^ 30 ∧ gc < 2 ^ 30 := ⟨by omega, by omega⟩
  refine mg_openI (own := R_MO) rfl (by decide) (Nat.le_of_ble_eq_true rfl) ?_
  intro p e s m args below meth c A Q ls C0 hK hA hP hD hS hl hret
  have hl : lv_has ls 4 [(0, .ref (ad 52)), (1, .int (a))] := hl
  have fx := zx
  have fi := zi
  have fe := ze
  have fs := zs
  have fy := zy
  have fg := zg
  have fnn := znn
  have fc := zc
  rcases sp_ix_or a (k := pc) (by omega) with ⟨hb_i, he⟩ | ⟨i, hi, rfl, he⟩
  · refine lv_aload_n (pc := 0) C0.1 C0.2.1 d_MO_images_0 rfl (lv_at hl 0 rfl) ?_
    refine lv_iload_n (pc := 1) C0.1 C0.2.1 d_MO_images_1 rfl (lv_at hl 1 rfl) ?_
    refine mg_ci (pc := 2) (As := [.int (a)]) (rest := []) C0 (c_MO_isPermutation0 l D ca ad hb_i hk_.1 ws0 fx) lk_MO_98 (by decide) fx rfl hK hP hD hS hA rfl hl.1 rfl (Nat.le_of_ble_eq_true rfl) d_MO_images_2 (fun rv ws1 H locs hpost hP hD hS => ?_)
    obtain ⟨hr1, hw⟩ := hpost
    rw [hw] at hP hD
    refine mg_top (show rv = nI (0) from hr1) ?_
    refine mz_ne (pc := 5) (tgt := 10) C0 (by decide) d_MO_images_5 (by decide) (fun h9 => absurd rfl h9) (fun _ => ?_)
    have E : sp_images n (len, tx, pc, rk, gc, gs) a = ((-1), (len, tx, pc, rk, gc, gs)) := by simp only [sp_images, he]
    refine lv_iconst (pc := 8) (v := (-1)) C0.1 C0.2.1 d_MO_images_8 (by decide +kernel) ?_
    exact hret _ _ _ _ 9 _ (rfl) (⟨by rw [E], by rw [E]; exact hM, fun _ _ => rfl⟩) hP hD hS d_MO_images_9
  · refine lv_aload_n (pc := 0) C0.1 C0.2.1 d_MO_images_0 rfl (lv_at hl 0 rfl) ?_
    refine lv_iload_n (pc := 1) C0.1 C0.2.1 d_MO_images_1 rfl (lv_at hl 1 rfl) ?_
    refine mg_ci (pc := 2) (As := [.int (nI (i))]) (rest := []) C0 (c_MO_isPermutation1 l D ca ad hi hk_.1 ws0 fx) lk_MO_98 (by decide) fx rfl hK hP hD hS hA rfl hl.1 rfl (Nat.le_of_ble_eq_true rfl) d_MO_images_2 (fun rv ws1 H locs hpost hP hD hS => ?_)
    obtain ⟨hr1, hw⟩ := hpost
    rw [hw] at hP hD
    refine mg_top (show rv = nI (1) from hr1) ?_
    refine mz_ne (pc := 5) (tgt := 10) C0 (by decide) d_MO_images_5 (by decide) (fun _ => ?_) (fun h9 => absurd h9 (by decide))
    have E : sp_images n (len, tx, pc, rk, gc, gs) (nI i) = (nI (pm_ds n (rk i) n), (len, tx, pc, rk, gc, gs)) := by simp only [sp_images, he]
    refine lv_iconst (pc := 10) (v := nI (0)) C0.1 C0.2.1 d_MO_images_10 (by decide +kernel) ?_
    refine lv_istore_n (pc := 11) (lv' := [(2, .int (nI (0))), (0, .ref (ad 52)), (1, .int (nI (i)))]) C0.1 C0.2.1 d_MO_images_11 rfl hl (by decide) rfl (fun ls hl => ?_)
    refine lv_iconst (pc := 12) (v := nI (0)) C0.1 C0.2.1 d_MO_images_12 (by decide +kernel) ?_
    refine lv_istore_n (pc := 13) (lv' := [(3, .int (nI (0))), (2, .int (nI (0))), (0, .ref (ad 52)), (1, .int (nI (i)))]) C0.1 C0.2.1 d_MO_images_13 rfl hl (by decide) rfl (fun ls hl => ?_)
    have loop : ∀ (d : Nat) (x : Nat) (H : Heap) (locs : List Loc) (ls : Array Slot), n - x = d → (x ≤ n) → lv_has ls 4 [(0, .ref (ad 52)), (1, .int (nI (i))), (2, .int (nI (pm_ds n (rk i) x))), (3, .int (nI (x)))] → va_P D classes ws0 H → va_D A ws0 → va_S A s.heap H locs → W p l e (mg_rm 3) s m args below meth c H locs 0 0 Q (F0 m 14 ls []) := by
      intro d
      induction d using Nat.strongRecOn with
      | _ d ih_loop =>
        intro x H locs ls hd hx hl hP hD hS
        refine lv_iload_n (pc := 14) C0.1 C0.2.1 d_MO_images_14 rfl (lv_at hl 3 rfl) ?_
        refine lv_aload_n (pc := 15) C0.1 C0.2.1 d_MO_images_15 rfl (lv_at hl 0 rfl) ?_
        refine mg_get (pc := 16) C0 in_MO hK hP (52) fx rfl 0 (by decide) fl_MO_36 rfl d_MO_images_16 ?_
        refine mb_ge (pc := 19) (tgt := 45) C0 (by omega) (by omega) d_MO_images_19 (by decide) (fun hc => ?_) (fun hc => ?_)
        · have hxn : x = n := by omega
          rw [hxn] at hl
          refine lv_iload_n (pc := 45) C0.1 C0.2.1 d_MO_images_45 rfl (lv_at hl 2 rfl) ?_
          exact hret _ _ _ _ 46 _ (rfl) (⟨by rw [E], by rw [E]; exact hM, fun _ _ => rfl⟩) hP hD hS d_MO_images_46
        · have hxn := hc
          refine lv_bipush (pc := 22) (v := nI (10)) C0.1 C0.2.1 d_MO_images_22 (by decide +kernel) ?_
          refine lv_iload_n (pc := 24) C0.1 C0.2.1 d_MO_images_24 rfl (lv_at hl 2 rfl) ?_
          refine mn_mul (pc := 25) C0 d_MO_images_25 ?_
          refine lv_aload_n (pc := 26) C0.1 C0.2.1 d_MO_images_26 rfl (lv_at hl 0 rfl) ?_
          refine lv_aload_n (pc := 27) C0.1 C0.2.1 d_MO_images_27 rfl (lv_at hl 0 rfl) ?_
          refine mg_get (pc := 28) C0 in_MO hK hP (52) fx rfl 4 (by decide) fl_MO_17 rfl d_MO_images_28 ?_
          refine lv_iload_n (pc := 31) C0.1 C0.2.1 d_MO_images_31 rfl (lv_at hl 1 rfl) ?_
          refine mg_ild (pc := 32) C0 hK hP (54) 1 fe rfl (j := i) (by omega) (by omega) d_MO_images_32 ?_
          refine mg_top (show pe (i) = nI (rk i) from hpe i hi) ?_
          refine lv_iload_n (pc := 33) C0.1 C0.2.1 d_MO_images_33 rfl (lv_at hl 3 rfl) ?_
          refine mg_ci (pc := 34) (As := [.int (nI (rk i)), .int (nI (x))]) (rest := [.int (nI (10 * (pm_ds n (rk i) x)))]) C0 (c_MO_image l D ca ad h2 h6 him (hrk i hi) hxn ws0 fx fi) lk_MO_46 (by decide) fx rfl hK hP hD hS hA rfl hl.1 rfl (Nat.le_of_ble_eq_true rfl) d_MO_images_34 (fun rv ws1 H locs hpost hP hD hS => ?_)
          obtain ⟨hr1, hw⟩ := hpost
          rw [hw] at hP hD
          refine mg_top (show rv = nI (pm_im n (rk i) x) from hr1) ?_
          refine mn_add (pc := 37) C0 d_MO_images_37 ?_
          refine mg_top (show nI ((10 * (pm_ds n (rk i) x)) + (pm_im n (rk i) x)) = nI (pm_ds n (rk i) (x + 1)) from congrArg nI (by
            show _ = pm_ds n (rk i) x * 10 + pm_im n (rk i) x
            rw [Nat.mul_comm])) ?_
          refine lv_istore_n (pc := 38) (lv' := [(2, .int (nI (pm_ds n (rk i) (x + 1)))), (0, .ref (ad 52)), (1, .int (nI (i))), (3, .int (nI (x)))]) C0.1 C0.2.1 d_MO_images_38 rfl hl (by decide) rfl (fun ls hl => ?_)
          refine lv_iinc (pc := 39) (k := 3) (v := nI (x + 1)) (lv' := [(3, .int (nI (x + 1))), (2, .int (nI (pm_ds n (rk i) (x + 1)))), (0, .ref (ad 52)), (1, .int (nI (i)))]) C0.1 C0.2.1 d_MO_images_39 hl rfl (nb_p1 _) (by decide) rfl (fun ls hl => ?_)
          refine lv_goto (pc := 42) (tgt := 14) C0.1 C0.2.1 d_MO_images_42 (by decide) ?_
          exact ih_loop _ (by omega) (x + 1) _ _ _ rfl (by omega) (lv_sub hl [2, 3, 1, 0] rfl) hP hD hS
    exact loop _ 0 _ _ _ rfl (by omega) (lv_sub hl [2, 3, 1, 0] rfl) hP hD hS
set_option maxHeartbeats 4000000 in
set_option maxRecDepth 100000 in
theorem c_MO_order (l : Launch) (D : va_G) (ca : Nat → ClassId) (ad : Nat → Nat) {n : Nat} (h2 : 2 ≤ n) (h6 : n ≤ 6) {len : Nat} {tx : Nat → Nat} {pc : Nat} {rk : Nat → Nat} {gc : Nat} {gs : Nat → Nat → Bool} {a : Int32} (ws0 : va_W) (h : MOW ca ad n (len, tx, pc, rk, gc, gs) ws0) : mg_I l y_MO_order b_MO_order 2 (.int) 3 D classes (tys_ ca) [.ref (ad 52), .int (a)] ws0 (fun v w => v = (sp_order n (len, tx, pc, rk, gc, gs) a).1 ∧ MOW ca ad n (sp_order n (len, tx, pc, rk, gc, gs) a).2 w ∧ ∀ j, j < 52 → w[j]? = ws0[j]?) := by
  have hM := h
  obtain ⟨zx, ⟨im, zi, him⟩, ⟨pe, ze, hpe⟩, ⟨st, my, ge, zs, zy, zg, hgs⟩, ⟨fn, znn⟩, ⟨ch, zc, hch⟩, hlen, htx, hp, hrk, hg⟩ := h
  have hN := pm_fc_le h6
  have g0 := pm_gp h2 h6
  have hk_ : pc < 2 ^ 30 ∧ gc < 2 ^ 30 := ⟨by omega, by omega⟩
  refine mg_openI (own := R_MO) rfl (by decide) (Nat.le_of_ble_eq_true rfl) ?_
  intro p e s m args below meth c A Q ls C0 hK hA hP hD hS hl hret
  have hl : lv_has ls 2 [(0, .ref (ad 52)), (1, .int (a))] := hl
  have fx := zx
  have fi := zi
  have fe := ze
  have fs := zs
  have fy := zy
  have fg := zg
  have fnn := znn
  have fc := zc
  rcases sp_ix_or a (k := gc) (by omega) with ⟨hb_i, he⟩ | ⟨i, hi, rfl, he⟩
  · refine lv_aload_n (pc := 0) C0.1 C0.2.1 d_MO_order_0 rfl (lv_at hl 0 rfl) ?_
    refine lv_iload_n (pc := 1) C0.1 C0.2.1 d_MO_order_1 rfl (lv_at hl 1 rfl) ?_
    refine mg_ci (pc := 2) (As := [.int (a)]) (rest := []) C0 (c_MO_isGroup0 l D ca ad hb_i hk_.2 ws0 fx) lk_MO_102 (by decide) fx rfl hK hP hD hS hA rfl hl.1 rfl (Nat.le_of_ble_eq_true rfl) d_MO_order_2 (fun rv ws1 H locs hpost hP hD hS => ?_)
    obtain ⟨hr1, hw⟩ := hpost
    rw [hw] at hP hD
    refine mg_top (show rv = nI (0) from hr1) ?_
    refine mz_eq (pc := 5) (tgt := 16) C0 (by decide) d_MO_order_5 (by decide) (fun _ => ?_) (fun h9 => absurd rfl h9)
    have E : sp_order n (len, tx, pc, rk, gc, gs) a = ((-1), (len, tx, pc, rk, gc, gs)) := by simp only [sp_order, he]
    refine lv_iconst (pc := 16) (v := (-1)) C0.1 C0.2.1 d_MO_order_16 (by decide +kernel) ?_
    exact hret _ _ _ _ 17 _ (rfl) (⟨by rw [E], by rw [E]; exact hM, fun _ _ => rfl⟩) hP hD hS d_MO_order_17
  · refine lv_aload_n (pc := 0) C0.1 C0.2.1 d_MO_order_0 rfl (lv_at hl 0 rfl) ?_
    refine lv_iload_n (pc := 1) C0.1 C0.2.1 d_MO_order_1 rfl (lv_at hl 1 rfl) ?_
    refine mg_ci (pc := 2) (As := [.int (nI (i))]) (rest := []) C0 (c_MO_isGroup1 l D ca ad hi hk_.2 ws0 fx) lk_MO_102 (by decide) fx rfl hK hP hD hS hA rfl hl.1 rfl (Nat.le_of_ble_eq_true rfl) d_MO_order_2 (fun rv ws1 H locs hpost hP hD hS => ?_)
    obtain ⟨hr1, hw⟩ := hpost
    rw [hw] at hP hD
    refine mg_top (show rv = nI (1) from hr1) ?_
    refine mz_eq (pc := 5) (tgt := 16) C0 (by decide) d_MO_order_5 (by decide) (fun h9 => absurd h9 (by decide)) (fun _ => ?_)
    obtain ⟨G, k, hmg⟩ := hgs i hi
    have hcn := ma_cn_le (gs i) (pm_fc n)
    refine lv_aload_n (pc := 8) C0.1 C0.2.1 d_MO_order_8 rfl (lv_at hl 0 rfl) ?_
    refine lv_iload_n (pc := 9) C0.1 C0.2.1 d_MO_order_9 rfl (lv_at hl 1 rfl) ?_
    refine mg_ci (pc := 10) (As := [.int (nI (i))]) (rest := []) C0 (c_MO_orderOf l D ca ad h2 h6 (by omega) hmg.1 ws0 fx fs) lk_MO_105 (by decide) fx rfl hK hP hD hS hA rfl hl.1 rfl (Nat.le_of_ble_eq_true rfl) d_MO_order_10 (fun rv ws1 H locs hpost hP hD hS => ?_)
    obtain ⟨hr1, hw⟩ := hpost
    rw [hw] at hP hD
    refine mg_top (show rv = nI (ma_cn (gs i) (pm_fc n)) from hr1) ?_
    have E : sp_order n (len, tx, pc, rk, gc, gs) (nI i) = (nI (ma_cn (gs i) (pm_fc n)), (len, tx, pc, rk, gc, gs)) := by simp only [sp_order, he]
    refine lv_goto (pc := 13) (tgt := 17) C0.1 C0.2.1 d_MO_order_13 (by decide) ?_
    exact hret _ _ _ _ 17 _ (rfl) (⟨by rw [E], by rw [E]; exact hM, fun _ _ => rfl⟩) hP hD hS d_MO_order_17
set_option maxHeartbeats 4000000 in
set_option maxRecDepth 100000 in
theorem c_MO_contains (l : Launch) (D : va_G) (ca : Nat → ClassId) (ad : Nat → Nat) {n : Nat} (h2 : 2 ≤ n) (h6 : n ≤ 6) {len : Nat} {tx : Nat → Nat} {pc : Nat} {rk : Nat → Nat} {gc : Nat} {gs : Nat → Nat → Bool} {a b : Int32} (ws0 : va_W) (h : MOW ca ad n (len, tx, pc, rk, gc, gs) ws0) : mg_I l y_MO_contains b_MO_contains 3 (.boolean) 3 D classes (tys_ ca) [.ref (ad 52), .int (a), .int (b)] ws0 (fun v w => v = (sp_contains (len, tx, pc, rk, gc, gs) a b).1 ∧ MOW ca ad n (sp_contains (len, tx, pc, rk, gc, gs) a b).2 w ∧ ∀ j, j < 52 → w[j]? = ws0[j]?) := by
  have hM := h
  obtain ⟨zx, ⟨im, zi, him⟩, ⟨pe, ze, hpe⟩, ⟨st, my, ge, zs, zy, zg, hgs⟩, ⟨fn, znn⟩, ⟨ch, zc, hch⟩, hlen, htx, hp, hrk, hg⟩ := h
  have hN := pm_fc_le h6
  have g0 := pm_gp h2 h6
  have hk_ : pc < 2 ^ 30 ∧ gc < 2 ^ 30 := ⟨by omega, by omega⟩
  refine mg_openI (own := R_MO) rfl (by decide) (Nat.le_of_ble_eq_true rfl) ?_
  intro p e s m args below meth c A Q ls C0 hK hA hP hD hS hl hret
  have hl : lv_has ls 3 [(0, .ref (ad 52)), (1, .int (a)), (2, .int (b))] := hl
  have fx := zx
  have fi := zi
  have fe := ze
  have fs := zs
  have fy := zy
  have fg := zg
  have fnn := znn
  have fc := zc
  rcases sp_ix_or a (k := gc) (by omega) with ⟨hb_i, he⟩ | ⟨i, hi, rfl, he⟩
  · refine lv_aload_n (pc := 0) C0.1 C0.2.1 d_MO_contains_0 rfl (lv_at hl 0 rfl) ?_
    refine lv_iload_n (pc := 1) C0.1 C0.2.1 d_MO_contains_1 rfl (lv_at hl 1 rfl) ?_
    refine mg_ci (pc := 2) (As := [.int (a)]) (rest := []) C0 (c_MO_isGroup0 l D ca ad hb_i hk_.2 ws0 fx) lk_MO_102 (by decide) fx rfl hK hP hD hS hA rfl hl.1 rfl (Nat.le_of_ble_eq_true rfl) d_MO_contains_2 (fun rv ws1 H locs hpost hP hD hS => ?_)
    obtain ⟨hr1, hw⟩ := hpost
    rw [hw] at hP hD
    refine mg_top (show rv = nI (0) from hr1) ?_
    refine mz_eq (pc := 5) (tgt := 34) C0 (by decide) d_MO_contains_5 (by decide) (fun _ => ?_) (fun h9 => absurd rfl h9)
    have E : sp_contains (len, tx, pc, rk, gc, gs) a b = (nI 0, (len, tx, pc, rk, gc, gs)) := by simp only [sp_contains, he]
    refine lv_iconst (pc := 34) (v := nI (0)) C0.1 C0.2.1 d_MO_contains_34 (by decide +kernel) ?_
    exact hret _ _ _ _ 35 _ (rfl) (⟨by rw [E], by rw [E]; exact hM, fun _ _ => rfl⟩) hP hD hS d_MO_contains_35
  · refine lv_aload_n (pc := 0) C0.1 C0.2.1 d_MO_contains_0 rfl (lv_at hl 0 rfl) ?_
    refine lv_iload_n (pc := 1) C0.1 C0.2.1 d_MO_contains_1 rfl (lv_at hl 1 rfl) ?_
    refine mg_ci (pc := 2) (As := [.int (nI (i))]) (rest := []) C0 (c_MO_isGroup1 l D ca ad hi hk_.2 ws0 fx) lk_MO_102 (by decide) fx rfl hK hP hD hS hA rfl hl.1 rfl (Nat.le_of_ble_eq_true rfl) d_MO_contains_2 (fun rv ws1 H locs hpost hP hD hS => ?_)
    obtain ⟨hr1, hw⟩ := hpost
    rw [hw] at hP hD
    refine mg_top (show rv = nI (1) from hr1) ?_
    refine mz_eq (pc := 5) (tgt := 34) C0 (by decide) d_MO_contains_5 (by decide) (fun h9 => absurd h9 (by decide)) (fun _ => ?_)
    refine lv_aload_n (pc := 8) C0.1 C0.2.1 d_MO_contains_8 rfl (lv_at hl 0 rfl) ?_
    refine lv_iload_n (pc := 9) C0.1 C0.2.1 d_MO_contains_9 rfl (lv_at hl 2 rfl) ?_
    rcases sp_ix_or b (k := pc) (by omega) with ⟨hb_q, he2⟩ | ⟨q, hq, rfl, he2⟩
    · refine mg_ci (pc := 10) (As := [.int (b)]) (rest := []) C0 (c_MO_isPermutation0 l D ca ad hb_q hk_.1 ws0 fx) lk_MO_98 (by decide) fx rfl hK hP hD hS hA rfl hl.1 rfl (Nat.le_of_ble_eq_true rfl) d_MO_contains_10 (fun rv ws1 H locs hpost hP hD hS => ?_)
      obtain ⟨hr1, hw⟩ := hpost
      rw [hw] at hP hD
      refine mg_top (show rv = nI (0) from hr1) ?_
      refine mz_eq (pc := 13) (tgt := 34) C0 (by decide) d_MO_contains_13 (by decide) (fun _ => ?_) (fun h9 => absurd rfl h9)
      have E : sp_contains (len, tx, pc, rk, gc, gs) (nI i) b = (nI 0, (len, tx, pc, rk, gc, gs)) := by simp only [sp_contains, he, he2]
      refine lv_iconst (pc := 34) (v := nI (0)) C0.1 C0.2.1 d_MO_contains_34 (by decide +kernel) ?_
      exact hret _ _ _ _ 35 _ (rfl) (⟨by rw [E], by rw [E]; exact hM, fun _ _ => rfl⟩) hP hD hS d_MO_contains_35
    · refine mg_ci (pc := 10) (As := [.int (nI (q))]) (rest := []) C0 (c_MO_isPermutation1 l D ca ad hq hk_.1 ws0 fx) lk_MO_98 (by decide) fx rfl hK hP hD hS hA rfl hl.1 rfl (Nat.le_of_ble_eq_true rfl) d_MO_contains_10 (fun rv ws1 H locs hpost hP hD hS => ?_)
      obtain ⟨hr1, hw⟩ := hpost
      rw [hw] at hP hD
      refine mg_top (show rv = nI (1) from hr1) ?_
      refine mz_eq (pc := 13) (tgt := 34) C0 (by decide) d_MO_contains_13 (by decide) (fun h9 => absurd h9 (by decide)) (fun _ => ?_)
      obtain ⟨G, k, hmg⟩ := hgs i hi
      have hcn := ma_cn_le (gs i) (pm_fc n)
      refine lv_aload_n (pc := 16) C0.1 C0.2.1 d_MO_contains_16 rfl (lv_at hl 0 rfl) ?_
      refine lv_iload_n (pc := 17) C0.1 C0.2.1 d_MO_contains_17 rfl (lv_at hl 1 rfl) ?_
      refine lv_aload_n (pc := 18) C0.1 C0.2.1 d_MO_contains_18 rfl (lv_at hl 0 rfl) ?_
      refine mg_get (pc := 19) C0 in_MO hK hP (52) fx rfl 4 (by decide) fl_MO_17 rfl d_MO_contains_19 ?_
      refine lv_iload_n (pc := 22) C0.1 C0.2.1 d_MO_contains_22 rfl (lv_at hl 2 rfl) ?_
      refine mg_ild (pc := 23) C0 hK hP (54) 1 fe rfl (j := q) (by omega) (by omega) d_MO_contains_23 ?_
      refine mg_top (show pe (q) = nI (rk q) from hpe q hq) ?_
      refine mg_ci (pc := 24) (As := [.int (nI (i)), .int (nI (rk q))]) (rest := []) C0 (c_MO_has l D ca ad h2 h6 (by omega) (hrk q hq) hmg.1 ws0 fx fs) lk_MO_57 (by decide) fx rfl hK hP hD hS hA rfl hl.1 rfl (Nat.le_of_ble_eq_true rfl) d_MO_contains_24 (fun rv ws1 H locs hpost hP hD hS => ?_)
      obtain ⟨hr1, hw⟩ := hpost
      rw [hw] at hP hD
      have E : sp_contains (len, tx, pc, rk, gc, gs) (nI i) (nI q) = (nI (if gs i (rk q) = true then 1 else 0), (len, tx, pc, rk, gc, gs)) := by simp only [sp_contains, he, he2]
      cases hs : gs i (rk q) with
      | true =>
          rw [hs, if_pos rfl] at hr1 E
          refine mg_top (show rv = nI (1) from hr1) ?_
          refine mz_eq (pc := 27) (tgt := 34) C0 (by decide) d_MO_contains_27 (by decide) (fun h9 => absurd h9 (by decide)) (fun _ => ?_)
          refine lv_iconst (pc := 30) (v := nI (1)) C0.1 C0.2.1 d_MO_contains_30 (by decide +kernel) ?_
          refine lv_goto (pc := 31) (tgt := 35) C0.1 C0.2.1 d_MO_contains_31 (by decide) ?_
          exact hret _ _ _ _ 35 _ (rfl) (⟨by rw [E], by rw [E]; exact hM, fun _ _ => rfl⟩) hP hD hS d_MO_contains_35
      | false =>
          rw [hs, if_neg (by decide)] at hr1 E
          refine mg_top (show rv = nI (0) from hr1) ?_
          refine mz_eq (pc := 27) (tgt := 34) C0 (by decide) d_MO_contains_27 (by decide) (fun _ => ?_) (fun h9 => absurd rfl h9)
          refine lv_iconst (pc := 34) (v := nI (0)) C0.1 C0.2.1 d_MO_contains_34 (by decide +kernel) ?_
          exact hret _ _ _ _ 35 _ (rfl) (⟨by rw [E], by rw [E]; exact hM, fun _ _ => rfl⟩) hP hD hS d_MO_contains_35
set_option maxHeartbeats 4000000 in
set_option maxRecDepth 100000 in
theorem c_MO_orbit (l : Launch) (D : va_G) (ca : Nat → ClassId) (ad : Nat → Nat) {n : Nat} (h2 : 2 ≤ n) (h6 : n ≤ 6) {len : Nat} {tx : Nat → Nat} {pc : Nat} {rk : Nat → Nat} {gc : Nat} {gs : Nat → Nat → Bool} {a b : Int32} (ws0 : va_W) (h : MOW ca ad n (len, tx, pc, rk, gc, gs) ws0) : mg_I l y_MO_orbit b_MO_orbit 5 (.int) 3 D classes (tys_ ca) [.ref (ad 52), .int (a), .int (b)] ws0 (fun v w => v = (sp_orbit n (len, tx, pc, rk, gc, gs) a b).1 ∧ MOW ca ad n (sp_orbit n (len, tx, pc, rk, gc, gs) a b).2 w ∧ ∀ j, j < 52 → w[j]? = ws0[j]?) := by
  have hM := h
  obtain ⟨zx, ⟨im, zi, him⟩, ⟨pe, ze, hpe⟩, ⟨st, my, ge, zs, zy, zg, hgs⟩, ⟨fn, znn⟩, ⟨ch, zc, hch⟩, hlen, htx, hp, hrk, hg⟩ := h
  have hN := pm_fc_le h6
  have g0 := pm_gp h2 h6
  have hk_ : pc < 2 ^ 30 ∧ gc < 2 ^ 30 := ⟨by omega, by omega⟩
  refine mg_openI (own := R_MO) rfl (by decide) (Nat.le_of_ble_eq_true rfl) ?_
  intro p e s m args below meth c A Q ls C0 hK hA hP hD hS hl hret
  have hl : lv_has ls 5 [(0, .ref (ad 52)), (1, .int (a)), (2, .int (b))] := hl
  have fx := zx
  have fi := zi
  have fe := ze
  have fs := zs
  have fy := zy
  have fg := zg
  have fnn := znn
  have fc := zc
  rcases sp_ix_or a (k := gc) (by omega) with ⟨hb_i, he⟩ | ⟨i, hi, rfl, he⟩
  · refine lv_aload_n (pc := 0) C0.1 C0.2.1 d_MO_orbit_0 rfl (lv_at hl 0 rfl) ?_
    refine lv_iload_n (pc := 1) C0.1 C0.2.1 d_MO_orbit_1 rfl (lv_at hl 1 rfl) ?_
    refine mg_ci (pc := 2) (As := [.int (a)]) (rest := []) C0 (c_MO_isGroup0 l D ca ad hb_i hk_.2 ws0 fx) lk_MO_102 (by decide) fx rfl hK hP hD hS hA rfl hl.1 rfl (Nat.le_of_ble_eq_true rfl) d_MO_orbit_2 (fun rv ws1 H locs hpost hP hD hS => ?_)
    obtain ⟨hr1, hw⟩ := hpost
    rw [hw] at hP hD
    refine mg_top (show rv = nI (0) from hr1) ?_
    refine mz_eq (pc := 5) (tgt := 22) C0 (by decide) d_MO_orbit_5 (by decide) (fun _ => ?_) (fun h9 => absurd rfl h9)
    have E : sp_orbit n (len, tx, pc, rk, gc, gs) a b = ((-1), (len, tx, pc, rk, gc, gs)) := by simp only [sp_orbit, he]
    refine lv_iconst (pc := 22) (v := (-1)) C0.1 C0.2.1 d_MO_orbit_22 (by decide +kernel) ?_
    exact hret _ _ _ _ 23 _ (rfl) (⟨by rw [E], by rw [E]; exact hM, fun _ _ => rfl⟩) hP hD hS d_MO_orbit_23
  · refine lv_aload_n (pc := 0) C0.1 C0.2.1 d_MO_orbit_0 rfl (lv_at hl 0 rfl) ?_
    refine lv_iload_n (pc := 1) C0.1 C0.2.1 d_MO_orbit_1 rfl (lv_at hl 1 rfl) ?_
    refine mg_ci (pc := 2) (As := [.int (nI (i))]) (rest := []) C0 (c_MO_isGroup1 l D ca ad hi hk_.2 ws0 fx) lk_MO_102 (by decide) fx rfl hK hP hD hS hA rfl hl.1 rfl (Nat.le_of_ble_eq_true rfl) d_MO_orbit_2 (fun rv ws1 H locs hpost hP hD hS => ?_)
    obtain ⟨hr1, hw⟩ := hpost
    rw [hw] at hP hD
    refine mg_top (show rv = nI (1) from hr1) ?_
    refine mz_eq (pc := 5) (tgt := 22) C0 (by decide) d_MO_orbit_5 (by decide) (fun h9 => absurd h9 (by decide)) (fun _ => ?_)
    rcases sp_ix_or b (k := n) (by omega) with ⟨hb_q, he2⟩ | ⟨q, hq, rfl, he2⟩
    · refine lv_iload_n (pc := 8) C0.1 C0.2.1 d_MO_orbit_8 rfl (lv_at hl 2 rfl) ?_
      refine lv_iconst (pc := 9) (v := nI (0)) C0.1 C0.2.1 d_MO_orbit_9 (by decide +kernel) ?_
      refine lv_aload_n (pc := 10) C0.1 C0.2.1 d_MO_orbit_10 rfl (lv_at hl 0 rfl) ?_
      refine mg_get (pc := 11) C0 in_MO hK hP (52) fx rfl 0 (by decide) fl_MO_36 rfl d_MO_orbit_11 ?_
      refine lv_iconst (pc := 14) (v := nI (1)) C0.1 C0.2.1 d_MO_orbit_14 (by decide +kernel) ?_
      refine lv_isub (pc := 15) C0.1 C0.2.1 d_MO_orbit_15 ?_
      refine mg_si (pc := 16) (As := [.int (b), .int (nI (0)), .int ((nI (n)) - (nI (1)))]) (rest := []) C0 (c_MO_in l D ca ad ws0) lk_MO_85 (by decide) hK hP hD hS hA rfl hl.1 rfl (Nat.le_of_ble_eq_true rfl) d_MO_orbit_16 (fun rv ws1 H locs hpost hP hD hS => ?_)
      obtain ⟨hr1, hw⟩ := hpost
      rw [hw] at hP hD
      refine mg_top (show rv = nI (0) from hr1.elim (fun h9 => h9.2) (fun h9 => (hb_q.elim h9.1.1 (fun h8 => h9.1.2 (mo_hi1 (by omega) h8))).elim)) ?_
      refine mz_ne (pc := 19) (tgt := 24) C0 (by decide) d_MO_orbit_19 (by decide) (fun h9 => absurd rfl h9) (fun _ => ?_)
      have E : sp_orbit n (len, tx, pc, rk, gc, gs) (nI i) b = ((-1), (len, tx, pc, rk, gc, gs)) := by simp only [sp_orbit, he, he2]
      refine lv_iconst (pc := 22) (v := (-1)) C0.1 C0.2.1 d_MO_orbit_22 (by decide +kernel) ?_
      exact hret _ _ _ _ 23 _ (rfl) (⟨by rw [E], by rw [E]; exact hM, fun _ _ => rfl⟩) hP hD hS d_MO_orbit_23
    · refine lv_iload_n (pc := 8) C0.1 C0.2.1 d_MO_orbit_8 rfl (lv_at hl 2 rfl) ?_
      refine lv_iconst (pc := 9) (v := nI (0)) C0.1 C0.2.1 d_MO_orbit_9 (by decide +kernel) ?_
      refine lv_aload_n (pc := 10) C0.1 C0.2.1 d_MO_orbit_10 rfl (lv_at hl 0 rfl) ?_
      refine mg_get (pc := 11) C0 in_MO hK hP (52) fx rfl 0 (by decide) fl_MO_36 rfl d_MO_orbit_11 ?_
      refine lv_iconst (pc := 14) (v := nI (1)) C0.1 C0.2.1 d_MO_orbit_14 (by decide +kernel) ?_
      refine lv_isub (pc := 15) C0.1 C0.2.1 d_MO_orbit_15 ?_
      refine mg_si (pc := 16) (As := [.int (nI (q)), .int (nI (0)), .int ((nI (n)) - (nI (1)))]) (rest := []) C0 (c_MO_in l D ca ad ws0) lk_MO_85 (by decide) hK hP hD hS hA rfl hl.1 rfl (Nat.le_of_ble_eq_true rfl) d_MO_orbit_16 (fun rv ws1 H locs hpost hP hD hS => ?_)
      obtain ⟨hr1, hw⟩ := hpost
      rw [hw] at hP hD
      refine mg_top (show rv = nI (1) from hr1.elim (fun h9 => (h9.1.elim (fun h8 => nI_pos (by omega) h8) (fun h8 => mo_hi0 (by omega) hq h8)).elim) (fun h9 => h9.2)) ?_
      refine mz_ne (pc := 19) (tgt := 24) C0 (by decide) d_MO_orbit_19 (by decide) (fun _ => ?_) (fun h9 => absurd h9 (by decide))
      obtain ⟨G, k, hmg⟩ := hgs i hi
      have hcn := ma_cn_le (gs i) (pm_fc n)
      have E : sp_orbit n (len, tx, pc, rk, gc, gs) (nI i) (nI q) = (nI (su_ob n (gs i) q (pm_fc n)), (len, tx, pc, rk, gc, gs)) := by simp only [sp_orbit, he, he2]
      refine lv_iconst (pc := 24) (v := nI (0)) C0.1 C0.2.1 d_MO_orbit_24 (by decide +kernel) ?_
      refine lv_istore_n (pc := 25) (lv' := [(3, .int (nI (0))), (0, .ref (ad 52)), (1, .int (nI (i))), (2, .int (nI (q)))]) C0.1 C0.2.1 d_MO_orbit_25 rfl hl (by decide) rfl (fun ls hl => ?_)
      refine lv_iconst (pc := 26) (v := nI (0)) C0.1 C0.2.1 d_MO_orbit_26 (by decide +kernel) ?_
      refine lv_istore (pc := 27) (lv' := [(4, .int (nI (0))), (3, .int (nI (0))), (0, .ref (ad 52)), (1, .int (nI (i))), (2, .int (nI (q)))]) C0.1 C0.2.1 d_MO_orbit_27 hl (by decide) rfl (fun ls hl => ?_)
      have loop : ∀ (d : Nat) (r : Nat) (H : Heap) (locs : List Loc) (ls : Array Slot), pm_fc n - r = d → (r ≤ pm_fc n) → lv_has ls 5 [(0, .ref (ad 52)), (1, .int (nI (i))), (2, .int (nI (q))), (3, .int (nI (su_ob n (gs i) q r))), (4, .int (nI (r)))] → va_P D classes ws0 H → va_D A ws0 → va_S A s.heap H locs → W p l e (mg_rm 3) s m args below meth c H locs 0 0 Q (F0 m 29 ls []) := by
        intro d
        induction d using Nat.strongRecOn with
        | _ d ih_loop =>
          intro r H locs ls hd hr hl hP hD hS
          refine lv_iload (pc := 29) C0.1 C0.2.1 d_MO_orbit_29 (lv_at hl 4 rfl) ?_
          refine lv_aload_n (pc := 31) C0.1 C0.2.1 d_MO_orbit_31 rfl (lv_at hl 0 rfl) ?_
          refine mg_get (pc := 32) C0 in_MO hK hP (52) fx rfl 1 (by decide) fl_MO_39 rfl d_MO_orbit_32 ?_
          refine mb_ge (pc := 35) (tgt := 70) C0 (by omega) (by omega) d_MO_orbit_35 (by decide) (fun hc => ?_) (fun hc => ?_)
          · have hrr : r = pm_fc n := by omega
            rw [hrr] at hl
            refine lv_iload_n (pc := 70) C0.1 C0.2.1 d_MO_orbit_70 rfl (lv_at hl 3 rfl) ?_
            exact hret _ _ _ _ 71 _ (rfl) (⟨by rw [E], by rw [E]; exact hM, fun _ _ => rfl⟩) hP hD hS d_MO_orbit_71
          · have hrN := hc
            refine lv_aload_n (pc := 38) C0.1 C0.2.1 d_MO_orbit_38 rfl (lv_at hl 0 rfl) ?_
            refine lv_iload_n (pc := 39) C0.1 C0.2.1 d_MO_orbit_39 rfl (lv_at hl 1 rfl) ?_
            refine lv_iload (pc := 40) C0.1 C0.2.1 d_MO_orbit_40 (lv_at hl 4 rfl) ?_
            refine mg_ci (pc := 42) (As := [.int (nI (i)), .int (nI (r))]) (rest := []) C0 (c_MO_has l D ca ad h2 h6 (by omega) hrN hmg.1 ws0 fx fs) lk_MO_57 (by decide) fx rfl hK hP hD hS hA rfl hl.1 rfl (Nat.le_of_ble_eq_true rfl) d_MO_orbit_42 (fun rv ws1 H locs hpost hP hD hS => ?_)
            obtain ⟨hr1, hw⟩ := hpost
            rw [hw] at hP hD
            cases hs : gs i r with
            | true =>
                rw [hs, if_pos rfl] at hr1
                refine mg_top (show rv = nI (1) from hr1) ?_
                refine mz_eq (pc := 45) (tgt := 62) C0 (by decide) d_MO_orbit_45 (by decide) (fun h9 => absurd h9 (by decide)) (fun _ => ?_)
                have hlt := pm_lt h2 h6 hrN hq
                refine lv_iload_n (pc := 48) C0.1 C0.2.1 d_MO_orbit_48 rfl (lv_at hl 3 rfl) ?_
                refine lv_iconst (pc := 49) (v := nI (1)) C0.1 C0.2.1 d_MO_orbit_49 (by decide +kernel) ?_
                refine lv_aload_n (pc := 50) C0.1 C0.2.1 d_MO_orbit_50 rfl (lv_at hl 0 rfl) ?_
                refine lv_iload (pc := 51) C0.1 C0.2.1 d_MO_orbit_51 (lv_at hl 4 rfl) ?_
                refine lv_iload_n (pc := 53) C0.1 C0.2.1 d_MO_orbit_53 rfl (lv_at hl 2 rfl) ?_
                refine mg_ci (pc := 54) (As := [.int (nI (r)), .int (nI (q))]) (rest := [.int (nI (1)), .int (nI (su_ob n (gs i) q r))]) C0 (c_MO_image l D ca ad h2 h6 him hrN hq ws0 fx fi) lk_MO_46 (by decide) fx rfl hK hP hD hS hA rfl hl.1 rfl (Nat.le_of_ble_eq_true rfl) d_MO_orbit_54 (fun rv ws1 H locs hpost hP hD hS => ?_)
                obtain ⟨hr1, hw⟩ := hpost
                rw [hw] at hP hD
                refine mg_top (show rv = nI (pm_im n r q) from hr1) ?_
                refine mn_shl1 (pc := 57) C0 (by omega) d_MO_orbit_57 ?_
                refine mn_or (pc := 58) C0 d_MO_orbit_58 ?_
                refine mg_top (show nI ((su_ob n (gs i) q r) ||| (2 ^ (pm_im n r q))) = nI (su_ob n (gs i) q (r + 1)) from by show _ = nI (if gs i r = true then _ else _); rw [if_pos hs]) ?_
                refine lv_goto (pc := 59) (tgt := 63) C0.1 C0.2.1 d_MO_orbit_59 (by decide) ?_
                refine lv_istore_n (pc := 63) (lv' := [(3, .int (nI (su_ob n (gs i) q (r + 1)))), (0, .ref (ad 52)), (1, .int (nI (i))), (2, .int (nI (q))), (4, .int (nI (r)))]) C0.1 C0.2.1 d_MO_orbit_63 rfl hl (by decide) rfl (fun ls hl => ?_)
                refine lv_iinc (pc := 64) (k := 4) (v := nI (r + 1)) (lv' := [(4, .int (nI (r + 1))), (3, .int (nI (su_ob n (gs i) q (r + 1)))), (0, .ref (ad 52)), (1, .int (nI (i))), (2, .int (nI (q)))]) C0.1 C0.2.1 d_MO_orbit_64 hl rfl (nb_p1 _) (by decide) rfl (fun ls hl => ?_)
                refine lv_goto (pc := 67) (tgt := 29) C0.1 C0.2.1 d_MO_orbit_67 (by decide) ?_
                exact ih_loop _ (by omega) (r + 1) _ _ _ rfl (by omega) (lv_sub hl [2, 3, 4, 1, 0] rfl) hP hD hS
            | false =>
                rw [hs, if_neg (by decide)] at hr1
                refine mg_top (show rv = nI (0) from hr1) ?_
                refine mz_eq (pc := 45) (tgt := 62) C0 (by decide) d_MO_orbit_45 (by decide) (fun _ => ?_) (fun h9 => absurd rfl h9)
                refine lv_iload_n (pc := 62) C0.1 C0.2.1 d_MO_orbit_62 rfl (lv_at hl 3 rfl) ?_
                refine lv_istore_n (pc := 63) (lv' := [(3, .int (nI (su_ob n (gs i) q r))), (0, .ref (ad 52)), (1, .int (nI (i))), (2, .int (nI (q))), (4, .int (nI (r)))]) C0.1 C0.2.1 d_MO_orbit_63 rfl hl (by decide) rfl (fun ls hl => ?_)
                refine lv_iinc (pc := 64) (k := 4) (v := nI (r + 1)) (lv' := [(4, .int (nI (r + 1))), (3, .int (nI (su_ob n (gs i) q r))), (0, .ref (ad 52)), (1, .int (nI (i))), (2, .int (nI (q)))]) C0.1 C0.2.1 d_MO_orbit_64 hl rfl (nb_p1 _) (by decide) rfl (fun ls hl => ?_)
                refine lv_goto (pc := 67) (tgt := 29) C0.1 C0.2.1 d_MO_orbit_67 (by decide) ?_
                have e1 : su_ob n (gs i) q (r + 1) = su_ob n (gs i) q r := by show (if gs i r = true then _ else _) = _; rw [hs, if_neg (by decide)]
                rw [← e1] at hl
                exact ih_loop _ (by omega) (r + 1) _ _ _ rfl (by omega) (lv_sub hl [2, 3, 4, 1, 0] rfl) hP hD hS
      exact loop _ 0 _ _ _ rfl (by omega) (lv_sub hl [2, 3, 4, 1, 0] rfl) hP hD hS
set_option maxHeartbeats 4000000 in
set_option maxRecDepth 100000 in
theorem c_MO_compare (l : Launch) (D : va_G) (ca : Nat → ClassId) (ad : Nat → Nat) {n : Nat} (h2 : 2 ≤ n) (h6 : n ≤ 6) {len : Nat} {tx : Nat → Nat} {pc : Nat} {rk : Nat → Nat} {gc : Nat} {gs : Nat → Nat → Bool} {a b : Int32} (ws0 : va_W) (h : MOW ca ad n (len, tx, pc, rk, gc, gs) ws0) : mg_I l y_MO_compare b_MO_compare 3 (.int) 3 D classes (tys_ ca) [.ref (ad 52), .int (a), .int (b)] ws0 (fun v w => v = (sp_compare n (len, tx, pc, rk, gc, gs) a b).1 ∧ MOW ca ad n (sp_compare n (len, tx, pc, rk, gc, gs) a b).2 w ∧ ∀ j, j < 52 → w[j]? = ws0[j]?) := by
  have hM := h
  obtain ⟨zx, ⟨im, zi, him⟩, ⟨pe, ze, hpe⟩, ⟨st, my, ge, zs, zy, zg, hgs⟩, ⟨fn, znn⟩, ⟨ch, zc, hch⟩, hlen, htx, hp, hrk, hg⟩ := h
  have hN := pm_fc_le h6
  have g0 := pm_gp h2 h6
  have hk_ : pc < 2 ^ 30 ∧ gc < 2 ^ 30 := ⟨by omega, by omega⟩
  refine mg_openI (own := R_MO) rfl (by decide) (Nat.le_of_ble_eq_true rfl) ?_
  intro p e s m args below meth c A Q ls C0 hK hA hP hD hS hl hret
  have hl : lv_has ls 3 [(0, .ref (ad 52)), (1, .int (a)), (2, .int (b))] := hl
  have fx := zx
  have fi := zi
  have fe := ze
  have fs := zs
  have fy := zy
  have fg := zg
  have fnn := znn
  have fc := zc
  rcases sp_ix_or a (k := gc) (by omega) with ⟨hb_i, he⟩ | ⟨i, hi, rfl, he⟩
  · refine lv_aload_n (pc := 0) C0.1 C0.2.1 d_MO_compare_0 rfl (lv_at hl 0 rfl) ?_
    refine lv_iload_n (pc := 1) C0.1 C0.2.1 d_MO_compare_1 rfl (lv_at hl 1 rfl) ?_
    refine mg_ci (pc := 2) (As := [.int (a)]) (rest := []) C0 (c_MO_isGroup0 l D ca ad hb_i hk_.2 ws0 fx) lk_MO_102 (by decide) fx rfl hK hP hD hS hA rfl hl.1 rfl (Nat.le_of_ble_eq_true rfl) d_MO_compare_2 (fun rv ws1 H locs hpost hP hD hS => ?_)
    obtain ⟨hr1, hw⟩ := hpost
    rw [hw] at hP hD
    refine mg_top (show rv = nI (0) from hr1) ?_
    refine mz_eq (pc := 5) (tgt := 16) C0 (by decide) d_MO_compare_5 (by decide) (fun _ => ?_) (fun h9 => absurd rfl h9)
    have E : sp_compare n (len, tx, pc, rk, gc, gs) a b = ((-1), (len, tx, pc, rk, gc, gs)) := by simp only [sp_compare, he]
    refine lv_iconst (pc := 16) (v := (-1)) C0.1 C0.2.1 d_MO_compare_16 (by decide +kernel) ?_
    exact hret _ _ _ _ 17 _ (rfl) (⟨by rw [E], by rw [E]; exact hM, fun _ _ => rfl⟩) hP hD hS d_MO_compare_17
  · refine lv_aload_n (pc := 0) C0.1 C0.2.1 d_MO_compare_0 rfl (lv_at hl 0 rfl) ?_
    refine lv_iload_n (pc := 1) C0.1 C0.2.1 d_MO_compare_1 rfl (lv_at hl 1 rfl) ?_
    refine mg_ci (pc := 2) (As := [.int (nI (i))]) (rest := []) C0 (c_MO_isGroup1 l D ca ad hi hk_.2 ws0 fx) lk_MO_102 (by decide) fx rfl hK hP hD hS hA rfl hl.1 rfl (Nat.le_of_ble_eq_true rfl) d_MO_compare_2 (fun rv ws1 H locs hpost hP hD hS => ?_)
    obtain ⟨hr1, hw⟩ := hpost
    rw [hw] at hP hD
    refine mg_top (show rv = nI (1) from hr1) ?_
    refine mz_eq (pc := 5) (tgt := 16) C0 (by decide) d_MO_compare_5 (by decide) (fun h9 => absurd h9 (by decide)) (fun _ => ?_)
    refine lv_aload_n (pc := 8) C0.1 C0.2.1 d_MO_compare_8 rfl (lv_at hl 0 rfl) ?_
    refine lv_iload_n (pc := 9) C0.1 C0.2.1 d_MO_compare_9 rfl (lv_at hl 2 rfl) ?_
    rcases sp_ix_or b (k := gc) (by omega) with ⟨hb_q, he2⟩ | ⟨q, hq, rfl, he2⟩
    · refine mg_ci (pc := 10) (As := [.int (b)]) (rest := []) C0 (c_MO_isGroup0 l D ca ad hb_q hk_.2 ws0 fx) lk_MO_102 (by decide) fx rfl hK hP hD hS hA rfl hl.1 rfl (Nat.le_of_ble_eq_true rfl) d_MO_compare_10 (fun rv ws1 H locs hpost hP hD hS => ?_)
      obtain ⟨hr1, hw⟩ := hpost
      rw [hw] at hP hD
      refine mg_top (show rv = nI (0) from hr1) ?_
      refine mz_ne (pc := 13) (tgt := 18) C0 (by decide) d_MO_compare_13 (by decide) (fun h9 => absurd rfl h9) (fun _ => ?_)
      have E : sp_compare n (len, tx, pc, rk, gc, gs) (nI i) b = ((-1), (len, tx, pc, rk, gc, gs)) := by simp only [sp_compare, he, he2]
      refine lv_iconst (pc := 16) (v := (-1)) C0.1 C0.2.1 d_MO_compare_16 (by decide +kernel) ?_
      exact hret _ _ _ _ 17 _ (rfl) (⟨by rw [E], by rw [E]; exact hM, fun _ _ => rfl⟩) hP hD hS d_MO_compare_17
    · refine mg_ci (pc := 10) (As := [.int (nI (q))]) (rest := []) C0 (c_MO_isGroup1 l D ca ad hq hk_.2 ws0 fx) lk_MO_102 (by decide) fx rfl hK hP hD hS hA rfl hl.1 rfl (Nat.le_of_ble_eq_true rfl) d_MO_compare_10 (fun rv ws1 H locs hpost hP hD hS => ?_)
      obtain ⟨hr1, hw⟩ := hpost
      rw [hw] at hP hD
      refine mg_top (show rv = nI (1) from hr1) ?_
      refine mz_ne (pc := 13) (tgt := 18) C0 (by decide) d_MO_compare_13 (by decide) (fun _ => ?_) (fun h9 => absurd h9 (by decide))
      obtain ⟨Ga, ka, hmga⟩ := hgs i hi
      have hcna := ma_cn_le (gs i) (pm_fc n)
      obtain ⟨Gb, kb, hmgb⟩ := hgs q hq
      have hcnb := ma_cn_le (gs q) (pm_fc n)
      have hN1 : ∀ x, gs i x = true → x < pm_fc n := hmga.2.2.2.1.1.2.1
      have hN2 : ∀ x, gs q x = true → x < pm_fc n := hmgb.2.2.2.1.1.2.1
      have E : sp_compare n (len, tx, pc, rk, gc, gs) (nI i) (nI q) = (nI ((if sp_sub n (gs i) (gs q) = true then 1 else 0) + (if sp_sub n (gs q) (gs i) = true then 2 else 0)), (len, tx, pc, rk, gc, gs)) := by simp only [sp_compare, he, he2]
      refine lv_aload_n (pc := 18) C0.1 C0.2.1 d_MO_compare_18 rfl (lv_at hl 0 rfl) ?_
      refine lv_iload_n (pc := 19) C0.1 C0.2.1 d_MO_compare_19 rfl (lv_at hl 1 rfl) ?_
      refine lv_iload_n (pc := 20) C0.1 C0.2.1 d_MO_compare_20 rfl (lv_at hl 2 rfl) ?_
      refine mg_ci (pc := 21) (As := [.int (nI (i)), .int (nI (q))]) (rest := []) C0 (c_MO_lies l D ca ad h2 h6 (by omega) (by omega) hmga.1 hmgb.1 hN1 ws0 fx fs) lk_MO_115 (by decide) fx rfl hK hP hD hS hA rfl hl.1 rfl (Nat.le_of_ble_eq_true rfl) d_MO_compare_21 (fun rv ws1 H locs hpost hP hD hS => ?_)
      obtain ⟨hr1, hw⟩ := hpost
      rw [hw] at hP hD
      rcases hr1 with ⟨rfl, hs1⟩ | ⟨rfl, x1, hx1, hy1⟩
      · have e1 : sp_sub n (gs i) (gs q) = true := sp_sub1 hs1
        refine mz_eq (pc := 24) (tgt := 31) C0 (by decide) d_MO_compare_24 (by decide) (fun h9 => absurd h9 (by decide)) (fun _ => ?_)
        refine lv_iconst (pc := 27) (v := nI (1)) C0.1 C0.2.1 d_MO_compare_27 (by decide +kernel) ?_
        refine lv_goto (pc := 28) (tgt := 32) C0.1 C0.2.1 d_MO_compare_28 (by decide) ?_
        refine lv_aload_n (pc := 32) C0.1 C0.2.1 d_MO_compare_32 rfl (lv_at hl 0 rfl) ?_
        refine lv_iload_n (pc := 33) C0.1 C0.2.1 d_MO_compare_33 rfl (lv_at hl 2 rfl) ?_
        refine lv_iload_n (pc := 34) C0.1 C0.2.1 d_MO_compare_34 rfl (lv_at hl 1 rfl) ?_
        refine mg_ci (pc := 35) (As := [.int (nI (q)), .int (nI (i))]) (rest := [.int (nI (1))]) C0 (c_MO_lies l D ca ad h2 h6 (by omega) (by omega) hmgb.1 hmga.1 hN2 ws0 fx fs) lk_MO_115 (by decide) fx rfl hK hP hD hS hA rfl hl.1 rfl (Nat.le_of_ble_eq_true rfl) d_MO_compare_35 (fun rv ws1 H locs hpost hP hD hS => ?_)
        obtain ⟨hr2, hw⟩ := hpost
        rw [hw] at hP hD
        rcases hr2 with ⟨rfl, hs2⟩ | ⟨rfl, x2, hx2, hy2⟩
        · have e2 : sp_sub n (gs q) (gs i) = true := sp_sub1 hs2
          rw [e1, e2] at E
          refine mz_eq (pc := 38) (tgt := 45) C0 (by decide) d_MO_compare_38 (by decide) (fun h9 => absurd h9 (by decide)) (fun _ => ?_)
          refine lv_iconst (pc := 41) (v := nI (2)) C0.1 C0.2.1 d_MO_compare_41 (by decide +kernel) ?_
          refine lv_goto (pc := 42) (tgt := 46) C0.1 C0.2.1 d_MO_compare_42 (by decide) ?_
          refine mn_add (pc := 46) C0 d_MO_compare_46 ?_
          exact hret _ _ _ _ 47 _ (rfl) (⟨by rw [E]; rfl, by rw [E]; exact hM, fun _ _ => rfl⟩) hP hD hS d_MO_compare_47
        · have e2 : sp_sub n (gs q) (gs i) = false := sp_sub0 (hN2 _ hx2) hx2 hy2
          rw [e1, e2] at E
          refine mz_eq (pc := 38) (tgt := 45) C0 (by decide) d_MO_compare_38 (by decide) (fun _ => ?_) (fun h9 => absurd rfl h9)
          refine lv_iconst (pc := 45) (v := nI (0)) C0.1 C0.2.1 d_MO_compare_45 (by decide +kernel) ?_
          refine mn_add (pc := 46) C0 d_MO_compare_46 ?_
          exact hret _ _ _ _ 47 _ (rfl) (⟨by rw [E]; rfl, by rw [E]; exact hM, fun _ _ => rfl⟩) hP hD hS d_MO_compare_47
      · have e1 : sp_sub n (gs i) (gs q) = false := sp_sub0 (hN1 _ hx1) hx1 hy1
        refine mz_eq (pc := 24) (tgt := 31) C0 (by decide) d_MO_compare_24 (by decide) (fun _ => ?_) (fun h9 => absurd rfl h9)
        refine lv_iconst (pc := 31) (v := nI (0)) C0.1 C0.2.1 d_MO_compare_31 (by decide +kernel) ?_
        refine lv_aload_n (pc := 32) C0.1 C0.2.1 d_MO_compare_32 rfl (lv_at hl 0 rfl) ?_
        refine lv_iload_n (pc := 33) C0.1 C0.2.1 d_MO_compare_33 rfl (lv_at hl 2 rfl) ?_
        refine lv_iload_n (pc := 34) C0.1 C0.2.1 d_MO_compare_34 rfl (lv_at hl 1 rfl) ?_
        refine mg_ci (pc := 35) (As := [.int (nI (q)), .int (nI (i))]) (rest := [.int (nI (0))]) C0 (c_MO_lies l D ca ad h2 h6 (by omega) (by omega) hmgb.1 hmga.1 hN2 ws0 fx fs) lk_MO_115 (by decide) fx rfl hK hP hD hS hA rfl hl.1 rfl (Nat.le_of_ble_eq_true rfl) d_MO_compare_35 (fun rv ws1 H locs hpost hP hD hS => ?_)
        obtain ⟨hr2, hw⟩ := hpost
        rw [hw] at hP hD
        rcases hr2 with ⟨rfl, hs2⟩ | ⟨rfl, x2, hx2, hy2⟩
        · have e2 : sp_sub n (gs q) (gs i) = true := sp_sub1 hs2
          rw [e1, e2] at E
          refine mz_eq (pc := 38) (tgt := 45) C0 (by decide) d_MO_compare_38 (by decide) (fun h9 => absurd h9 (by decide)) (fun _ => ?_)
          refine lv_iconst (pc := 41) (v := nI (2)) C0.1 C0.2.1 d_MO_compare_41 (by decide +kernel) ?_
          refine lv_goto (pc := 42) (tgt := 46) C0.1 C0.2.1 d_MO_compare_42 (by decide) ?_
          refine mn_add (pc := 46) C0 d_MO_compare_46 ?_
          exact hret _ _ _ _ 47 _ (rfl) (⟨by rw [E]; rfl, by rw [E]; exact hM, fun _ _ => rfl⟩) hP hD hS d_MO_compare_47
        · have e2 : sp_sub n (gs q) (gs i) = false := sp_sub0 (hN2 _ hx2) hx2 hy2
          rw [e1, e2] at E
          refine mz_eq (pc := 38) (tgt := 45) C0 (by decide) d_MO_compare_38 (by decide) (fun _ => ?_) (fun h9 => absurd rfl h9)
          refine lv_iconst (pc := 45) (v := nI (0)) C0.1 C0.2.1 d_MO_compare_45 (by decide +kernel) ?_
          refine mn_add (pc := 46) C0 d_MO_compare_46 ?_
          exact hret _ _ _ _ 47 _ (rfl) (⟨by rw [E]; rfl, by rw [E]; exact hM, fun _ _ => rfl⟩) hP hD hS d_MO_compare_47
set_option maxHeartbeats 4000000 in
set_option maxRecDepth 100000 in
theorem c_MO_clear (l : Launch) (D : va_G) (ca : Nat → ClassId) (ad : Nat → Nat) {n : Nat} (h2 : 2 ≤ n) (h6 : n ≤ 6) {len : Nat} {tx : Nat → Nat} {pc : Nat} {rk : Nat → Nat} {gc : Nat} {gs : Nat → Nat → Bool} (ws0 : va_W) (h : MOW ca ad n (len, tx, pc, rk, gc, gs) ws0) : mg_I l y_MO_clear b_MO_clear 2 (.int) 1 D classes (tys_ ca) [.ref (ad 52)] ws0 (fun v w => v = (sp_clear (len, tx, pc, rk, gc, gs)).1 ∧ MOW ca ad n (sp_clear (len, tx, pc, rk, gc, gs)).2 w ∧ ∀ j, j < 52 → w[j]? = ws0[j]?) := by
  have hM := h
  obtain ⟨zx, ⟨im, zi, him⟩, ⟨pe, ze, hpe⟩, ⟨st, my, ge, zs, zy, zg, hgs⟩, ⟨fn, znn⟩, ⟨ch, zc, hch⟩, hlen, htx, hp, hrk, hg⟩ := h
  have hN := pm_fc_le h6
  have g0 := pm_gp h2 h6
  have hk_ : pc < 2 ^ 30 ∧ gc < 2 ^ 30 := ⟨by omega, by omega⟩
  refine mg_openI (own := R_MO) rfl (by decide) (Nat.le_of_ble_eq_true rfl) ?_
  intro p e s m args below meth c A Q ls C0 hK hA hP hD hS hl hret
  have hl : lv_has ls 2 [(0, .ref (ad 52))] := hl
  have fx := zx
  have fi := zi
  have fe := ze
  have fs := zs
  have fy := zy
  have fg := zg
  have fnn := znn
  have fc := zc
  have hfm : ∀ j, j ≠ 52 → ws0[j]? = ws0[j]? := fun _ _ => rfl
  have E : sp_clear (len, tx, pc, rk, gc, gs) = (nI gc, (0, tx, 1, rk, 0, gs)) := rfl
  refine lv_aload_n (pc := 0) C0.1 C0.2.1 d_MO_clear_0 rfl (lv_at hl 0 rfl) ?_
  refine mg_get (pc := 1) C0 in_MO hK hP (52) fx rfl 5 (by decide) fl_MO_95 rfl d_MO_clear_1 ?_
  refine lv_istore_n (pc := 4) (lv' := [(1, .int (nI (gc))), (0, .ref (ad 52))]) C0.1 C0.2.1 d_MO_clear_4 rfl hl (by decide) rfl (fun ls hl => ?_)
  refine lv_aload_n (pc := 5) C0.1 C0.2.1 d_MO_clear_5 rfl (lv_at hl 1 rfl) ?_
  refine lv_iconst (pc := 6) (v := nI (0)) C0.1 C0.2.1 d_MO_clear_6 (by decide +kernel) ?_
  refine mg_put (pc := 7) C0 in_MO t_MO_ok n_MO hK hP hD hS (52) fx rfl 5 (by decide) fl_MO_95 rfl (ty := .int) (by decide +kernel) rfl rfl (Nat.le_of_ble_eq_true rfl) (fs' := [.int (nI (n)), .int (nI (pm_fc n)), .ref (ad 53), .int (nI (pc)), .ref (ad 54), .int (nI (0)), .ref (ad 55), .ref (ad 56), .ref (ad 57), .ref (ad 58), .ref (ad 59), .int (nI (len))]) rfl d_MO_clear_7 (fun ws H locs hfr fx hP hD hS => ?_)
  have fi := (hfr (53) (by omega)).trans fi
  have fe := (hfr (54) (by omega)).trans fe
  have fs := (hfr (55) (by omega)).trans fs
  have fy := (hfr (56) (by omega)).trans fy
  have fg := (hfr (57) (by omega)).trans fg
  have fnn := (hfr (58) (by omega)).trans fnn
  have fc := (hfr (59) (by omega)).trans fc
  have hfm : ∀ j, j ≠ 52 → ws[j]? = ws0[j]? := fun j hj => (hfr j (by omega)).trans (hfm j hj)
  refine lv_aload_n (pc := 10) C0.1 C0.2.1 d_MO_clear_10 rfl (lv_at hl 1 rfl) ?_
  refine lv_iconst (pc := 11) (v := nI (1)) C0.1 C0.2.1 d_MO_clear_11 (by decide +kernel) ?_
  refine mg_put (pc := 12) C0 in_MO t_MO_ok n_MO hK hP hD hS (52) fx rfl 3 (by decide) fl_MO_13 rfl (ty := .int) (by decide +kernel) rfl rfl (Nat.le_of_ble_eq_true rfl) (fs' := [.int (nI (n)), .int (nI (pm_fc n)), .ref (ad 53), .int (nI (1)), .ref (ad 54), .int (nI (0)), .ref (ad 55), .ref (ad 56), .ref (ad 57), .ref (ad 58), .ref (ad 59), .int (nI (len))]) rfl d_MO_clear_12 (fun ws H locs hfr fx hP hD hS => ?_)
  have fi := (hfr (53) (by omega)).trans fi
  have fe := (hfr (54) (by omega)).trans fe
  have fs := (hfr (55) (by omega)).trans fs
  have fy := (hfr (56) (by omega)).trans fy
  have fg := (hfr (57) (by omega)).trans fg
  have fnn := (hfr (58) (by omega)).trans fnn
  have fc := (hfr (59) (by omega)).trans fc
  have hfm : ∀ j, j ≠ 52 → ws[j]? = ws0[j]? := fun j hj => (hfr j (by omega)).trans (hfm j hj)
  refine lv_aload_n (pc := 15) C0.1 C0.2.1 d_MO_clear_15 rfl (lv_at hl 1 rfl) ?_
  refine lv_iconst (pc := 16) (v := nI (0)) C0.1 C0.2.1 d_MO_clear_16 (by decide +kernel) ?_
  refine mg_put (pc := 17) C0 in_MO t_MO_ok n_MO hK hP hD hS (52) fx rfl 11 (by decide) fl_MO_89 rfl (ty := .int) (by decide +kernel) rfl rfl (Nat.le_of_ble_eq_true rfl) (fs' := [.int (nI (n)), .int (nI (pm_fc n)), .ref (ad 53), .int (nI (1)), .ref (ad 54), .int (nI (0)), .ref (ad 55), .ref (ad 56), .ref (ad 57), .ref (ad 58), .ref (ad 59), .int (nI (0))]) rfl d_MO_clear_17 (fun ws H locs hfr fx hP hD hS => ?_)
  have fi := (hfr (53) (by omega)).trans fi
  have fe := (hfr (54) (by omega)).trans fe
  have fs := (hfr (55) (by omega)).trans fs
  have fy := (hfr (56) (by omega)).trans fy
  have fg := (hfr (57) (by omega)).trans fg
  have fnn := (hfr (58) (by omega)).trans fnn
  have fc := (hfr (59) (by omega)).trans fc
  have hfm : ∀ j, j ≠ 52 → ws[j]? = ws0[j]? := fun j hj => (hfr j (by omega)).trans (hfm j hj)
  refine lv_iload_n (pc := 20) C0.1 C0.2.1 d_MO_clear_20 rfl (lv_at hl 0 rfl) ?_
  exact hret _ _ _ _ 21 _ (rfl) (⟨by rw [E], by
      rw [E]
      exact ⟨fx, ⟨im, fi, him⟩, ⟨pe, fe, fun i hi => hpe i (by omega)⟩, ⟨st, my, ge, fs, fy, fg, fun i hi => absurd hi (by omega)⟩, ⟨fn, fnn⟩, ⟨ch, fc, fun i hi => absurd hi (by omega)⟩, by omega, fun i hi => absurd hi (by omega), by omega, fun i hi => hrk i (by omega), by omega⟩, fun j hj => hfm j (by omega)⟩) hP hD hS d_MO_clear_21
