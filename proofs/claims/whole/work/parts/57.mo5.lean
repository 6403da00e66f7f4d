/-! The reference: its calls, second part -/
set_option maxHeartbeats 4000000 in
set_option maxRecDepth 100000 in
theorem c_MO_group (l : Launch) (D : va_G) (ca : Nat → ClassId) (ad : Nat → Nat) {n : Nat} (h2 : 2 ≤ n) (h6 : n ≤ 6) {len : Nat} {tx : Nat → Nat} {pc : Nat} {rk : Nat → Nat} {gc : Nat} {gs : Nat → Nat → Bool} (ws0 : va_W) (h : MOW ca ad n (len, tx, pc, rk, gc, gs) ws0) : mg_I l y_MO_group b_MO_group 1 (.int) 3 D classes (tys_ ca) [.ref (ad 52)] ws0 (fun v w => v = (sp_group (len, tx, pc, rk, gc, gs)).1 ∧ MOW ca ad n (sp_group (len, tx, pc, rk, gc, gs)).2 w ∧ ∀ j, j < 52 → w[j]? = ws0[j]?) := by
  have hM := h
  obtain ⟨zx, ⟨im, zi, him⟩, ⟨pe, ze, hpe⟩, ⟨st, my, ge, zs, zy, zg, hgs⟩, ⟨fn, znn⟩, ⟨ch, zc, hch⟩, hlen, htx, hp, hrk, hg⟩ := h
  have hN := pm_fc_le h6
  have g0 := pm_gp h2 h6
  have hk_ : pc < 2 ^ 30 ∧ gc < 2 ^ 30 := ⟨by omega, by omega⟩
  refine mg_openI (own := R_MO) rfl (by decide) (Nat.le_of_ble_eq_true rfl) ?_
  intro p e s m args below meth c A Q ls C0 hK hA hP hD hS hl hret
  have hl : lv_has ls 1 [(0, .ref (ad 52))] := hl
  have fx := zx
  have fi := zi
  have fe := ze
  have fs := zs
  have fy := zy
  have fg := zg
  have fnn := znn
  have fc := zc
  have hfm : ∀ j, j < 52 → ws0[j]? = ws0[j]? := fun _ _ => rfl
  refine lv_aload_n (pc := 0) C0.1 C0.2.1 d_MO_group_0 rfl (lv_at hl 0 rfl) ?_
  refine mg_get (pc := 1) C0 in_MO hK hP (52) fx rfl 5 (by decide) fl_MO_95 rfl d_MO_group_1 ?_
  refine lv_bipush (pc := 4) (v := nI (12)) C0.1 C0.2.1 d_MO_group_4 (by decide +kernel) ?_
  refine mb_lt (pc := 6) (tgt := 11) C0 (by omega) (by omega) d_MO_group_6 (by decide) (fun hc => ?_) (fun hc => ?_)
  · have E : sp_group (len, tx, pc, rk, gc, gs) = (nI gc, (len, tx, pc, rk, gc + 1, sp_up gs gc su_one)) := if_pos hc
    have h12 := hc
    refine lv_aload_n (pc := 11) C0.1 C0.2.1 d_MO_group_11 rfl (lv_at hl 0 rfl) ?_
    refine lv_aload_n (pc := 12) C0.1 C0.2.1 d_MO_group_12 rfl (lv_at hl 0 rfl) ?_
    refine mg_get (pc := 13) C0 in_MO hK hP (52) fx rfl 5 (by decide) fl_MO_95 rfl d_MO_group_13 ?_
    refine mg_cv (pc := 16) (As := [.int (nI (gc))]) (rest := []) C0 (c_MO_trivial l D ca ad h2 h6 (show gc < 15 by omega) ws0 fx fs fy) lk_MO_81 (by decide) fx rfl hK hP hD hS hA rfl hl.1 rfl (Nat.le_of_ble_eq_true rfl) d_MO_group_16 (fun ws H locs hpost hP hD hS => ?_)
    obtain ⟨hfr, st1, fs, fy, hw1, hoc⟩ := hpost
    have fx := (hfr (52) (by omega)).trans fx
    have fi := (hfr (53) (by omega)).trans fi
    have fe := (hfr (54) (by omega)).trans fe
    have fg := (hfr (57) (by omega)).trans fg
    have fnn := (hfr (58) (by omega)).trans fnn
    have fc := (hfr (59) (by omega)).trans fc
    have hfm : ∀ j, j < 52 → ws[j]? = ws0[j]? := fun j hj => (hfr j (by omega)).trans (hfm j hj)
    have hsm : mo_sm st my ge st1 (upd my gc (nI 0)) ge gc := fun h h1 h3 h4 => ⟨fun i hi => hoc h i h1 hi, pk_un h1, fun _ _ => rfl⟩
    have hmt : mo_g n st1 (upd my gc (nI 0)) ge gc su_one (fun _ => 0) 0 := ⟨hw1, pk_us, fun j hj => absurd hj (by omega), su_one_gen g0 _, by rw [su_one_cn (pm_fc_pos n)]; decide⟩
    refine lv_aload_n (pc := 19) C0.1 C0.2.1 d_MO_group_19 rfl (lv_at hl 0 rfl) ?_
    refine lv_aload_n (pc := 20) C0.1 C0.2.1 d_MO_group_20 rfl (lv_at hl 0 rfl) ?_
    refine mg_get (pc := 21) C0 in_MO hK hP (52) fx rfl 5 (by decide) fl_MO_95 rfl d_MO_group_21 ?_
    refine lv_iconst (pc := 24) (v := nI (1)) C0.1 C0.2.1 d_MO_group_24 (by decide +kernel) ?_
    refine mn_add (pc := 25) C0 d_MO_group_25 ?_
    refine mg_put (pc := 26) C0 in_MO t_MO_ok n_MO hK hP hD hS (52) fx rfl 5 (by decide) fl_MO_95 rfl (ty := .int) (by decide +kernel) rfl rfl (Nat.le_of_ble_eq_true rfl) (fs' := [.int (nI (n)), .int (nI (pm_fc n)), .ref (ad 53), .int (nI (pc)), .ref (ad 54), .int (nI (gc + 1)), .ref (ad 55), .ref (ad 56), .ref (ad 57), .ref (ad 58), .ref (ad 59), .int (nI (len))]) rfl d_MO_group_26 (fun ws H locs hfr fx hP hD hS => ?_)
    have fi := (hfr (53) (by omega)).trans fi
    have fe := (hfr (54) (by omega)).trans fe
    have fg := (hfr (57) (by omega)).trans fg
    have fnn := (hfr (58) (by omega)).trans fnn
    have fc := (hfr (59) (by omega)).trans fc
    have fs := (hfr (55) (by omega)).trans fs
    have fy := (hfr (56) (by omega)).trans fy
    have hfm : ∀ j, j < 52 → ws[j]? = ws0[j]? := fun j hj => (hfr j (by omega)).trans (hfm j hj)
    refine lv_aload_n (pc := 29) C0.1 C0.2.1 d_MO_group_29 rfl (lv_at hl 0 rfl) ?_
    refine mg_get (pc := 30) C0 in_MO hK hP (52) fx rfl 5 (by decide) fl_MO_95 rfl d_MO_group_30 ?_
    refine lv_iconst (pc := 33) (v := nI (1)) C0.1 C0.2.1 d_MO_group_33 (by decide +kernel) ?_
    refine mn_sub (pc := 34) C0 (by omega) d_MO_group_34 ?_
    rw [Nat.add_sub_cancel]
    exact hret _ _ _ _ 35 _ (rfl) (⟨by rw [E], by
        rw [E]
        exact ⟨fx, ⟨im, fi, him⟩, ⟨_, fe, hpe⟩, ⟨_, _, _, fs, fy, fg, fun j hj => by
          by_cases e9 : j = gc
          · subst e9; rw [sp_us]; exact ⟨_, _, hmt⟩
          · obtain ⟨G9, k9, h9⟩ := hgs j (by omega)
            rw [sp_un _ _ e9]
            exact ⟨G9, k9, mo_g_fr h6 hsm e9 (by omega) (by omega) h9⟩⟩, ⟨_, fnn⟩, ⟨ch, fc, hch⟩, hlen, htx, hp, hrk, by omega⟩, hfm⟩) hP hD hS d_MO_group_35
  · have E : sp_group (len, tx, pc, rk, gc, gs) = ((-1), (len, tx, pc, rk, gc, gs)) := if_neg (by omega)
    refine lv_iconst (pc := 9) (v := (-1)) C0.1 C0.2.1 d_MO_group_9 (by decide +kernel) ?_
    exact hret _ _ _ _ 10 _ (rfl) (⟨by rw [E], by rw [E]; exact hM, hfm⟩) hP hD hS d_MO_group_10
set_option maxHeartbeats 4000000 in
set_option maxRecDepth 100000 in
theorem c_MO_generate (l : Launch) (D : va_G) (ca : Nat → ClassId) (ad : Nat → Nat) {n : Nat} (h2 : 2 ≤ n) (h6 : n ≤ 6) {len : Nat} {tx : Nat → Nat} {pc : Nat} {rk : Nat → Nat} {gc : Nat} {gs : Nat → Nat → Bool} {a b : Int32} (ws0 : va_W) (h : MOW ca ad n (len, tx, pc, rk, gc, gs) ws0) : mg_I l y_MO_generate b_MO_generate 3 (.int) 5 D classes (tys_ ca) [.ref (ad 52), .int (a), .int (b)] ws0 (fun v w => v = (sp_generate n (len, tx, pc, rk, gc, gs) a b).1 ∧ MOW ca ad n (sp_generate n (len, tx, pc, rk, gc, gs) a b).2 w ∧ ∀ j, j < 52 → w[j]? = ws0[j]?) := by
  have hM := h
  obtain ⟨zx, ⟨im, zi, him⟩, ⟨pe, ze, hpe⟩, ⟨st, my, ge, zs, zy, zg, hgs⟩, ⟨fn, znn⟩, ⟨ch, zc, hch⟩, hlen, htx, hp, hrk, hg⟩ := h
  have hN := pm_fc_le h6
  have g0 := pm_gp h2 h6
  have hk_ : pc < 2 ^ 30 ∧ gc < 2 ^ 30 := ⟨by omega, by omega⟩
  refine mg_openI (own := R_MO) rfl (by decide) (Nat.le_of_ble_eq_true rfl) ?_
  intro p e s m args below meth c A Q ls C0 hK hA hP hD hS hl hret
  have hl : lv_has ls 3 [(0, .ref (ad 52)), (1, .int (a)), (2, .int (b))] := hl
  have fx := zx
  have fi := zi
  have fe := ze
  have fs := zs
  have fy := zy
  have fg := zg
  have fnn := znn
  have fc := zc
  have hfm : ∀ j, j < 52 → ws0[j]? = ws0[j]? := fun _ _ => rfl
  rcases sp_ix_or a (k := gc) (by omega) with ⟨hb_i, he⟩ | ⟨i, hi, rfl, he⟩
  · refine lv_aload_n (pc := 0) C0.1 C0.2.1 d_MO_generate_0 rfl (lv_at hl 0 rfl) ?_
    refine lv_iload_n (pc := 1) C0.1 C0.2.1 d_MO_generate_1 rfl (lv_at hl 1 rfl) ?_
    refine mg_ci (pc := 2) (As := [.int (a)]) (rest := []) C0 (c_MO_isGroup0 l D ca ad hb_i hk_.2 ws0 fx) lk_MO_102 (by decide) fx rfl hK hP hD hS hA rfl hl.1 rfl (Nat.le_of_ble_eq_true rfl) d_MO_generate_2 (fun rv ws1 H locs hpost hP hD hS => ?_)
    obtain ⟨hr1, hw⟩ := hpost
    rw [hw] at hP hD
    refine mg_top (show rv = nI (0) from hr1) ?_
    refine mz_eq (pc := 5) (tgt := 16) C0 (by decide) d_MO_generate_5 (by decide) (fun _ => ?_) (fun h9 => absurd rfl h9)
    have E : sp_generate n (len, tx, pc, rk, gc, gs) a b = ((-1), (len, tx, pc, rk, gc, gs)) := by simp only [sp_generate, he]
    refine lv_iconst (pc := 16) (v := (-1)) C0.1 C0.2.1 d_MO_generate_16 (by decide +kernel) ?_
    exact hret _ _ _ _ 17 _ (rfl) (⟨by rw [E], by rw [E]; exact hM, hfm⟩) hP hD hS d_MO_generate_17
  · refine lv_aload_n (pc := 0) C0.1 C0.2.1 d_MO_generate_0 rfl (lv_at hl 0 rfl) ?_
    refine lv_iload_n (pc := 1) C0.1 C0.2.1 d_MO_generate_1 rfl (lv_at hl 1 rfl) ?_
    refine mg_ci (pc := 2) (As := [.int (nI (i))]) (rest := []) C0 (c_MO_isGroup1 l D ca ad hi hk_.2 ws0 fx) lk_MO_102 (by decide) fx rfl hK hP hD hS hA rfl hl.1 rfl (Nat.le_of_ble_eq_true rfl) d_MO_generate_2 (fun rv ws1 H locs hpost hP hD hS => ?_)
    obtain ⟨hr1, hw⟩ := hpost
    rw [hw] at hP hD
    refine mg_top (show rv = nI (1) from hr1) ?_
    refine mz_eq (pc := 5) (tgt := 16) C0 (by decide) d_MO_generate_5 (by decide) (fun h9 => absurd h9 (by decide)) (fun _ => ?_)
    refine lv_aload_n (pc := 8) C0.1 C0.2.1 d_MO_generate_8 rfl (lv_at hl 0 rfl) ?_
    refine lv_iload_n (pc := 9) C0.1 C0.2.1 d_MO_generate_9 rfl (lv_at hl 2 rfl) ?_
    rcases sp_ix_or b (k := pc) (by omega) with ⟨hb_q, he2⟩ | ⟨q, hq, rfl, he2⟩
    · refine mg_ci (pc := 10) (As := [.int (b)]) (rest := []) C0 (c_MO_isPermutation0 l D ca ad hb_q hk_.1 ws0 fx) lk_MO_98 (by decide) fx rfl hK hP hD hS hA rfl hl.1 rfl (Nat.le_of_ble_eq_true rfl) d_MO_generate_10 (fun rv ws1 H locs hpost hP hD hS => ?_)
      obtain ⟨hr1, hw⟩ := hpost
      rw [hw] at hP hD
      refine mg_top (show rv = nI (0) from hr1) ?_
      refine mz_ne (pc := 13) (tgt := 18) C0 (by decide) d_MO_generate_13 (by decide) (fun h9 => absurd rfl h9) (fun _ => ?_)
      have E : sp_generate n (len, tx, pc, rk, gc, gs) (nI i) b = ((-1), (len, tx, pc, rk, gc, gs)) := by simp only [sp_generate, he, he2]
      refine lv_iconst (pc := 16) (v := (-1)) C0.1 C0.2.1 d_MO_generate_16 (by decide +kernel) ?_
      exact hret _ _ _ _ 17 _ (rfl) (⟨by rw [E], by rw [E]; exact hM, hfm⟩) hP hD hS d_MO_generate_17
    · refine mg_ci (pc := 10) (As := [.int (nI (q))]) (rest := []) C0 (c_MO_isPermutation1 l D ca ad hq hk_.1 ws0 fx) lk_MO_98 (by decide) fx rfl hK hP hD hS hA rfl hl.1 rfl (Nat.le_of_ble_eq_true rfl) d_MO_generate_10 (fun rv ws1 H locs hpost hP hD hS => ?_)
      obtain ⟨hr1, hw⟩ := hpost
      rw [hw] at hP hD
      refine mg_top (show rv = nI (1) from hr1) ?_
      refine mz_ne (pc := 13) (tgt := 18) C0 (by decide) d_MO_generate_13 (by decide) (fun _ => ?_) (fun h9 => absurd h9 (by decide))
      obtain ⟨G, k, hmg⟩ := hgs i hi
      have hcn := ma_cn_le (gs i) (pm_fc n)
      refine lv_aload_n (pc := 18) C0.1 C0.2.1 d_MO_generate_18 rfl (lv_at hl 0 rfl) ?_
      refine lv_iload_n (pc := 19) C0.1 C0.2.1 d_MO_generate_19 rfl (lv_at hl 1 rfl) ?_
      refine lv_aload_n (pc := 20) C0.1 C0.2.1 d_MO_generate_20 rfl (lv_at hl 0 rfl) ?_
      refine mg_get (pc := 21) C0 in_MO hK hP (52) fx rfl 4 (by decide) fl_MO_17 rfl d_MO_generate_21 ?_
      refine lv_iload_n (pc := 24) C0.1 C0.2.1 d_MO_generate_24 rfl (lv_at hl 2 rfl) ?_
      refine mg_ild (pc := 25) C0 hK hP (54) 1 fe rfl (j := q) (by omega) (by omega) d_MO_generate_25 ?_
      refine mg_top (show pe (q) = nI (rk q) from hpe q hq) ?_
      refine mg_cv (pc := 26) (As := [.int (nI (i)), .int (nI (rk q))]) (rest := []) C0 (c_MO_enlarge l D ca ad h2 h6 him (show i < 14 by omega) (hrk q hq) hmg ws0 fx fi fs fy fg fnn) lk_MO_78 (by decide) fx rfl hK hP hD hS hA rfl hl.1 rfl (Nat.le_of_ble_eq_true rfl) d_MO_generate_26 (fun ws H locs hpost hP hD hS => ?_)
      obtain ⟨hfr, st1, my1, ge1, fn1, fs, fy, fg, fnn, hsm, S1, G1, k1, hmg1, hext⟩ := hpost
      have fx := (hfr (52) (by omega)).trans fx
      have fi := (hfr (53) (by omega)).trans fi
      have fe := (hfr (54) (by omega)).trans fe
      have fc := (hfr (59) (by omega)).trans fc
      have hfm : ∀ j, j < 52 → ws[j]? = ws0[j]? := fun j hj => (hfr j (by omega)).trans (hfm j hj)
      have e1 := sp_gen_eq hext
      have E : sp_generate n (len, tx, pc, rk, gc, gs) (nI i) (nI q) = (nI (ma_cn S1 (pm_fc n)), (len, tx, pc, rk, gc, sp_up gs i S1)) := by simp only [sp_generate, he, he2, e1]
      refine lv_aload_n (pc := 29) C0.1 C0.2.1 d_MO_generate_29 rfl (lv_at hl 0 rfl) ?_
      refine lv_iload_n (pc := 30) C0.1 C0.2.1 d_MO_generate_30 rfl (lv_at hl 1 rfl) ?_
      refine mg_ci (pc := 31) (As := [.int (nI (i))]) (rest := []) C0 (c_MO_orderOf l D ca ad h2 h6 (by omega) hmg1.1 ws fx fs) lk_MO_105 (by decide) fx rfl hK hP hD hS hA rfl hl.1 rfl (Nat.le_of_ble_eq_true rfl) d_MO_generate_31 (fun rv ws1 H locs hpost hP hD hS => ?_)
      obtain ⟨hr1, hw⟩ := hpost
      rw [hw] at hP hD
      refine mg_top (show rv = nI (ma_cn S1 (pm_fc n)) from hr1) ?_
      exact hret _ _ _ _ 34 _ (rfl) (⟨by rw [E], by
          rw [E]
          exact ⟨fx, ⟨im, fi, him⟩, ⟨_, fe, hpe⟩, ⟨_, _, _, fs, fy, fg, mow_up h6 hg hsm hgs hmg1⟩, ⟨_, fnn⟩, ⟨ch, fc, hch⟩, hlen, htx, hp, hrk, hg⟩, hfm⟩) hP hD hS d_MO_generate_34
set_option maxHeartbeats 4000000 in
set_option maxRecDepth 100000 in
theorem c_MO_closure (l : Launch) (D : va_G) (ca : Nat → ClassId) (ad : Nat → Nat) {n : Nat} (h2 : 2 ≤ n) (h6 : n ≤ 6) {len : Nat} {tx : Nat → Nat} {pc : Nat} {rk : Nat → Nat} {gc : Nat} {gs : Nat → Nat → Bool} {a b : Int32} (ws0 : va_W) (h : MOW ca ad n (len, tx, pc, rk, gc, gs) ws0) : mg_I l y_MO_closure b_MO_closure 4 (.int) 6 D classes (tys_ ca) [.ref (ad 52), .int (a), .int (b)] ws0 (fun v w => v = (sp_closure n (len, tx, pc, rk, gc, gs) a b).1 ∧ MOW ca ad n (sp_closure n (len, tx, pc, rk, gc, gs) a b).2 w ∧ ∀ j, j < 52 → w[j]? = ws0[j]?) := by
  have hM := h
  obtain ⟨zx, ⟨im, zi, him⟩, ⟨pe, ze, hpe⟩, ⟨st, my, ge, zs, zy, zg, hgs⟩, ⟨fn, znn⟩, ⟨ch, zc, hch⟩, hlen, htx, hp, hrk, hg⟩ := h
  have hN := pm_fc_le h6
  have g0 := pm_gp h2 h6
  have hk_ : pc < 2 ^ 30 ∧ gc < 2 ^ 30 := ⟨by omega, by omega⟩
  refine mg_openI (own := R_MO) rfl (by decide) (Nat.le_of_ble_eq_true rfl) ?_
  intro p e s m args below meth c A Q ls C0 hK hA hP hD hS hl hret
  have hl : lv_has ls 4 [(0, .ref (ad 52)), (1, .int (a)), (2, .int (b))] := hl
  have fx := zx
  have fi := zi
  have fe := ze
  have fs := zs
  have fy := zy
  have fg := zg
  have fnn := znn
  have fc := zc
  have hfm : ∀ j, j < 52 → ws0[j]? = ws0[j]? := fun _ _ => rfl
  rcases sp_ix_or a (k := gc) (by omega) with ⟨hb_i, he⟩ | ⟨i, hi, rfl, he⟩
  · refine lv_aload_n (pc := 0) C0.1 C0.2.1 d_MO_closure_0 rfl (lv_at hl 0 rfl) ?_
    refine lv_iload_n (pc := 1) C0.1 C0.2.1 d_MO_closure_1 rfl (lv_at hl 1 rfl) ?_
    refine mg_ci (pc := 2) (As := [.int (a)]) (rest := []) C0 (c_MO_isGroup0 l D ca ad hb_i hk_.2 ws0 fx) lk_MO_102 (by decide) fx rfl hK hP hD hS hA rfl hl.1 rfl (Nat.le_of_ble_eq_true rfl) d_MO_closure_2 (fun rv ws1 H locs hpost hP hD hS => ?_)
    obtain ⟨hr1, hw⟩ := hpost
    rw [hw] at hP hD
    refine mg_top (show rv = nI (0) from hr1) ?_
    refine mz_eq (pc := 5) (tgt := 25) C0 (by decide) d_MO_closure_5 (by decide) (fun _ => ?_) (fun h9 => absurd rfl h9)
    have E : sp_closure n (len, tx, pc, rk, gc, gs) a b = ((-1), (len, tx, pc, rk, gc, gs)) := by simp only [sp_closure, he]
    refine lv_iconst (pc := 25) (v := (-1)) C0.1 C0.2.1 d_MO_closure_25 (by decide +kernel) ?_
    exact hret _ _ _ _ 26 _ (rfl) (⟨by rw [E], by rw [E]; exact hM, hfm⟩) hP hD hS d_MO_closure_26
  · refine lv_aload_n (pc := 0) C0.1 C0.2.1 d_MO_closure_0 rfl (lv_at hl 0 rfl) ?_
    refine lv_iload_n (pc := 1) C0.1 C0.2.1 d_MO_closure_1 rfl (lv_at hl 1 rfl) ?_
    refine mg_ci (pc := 2) (As := [.int (nI (i))]) (rest := []) C0 (c_MO_isGroup1 l D ca ad hi hk_.2 ws0 fx) lk_MO_102 (by decide) fx rfl hK hP hD hS hA rfl hl.1 rfl (Nat.le_of_ble_eq_true rfl) d_MO_closure_2 (fun rv ws1 H locs hpost hP hD hS => ?_)
    obtain ⟨hr1, hw⟩ := hpost
    rw [hw] at hP hD
    refine mg_top (show rv = nI (1) from hr1) ?_
    refine mz_eq (pc := 5) (tgt := 25) C0 (by decide) d_MO_closure_5 (by decide) (fun h9 => absurd h9 (by decide)) (fun _ => ?_)
    refine lv_aload_n (pc := 8) C0.1 C0.2.1 d_MO_closure_8 rfl (lv_at hl 0 rfl) ?_
    refine lv_iload_n (pc := 9) C0.1 C0.2.1 d_MO_closure_9 rfl (lv_at hl 2 rfl) ?_
    rcases sp_ix_or b (k := gc) (by omega) with ⟨hb_q, he2⟩ | ⟨q, hq, rfl, he2⟩
    · refine mg_ci (pc := 10) (As := [.int (b)]) (rest := []) C0 (c_MO_isGroup0 l D ca ad hb_q hk_.2 ws0 fx) lk_MO_102 (by decide) fx rfl hK hP hD hS hA rfl hl.1 rfl (Nat.le_of_ble_eq_true rfl) d_MO_closure_10 (fun rv ws1 H locs hpost hP hD hS => ?_)
      obtain ⟨hr1, hw⟩ := hpost
      rw [hw] at hP hD
      refine mg_top (show rv = nI (0) from hr1) ?_
      refine mz_eq (pc := 13) (tgt := 25) C0 (by decide) d_MO_closure_13 (by decide) (fun _ => ?_) (fun h9 => absurd rfl h9)
      have E : sp_closure n (len, tx, pc, rk, gc, gs) (nI i) b = ((-1), (len, tx, pc, rk, gc, gs)) := by simp only [sp_closure, he, he2]
      refine lv_iconst (pc := 25) (v := (-1)) C0.1 C0.2.1 d_MO_closure_25 (by decide +kernel) ?_
      exact hret _ _ _ _ 26 _ (rfl) (⟨by rw [E], by rw [E]; exact hM, hfm⟩) hP hD hS d_MO_closure_26
    · refine mg_ci (pc := 10) (As := [.int (nI (q))]) (rest := []) C0 (c_MO_isGroup1 l D ca ad hq hk_.2 ws0 fx) lk_MO_102 (by decide) fx rfl hK hP hD hS hA rfl hl.1 rfl (Nat.le_of_ble_eq_true rfl) d_MO_closure_10 (fun rv ws1 H locs hpost hP hD hS => ?_)
      obtain ⟨hr1, hw⟩ := hpost
      rw [hw] at hP hD
      refine mg_top (show rv = nI (1) from hr1) ?_
      refine mz_eq (pc := 13) (tgt := 25) C0 (by decide) d_MO_closure_13 (by decide) (fun h9 => absurd h9 (by decide)) (fun _ => ?_)
      refine lv_aload_n (pc := 16) C0.1 C0.2.1 d_MO_closure_16 rfl (lv_at hl 0 rfl) ?_
      refine mg_get (pc := 17) C0 in_MO hK hP (52) fx rfl 5 (by decide) fl_MO_95 rfl d_MO_closure_17 ?_
      refine lv_bipush (pc := 20) (v := nI (12)) C0.1 C0.2.1 d_MO_closure_20 (by decide +kernel) ?_
      refine mb_lt (pc := 22) (tgt := 27) C0 (by omega) (by omega) d_MO_closure_22 (by decide) (fun hc => ?_) (fun hc => ?_)
      · have h12 := hc
        refine lv_aload_n (pc := 27) C0.1 C0.2.1 d_MO_closure_27 rfl (lv_at hl 0 rfl) ?_
        refine mg_ci (pc := 28) (As := []) (rest := []) C0 (c_MO_group l D ca ad h2 h6 ws0 hM) lk_MO_108 (by decide) fx rfl hK hP hD hS hA rfl hl.1 rfl (Nat.le_of_ble_eq_true rfl) d_MO_closure_28 (fun rv ws H locs hpost hP hD hS => ?_)
        obtain ⟨hr1, hM1, hfr⟩ := hpost
        have hfm : ∀ j, j < 52 → ws[j]? = ws0[j]? := fun j hj => (hfr j (by omega)).trans (hfm j hj)
        have EG : sp_group (len, tx, pc, rk, gc, gs) = (nI gc, (len, tx, pc, rk, gc + 1, sp_up gs gc su_one)) := if_pos h12
        rw [EG] at hr1 hM1
        refine mg_top (show rv = nI (gc) from hr1) ?_
        have E : sp_closure n (len, tx, pc, rk, gc, gs) (nI i) (nI q) = (nI gc, (len, tx, pc, rk, gc + 1, sp_up gs gc (sp_clo n (gs i) (gs q)))) := by simp only [sp_closure, he, he2, sp_new, if_pos h12]
        obtain ⟨fx, ⟨im, fi, him⟩, ⟨pe, fe, hpe⟩, ⟨st, my, ge, fs, fy, fg, hgs1⟩, ⟨fn, fnn⟩, ⟨ch, fc, hch⟩, hlen, htx, hp, hrk, hg1⟩ := hM1
        obtain ⟨G0, k0, hmt⟩ := hgs1 gc (by omega)
        rw [sp_us] at hmt
        have hk0 := mow_k0 hmt
        subst hk0
        obtain ⟨Ga, ka, hmga⟩ := hgs1 i (by omega)
        rw [sp_un _ _ (show i ≠ gc by omega)] at hmga
        obtain ⟨Gb, kb, hmgb⟩ := hgs1 q (by omega)
        rw [sp_un _ _ (show q ≠ gc by omega)] at hmgb
        refine lv_istore_n (pc := 31) (lv' := [(3, .int (nI (gc))), (0, .ref (ad 52)), (1, .int (nI (i))), (2, .int (nI (q)))]) C0.1 C0.2.1 d_MO_closure_31 rfl hl (by decide) rfl (fun ls hl => ?_)
        refine lv_aload_n (pc := 32) C0.1 C0.2.1 d_MO_closure_32 rfl (lv_at hl 1 rfl) ?_
        refine lv_iload_n (pc := 33) C0.1 C0.2.1 d_MO_closure_33 rfl (lv_at hl 2 rfl) ?_
        refine lv_iload_n (pc := 34) C0.1 C0.2.1 d_MO_closure_34 rfl (lv_at hl 3 rfl) ?_
        refine lv_iload_n (pc := 35) C0.1 C0.2.1 d_MO_closure_35 rfl (lv_at hl 0 rfl) ?_
        refine mg_cv (pc := 36) (As := [.int (nI (i)), .int (nI (q)), .int (nI (gc))]) (rest := []) C0 (c_MO_close l D ca ad h2 h6 him (show i ≠ gc by omega) (show q ≠ gc by omega) (by omega) (by omega) (by omega) hmga hmgb hmt ws fx fi fs fy fg fnn) lk_MO_118 (by decide) fx rfl hK hP hD hS hA rfl hl.1 rfl (Nat.le_of_ble_eq_true rfl) d_MO_closure_36 (fun ws H locs hpost hP hD hS => ?_)
        obtain ⟨hfr, st1, my1, ge1, fn1, fs, fy, fg, fnn, hsm, S1, G1, k1, hmg1, hclo⟩ := hpost
        have fx := (hfr (52) (by omega)).trans fx
        have fi := (hfr (53) (by omega)).trans fi
        have fe := (hfr (54) (by omega)).trans fe
        have fc := (hfr (59) (by omega)).trans fc
        have hfm : ∀ j, j < 52 → ws[j]? = ws0[j]? := fun j hj => (hfr j (by omega)).trans (hfm j hj)
        have e1 := sp_clo_eq hclo
        rw [e1, ← sp_uu gs gc su_one S1] at E
        refine lv_iload_n (pc := 39) C0.1 C0.2.1 d_MO_closure_39 rfl (lv_at hl 0 rfl) ?_
        exact hret _ _ _ _ 40 _ (rfl) (⟨by rw [E], by
            rw [E]
            exact ⟨fx, ⟨im, fi, him⟩, ⟨_, fe, hpe⟩, ⟨_, _, _, fs, fy, fg, mow_up h6 hg1 hsm hgs1 hmg1⟩, ⟨_, fnn⟩, ⟨ch, fc, hch⟩, hlen, htx, hp, hrk, hg1⟩, hfm⟩) hP hD hS d_MO_closure_40
      · have E : sp_closure n (len, tx, pc, rk, gc, gs) (nI i) (nI q) = ((-1), (len, tx, pc, rk, gc, gs)) := by simp only [sp_closure, he, he2, sp_new, if_neg (show ¬ gc < 12 by omega)]
        refine lv_iconst (pc := 25) (v := (-1)) C0.1 C0.2.1 d_MO_closure_25 (by decide +kernel) ?_
        exact hret _ _ _ _ 26 _ (rfl) (⟨by rw [E], by rw [E]; exact hM, hfm⟩) hP hD hS d_MO_closure_26
set_option maxHeartbeats 4000000 in
set_option maxRecDepth 100000 in
theorem c_MO_derived (l : Launch) (D : va_G) (ca : Nat → ClassId) (ad : Nat → Nat) {n : Nat} (h2 : 2 ≤ n) (h6 : n ≤ 6) {len : Nat} {tx : Nat → Nat} {pc : Nat} {rk : Nat → Nat} {gc : Nat} {gs : Nat → Nat → Bool} {a : Int32} (ws0 : va_W) (h : MOW ca ad n (len, tx, pc, rk, gc, gs) ws0) : mg_I l y_MO_derived b_MO_derived 3 (.int) 6 D classes (tys_ ca) [.ref (ad 52), .int (a)] ws0 (fun v w => v = (sp_derived n (len, tx, pc, rk, gc, gs) a).1 ∧ MOW ca ad n (sp_derived n (len, tx, pc, rk, gc, gs) a).2 w ∧ ∀ j, j < 52 → w[j]? = ws0[j]?) := by
  have hM := h
  obtain ⟨zx, ⟨im, zi, him⟩, ⟨pe, ze, hpe⟩, ⟨st, my, ge, zs, zy, zg, hgs⟩, ⟨fn, znn⟩, ⟨ch, zc, hch⟩, hlen, htx, hp, hrk, hg⟩ := h
  have hN := pm_fc_le h6
  have g0 := pm_gp h2 h6
  have hk_ : pc < 2 ^ 30 ∧ gc < 2 ^ 30 := ⟨by omega, by omega⟩
  refine mg_openI (own := R_MO) rfl (by decide) (Nat.le_of_ble_eq_true rfl) ?_
  intro p e s m args below meth c A Q ls C0 hK hA hP hD hS hl hret
  have hl : lv_has ls 3 [(0, .ref (ad 52)), (1, .int (a))] := hl
  have fx := zx
  have fi := zi
  have fe := ze
  have fs := zs
  have fy := zy
  have fg := zg
  have fnn := znn
  have fc := zc
  have hfm : ∀ j, j < 52 → ws0[j]? = ws0[j]? := fun _ _ => rfl
  rcases sp_ix_or a (k := gc) (by omega) with ⟨hb_i, he⟩ | ⟨i, hi, rfl, he⟩
  · refine lv_aload_n (pc := 0) C0.1 C0.2.1 d_MO_derived_0 rfl (lv_at hl 0 rfl) ?_
    refine lv_iload_n (pc := 1) C0.1 C0.2.1 d_MO_derived_1 rfl (lv_at hl 1 rfl) ?_
    refine mg_ci (pc := 2) (As := [.int (a)]) (rest := []) C0 (c_MO_isGroup0 l D ca ad hb_i hk_.2 ws0 fx) lk_MO_102 (by decide) fx rfl hK hP hD hS hA rfl hl.1 rfl (Nat.le_of_ble_eq_true rfl) d_MO_derived_2 (fun rv ws1 H locs hpost hP hD hS => ?_)
    obtain ⟨hr1, hw⟩ := hpost
    rw [hw] at hP hD
    refine mg_top (show rv = nI (0) from hr1) ?_
    refine mz_eq (pc := 5) (tgt := 17) C0 (by decide) d_MO_derived_5 (by decide) (fun _ => ?_) (fun h9 => absurd rfl h9)
    have E : sp_derived n (len, tx, pc, rk, gc, gs) a = ((-1), (len, tx, pc, rk, gc, gs)) := by simp only [sp_derived, he]
    refine lv_iconst (pc := 17) (v := (-1)) C0.1 C0.2.1 d_MO_derived_17 (by decide +kernel) ?_
    exact hret _ _ _ _ 18 _ (rfl) (⟨by rw [E], by rw [E]; exact hM, hfm⟩) hP hD hS d_MO_derived_18
  · refine lv_aload_n (pc := 0) C0.1 C0.2.1 d_MO_derived_0 rfl (lv_at hl 0 rfl) ?_
    refine lv_iload_n (pc := 1) C0.1 C0.2.1 d_MO_derived_1 rfl (lv_at hl 1 rfl) ?_
    refine mg_ci (pc := 2) (As := [.int (nI (i))]) (rest := []) C0 (c_MO_isGroup1 l D ca ad hi hk_.2 ws0 fx) lk_MO_102 (by decide) fx rfl hK hP hD hS hA rfl hl.1 rfl (Nat.le_of_ble_eq_true rfl) d_MO_derived_2 (fun rv ws1 H locs hpost hP hD hS => ?_)
    obtain ⟨hr1, hw⟩ := hpost
    rw [hw] at hP hD
    refine mg_top (show rv = nI (1) from hr1) ?_
    refine mz_eq (pc := 5) (tgt := 17) C0 (by decide) d_MO_derived_5 (by decide) (fun h9 => absurd h9 (by decide)) (fun _ => ?_)
    refine lv_aload_n (pc := 8) C0.1 C0.2.1 d_MO_derived_8 rfl (lv_at hl 0 rfl) ?_
    refine mg_get (pc := 9) C0 in_MO hK hP (52) fx rfl 5 (by decide) fl_MO_95 rfl d_MO_derived_9 ?_
    refine lv_bipush (pc := 12) (v := nI (12)) C0.1 C0.2.1 d_MO_derived_12 (by decide +kernel) ?_
    refine mb_lt (pc := 14) (tgt := 19) C0 (by omega) (by omega) d_MO_derived_14 (by decide) (fun hc => ?_) (fun hc => ?_)
    · have h12 := hc
      refine lv_aload_n (pc := 19) C0.1 C0.2.1 d_MO_derived_19 rfl (lv_at hl 0 rfl) ?_
      refine mg_ci (pc := 20) (As := []) (rest := []) C0 (c_MO_group l D ca ad h2 h6 ws0 hM) lk_MO_108 (by decide) fx rfl hK hP hD hS hA rfl hl.1 rfl (Nat.le_of_ble_eq_true rfl) d_MO_derived_20 (fun rv ws H locs hpost hP hD hS => ?_)
      obtain ⟨hr1, hM1, hfr⟩ := hpost
      have hfm : ∀ j, j < 52 → ws[j]? = ws0[j]? := fun j hj => (hfr j (by omega)).trans (hfm j hj)
      have EG : sp_group (len, tx, pc, rk, gc, gs) = (nI gc, (len, tx, pc, rk, gc + 1, sp_up gs gc su_one)) := if_pos h12
      rw [EG] at hr1 hM1
      refine mg_top (show rv = nI (gc) from hr1) ?_
      have E : sp_derived n (len, tx, pc, rk, gc, gs) (nI i) = (nI gc, (len, tx, pc, rk, gc + 1, sp_up gs gc (sp_der n (gs i)))) := by simp only [sp_derived, he, sp_new, if_pos h12]
      obtain ⟨fx, ⟨im, fi, him⟩, ⟨pe, fe, hpe⟩, ⟨st, my, ge, fs, fy, fg, hgs1⟩, ⟨fn, fnn⟩, ⟨ch, fc, hch⟩, hlen, htx, hp, hrk, hg1⟩ := hM1
      obtain ⟨G0, k0, hmt⟩ := hgs1 gc (by omega)
      rw [sp_us] at hmt
      have hk0 := mow_k0 hmt
      subst hk0
      obtain ⟨G, k, hmg⟩ := hgs1 i (by omega)
      rw [sp_un _ _ (show i ≠ gc by omega)] at hmg
      refine lv_istore_n (pc := 23) (lv' := [(2, .int (nI (gc))), (0, .ref (ad 52)), (1, .int (nI (i)))]) C0.1 C0.2.1 d_MO_derived_23 rfl hl (by decide) rfl (fun ls hl => ?_)
      refine lv_aload_n (pc := 24) C0.1 C0.2.1 d_MO_derived_24 rfl (lv_at hl 1 rfl) ?_
      refine lv_iload_n (pc := 25) C0.1 C0.2.1 d_MO_derived_25 rfl (lv_at hl 2 rfl) ?_
      refine lv_iload_n (pc := 26) C0.1 C0.2.1 d_MO_derived_26 rfl (lv_at hl 0 rfl) ?_
      refine mg_cv (pc := 27) (As := [.int (nI (i)), .int (nI (gc))]) (rest := []) C0 (c_MO_derive l D ca ad h2 h6 him (show i ≠ gc by omega) (by omega) (by omega) hmg ws fx fi fs fy fg fnn) lk_MO_122 (by decide) fx rfl hK hP hD hS hA rfl hl.1 rfl (Nat.le_of_ble_eq_true rfl) d_MO_derived_27 (fun ws H locs hpost hP hD hS => ?_)
      obtain ⟨hfr, st1, my1, ge1, fn1, fs, fy, fg, fnn, hsm, S1, G1, k1, hmg1, hder⟩ := hpost
      have fx := (hfr (52) (by omega)).trans fx
      have fi := (hfr (53) (by omega)).trans fi
      have fe := (hfr (54) (by omega)).trans fe
      have fc := (hfr (59) (by omega)).trans fc
      have hfm : ∀ j, j < 52 → ws[j]? = ws0[j]? := fun j hj => (hfr j (by omega)).trans (hfm j hj)
      have e1 := sp_der_eq hder
      rw [e1, ← sp_uu gs gc su_one S1] at E
      refine lv_iload_n (pc := 30) C0.1 C0.2.1 d_MO_derived_30 rfl (lv_at hl 0 rfl) ?_
      exact hret _ _ _ _ 31 _ (rfl) (⟨by rw [E], by
          rw [E]
          exact ⟨fx, ⟨im, fi, him⟩, ⟨_, fe, hpe⟩, ⟨_, _, _, fs, fy, fg, mow_up h6 hg1 hsm hgs1 hmg1⟩, ⟨_, fnn⟩, ⟨ch, fc, hch⟩, hlen, htx, hp, hrk, hg1⟩, hfm⟩) hP hD hS d_MO_derived_31
    · have E : sp_derived n (len, tx, pc, rk, gc, gs) (nI i) = ((-1), (len, tx, pc, rk, gc, gs)) := by simp only [sp_derived, he, sp_new, if_neg (show ¬ gc < 12 by omega)]
      refine lv_iconst (pc := 17) (v := (-1)) C0.1 C0.2.1 d_MO_derived_17 (by decide +kernel) ?_
      exact hret _ _ _ _ 18 _ (rfl) (⟨by rw [E], by rw [E]; exact hM, hfm⟩) hP hD hS d_MO_derived_18
set_option maxHeartbeats 4000000 in
set_option maxRecDepth 100000 in
theorem c_MO_hold (l : Launch) (D : va_G) (ca : Nat → ClassId) (ad : Nat → Nat) {n : Nat} (h2 : 2 ≤ n) (h6 : n ≤ 6) {len : Nat} {tx : Nat → Nat} {pc : Nat} {rk : Nat → Nat} {gc : Nat} {gs : Nat → Nat → Bool} {a b : Int32} (ws0 : va_W) (h : MOW ca ad n (len, tx, pc, rk, gc, gs) ws0) : mg_I l y_MO_hold b_MO_hold 5 (.int) 5 D classes (tys_ ca) [.ref (ad 52), .int (a), .int (b)] ws0 (fun v w => v = (sp_hold n (len, tx, pc, rk, gc, gs) a b).1 ∧ MOW ca ad n (sp_hold n (len, tx, pc, rk, gc, gs) a b).2 w ∧ ∀ j, j < 52 → w[j]? = ws0[j]?) := by
  have hM := h
  obtain ⟨zx, ⟨im, zi, him⟩, ⟨pe, ze, hpe⟩, ⟨st, my, ge, zs, zy, zg, hgs⟩, ⟨fn, znn⟩, ⟨ch, zc, hch⟩, hlen, htx, hp, hrk, hg⟩ := h
  have hN := pm_fc_le h6
  have g0 := pm_gp h2 h6
  have hk_ : pc < 2 ^ 30 ∧ gc < 2 ^ 30 := ⟨by omega, by omega⟩
  refine mg_openI (own := R_MO) rfl (by decide) (Nat.le_of_ble_eq_true rfl) ?_
  intro p e s m args below meth c A Q ls C0 hK hA hP hD hS hl hret
  have hl : lv_has ls 5 [(0, .ref (ad 52)), (1, .int (a)), (2, .int (b))] := hl
  have fx := zx
  have fi := zi
  have fe := ze
  have fs := zs
  have fy := zy
  have fg := zg
  have fnn := znn
  have fc := zc
  have hfm : ∀ j, j < 52 → ws0[j]? = ws0[j]? := fun _ _ => rfl
  have h64 := pm_64 h6
  rcases sp_ix_or a (k := gc) (by omega) with ⟨hb_i, he⟩ | ⟨i, hi, rfl, he⟩
  · refine lv_aload_n (pc := 0) C0.1 C0.2.1 d_MO_hold_0 rfl (lv_at hl 0 rfl) ?_
    refine lv_iload_n (pc := 1) C0.1 C0.2.1 d_MO_hold_1 rfl (lv_at hl 1 rfl) ?_
    refine mg_ci (pc := 2) (As := [.int (a)]) (rest := []) C0 (c_MO_isGroup0 l D ca ad hb_i hk_.2 ws0 fx) lk_MO_102 (by decide) fx rfl hK hP hD hS hA rfl hl.1 rfl (Nat.le_of_ble_eq_true rfl) d_MO_hold_2 (fun rv ws1 H locs hpost hP hD hS => ?_)
    obtain ⟨hr1, hw⟩ := hpost
    rw [hw] at hP hD
    refine mg_top (show rv = nI (0) from hr1) ?_
    refine mz_eq (pc := 5) (tgt := 33) C0 (by decide) d_MO_hold_5 (by decide) (fun _ => ?_) (fun h9 => absurd rfl h9)
    have E : sp_hold n (len, tx, pc, rk, gc, gs) a b = ((-1), (len, tx, pc, rk, gc, gs)) := by simp only [sp_hold, he]
    refine lv_iconst (pc := 33) (v := (-1)) C0.1 C0.2.1 d_MO_hold_33 (by decide +kernel) ?_
    exact hret _ _ _ _ 34 _ (rfl) (⟨by rw [E], by rw [E]; exact hM, hfm⟩) hP hD hS d_MO_hold_34
  · refine lv_aload_n (pc := 0) C0.1 C0.2.1 d_MO_hold_0 rfl (lv_at hl 0 rfl) ?_
    refine lv_iload_n (pc := 1) C0.1 C0.2.1 d_MO_hold_1 rfl (lv_at hl 1 rfl) ?_
    refine mg_ci (pc := 2) (As := [.int (nI (i))]) (rest := []) C0 (c_MO_isGroup1 l D ca ad hi hk_.2 ws0 fx) lk_MO_102 (by decide) fx rfl hK hP hD hS hA rfl hl.1 rfl (Nat.le_of_ble_eq_true rfl) d_MO_hold_2 (fun rv ws1 H locs hpost hP hD hS => ?_)
    obtain ⟨hr1, hw⟩ := hpost
    rw [hw] at hP hD
    refine mg_top (show rv = nI (1) from hr1) ?_
    refine mz_eq (pc := 5) (tgt := 33) C0 (by decide) d_MO_hold_5 (by decide) (fun h9 => absurd h9 (by decide)) (fun _ => ?_)
    rcases sp_ix_or b (k := 2 ^ n) (by omega) with ⟨hb_q, he2⟩ | ⟨q, hq, rfl, he2⟩
    · refine lv_iload_n (pc := 8) C0.1 C0.2.1 d_MO_hold_8 rfl (lv_at hl 2 rfl) ?_
      refine lv_iconst (pc := 9) (v := nI (0)) C0.1 C0.2.1 d_MO_hold_9 (by decide +kernel) ?_
      refine lv_iconst (pc := 10) (v := nI (1)) C0.1 C0.2.1 d_MO_hold_10 (by decide +kernel) ?_
      refine lv_aload_n (pc := 11) C0.1 C0.2.1 d_MO_hold_11 rfl (lv_at hl 0 rfl) ?_
      refine mg_get (pc := 12) C0 in_MO hK hP (52) fx rfl 0 (by decide) fl_MO_36 rfl d_MO_hold_12 ?_
      refine mn_shl1 (pc := 15) C0 (by omega) d_MO_hold_15 ?_
      refine lv_iconst (pc := 16) (v := nI (1)) C0.1 C0.2.1 d_MO_hold_16 (by decide +kernel) ?_
      refine lv_isub (pc := 17) C0.1 C0.2.1 d_MO_hold_17 ?_
      refine mg_si (pc := 18) (As := [.int (b), .int (nI (0)), .int ((nI (2 ^ n)) - (nI (1)))]) (rest := []) C0 (c_MO_in l D ca ad ws0) lk_MO_85 (by decide) hK hP hD hS hA rfl hl.1 rfl (Nat.le_of_ble_eq_true rfl) d_MO_hold_18 (fun rv ws1 H locs hpost hP hD hS => ?_)
      obtain ⟨hr1, hw⟩ := hpost
      rw [hw] at hP hD
      refine mg_top (show rv = nI (0) from hr1.elim (fun h9 => h9.2) (fun h9 => (hb_q.elim h9.1.1 (fun h8 => h9.1.2 (mo_hi1 (by omega) h8))).elim)) ?_
      refine mz_eq (pc := 21) (tgt := 33) C0 (by decide) d_MO_hold_21 (by decide) (fun _ => ?_) (fun h9 => absurd rfl h9)
      have E : sp_hold n (len, tx, pc, rk, gc, gs) (nI i) b = ((-1), (len, tx, pc, rk, gc, gs)) := by simp only [sp_hold, he, he2]
      refine lv_iconst (pc := 33) (v := (-1)) C0.1 C0.2.1 d_MO_hold_33 (by decide +kernel) ?_
      exact hret _ _ _ _ 34 _ (rfl) (⟨by rw [E], by rw [E]; exact hM, hfm⟩) hP hD hS d_MO_hold_34
    · refine lv_iload_n (pc := 8) C0.1 C0.2.1 d_MO_hold_8 rfl (lv_at hl 2 rfl) ?_
      refine lv_iconst (pc := 9) (v := nI (0)) C0.1 C0.2.1 d_MO_hold_9 (by decide +kernel) ?_
      refine lv_iconst (pc := 10) (v := nI (1)) C0.1 C0.2.1 d_MO_hold_10 (by decide +kernel) ?_
      refine lv_aload_n (pc := 11) C0.1 C0.2.1 d_MO_hold_11 rfl (lv_at hl 0 rfl) ?_
      refine mg_get (pc := 12) C0 in_MO hK hP (52) fx rfl 0 (by decide) fl_MO_36 rfl d_MO_hold_12 ?_
      refine mn_shl1 (pc := 15) C0 (by omega) d_MO_hold_15 ?_
      refine lv_iconst (pc := 16) (v := nI (1)) C0.1 C0.2.1 d_MO_hold_16 (by decide +kernel) ?_
      refine lv_isub (pc := 17) C0.1 C0.2.1 d_MO_hold_17 ?_
      refine mg_si (pc := 18) (As := [.int (nI (q)), .int (nI (0)), .int ((nI (2 ^ n)) - (nI (1)))]) (rest := []) C0 (c_MO_in l D ca ad ws0) lk_MO_85 (by decide) hK hP hD hS hA rfl hl.1 rfl (Nat.le_of_ble_eq_true rfl) d_MO_hold_18 (fun rv ws1 H locs hpost hP hD hS => ?_)
      obtain ⟨hr1, hw⟩ := hpost
      rw [hw] at hP hD
      refine mg_top (show rv = nI (1) from hr1.elim (fun h9 => (h9.1.elim (fun h8 => nI_pos (by omega) h8) (fun h8 => mo_hi0 (by omega) hq h8)).elim) (fun h9 => h9.2)) ?_
      refine mz_eq (pc := 21) (tgt := 33) C0 (by decide) d_MO_hold_21 (by decide) (fun h9 => absurd h9 (by decide)) (fun _ => ?_)
      refine lv_aload_n (pc := 24) C0.1 C0.2.1 d_MO_hold_24 rfl (lv_at hl 0 rfl) ?_
      refine mg_get (pc := 25) C0 in_MO hK hP (52) fx rfl 5 (by decide) fl_MO_95 rfl d_MO_hold_25 ?_
      refine lv_bipush (pc := 28) (v := nI (12)) C0.1 C0.2.1 d_MO_hold_28 (by decide +kernel) ?_
      refine mb_lt (pc := 30) (tgt := 35) C0 (by omega) (by omega) d_MO_hold_30 (by decide) (fun hc => ?_) (fun hc => ?_)
      · have h12 := hc
        refine lv_aload_n (pc := 35) C0.1 C0.2.1 d_MO_hold_35 rfl (lv_at hl 0 rfl) ?_
        refine mg_ci (pc := 36) (As := []) (rest := []) C0 (c_MO_group l D ca ad h2 h6 ws0 hM) lk_MO_108 (by decide) fx rfl hK hP hD hS hA rfl hl.1 rfl (Nat.le_of_ble_eq_true rfl) d_MO_hold_36 (fun rv ws H locs hpost hP hD hS => ?_)
        obtain ⟨hr1, hM1, hfr⟩ := hpost
        have hfm : ∀ j, j < 52 → ws[j]? = ws0[j]? := fun j hj => (hfr j (by omega)).trans (hfm j hj)
        have EG : sp_group (len, tx, pc, rk, gc, gs) = (nI gc, (len, tx, pc, rk, gc + 1, sp_up gs gc su_one)) := if_pos h12
        rw [EG] at hr1 hM1
        refine mg_top (show rv = nI (gc) from hr1) ?_
        have E : sp_hold n (len, tx, pc, rk, gc, gs) (nI i) (nI q) = (nI gc, (len, tx, pc, rk, gc + 1, sp_up gs gc (su_hd n (gs i) q))) := by simp only [sp_hold, he, he2, sp_new, if_pos h12]
        obtain ⟨fx, ⟨im, fi, him⟩, ⟨pe, fe, hpe⟩, ⟨st, my, ge, fs, fy, fg, hgs1⟩, ⟨fn, fnn⟩, ⟨ch, fc, hch⟩, hlen, htx, hp, hrk, hg1⟩ := hM1
        obtain ⟨G0, k0, hmt⟩ := hgs1 gc (by omega)
        rw [sp_us] at hmt
        have hk0 := mow_k0 hmt
        subst hk0
        obtain ⟨G, k, hmg⟩ := hgs1 i (by omega)
        rw [sp_un _ _ (show i ≠ gc by omega)] at hmg
        have hsg := su_hd_sg (pts := q) h2 h6 hmg.2.2.2.1.1
        have hq64 : q < 64 := by omega
        refine lv_istore_n (pc := 39) (lv' := [(3, .int (nI (gc))), (0, .ref (ad 52)), (1, .int (nI (i))), (2, .int (nI (q)))]) C0.1 C0.2.1 d_MO_hold_39 rfl hl (by decide) rfl (fun ls hl => ?_)
        refine lv_iconst (pc := 40) (v := nI (0)) C0.1 C0.2.1 d_MO_hold_40 (by decide +kernel) ?_
        refine lv_istore (pc := 41) (lv' := [(4, .int (nI (0))), (3, .int (nI (gc))), (0, .ref (ad 52)), (1, .int (nI (i))), (2, .int (nI (q)))]) C0.1 C0.2.1 d_MO_hold_41 hl (by decide) rfl (fun ls hl => ?_)
        have loop : ∀ (d : Nat) (r : Nat) (st1 : Nat → Int64) (my1 : Nat → Int32) (ge1 : Nat → Int32) (fn1 : Nat → Int32) (S1 : Nat → Bool) (G1 : Nat → Nat) (k1 : Nat) (ws : va_W) (H : Heap) (locs : List Loc) (ls : Array Slot), pm_fc n - r = d → (mo_g n st1 my1 ge1 i (gs i) G k) → (mo_g n st1 my1 ge1 gc S1 G1 k1) → (mo_sm st my ge st1 my1 ge1 gc) → (∀ x, S1 x = true → su_hd n (gs i) q x = true) → (∀ x, x < r → su_hd n (gs i) q x = true → S1 x = true) → (r ≤ pm_fc n) → (∀ j, j < 52 → ws[j]? = ws0[j]?) → ws[52]? = some (ad 52, .inr (4, [.int (nI (n)), .int (nI (pm_fc n)), .ref (ad 53), .int (nI (pc)), .ref (ad 54), .int (nI (gc + 1)), .ref (ad 55), .ref (ad 56), .ref (ad 57), .ref (ad 58), .ref (ad 59), .int (nI (len))])) → ws[53]? = some (ad 53, .inl (ca 1, 720, .inl (im))) → ws[54]? = some (ad 54, .inl (ca 1, 40, .inl (pe))) → ws[59]? = some (ad 59, .inl (ca 1, 40, .inl (ch))) → ws[55]? = some (ad 55, .inl (ca 2, 180, .inr (.inl (st1)))) → ws[56]? = some (ad 56, .inl (ca 1, 15, .inl (my1))) → ws[57]? = some (ad 57, .inl (ca 1, 300, .inl (ge1))) → ws[58]? = some (ad 58, .inl (ca 1, 720, .inl (fn1))) → lv_has ls 5 [(0, .ref (ad 52)), (1, .int (nI (i))), (2, .int (nI (q))), (3, .int (nI (gc))), (4, .int (nI (r)))] → va_P D classes ws H → va_D A ws → va_S A s.heap H locs → W p l e (mg_rm 5) s m args below meth c H locs 0 0 Q (F0 m 43 ls []) := by
          intro d
          induction d using Nat.strongRecOn with
          | _ d ih_loop =>
            intro r st1 my1 ge1 fn1 S1 G1 k1 ws H locs ls hd hmg hmt hsm hin hpr hr hfm fx fi fe fc fs fy fg fnn hl hP hD hS
            refine lv_iload (pc := 43) C0.1 C0.2.1 d_MO_hold_43 (lv_at hl 4 rfl) ?_
            refine lv_aload_n (pc := 45) C0.1 C0.2.1 d_MO_hold_45 rfl (lv_at hl 0 rfl) ?_
            refine mg_get (pc := 46) C0 in_MO hK hP (52) fx rfl 1 (by decide) fl_MO_39 rfl d_MO_hold_46 ?_
            refine mb_ge (pc := 49) (tgt := 85) C0 (by omega) (by omega) d_MO_hold_49 (by decide) (fun hc => ?_) (fun hc => ?_)
            · have e1 : su_hd n (gs i) q = S1 := by
                funext x
                cases h9 : S1 x with
                | true => exact hin x h9
                | false =>
                  cases h8 : su_hd n (gs i) q x with
                  | false => rfl
                  | true => rw [hpr x (by have := hsg.2.1 x h8; omega) h8] at h9; exact absurd h9 (by decide)
              rw [e1, ← sp_uu gs gc su_one S1] at E
              refine lv_iload_n (pc := 85) C0.1 C0.2.1 d_MO_hold_85 rfl (lv_at hl 3 rfl) ?_
              exact hret _ _ _ _ 86 _ (rfl) (⟨by rw [E], by
                  rw [E]
                  exact ⟨fx, ⟨im, fi, him⟩, ⟨_, fe, hpe⟩, ⟨_, _, _, fs, fy, fg, mow_up h6 hg1 hsm hgs1 hmt⟩, ⟨_, fnn⟩, ⟨ch, fc, hch⟩, hlen, htx, hp, hrk, hg1⟩, hfm⟩) hP hD hS d_MO_hold_86
            · have hrN := hc
              refine lv_aload_n (pc := 52) C0.1 C0.2.1 d_MO_hold_52 rfl (lv_at hl 0 rfl) ?_
              refine lv_iload_n (pc := 53) C0.1 C0.2.1 d_MO_hold_53 rfl (lv_at hl 1 rfl) ?_
              refine lv_iload (pc := 54) C0.1 C0.2.1 d_MO_hold_54 (lv_at hl 4 rfl) ?_
              refine mg_ci (pc := 56) (As := [.int (nI (i)), .int (nI (r))]) (rest := []) C0 (c_MO_has l D ca ad h2 h6 (by omega) hrN hmg.1 ws fx fs) lk_MO_57 (by decide) fx rfl hK hP hD hS hA rfl hl.1 rfl (Nat.le_of_ble_eq_true rfl) d_MO_hold_56 (fun rv ws1 H locs hpost hP hD hS => ?_)
              obtain ⟨hr1, hw⟩ := hpost
              rw [hw] at hP hD
              cases hs : gs i r with
              | true =>
                  rw [hs, if_pos rfl] at hr1
                  refine mg_top (show rv = nI (1) from hr1) ?_
                  refine mz_eq (pc := 59) (tgt := 79) C0 (by decide) d_MO_hold_59 (by decide) (fun h9 => absurd h9 (by decide)) (fun _ => ?_)
                  refine lv_aload_n (pc := 62) C0.1 C0.2.1 d_MO_hold_62 rfl (lv_at hl 0 rfl) ?_
                  refine lv_iload (pc := 63) C0.1 C0.2.1 d_MO_hold_63 (lv_at hl 4 rfl) ?_
                  refine lv_iload_n (pc := 65) C0.1 C0.2.1 d_MO_hold_65 rfl (lv_at hl 2 rfl) ?_
                  refine mg_ci (pc := 66) (As := [.int (nI (r)), .int (nI (q))]) (rest := []) C0 (c_MO_holds l D ca ad h2 h6 him hrN hq64 ws fx fi) lk_MO_112 (by decide) fx rfl hK hP hD hS hA rfl hl.1 rfl (Nat.le_of_ble_eq_true rfl) d_MO_hold_66 (fun rv ws1 H locs hpost hP hD hS => ?_)
                  obtain ⟨hr1, hw⟩ := hpost
                  rw [hw] at hP hD
                  cases hh : pm_hd n r q with
                  | true =>
                      rw [hh, if_pos rfl] at hr1
                      refine mg_top (show rv = nI (1) from hr1) ?_
                      refine mz_eq (pc := 69) (tgt := 79) C0 (by decide) d_MO_hold_69 (by decide) (fun h9 => absurd h9 (by decide)) (fun _ => ?_)
                      have hs8 : su_hd n (gs i) q r = true := by unfold su_hd; rw [hs, hh]; rfl
                      refine lv_aload_n (pc := 72) C0.1 C0.2.1 d_MO_hold_72 rfl (lv_at hl 0 rfl) ?_
                      refine lv_iload_n (pc := 73) C0.1 C0.2.1 d_MO_hold_73 rfl (lv_at hl 3 rfl) ?_
                      refine lv_iload (pc := 74) C0.1 C0.2.1 d_MO_hold_74 (lv_at hl 4 rfl) ?_
                      refine mg_cv (pc := 76) (As := [.int (nI (gc)), .int (nI (r))]) (rest := []) C0 (c_MO_enlarge l D ca ad h2 h6 him (show gc < 14 by omega) hrN hmt ws fx fi fs fy fg fnn) lk_MO_78 (by decide) fx rfl hK hP hD hS hA rfl hl.1 rfl (Nat.le_of_ble_eq_true rfl) d_MO_hold_76 (fun ws H locs hpost hP hD hS => ?_)
                      obtain ⟨hfr, st2, my2, ge2, fn2, fs, fy, fg, fnn, hsm2, S2, G2, k2, hmt2, hext⟩ := hpost
                      have fx := (hfr (52) (by omega)).trans fx
                      have fi := (hfr (53) (by omega)).trans fi
                      have fe := (hfr (54) (by omega)).trans fe
                      have fc := (hfr (59) (by omega)).trans fc
                      have hfm : ∀ j, j < 52 → ws[j]? = ws0[j]? := fun j hj => (hfr j (by omega)).trans (hfm j hj)
                      refine lv_iinc (pc := 79) (k := 4) (v := nI (r + 1)) (lv' := [(4, .int (nI (r + 1))), (0, .ref (ad 52)), (1, .int (nI (i))), (2, .int (nI (q))), (3, .int (nI (gc)))]) C0.1 C0.2.1 d_MO_hold_79 hl rfl (nb_p1 _) (by decide) rfl (fun ls hl => ?_)
                      refine lv_goto (pc := 82) (tgt := 43) C0.1 C0.2.1 d_MO_hold_82 (by decide) ?_
                      exact ih_loop _ (by omega) (r + 1) st2 my2 ge2 fn2 S2 G2 k2 _ _ _ _ rfl (mo_g_fr h6 hsm2 (by omega) (by omega) (by omega) hmg) hmt2 (mo_smt hsm hsm2) (hext.2.2.2 _ hsg hin hs8) (fun x hx hs9 => by
                        by_cases e : x = r
                        · subst e; exact hext.2.2.1
                        · exact hext.2.1 _ (hpr x (by omega) hs9)) (by omega) hfm fx fi fe fc fs fy fg fnn (lv_sub hl [1, 2, 3, 4, 0] rfl) hP hD hS
                  | false =>
                      rw [hh, if_neg (by decide)] at hr1
                      refine mg_top (show rv = nI (0) from hr1) ?_
                      refine mz_eq (pc := 69) (tgt := 79) C0 (by decide) d_MO_hold_69 (by decide) (fun _ => ?_) (fun h9 => absurd rfl h9)
                      have hs8 : su_hd n (gs i) q r = false := by unfold su_hd; rw [hh, Bool.and_false]
                      refine lv_iinc (pc := 79) (k := 4) (v := nI (r + 1)) (lv' := [(4, .int (nI (r + 1))), (0, .ref (ad 52)), (1, .int (nI (i))), (2, .int (nI (q))), (3, .int (nI (gc)))]) C0.1 C0.2.1 d_MO_hold_79 hl rfl (nb_p1 _) (by decide) rfl (fun ls hl => ?_)
                      refine lv_goto (pc := 82) (tgt := 43) C0.1 C0.2.1 d_MO_hold_82 (by decide) ?_
                      exact ih_loop _ (by omega) (r + 1) _ _ _ _ S1 G1 k1 _ _ _ _ rfl hmg hmt hsm hin (fun x hx hs9 => by
                        by_cases e : x = r
                        · subst e; rw [hs8] at hs9; exact absurd hs9 (by decide)
                        · exact hpr x (by omega) hs9) (by omega) hfm fx fi fe fc fs fy fg fnn (lv_sub hl [1, 2, 3, 4, 0] rfl) hP hD hS
              | false =>
                  rw [hs, if_neg (by decide)] at hr1
                  refine mg_top (show rv = nI (0) from hr1) ?_
                  refine mz_eq (pc := 59) (tgt := 79) C0 (by decide) d_MO_hold_59 (by decide) (fun _ => ?_) (fun h9 => absurd rfl h9)
                  have hs8 : su_hd n (gs i) q r = false := by unfold su_hd; rw [hs]; rfl
                  refine lv_iinc (pc := 79) (k := 4) (v := nI (r + 1)) (lv' := [(4, .int (nI (r + 1))), (0, .ref (ad 52)), (1, .int (nI (i))), (2, .int (nI (q))), (3, .int (nI (gc)))]) C0.1 C0.2.1 d_MO_hold_79 hl rfl (nb_p1 _) (by decide) rfl (fun ls hl => ?_)
                  refine lv_goto (pc := 82) (tgt := 43) C0.1 C0.2.1 d_MO_hold_82 (by decide) ?_
                  exact ih_loop _ (by omega) (r + 1) _ _ _ _ S1 G1 k1 _ _ _ _ rfl hmg hmt hsm hin (fun x hx hs9 => by
                    by_cases e : x = r
                    · subst e; rw [hs8] at hs9; exact absurd hs9 (by decide)
                    · exact hpr x (by omega) hs9) (by omega) hfm fx fi fe fc fs fy fg fnn (lv_sub hl [1, 2, 3, 4, 0] rfl) hP hD hS
        exact loop _ 0 st my ge _ su_one G0 0 _ _ _ _ rfl hmg hmt (mo_sm0 _ _ _ _) (fun x hx => by
          rw [(su_one_iff x).mp hx]; exact hsg.1) (fun x hx => absurd hx (by omega)) (by omega) hfm fx fi fe fc fs fy fg fnn (lv_sub hl [2, 3, 4, 1, 0] rfl) hP hD hS
      · have E : sp_hold n (len, tx, pc, rk, gc, gs) (nI i) (nI q) = ((-1), (len, tx, pc, rk, gc, gs)) := by simp only [sp_hold, he, he2, sp_new, if_neg (show ¬ gc < 12 by omega)]
        refine lv_iconst (pc := 33) (v := (-1)) C0.1 C0.2.1 d_MO_hold_33 (by decide +kernel) ?_
        exact hret _ _ _ _ 34 _ (rfl) (⟨by rw [E], by rw [E]; exact hM, hfm⟩) hP hD hS d_MO_hold_34
