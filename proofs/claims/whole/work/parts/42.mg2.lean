/-! The class itself: contracts, second part -/
theorem sp_uu (gs : Nat → Nat → Bool) (i : Nat) (S T : Nat → Bool) : sp_up (sp_up gs i S) i T = sp_up gs i T := by
  funext j
  by_cases e : j = i
  · subst e; rw [sp_us, sp_us]
  · rw [sp_un _ _ e, sp_un _ _ e, sp_un _ _ e]
set_option maxHeartbeats 4000000 in
set_option maxRecDepth 100000 in
theorem c_MG_read (l : Launch) (D : va_G) (ca : Nat → ClassId) (ad : Nat → Nat) {n : Nat} (h2 : 2 ≤ n) (h6 : n ≤ 6) {len : Nat} {tx : Nat → Nat} {pc : Nat} {rk : Nat → Nat} {gc : Nat} {gs : Nat → Nat → Bool} (ws0 : va_W) (h : MGW ca ad n (len, tx, pc, rk, gc, gs) ws0) : mg_I l y_MG_read b_MG_read 3 (.int) 4 D classes (tys_ ca) [.ref (ad 0)] ws0 (fun v w => v = (sp_read n (len, tx, pc, rk, gc, gs)).1 ∧ MGW ca ad n (sp_read n (len, tx, pc, rk, gc, gs)).2 w ∧ ∀ j, 52 ≤ j → w[j]? = ws0[j]?) := by
  have hM := h
  obtain ⟨z0, hsy, hct, hli, ⟨R, z7, hR⟩, ⟨gr, z9, hgr⟩, hraw, hgs, hp, hrk, hg⟩ := h
  have z1 := hsy.1
  have hN := pm_fc_le h6
  have g0 := pm_gp h2 h6
  refine mg_openI (own := R_MG) rfl (by decide) (Nat.le_of_ble_eq_true rfl) ?_
  intro p e s m args below meth c A Q ls C0 hK hA hP hD hS hl hret
  have hl : lv_has ls 3 [(0, .ref (ad 0))] := hl
  have f0 := z0
  have f1 := z1
  have f7 := z7
  have f9 := z9
  have hfm : ∀ j, 52 ≤ j → ws0[j]? = ws0[j]? := fun _ _ => rfl
  obtain ⟨⟨op, fi, la, se, f4⟩, ⟨P, f5⟩, ⟨T, f6, hT⟩, hlen, htx⟩ := hct
  refine lv_aload_n (pc := 0) C0.1 C0.2.1 d_MG_read_0 rfl (lv_at hl 0 rfl) ?_
  refine mg_get (pc := 1) C0 in_MG hK hP (0) f0 rfl 1 (by decide) fl_MG_21 rfl d_MG_read_1 ?_
  refine mg_ci (pc := 4) (As := []) (rest := []) C0 (c_CT_parse l D ca ad h2 h6 hlen htx hT ws0 f4 f5 f6) lk_MG_59 (by decide) f4 rfl hK hP hD hS hA rfl hl.1 rfl (Nat.le_of_ble_eq_true rfl) d_MG_read_4 (fun rv ws H locs hpost hP hD hS => ?_)
  obtain ⟨hfr, op1, fi1, la1, se1, P1, f4, f5, hres⟩ := hpost
  have f0 := (hfr (0) (by omega)).trans f0
  have f1 := (hfr (1) (by omega)).trans f1
  have f7 := (hfr (7) (by omega)).trans f7
  have f9 := (hfr (9) (by omega)).trans f9
  have f6 := (hfr (6) (by omega)).trans f6
  have hfm : ∀ j, 52 ≤ j → ws[j]? = ws0[j]? := fun j hj => (hfr j (by omega)).trans (hfm j hj)
  have hfA := hfr
  refine lv_istore_n (pc := 7) (lv' := [(1, .int (rv)), (0, .ref (ad 0))]) C0.1 C0.2.1 d_MG_read_7 rfl hl (by decide) rfl (fun ls hl => ?_)
  refine lv_aload_n (pc := 8) C0.1 C0.2.1 d_MG_read_8 rfl (lv_at hl 1 rfl) ?_
  refine mg_get (pc := 9) C0 in_MG hK hP (0) f0 rfl 1 (by decide) fl_MG_21 rfl d_MG_read_9 ?_
  refine mg_cv (pc := 12) (As := []) (rest := []) C0 (c_CT_forget l D ca ad h2 h6 ws f4) lk_MG_63 (by decide) f4 rfl hK hP hD hS hA rfl hl.1 rfl (Nat.le_of_ble_eq_true rfl) d_MG_read_12 (fun ws H locs hpost hP hD hS => ?_)
  obtain ⟨hfr, f4⟩ := hpost
  have f0 := (hfr (0) (by omega)).trans f0
  have f1 := (hfr (1) (by omega)).trans f1
  have f7 := (hfr (7) (by omega)).trans f7
  have f9 := (hfr (9) (by omega)).trans f9
  have f6 := (hfr (6) (by omega)).trans f6
  have f5 := (hfr (5) (by omega)).trans f5
  have hfm : ∀ j, 52 ≤ j → ws[j]? = ws0[j]? := fun j hj => (hfr j (by omega)).trans (hfm j hj)
  have hfB : ∀ j, j ≠ 4 ∧ j ≠ 5 → ws[j]? = ws0[j]? := fun j hj => (hfr j (by omega)).trans (hfA j hj)
  have hM1 : MGW ca ad n (0, tx, pc, rk, gc, gs) ws := mgw_ct hM (fun j hj => hfB j (by omega)) ⟨⟨_, _, _, _, f4⟩, ⟨P1, f5⟩, ⟨T, f6, fun i hi => absurd hi (by omega)⟩, by omega, fun i hi => absurd hi (by omega)⟩
  rcases hres with ⟨i, hrd, hil, hr1⟩ | ⟨pp, hrd, hr1, hPp⟩
  · subst hr1
    refine lv_iload_n (pc := 15) C0.1 C0.2.1 d_MG_read_15 rfl (lv_at hl 0 rfl) ?_
    refine lv_iconst (pc := 16) (v := (-1)) C0.1 C0.2.1 d_MG_read_16 (by decide +kernel) ?_
    refine lv_icmp_eq (pc := 17) (tgt := 24) C0.1 C0.2.1 d_MG_read_17 (by decide) (fun hc => ?_) (fun hc => ?_)
    · exact absurd hc (nb_ne1 (by omega))
    · have E : sp_read n (len, tx, pc, rk, gc, gs) = ((-1) - nI i, (0, tx, pc, rk, gc, gs)) := by simp only [sp_read, hrd]
      refine lv_iconst (pc := 20) (v := (-1)) C0.1 C0.2.1 d_MG_read_20 (by decide +kernel) ?_
      refine lv_iload_n (pc := 21) C0.1 C0.2.1 d_MG_read_21 rfl (lv_at hl 0 rfl) ?_
      refine lv_isub (pc := 22) C0.1 C0.2.1 d_MG_read_22 ?_
      exact hret _ _ _ _ 23 _ (rfl) (⟨by rw [E], by rw [E]; exact hM1, hfm⟩) hP hD hS d_MG_read_23
  · subst hr1
    refine lv_iload_n (pc := 15) C0.1 C0.2.1 d_MG_read_15 rfl (lv_at hl 0 rfl) ?_
    refine lv_iconst (pc := 16) (v := (-1)) C0.1 C0.2.1 d_MG_read_16 (by decide +kernel) ?_
    refine lv_icmp_eq (pc := 17) (tgt := 24) C0.1 C0.2.1 d_MG_read_17 (by decide) (fun hc => ?_) (fun hc => ?_)
    · have hpm := ps_read_pm hrd
      have hF3 := pm_F3 h2 h6 hpm.1 (fun x y hxy hy e9 => by
        have h9 := hpm.2 x y (by omega) hy e9
        omega)
      refine lv_aload_n (pc := 24) C0.1 C0.2.1 d_MG_read_24 rfl (lv_at hl 1 rfl) ?_
      refine lv_aload_n (pc := 25) C0.1 C0.2.1 d_MG_read_25 rfl (lv_at hl 1 rfl) ?_
      refine mg_get (pc := 26) C0 in_MG hK hP (0) f0 rfl 0 (by decide) fl_MG_14 rfl d_MG_read_26 ?_
      refine lv_aload_n (pc := 29) C0.1 C0.2.1 d_MG_read_29 rfl (lv_at hl 1 rfl) ?_
      refine mg_get (pc := 30) C0 in_MG hK hP (0) f0 rfl 1 (by decide) fl_MG_21 rfl d_MG_read_30 ?_
      refine mg_get (pc := 33) C0 in_CT hK hP (4) f4 rfl 0 (by decide) fl_MG_66 rfl d_MG_read_33 ?_
      refine mg_ci (pc := 36) (As := [.ref (ad 5)]) (rest := [.ref (ad 0)]) C0 (c_SY_rankOf l D ca ad h2 h6 (q := 5) (F := pp) hPp hpm.1 ws f1 f5) lk_MG_69 (by decide) f1 rfl hK hP hD hS hA rfl hl.1 rfl (Nat.le_of_ble_eq_true rfl) d_MG_read_36 (fun rv ws1 H locs hpost hP hD hS => ?_)
      obtain ⟨hr1, hw⟩ := hpost
      rw [hw] at hP hD
      refine mg_top (show rv = nI (pm_rk n pp) from hr1) ?_
      refine mg_ci (pc := 39) (As := [.int (nI (pm_rk n pp))]) (rest := []) C0 (c_MG_keep l D ca ad h2 h6 hF3.1 ws hM1) lk_MG_73 (by decide) f0 rfl hK hP hD hS hA rfl hl.1 rfl (Nat.le_of_ble_eq_true rfl) d_MG_read_39 (fun rv ws H locs hpost hP hD hS => ?_)
      obtain ⟨hr1, hM2, hfr⟩ := hpost
      have hfm : ∀ j, 52 ≤ j → ws[j]? = ws0[j]? := fun j hj => (hfr j (by omega)).trans (hfm j hj)
      by_cases h40 : pc < 40
      · have E : sp_read n (len, tx, pc, rk, gc, gs) = sp_keep (0, tx, pc, rk, gc, gs) (pm_rk n pp) := by simp only [sp_read, hrd, if_pos h40]
        have EK : sp_keep (0, tx, pc, rk, gc, gs) (pm_rk n pp) = (nI pc, (0, tx, pc + 1, su_up rk pc (pm_rk n pp), gc, gs)) := if_pos h40
        rw [EK] at hr1 hM2
        refine mg_top (show rv = nI (pc) from hr1) ?_
        refine lv_istore_n (pc := 42) (lv' := [(2, .int (nI (pc))), (1, .int ((-1))), (0, .ref (ad 0))]) C0.1 C0.2.1 d_MG_read_42 rfl hl (by decide) rfl (fun ls hl => ?_)
        refine lv_iload_n (pc := 43) C0.1 C0.2.1 d_MG_read_43 rfl (lv_at hl 0 rfl) ?_
        refine lv_iconst (pc := 44) (v := (-1)) C0.1 C0.2.1 d_MG_read_44 (by decide +kernel) ?_
        refine lv_icmp_ne (pc := 45) (tgt := 54) C0.1 C0.2.1 d_MG_read_45 (by decide) (fun hc => ?_) (fun hc => ?_)
        · refine lv_iload_n (pc := 54) C0.1 C0.2.1 d_MG_read_54 rfl (lv_at hl 0 rfl) ?_
          exact hret _ _ _ _ 55 _ (rfl) (⟨by rw [E, EK], by rw [E, EK]; exact hM2, hfm⟩) hP hD hS d_MG_read_55
        · exact absurd hc (nb_ne1 (by omega))
      · have E : sp_read n (len, tx, pc, rk, gc, gs) = ((-1000), (0, tx, pc, rk, gc, gs)) := by simp only [sp_read, hrd, if_neg h40]
        have EK : sp_keep (0, tx, pc, rk, gc, gs) (pm_rk n pp) = ((-1), (0, tx, pc, rk, gc, gs)) := if_neg h40
        rw [EK] at hr1 hM2
        refine mg_top (show rv = (-1) from hr1) ?_
        refine lv_istore_n (pc := 42) (lv' := [(2, .int ((-1))), (1, .int ((-1))), (0, .ref (ad 0))]) C0.1 C0.2.1 d_MG_read_42 rfl hl (by decide) rfl (fun ls hl => ?_)
        refine lv_iload_n (pc := 43) C0.1 C0.2.1 d_MG_read_43 rfl (lv_at hl 0 rfl) ?_
        refine lv_iconst (pc := 44) (v := (-1)) C0.1 C0.2.1 d_MG_read_44 (by decide +kernel) ?_
        refine lv_icmp_ne (pc := 45) (tgt := 54) C0.1 C0.2.1 d_MG_read_45 (by decide) (fun hc => ?_) (fun hc => ?_)
        · exact absurd rfl hc
        · refine lv_sipush (pc := 48) (v := (-1000)) C0.1 C0.2.1 d_MG_read_48 (by decide +kernel) ?_
          refine lv_goto (pc := 51) (tgt := 55) C0.1 C0.2.1 d_MG_read_51 (by decide) ?_
          exact hret _ _ _ _ 55 _ (rfl) (⟨by rw [E], by rw [E]; exact hM2, hfm⟩) hP hD hS d_MG_read_55
    · exact absurd rfl hc
set_option maxHeartbeats 4000000 in
set_option maxRecDepth 100000 in
theorem c_MG_hold (l : Launch) (D : va_G) (ca : Nat → ClassId) (ad : Nat → Nat) {n : Nat} (h2 : 2 ≤ n) (h6 : n ≤ 6) {len : Nat} {tx : Nat → Nat} {pc : Nat} {rk : Nat → Nat} {gc : Nat} {gs : Nat → Nat → Bool} {a b : Int32} (ws0 : va_W) (h : MGW ca ad n (len, tx, pc, rk, gc, gs) ws0) : mg_I l y_MG_hold b_MG_hold 4 (.int) 8 D classes (tys_ ca) [.ref (ad 0), .int (a), .int (b)] ws0 (fun v w => v = (sp_hold n (len, tx, pc, rk, gc, gs) a b).1 ∧ MGW ca ad n (sp_hold n (len, tx, pc, rk, gc, gs) a b).2 w ∧ ∀ j, 52 ≤ j → w[j]? = ws0[j]?) := by
  have hM := h
  obtain ⟨z0, hsy, hct, hli, ⟨R, z7, hR⟩, ⟨gr, z9, hgr⟩, hraw, hgs, hp, hrk, hg⟩ := h
  have z1 := hsy.1
  have hN := pm_fc_le h6
  have g0 := pm_gp h2 h6
  refine mg_openI (own := R_MG) rfl (by decide) (Nat.le_of_ble_eq_true rfl) ?_
  intro p e s m args below meth c A Q ls C0 hK hA hP hD hS hl hret
  have hl : lv_has ls 4 [(0, .ref (ad 0)), (1, .int (a)), (2, .int (b))] := hl
  have f0 := z0
  have f1 := z1
  have f7 := z7
  have f9 := z9
  have hfm : ∀ j, 52 ≤ j → ws0[j]? = ws0[j]? := fun _ _ => rfl
  have hk_ : pc < 2 ^ 31 ∧ gc < 2 ^ 31 := ⟨by omega, by omega⟩
  have h64 := pm_64 h6
  rcases sp_ix_or a (k := gc) (by omega) with ⟨hb_i, he⟩ | ⟨i, hi, rfl, he⟩
  · refine lv_aload_n (pc := 0) C0.1 C0.2.1 d_MG_hold_0 rfl (lv_at hl 0 rfl) ?_
    refine lv_iload_n (pc := 1) C0.1 C0.2.1 d_MG_hold_1 rfl (lv_at hl 1 rfl) ?_
    refine mg_ci (pc := 2) (As := [.int (a)]) (rest := []) C0 (c_MG_isGroup0 l D ca ad hb_i ws0 f0) lk_MG_94 (by decide) f0 rfl hK hP hD hS hA rfl hl.1 rfl (Nat.le_of_ble_eq_true rfl) d_MG_hold_2 (fun rv ws1 H locs hpost hP hD hS => ?_)
    obtain ⟨hr1, hw⟩ := hpost
    rw [hw] at hP hD
    refine mg_top (show rv = nI (0) from hr1) ?_
    refine mz_eq (pc := 5) (tgt := 25) C0 (by decide) d_MG_hold_5 (by decide) (fun _ => ?_) (fun h9 => absurd rfl h9)
    have E : sp_hold n (len, tx, pc, rk, gc, gs) a b = ((-1), (len, tx, pc, rk, gc, gs)) := by simp only [sp_hold, he]
    refine lv_iconst (pc := 25) (v := (-1)) C0.1 C0.2.1 d_MG_hold_25 (by decide +kernel) ?_
    exact hret _ _ _ _ 26 _ (rfl) (⟨by rw [E], by rw [E]; exact hM, hfm⟩) hP hD hS d_MG_hold_26
  · refine lv_aload_n (pc := 0) C0.1 C0.2.1 d_MG_hold_0 rfl (lv_at hl 0 rfl) ?_
    refine lv_iload_n (pc := 1) C0.1 C0.2.1 d_MG_hold_1 rfl (lv_at hl 1 rfl) ?_
    refine mg_ci (pc := 2) (As := [.int (nI (i))]) (rest := []) C0 (c_MG_isGroup1 l D ca ad hi hk_ ws0 f0) lk_MG_94 (by decide) f0 rfl hK hP hD hS hA rfl hl.1 rfl (Nat.le_of_ble_eq_true rfl) d_MG_hold_2 (fun rv ws1 H locs hpost hP hD hS => ?_)
    obtain ⟨hr1, hw⟩ := hpost
    rw [hw] at hP hD
    refine mg_top (show rv = nI (1) from hr1) ?_
    refine mz_eq (pc := 5) (tgt := 25) C0 (by decide) d_MG_hold_5 (by decide) (fun h9 => absurd h9 (by decide)) (fun _ => ?_)
    rcases sp_ix_or b (k := 2 ^ n) (by omega) with ⟨hb_q, he2⟩ | ⟨q, hq, rfl, he2⟩
    · refine lv_iload_n (pc := 8) C0.1 C0.2.1 d_MG_hold_8 rfl (lv_at hl 2 rfl) ?_
      refine lv_if_lt (pc := 9) (tgt := 25) C0.1 C0.2.1 d_MG_hold_9 (by decide) (fun hc => ?_) (fun hc => ?_)
      · have E : sp_hold n (len, tx, pc, rk, gc, gs) (nI i) b = ((-1), (len, tx, pc, rk, gc, gs)) := by simp only [sp_hold, he, he2]
        refine lv_iconst (pc := 25) (v := (-1)) C0.1 C0.2.1 d_MG_hold_25 (by decide +kernel) ?_
        exact hret _ _ _ _ 26 _ (rfl) (⟨by rw [E], by rw [E]; exact hM, hfm⟩) hP hD hS d_MG_hold_26
      · refine lv_iload_n (pc := 12) C0.1 C0.2.1 d_MG_hold_12 rfl (lv_at hl 2 rfl) ?_
        refine lv_iconst (pc := 13) (v := nI (1)) C0.1 C0.2.1 d_MG_hold_13 (by decide +kernel) ?_
        refine lv_aload_n (pc := 14) C0.1 C0.2.1 d_MG_hold_14 rfl (lv_at hl 0 rfl) ?_
        refine mg_get (pc := 15) C0 in_MG hK hP (0) f0 rfl 0 (by decide) fl_MG_14 rfl d_MG_hold_15 ?_
        refine mg_get (pc := 18) C0 in_SY hK hP (1) f1 rfl 0 (by decide) fl_MG_110 rfl d_MG_hold_18 ?_
        refine mn_shl1 (pc := 21) C0 (by omega) d_MG_hold_21 ?_
        refine lv_icmp_lt (pc := 22) (tgt := 27) C0.1 C0.2.1 d_MG_hold_22 (by decide) (fun hc2 => ?_) (fun hc2 => ?_)
        · exact (hb_q.elim hc (fun h9 => Int32.not_lt.mpr h9 hc2)).elim
        · have E : sp_hold n (len, tx, pc, rk, gc, gs) (nI i) b = ((-1), (len, tx, pc, rk, gc, gs)) := by simp only [sp_hold, he, he2]
          refine lv_iconst (pc := 25) (v := (-1)) C0.1 C0.2.1 d_MG_hold_25 (by decide +kernel) ?_
          exact hret _ _ _ _ 26 _ (rfl) (⟨by rw [E], by rw [E]; exact hM, hfm⟩) hP hD hS d_MG_hold_26
    · refine lv_iload_n (pc := 8) C0.1 C0.2.1 d_MG_hold_8 rfl (lv_at hl 2 rfl) ?_
      refine mz_lt (pc := 9) (tgt := 25) C0 (by omega) d_MG_hold_9 (by decide) ?_
      refine lv_iload_n (pc := 12) C0.1 C0.2.1 d_MG_hold_12 rfl (lv_at hl 2 rfl) ?_
      refine lv_iconst (pc := 13) (v := nI (1)) C0.1 C0.2.1 d_MG_hold_13 (by decide +kernel) ?_
      refine lv_aload_n (pc := 14) C0.1 C0.2.1 d_MG_hold_14 rfl (lv_at hl 0 rfl) ?_
      refine mg_get (pc := 15) C0 in_MG hK hP (0) f0 rfl 0 (by decide) fl_MG_14 rfl d_MG_hold_15 ?_
      refine mg_get (pc := 18) C0 in_SY hK hP (1) f1 rfl 0 (by decide) fl_MG_110 rfl d_MG_hold_18 ?_
      refine mn_shl1 (pc := 21) C0 (by omega) d_MG_hold_21 ?_
      refine mb_lt (pc := 22) (tgt := 27) C0 (by omega) (by omega) d_MG_hold_22 (by decide) (fun hc => ?_) (fun hc => ?_)
      · have E : sp_hold n (len, tx, pc, rk, gc, gs) (nI i) (nI q) = sp_new (len, tx, pc, rk, gc, gs) (su_hd n (gs i) q) := by simp only [sp_hold, he, he2]
        refine lv_aload_n (pc := 27) C0.1 C0.2.1 d_MG_hold_27 rfl (lv_at hl 0 rfl) ?_
        refine mg_ci (pc := 28) (As := []) (rest := []) C0 (c_MG_group l D ca ad h2 h6 ws0 hM) lk_MG_116 (by decide) f0 rfl hK hP hD hS hA rfl hl.1 rfl (Nat.le_of_ble_eq_true rfl) d_MG_hold_28 (fun rv ws H locs hpost hP hD hS => ?_)
        obtain ⟨hr1, hM1, hfr⟩ := hpost
        have hfm : ∀ j, 52 ≤ j → ws[j]? = ws0[j]? := fun j hj => (hfr j (by omega)).trans (hfm j hj)
        by_cases h12 : gc < 12
        · have EG : sp_group (len, tx, pc, rk, gc, gs) = (nI gc, (len, tx, pc, rk, gc + 1, sp_up gs gc su_one)) := if_pos h12
          rw [EG] at hr1 hM1
          refine mg_top (show rv = nI (gc) from hr1) ?_
          have hM2 := hM1
          obtain ⟨f0, hsy, hct, hli, ⟨R, f7, hR⟩, ⟨gr, f9, hgr⟩, hraw, hgs, hp, hrk, hg⟩ := hM2
          have f1 := hsy.1
          have EN : sp_new (len, tx, pc, rk, gc, gs) (su_hd n (gs i) q) = (nI gc, (len, tx, pc, rk, gc + 1, sp_up gs gc (su_hd n (gs i) q))) := if_pos h12
          refine lv_istore_n (pc := 31) (lv' := [(3, .int (nI (gc))), (0, .ref (ad 0)), (1, .int (nI (i))), (2, .int (nI (q)))]) C0.1 C0.2.1 d_MG_hold_31 rfl hl (by decide) rfl (fun ls hl => ?_)
          refine lv_iload_n (pc := 32) C0.1 C0.2.1 d_MG_hold_32 rfl (lv_at hl 0 rfl) ?_
          refine lv_iconst (pc := 33) (v := (-1)) C0.1 C0.2.1 d_MG_hold_33 (by decide +kernel) ?_
          refine lv_icmp_eq (pc := 34) (tgt := 53) C0.1 C0.2.1 d_MG_hold_34 (by decide) (fun hc => ?_) (fun hc => ?_)
          · exact absurd hc (nb_ne1 (by omega))
          · obtain ⟨sz, f, g, kc, fo, fm, fg⟩ := hraw gc (by omega)
            have hsua : ∃ (G : Nat → Nat) (k : Nat), su_ok ca ad n i ws (gs i) G k := by
              have h9 := hgs i (by omega)
              rw [sp_un _ _ (by omega)] at h9
              exact h9
            obtain ⟨Ga, ka, hsua⟩ := hsua
            refine lv_aload_n (pc := 37) C0.1 C0.2.1 d_MG_hold_37 rfl (lv_at hl 1 rfl) ?_
            refine mg_get (pc := 38) C0 in_MG hK hP (0) f0 rfl 4 (by decide) fl_MG_38 rfl d_MG_hold_38 ?_
            refine lv_iload_n (pc := 41) C0.1 C0.2.1 d_MG_hold_41 rfl (lv_at hl 0 rfl) ?_
            refine mg_ald (pc := 42) C0 hK hP (9) 4 f9 rfl (j := gc) (b := ad (10 + 3 * gc)) (by omega) (by omega) (hgr gc (by omega)) d_MG_hold_42 ?_
            refine lv_iload_n (pc := 43) C0.1 C0.2.1 d_MG_hold_43 rfl (lv_at hl 3 rfl) ?_
            refine lv_aload_n (pc := 44) C0.1 C0.2.1 d_MG_hold_44 rfl (lv_at hl 1 rfl) ?_
            refine mg_get (pc := 45) C0 in_MG hK hP (0) f0 rfl 4 (by decide) fl_MG_38 rfl d_MG_hold_45 ?_
            refine lv_iload_n (pc := 48) C0.1 C0.2.1 d_MG_hold_48 rfl (lv_at hl 2 rfl) ?_
            refine mg_ald (pc := 49) C0 hK hP (9) 4 f9 rfl (j := i) (b := ad (10 + 3 * i)) (by omega) (by omega) (hgr i (by omega)) d_MG_hold_49 ?_
            refine mg_cv (pc := 50) (As := [.int (nI (q)), .ref (ad (10 + 3 * i))]) (rest := []) C0 (c_SU_becomeHolderOf l D ca ad h2 h6 (by omega) (by omega) ws hsy hli hsua fo fm fg) lk_MG_119 (by decide) fo rfl hK hP hD hS hA rfl hl.1 rfl (Nat.le_of_ble_eq_true rfl) d_MG_hold_50 (fun ws H locs hpost hP hD hS => ?_)
            obtain ⟨hfr, hsy, hli, G1, k1, hsu⟩ := hpost
            have hfm : ∀ j, 52 ≤ j → ws[j]? = ws0[j]? := fun j hj => (hfr j (by omega)).trans (hfm j hj)
            have hM3 := mgw_su hM1 (Nat.lt_succ_self gc) hfr hsy hli hsu
            rw [sp_uu] at hM3
            refine lv_iload_n (pc := 53) C0.1 C0.2.1 d_MG_hold_53 rfl (lv_at hl 0 rfl) ?_
            exact hret _ _ _ _ 54 _ (rfl) (⟨by rw [E, EN], by rw [E, EN]; exact hM3, hfm⟩) hP hD hS d_MG_hold_54
        · have EG : sp_group (len, tx, pc, rk, gc, gs) = ((-1), (len, tx, pc, rk, gc, gs)) := if_neg h12
          rw [EG] at hr1 hM1
          refine mg_top (show rv = (-1) from hr1) ?_
          have EN : sp_new (len, tx, pc, rk, gc, gs) (su_hd n (gs i) q) = ((-1), (len, tx, pc, rk, gc, gs)) := if_neg h12
          refine lv_istore_n (pc := 31) (lv' := [(3, .int ((-1))), (0, .ref (ad 0)), (1, .int (nI (i))), (2, .int (nI (q)))]) C0.1 C0.2.1 d_MG_hold_31 rfl hl (by decide) rfl (fun ls hl => ?_)
          refine lv_iload_n (pc := 32) C0.1 C0.2.1 d_MG_hold_32 rfl (lv_at hl 0 rfl) ?_
          refine lv_iconst (pc := 33) (v := (-1)) C0.1 C0.2.1 d_MG_hold_33 (by decide +kernel) ?_
          refine lv_icmp_eq (pc := 34) (tgt := 53) C0.1 C0.2.1 d_MG_hold_34 (by decide) (fun hc => ?_) (fun hc => ?_)
          · refine lv_iload_n (pc := 53) C0.1 C0.2.1 d_MG_hold_53 rfl (lv_at hl 0 rfl) ?_
            exact hret _ _ _ _ 54 _ (rfl) (⟨by rw [E, EN], by rw [E, EN]; exact hM1, hfm⟩) hP hD hS d_MG_hold_54
          · exact absurd rfl hc
      · exact absurd hc (by omega)
set_option maxHeartbeats 4000000 in
set_option maxRecDepth 100000 in
theorem c_MG_closure (l : Launch) (D : va_G) (ca : Nat → ClassId) (ad : Nat → Nat) {n : Nat} (h2 : 2 ≤ n) (h6 : n ≤ 6) {len : Nat} {tx : Nat → Nat} {pc : Nat} {rk : Nat → Nat} {gc : Nat} {gs : Nat → Nat → Bool} {a b : Int32} (ws0 : va_W) (h : MGW ca ad n (len, tx, pc, rk, gc, gs) ws0) : mg_I l y_MG_closure b_MG_closure 4 (.int) 8 D classes (tys_ ca) [.ref (ad 0), .int (a), .int (b)] ws0 (fun v w => v = (sp_closure n (len, tx, pc, rk, gc, gs) a b).1 ∧ MGW ca ad n (sp_closure n (len, tx, pc, rk, gc, gs) a b).2 w ∧ ∀ j, 52 ≤ j → w[j]? = ws0[j]?) := by
  have hM := h
  obtain ⟨z0, hsy, hct, hli, ⟨R, z7, hR⟩, ⟨gr, z9, hgr⟩, hraw, hgs, hp, hrk, hg⟩ := h
  have z1 := hsy.1
  have hN := pm_fc_le h6
  have g0 := pm_gp h2 h6
  refine mg_openI (own := R_MG) rfl (by decide) (Nat.le_of_ble_eq_true rfl) ?_
  intro p e s m args below meth c A Q ls C0 hK hA hP hD hS hl hret
  have hl : lv_has ls 4 [(0, .ref (ad 0)), (1, .int (a)), (2, .int (b))] := hl
  have f0 := z0
  have f1 := z1
  have f7 := z7
  have f9 := z9
  have hfm : ∀ j, 52 ≤ j → ws0[j]? = ws0[j]? := fun _ _ => rfl
  have hk_ : pc < 2 ^ 31 ∧ gc < 2 ^ 31 := ⟨by omega, by omega⟩
  rcases sp_ix_or a (k := gc) (by omega) with ⟨hb_i, he⟩ | ⟨i, hi, rfl, he⟩
  · refine lv_aload_n (pc := 0) C0.1 C0.2.1 d_MG_closure_0 rfl (lv_at hl 0 rfl) ?_
    refine lv_iload_n (pc := 1) C0.1 C0.2.1 d_MG_closure_1 rfl (lv_at hl 1 rfl) ?_
    refine mg_ci (pc := 2) (As := [.int (a)]) (rest := []) C0 (c_MG_isGroup0 l D ca ad hb_i ws0 f0) lk_MG_94 (by decide) f0 rfl hK hP hD hS hA rfl hl.1 rfl (Nat.le_of_ble_eq_true rfl) d_MG_closure_2 (fun rv ws1 H locs hpost hP hD hS => ?_)
    obtain ⟨hr1, hw⟩ := hpost
    rw [hw] at hP hD
    refine mg_top (show rv = nI (0) from hr1) ?_
    refine mz_eq (pc := 5) (tgt := 16) C0 (by decide) d_MG_closure_5 (by decide) (fun _ => ?_) (fun h9 => absurd rfl h9)
    have E : sp_closure n (len, tx, pc, rk, gc, gs) a b = ((-1), (len, tx, pc, rk, gc, gs)) := by simp only [sp_closure, he]
    refine lv_iconst (pc := 16) (v := (-1)) C0.1 C0.2.1 d_MG_closure_16 (by decide +kernel) ?_
    exact hret _ _ _ _ 17 _ (rfl) (⟨by rw [E], by rw [E]; exact hM, hfm⟩) hP hD hS d_MG_closure_17
  · refine lv_aload_n (pc := 0) C0.1 C0.2.1 d_MG_closure_0 rfl (lv_at hl 0 rfl) ?_
    refine lv_iload_n (pc := 1) C0.1 C0.2.1 d_MG_closure_1 rfl (lv_at hl 1 rfl) ?_
    refine mg_ci (pc := 2) (As := [.int (nI (i))]) (rest := []) C0 (c_MG_isGroup1 l D ca ad hi hk_ ws0 f0) lk_MG_94 (by decide) f0 rfl hK hP hD hS hA rfl hl.1 rfl (Nat.le_of_ble_eq_true rfl) d_MG_closure_2 (fun rv ws1 H locs hpost hP hD hS => ?_)
    obtain ⟨hr1, hw⟩ := hpost
    rw [hw] at hP hD
    refine mg_top (show rv = nI (1) from hr1) ?_
    refine mz_eq (pc := 5) (tgt := 16) C0 (by decide) d_MG_closure_5 (by decide) (fun h9 => absurd h9 (by decide)) (fun _ => ?_)
    refine lv_aload_n (pc := 8) C0.1 C0.2.1 d_MG_closure_8 rfl (lv_at hl 0 rfl) ?_
    refine lv_iload_n (pc := 9) C0.1 C0.2.1 d_MG_closure_9 rfl (lv_at hl 2 rfl) ?_
    rcases sp_ix_or b (k := gc) (by omega) with ⟨hb_q, he2⟩ | ⟨q, hq, rfl, he2⟩
    · refine mg_ci (pc := 10) (As := [.int (b)]) (rest := []) C0 (c_MG_isGroup0 l D ca ad hb_q ws0 f0) lk_MG_94 (by decide) f0 rfl hK hP hD hS hA rfl hl.1 rfl (Nat.le_of_ble_eq_true rfl) d_MG_closure_10 (fun rv ws1 H locs hpost hP hD hS => ?_)
      obtain ⟨hr1, hw⟩ := hpost
      rw [hw] at hP hD
      refine mg_top (show rv = nI (0) from hr1) ?_
      refine mz_ne (pc := 13) (tgt := 18) C0 (by decide) d_MG_closure_13 (by decide) (fun h9 => absurd rfl h9) (fun _ => ?_)
      have E : sp_closure n (len, tx, pc, rk, gc, gs) (nI i) b = ((-1), (len, tx, pc, rk, gc, gs)) := by simp only [sp_closure, he, he2]
      refine lv_iconst (pc := 16) (v := (-1)) C0.1 C0.2.1 d_MG_closure_16 (by decide +kernel) ?_
      exact hret _ _ _ _ 17 _ (rfl) (⟨by rw [E], by rw [E]; exact hM, hfm⟩) hP hD hS d_MG_closure_17
    · refine mg_ci (pc := 10) (As := [.int (nI (q))]) (rest := []) C0 (c_MG_isGroup1 l D ca ad hq hk_ ws0 f0) lk_MG_94 (by decide) f0 rfl hK hP hD hS hA rfl hl.1 rfl (Nat.le_of_ble_eq_true rfl) d_MG_closure_10 (fun rv ws1 H locs hpost hP hD hS => ?_)
      obtain ⟨hr1, hw⟩ := hpost
      rw [hw] at hP hD
      refine mg_top (show rv = nI (1) from hr1) ?_
      refine mz_ne (pc := 13) (tgt := 18) C0 (by decide) d_MG_closure_13 (by decide) (fun _ => ?_) (fun h9 => absurd h9 (by decide))
      have E : sp_closure n (len, tx, pc, rk, gc, gs) (nI i) (nI q) = sp_new (len, tx, pc, rk, gc, gs) (sp_clo n (gs i) (gs q)) := by simp only [sp_closure, he, he2]
      refine lv_aload_n (pc := 18) C0.1 C0.2.1 d_MG_closure_18 rfl (lv_at hl 0 rfl) ?_
      refine mg_ci (pc := 19) (As := []) (rest := []) C0 (c_MG_group l D ca ad h2 h6 ws0 hM) lk_MG_116 (by decide) f0 rfl hK hP hD hS hA rfl hl.1 rfl (Nat.le_of_ble_eq_true rfl) d_MG_closure_19 (fun rv ws H locs hpost hP hD hS => ?_)
      obtain ⟨hr1, hM1, hfr⟩ := hpost
      have hfm : ∀ j, 52 ≤ j → ws[j]? = ws0[j]? := fun j hj => (hfr j (by omega)).trans (hfm j hj)
      by_cases h12 : gc < 12
      · have EG : sp_group (len, tx, pc, rk, gc, gs) = (nI gc, (len, tx, pc, rk, gc + 1, sp_up gs gc su_one)) := if_pos h12
        rw [EG] at hr1 hM1
        refine mg_top (show rv = nI (gc) from hr1) ?_
        have hM2 := hM1
        obtain ⟨f0, hsy, hct, hli, ⟨R, f7, hR⟩, ⟨gr, f9, hgr⟩, hraw, hgs, hp, hrk, hg⟩ := hM2
        have f1 := hsy.1
        have EN : sp_new (len, tx, pc, rk, gc, gs) (sp_clo n (gs i) (gs q)) = (nI gc, (len, tx, pc, rk, gc + 1, sp_up gs gc (sp_clo n (gs i) (gs q)))) := if_pos h12
        refine lv_istore_n (pc := 22) (lv' := [(3, .int (nI (gc))), (0, .ref (ad 0)), (1, .int (nI (i))), (2, .int (nI (q)))]) C0.1 C0.2.1 d_MG_closure_22 rfl hl (by decide) rfl (fun ls hl => ?_)
        refine lv_iload_n (pc := 23) C0.1 C0.2.1 d_MG_closure_23 rfl (lv_at hl 0 rfl) ?_
        refine lv_iconst (pc := 24) (v := (-1)) C0.1 C0.2.1 d_MG_closure_24 (by decide +kernel) ?_
        refine lv_icmp_eq (pc := 25) (tgt := 58) C0.1 C0.2.1 d_MG_closure_25 (by decide) (fun hc => ?_) (fun hc => ?_)
        · exact absurd hc (nb_ne1 (by omega))
        · obtain ⟨sz, f, g, kc, fo, fm, fg⟩ := hraw gc (by omega)
          have hsua : ∃ (G : Nat → Nat) (k : Nat), su_ok ca ad n i ws (gs i) G k := by
            have h9 := hgs i (by omega)
            rw [sp_un _ _ (by omega)] at h9
            exact h9
          obtain ⟨Ga, ka, hsua⟩ := hsua
          have hsub : ∃ (G : Nat → Nat) (k : Nat), su_ok ca ad n q ws (gs q) G k := by
            have h9 := hgs q (by omega)
            rw [sp_un _ _ (by omega)] at h9
            exact h9
          obtain ⟨Gb, kb, hsub⟩ := hsub
          refine lv_aload_n (pc := 28) C0.1 C0.2.1 d_MG_closure_28 rfl (lv_at hl 1 rfl) ?_
          refine mg_get (pc := 29) C0 in_MG hK hP (0) f0 rfl 4 (by decide) fl_MG_38 rfl d_MG_closure_29 ?_
          refine lv_iload_n (pc := 32) C0.1 C0.2.1 d_MG_closure_32 rfl (lv_at hl 0 rfl) ?_
          refine mg_ald (pc := 33) C0 hK hP (9) 4 f9 rfl (j := gc) (b := ad (10 + 3 * gc)) (by omega) (by omega) (hgr gc (by omega)) d_MG_closure_33 ?_
          refine lv_aload_n (pc := 34) C0.1 C0.2.1 d_MG_closure_34 rfl (lv_at hl 1 rfl) ?_
          refine mg_get (pc := 35) C0 in_MG hK hP (0) f0 rfl 4 (by decide) fl_MG_38 rfl d_MG_closure_35 ?_
          refine lv_iload_n (pc := 38) C0.1 C0.2.1 d_MG_closure_38 rfl (lv_at hl 3 rfl) ?_
          refine mg_ald (pc := 39) C0 hK hP (9) 4 f9 rfl (j := q) (b := ad (10 + 3 * q)) (by omega) (by omega) (hgr q (by omega)) d_MG_closure_39 ?_
          refine mg_cv (pc := 40) (As := [.ref (ad (10 + 3 * q))]) (rest := []) C0 (c_SU_becomeCopyOf l D ca ad h2 h6 (by omega) ws hsub fo fm fg) lk_MG_130 (by decide) fo rfl hK hP hD hS hA rfl hl.1 rfl (Nat.le_of_ble_eq_true rfl) d_MG_closure_40 (fun ws H locs hpost hP hD hS => ?_)
          obtain ⟨hfr, hsu⟩ := hpost
          have f0 := (hfr (0) (by omega)).trans f0
          have f1 := (hfr (1) (by omega)).trans f1
          have f7 := (hfr (7) (by omega)).trans f7
          have f9 := (hfr (9) (by omega)).trans f9
          have hsy := sy_fr (hfr (1) (by omega)) (hfr (2) (by omega)) (hfr (3) (by omega)) hsy
          have hli := li_fr (hfr (8) (by omega)) hli
          have hsua := su_fr (hfr (10 + 3 * i) (by omega)) (hfr (11 + 3 * i) (by omega)) (hfr (12 + 3 * i) (by omega)) hsua
          have hfm : ∀ j, 52 ≤ j → ws[j]? = ws0[j]? := fun j hj => (hfr j (by omega)).trans (hfm j hj)
          have hfC := hfr
          have hsux := hsu
          obtain ⟨f_, g_, ⟨fo, fm, fg⟩, -⟩ := hsux
          refine lv_aload_n (pc := 43) C0.1 C0.2.1 d_MG_closure_43 rfl (lv_at hl 1 rfl) ?_
          refine mg_get (pc := 44) C0 in_MG hK hP (0) f0 rfl 4 (by decide) fl_MG_38 rfl d_MG_closure_44 ?_
          refine lv_iload_n (pc := 47) C0.1 C0.2.1 d_MG_closure_47 rfl (lv_at hl 0 rfl) ?_
          refine mg_ald (pc := 48) C0 hK hP (9) 4 f9 rfl (j := gc) (b := ad (10 + 3 * gc)) (by omega) (by omega) (hgr gc (by omega)) d_MG_closure_48 ?_
          refine lv_aload_n (pc := 49) C0.1 C0.2.1 d_MG_closure_49 rfl (lv_at hl 1 rfl) ?_
          refine mg_get (pc := 50) C0 in_MG hK hP (0) f0 rfl 4 (by decide) fl_MG_38 rfl d_MG_closure_50 ?_
          refine lv_iload_n (pc := 53) C0.1 C0.2.1 d_MG_closure_53 rfl (lv_at hl 2 rfl) ?_
          refine mg_ald (pc := 54) C0 hK hP (9) 4 f9 rfl (j := i) (b := ad (10 + 3 * i)) (by omega) (by omega) (hgr i (by omega)) d_MG_closure_54 ?_
          refine mg_cv (pc := 55) (As := [.ref (ad (10 + 3 * i))]) (rest := []) C0 (c_SU_growUntilKeptBy l D ca ad h2 h6 (by omega) ws hsy hli hsu hsua) lk_MG_134 (by decide) fo rfl hK hP hD hS hA rfl hl.1 rfl (Nat.le_of_ble_eq_true rfl) d_MG_closure_55 (fun ws H locs hpost hP hD hS => ?_)
          obtain ⟨hfr, hsy, hli, S2, G2, k2, hsu, hmo, hcl, hm2⟩ := hpost
          have hfm : ∀ j, 52 ≤ j → ws[j]? = ws0[j]? := fun j hj => (hfr j (by omega)).trans (hfm j hj)
          have hsu2 := hsu
          obtain ⟨-, -, -, -, -, hgen2, -⟩ := hsu2
          obtain ⟨-, -, -, -, -, hgenA, -⟩ := hsua
          have e1 := sp_clo_eq (gp_cloC g0 hgen2 hgenA hmo hcl hm2)
          rw [e1] at E EN
          have hM3 := mgw_su hM1 (Nat.lt_succ_self gc) (fun j hj => (hfr j hj).trans (hfC j (by omega))) hsy hli hsu
          rw [sp_uu] at hM3
          refine lv_iload_n (pc := 58) C0.1 C0.2.1 d_MG_closure_58 rfl (lv_at hl 0 rfl) ?_
          exact hret _ _ _ _ 59 _ (rfl) (⟨by rw [E, EN], by rw [E, EN]; exact hM3, hfm⟩) hP hD hS d_MG_closure_59
      · have EG : sp_group (len, tx, pc, rk, gc, gs) = ((-1), (len, tx, pc, rk, gc, gs)) := if_neg h12
        rw [EG] at hr1 hM1
        refine mg_top (show rv = (-1) from hr1) ?_
        have EN : sp_new (len, tx, pc, rk, gc, gs) (sp_clo n (gs i) (gs q)) = ((-1), (len, tx, pc, rk, gc, gs)) := if_neg h12
        refine lv_istore_n (pc := 22) (lv' := [(3, .int ((-1))), (0, .ref (ad 0)), (1, .int (nI (i))), (2, .int (nI (q)))]) C0.1 C0.2.1 d_MG_closure_22 rfl hl (by decide) rfl (fun ls hl => ?_)
        refine lv_iload_n (pc := 23) C0.1 C0.2.1 d_MG_closure_23 rfl (lv_at hl 0 rfl) ?_
        refine lv_iconst (pc := 24) (v := (-1)) C0.1 C0.2.1 d_MG_closure_24 (by decide +kernel) ?_
        refine lv_icmp_eq (pc := 25) (tgt := 58) C0.1 C0.2.1 d_MG_closure_25 (by decide) (fun hc => ?_) (fun hc => ?_)
        · refine lv_iload_n (pc := 58) C0.1 C0.2.1 d_MG_closure_58 rfl (lv_at hl 0 rfl) ?_
          exact hret _ _ _ _ 59 _ (rfl) (⟨by rw [E, EN], by rw [E, EN]; exact hM1, hfm⟩) hP hD hS d_MG_closure_59
        · exact absurd rfl hc
set_option maxHeartbeats 4000000 in
set_option maxRecDepth 100000 in
theorem c_MG_derived (l : Launch) (D : va_G) (ca : Nat → ClassId) (ad : Nat → Nat) {n : Nat} (h2 : 2 ≤ n) (h6 : n ≤ 6) {len : Nat} {tx : Nat → Nat} {pc : Nat} {rk : Nat → Nat} {gc : Nat} {gs : Nat → Nat → Bool} {a : Int32} (ws0 : va_W) (h : MGW ca ad n (len, tx, pc, rk, gc, gs) ws0) : mg_I l y_MG_derived b_MG_derived 3 (.int) 8 D classes (tys_ ca) [.ref (ad 0), .int (a)] ws0 (fun v w => v = (sp_derived n (len, tx, pc, rk, gc, gs) a).1 ∧ MGW ca ad n (sp_derived n (len, tx, pc, rk, gc, gs) a).2 w ∧ ∀ j, 52 ≤ j → w[j]? = ws0[j]?) := by
  have hM := h
  obtain ⟨z0, hsy, hct, hli, ⟨R, z7, hR⟩, ⟨gr, z9, hgr⟩, hraw, hgs, hp, hrk, hg⟩ := h
  have z1 := hsy.1
  have hN := pm_fc_le h6
  have g0 := pm_gp h2 h6
  refine mg_openI (own := R_MG) rfl (by decide) (Nat.le_of_ble_eq_true rfl) ?_
  intro p e s m args below meth c A Q ls C0 hK hA hP hD hS hl hret
  have hl : lv_has ls 3 [(0, .ref (ad 0)), (1, .int (a))] := hl
  have f0 := z0
  have f1 := z1
  have f7 := z7
  have f9 := z9
  have hfm : ∀ j, 52 ≤ j → ws0[j]? = ws0[j]? := fun _ _ => rfl
  have hk_ : pc < 2 ^ 31 ∧ gc < 2 ^ 31 := ⟨by omega, by omega⟩
  rcases sp_ix_or a (k := gc) (by omega) with ⟨hb_i, he⟩ | ⟨i, hi, rfl, he⟩
  · refine lv_aload_n (pc := 0) C0.1 C0.2.1 d_MG_derived_0 rfl (lv_at hl 0 rfl) ?_
    refine lv_iload_n (pc := 1) C0.1 C0.2.1 d_MG_derived_1 rfl (lv_at hl 1 rfl) ?_
    refine mg_ci (pc := 2) (As := [.int (a)]) (rest := []) C0 (c_MG_isGroup0 l D ca ad hb_i ws0 f0) lk_MG_94 (by decide) f0 rfl hK hP hD hS hA rfl hl.1 rfl (Nat.le_of_ble_eq_true rfl) d_MG_derived_2 (fun rv ws1 H locs hpost hP hD hS => ?_)
    obtain ⟨hr1, hw⟩ := hpost
    rw [hw] at hP hD
    refine mg_top (show rv = nI (0) from hr1) ?_
    refine mz_ne (pc := 5) (tgt := 10) C0 (by decide) d_MG_derived_5 (by decide) (fun h9 => absurd rfl h9) (fun _ => ?_)
    have E : sp_derived n (len, tx, pc, rk, gc, gs) a = ((-1), (len, tx, pc, rk, gc, gs)) := by simp only [sp_derived, he]
    refine lv_iconst (pc := 8) (v := (-1)) C0.1 C0.2.1 d_MG_derived_8 (by decide +kernel) ?_
    exact hret _ _ _ _ 9 _ (rfl) (⟨by rw [E], by rw [E]; exact hM, hfm⟩) hP hD hS d_MG_derived_9
  · refine lv_aload_n (pc := 0) C0.1 C0.2.1 d_MG_derived_0 rfl (lv_at hl 0 rfl) ?_
    refine lv_iload_n (pc := 1) C0.1 C0.2.1 d_MG_derived_1 rfl (lv_at hl 1 rfl) ?_
    refine mg_ci (pc := 2) (As := [.int (nI (i))]) (rest := []) C0 (c_MG_isGroup1 l D ca ad hi hk_ ws0 f0) lk_MG_94 (by decide) f0 rfl hK hP hD hS hA rfl hl.1 rfl (Nat.le_of_ble_eq_true rfl) d_MG_derived_2 (fun rv ws1 H locs hpost hP hD hS => ?_)
    obtain ⟨hr1, hw⟩ := hpost
    rw [hw] at hP hD
    refine mg_top (show rv = nI (1) from hr1) ?_
    refine mz_ne (pc := 5) (tgt := 10) C0 (by decide) d_MG_derived_5 (by decide) (fun _ => ?_) (fun h9 => absurd h9 (by decide))
    have E : sp_derived n (len, tx, pc, rk, gc, gs) (nI i) = sp_new (len, tx, pc, rk, gc, gs) (sp_der n (gs i)) := by simp only [sp_derived, he]
    refine lv_aload_n (pc := 10) C0.1 C0.2.1 d_MG_derived_10 rfl (lv_at hl 0 rfl) ?_
    refine mg_ci (pc := 11) (As := []) (rest := []) C0 (c_MG_group l D ca ad h2 h6 ws0 hM) lk_MG_116 (by decide) f0 rfl hK hP hD hS hA rfl hl.1 rfl (Nat.le_of_ble_eq_true rfl) d_MG_derived_11 (fun rv ws H locs hpost hP hD hS => ?_)
    obtain ⟨hr1, hM1, hfr⟩ := hpost
    have hfm : ∀ j, 52 ≤ j → ws[j]? = ws0[j]? := fun j hj => (hfr j (by omega)).trans (hfm j hj)
    by_cases h12 : gc < 12
    · have EG : sp_group (len, tx, pc, rk, gc, gs) = (nI gc, (len, tx, pc, rk, gc + 1, sp_up gs gc su_one)) := if_pos h12
      rw [EG] at hr1 hM1
      refine mg_top (show rv = nI (gc) from hr1) ?_
      have hM2 := hM1
      obtain ⟨f0, hsy, hct, hli, ⟨R, f7, hR⟩, ⟨gr, f9, hgr⟩, hraw, hgs, hp, hrk, hg⟩ := hM2
      have f1 := hsy.1
      have EN : sp_new (len, tx, pc, rk, gc, gs) (sp_der n (gs i)) = (nI gc, (len, tx, pc, rk, gc + 1, sp_up gs gc (sp_der n (gs i)))) := if_pos h12
      refine lv_istore_n (pc := 14) (lv' := [(2, .int (nI (gc))), (0, .ref (ad 0)), (1, .int (nI (i)))]) C0.1 C0.2.1 d_MG_derived_14 rfl hl (by decide) rfl (fun ls hl => ?_)
      refine lv_iload_n (pc := 15) C0.1 C0.2.1 d_MG_derived_15 rfl (lv_at hl 0 rfl) ?_
      refine lv_iconst (pc := 16) (v := (-1)) C0.1 C0.2.1 d_MG_derived_16 (by decide +kernel) ?_
      refine lv_icmp_eq (pc := 17) (tgt := 35) C0.1 C0.2.1 d_MG_derived_17 (by decide) (fun hc => ?_) (fun hc => ?_)
      · exact absurd hc (nb_ne1 (by omega))
      · obtain ⟨sz, f, g, kc, fo, fm, fg⟩ := hraw gc (by omega)
        have hsua : ∃ (G : Nat → Nat) (k : Nat), su_ok ca ad n i ws (gs i) G k := by
          have h9 := hgs i (by omega)
          rw [sp_un _ _ (by omega)] at h9
          exact h9
        obtain ⟨Ga, ka, hsua⟩ := hsua
        refine lv_aload_n (pc := 20) C0.1 C0.2.1 d_MG_derived_20 rfl (lv_at hl 1 rfl) ?_
        refine mg_get (pc := 21) C0 in_MG hK hP (0) f0 rfl 4 (by decide) fl_MG_38 rfl d_MG_derived_21 ?_
        refine lv_iload_n (pc := 24) C0.1 C0.2.1 d_MG_derived_24 rfl (lv_at hl 0 rfl) ?_
        refine mg_ald (pc := 25) C0 hK hP (9) 4 f9 rfl (j := gc) (b := ad (10 + 3 * gc)) (by omega) (by omega) (hgr gc (by omega)) d_MG_derived_25 ?_
        refine lv_aload_n (pc := 26) C0.1 C0.2.1 d_MG_derived_26 rfl (lv_at hl 1 rfl) ?_
        refine mg_get (pc := 27) C0 in_MG hK hP (0) f0 rfl 4 (by decide) fl_MG_38 rfl d_MG_derived_27 ?_
        refine lv_iload_n (pc := 30) C0.1 C0.2.1 d_MG_derived_30 rfl (lv_at hl 2 rfl) ?_
        refine mg_ald (pc := 31) C0 hK hP (9) 4 f9 rfl (j := i) (b := ad (10 + 3 * i)) (by omega) (by omega) (hgr i (by omega)) d_MG_derived_31 ?_
        refine mg_cv (pc := 32) (As := [.ref (ad (10 + 3 * i))]) (rest := []) C0 (c_SU_becomeDerivedOf l D ca ad h2 h6 (by omega) ws hsy hli hsua fo fm fg) lk_MG_137 (by decide) fo rfl hK hP hD hS hA rfl hl.1 rfl (Nat.le_of_ble_eq_true rfl) d_MG_derived_32 (fun ws H locs hpost hP hD hS => ?_)
        obtain ⟨hfr, hsy, hli, S1, G1, k1, hsu, hder⟩ := hpost
        have hfm : ∀ j, 52 ≤ j → ws[j]? = ws0[j]? := fun j hj => (hfr j (by omega)).trans (hfm j hj)
        have e1 := sp_der_eq hder
        rw [e1] at E EN
        have hM3 := mgw_su hM1 (Nat.lt_succ_self gc) hfr hsy hli hsu
        rw [sp_uu] at hM3
        refine lv_iload_n (pc := 35) C0.1 C0.2.1 d_MG_derived_35 rfl (lv_at hl 0 rfl) ?_
        exact hret _ _ _ _ 36 _ (rfl) (⟨by rw [E, EN], by rw [E, EN]; exact hM3, hfm⟩) hP hD hS d_MG_derived_36
    · have EG : sp_group (len, tx, pc, rk, gc, gs) = ((-1), (len, tx, pc, rk, gc, gs)) := if_neg h12
      rw [EG] at hr1 hM1
      refine mg_top (show rv = (-1) from hr1) ?_
      have EN : sp_new (len, tx, pc, rk, gc, gs) (sp_der n (gs i)) = ((-1), (len, tx, pc, rk, gc, gs)) := if_neg h12
      refine lv_istore_n (pc := 14) (lv' := [(2, .int ((-1))), (0, .ref (ad 0)), (1, .int (nI (i)))]) C0.1 C0.2.1 d_MG_derived_14 rfl hl (by decide) rfl (fun ls hl => ?_)
      refine lv_iload_n (pc := 15) C0.1 C0.2.1 d_MG_derived_15 rfl (lv_at hl 0 rfl) ?_
      refine lv_iconst (pc := 16) (v := (-1)) C0.1 C0.2.1 d_MG_derived_16 (by decide +kernel) ?_
      refine lv_icmp_eq (pc := 17) (tgt := 35) C0.1 C0.2.1 d_MG_derived_17 (by decide) (fun hc => ?_) (fun hc => ?_)
      · refine lv_iload_n (pc := 35) C0.1 C0.2.1 d_MG_derived_35 rfl (lv_at hl 0 rfl) ?_
        exact hret _ _ _ _ 36 _ (rfl) (⟨by rw [E, EN], by rw [E, EN]; exact hM1, hfm⟩) hP hD hS d_MG_derived_36
      · exact absurd rfl hc
set_option maxHeartbeats 4000000 in
set_option maxRecDepth 100000 in
theorem c_MG_compare (l : Launch) (D : va_G) (ca : Nat → ClassId) (ad : Nat → Nat) {n : Nat} (h2 : 2 ≤ n) (h6 : n ≤ 6) {len : Nat} {tx : Nat → Nat} {pc : Nat} {rk : Nat → Nat} {gc : Nat} {gs : Nat → Nat → Bool} {a b : Int32} (ws0 : va_W) (h : MGW ca ad n (len, tx, pc, rk, gc, gs) ws0) : mg_I l y_MG_compare b_MG_compare 5 (.int) 4 D classes (tys_ ca) [.ref (ad 0), .int (a), .int (b)] ws0 (fun v w => v = (sp_compare n (len, tx, pc, rk, gc, gs) a b).1 ∧ MGW ca ad n (sp_compare n (len, tx, pc, rk, gc, gs) a b).2 w ∧ ∀ j, 52 ≤ j → w[j]? = ws0[j]?) := by
  have hM := h
  obtain ⟨z0, hsy, hct, hli, ⟨R, z7, hR⟩, ⟨gr, z9, hgr⟩, hraw, hgs, hp, hrk, hg⟩ := h
  have z1 := hsy.1
  have hN := pm_fc_le h6
  have g0 := pm_gp h2 h6
  refine mg_openI (own := R_MG) rfl (by decide) (Nat.le_of_ble_eq_true rfl) ?_
  intro p e s m args below meth c A Q ls C0 hK hA hP hD hS hl hret
  have hl : lv_has ls 5 [(0, .ref (ad 0)), (1, .int (a)), (2, .int (b))] := hl
  have f0 := z0
  have f1 := z1
  have f7 := z7
  have f9 := z9
  have hfm : ∀ j, 52 ≤ j → ws0[j]? = ws0[j]? := fun _ _ => rfl
  have hk_ : pc < 2 ^ 31 ∧ gc < 2 ^ 31 := ⟨by omega, by omega⟩
  rcases sp_ix_or a (k := gc) (by omega) with ⟨hb_i, he⟩ | ⟨i, hi, rfl, he⟩
  · refine lv_aload_n (pc := 0) C0.1 C0.2.1 d_MG_compare_0 rfl (lv_at hl 0 rfl) ?_
    refine lv_iload_n (pc := 1) C0.1 C0.2.1 d_MG_compare_1 rfl (lv_at hl 1 rfl) ?_
    refine mg_ci (pc := 2) (As := [.int (a)]) (rest := []) C0 (c_MG_isGroup0 l D ca ad hb_i ws0 f0) lk_MG_94 (by decide) f0 rfl hK hP hD hS hA rfl hl.1 rfl (Nat.le_of_ble_eq_true rfl) d_MG_compare_2 (fun rv ws1 H locs hpost hP hD hS => ?_)
    obtain ⟨hr1, hw⟩ := hpost
    rw [hw] at hP hD
    refine mg_top (show rv = nI (0) from hr1) ?_
    refine mz_eq (pc := 5) (tgt := 16) C0 (by decide) d_MG_compare_5 (by decide) (fun _ => ?_) (fun h9 => absurd rfl h9)
    have E : sp_compare n (len, tx, pc, rk, gc, gs) a b = ((-1), (len, tx, pc, rk, gc, gs)) := by simp only [sp_compare, he]
    refine lv_iconst (pc := 16) (v := (-1)) C0.1 C0.2.1 d_MG_compare_16 (by decide +kernel) ?_
    exact hret _ _ _ _ 17 _ (rfl) (⟨by rw [E], by rw [E]; exact hM, hfm⟩) hP hD hS d_MG_compare_17
  · refine lv_aload_n (pc := 0) C0.1 C0.2.1 d_MG_compare_0 rfl (lv_at hl 0 rfl) ?_
    refine lv_iload_n (pc := 1) C0.1 C0.2.1 d_MG_compare_1 rfl (lv_at hl 1 rfl) ?_
    refine mg_ci (pc := 2) (As := [.int (nI (i))]) (rest := []) C0 (c_MG_isGroup1 l D ca ad hi hk_ ws0 f0) lk_MG_94 (by decide) f0 rfl hK hP hD hS hA rfl hl.1 rfl (Nat.le_of_ble_eq_true rfl) d_MG_compare_2 (fun rv ws1 H locs hpost hP hD hS => ?_)
    obtain ⟨hr1, hw⟩ := hpost
    rw [hw] at hP hD
    refine mg_top (show rv = nI (1) from hr1) ?_
    refine mz_eq (pc := 5) (tgt := 16) C0 (by decide) d_MG_compare_5 (by decide) (fun h9 => absurd h9 (by decide)) (fun _ => ?_)
    refine lv_aload_n (pc := 8) C0.1 C0.2.1 d_MG_compare_8 rfl (lv_at hl 0 rfl) ?_
    refine lv_iload_n (pc := 9) C0.1 C0.2.1 d_MG_compare_9 rfl (lv_at hl 2 rfl) ?_
    rcases sp_ix_or b (k := gc) (by omega) with ⟨hb_q, he2⟩ | ⟨q, hq, rfl, he2⟩
    · refine mg_ci (pc := 10) (As := [.int (b)]) (rest := []) C0 (c_MG_isGroup0 l D ca ad hb_q ws0 f0) lk_MG_94 (by decide) f0 rfl hK hP hD hS hA rfl hl.1 rfl (Nat.le_of_ble_eq_true rfl) d_MG_compare_10 (fun rv ws1 H locs hpost hP hD hS => ?_)
      obtain ⟨hr1, hw⟩ := hpost
      rw [hw] at hP hD
      refine mg_top (show rv = nI (0) from hr1) ?_
      refine mz_ne (pc := 13) (tgt := 18) C0 (by decide) d_MG_compare_13 (by decide) (fun h9 => absurd rfl h9) (fun _ => ?_)
      have E : sp_compare n (len, tx, pc, rk, gc, gs) (nI i) b = ((-1), (len, tx, pc, rk, gc, gs)) := by simp only [sp_compare, he, he2]
      refine lv_iconst (pc := 16) (v := (-1)) C0.1 C0.2.1 d_MG_compare_16 (by decide +kernel) ?_
      exact hret _ _ _ _ 17 _ (rfl) (⟨by rw [E], by rw [E]; exact hM, hfm⟩) hP hD hS d_MG_compare_17
    · refine mg_ci (pc := 10) (As := [.int (nI (q))]) (rest := []) C0 (c_MG_isGroup1 l D ca ad hq hk_ ws0 f0) lk_MG_94 (by decide) f0 rfl hK hP hD hS hA rfl hl.1 rfl (Nat.le_of_ble_eq_true rfl) d_MG_compare_10 (fun rv ws1 H locs hpost hP hD hS => ?_)
      obtain ⟨hr1, hw⟩ := hpost
      rw [hw] at hP hD
      refine mg_top (show rv = nI (1) from hr1) ?_
      refine mz_ne (pc := 13) (tgt := 18) C0 (by decide) d_MG_compare_13 (by decide) (fun _ => ?_) (fun h9 => absurd h9 (by decide))
      obtain ⟨Ga, ka, hsua⟩ := hgs i hi
      have hsxa := hsua
      obtain ⟨fa_, ga_, ⟨foa, fma, fga⟩, hwda, hgGa, hgena, h2ka⟩ := hsxa
      have hcna := ma_cn_le (gs i) (pm_fc n)
      obtain ⟨Gb, kb, hsub⟩ := hgs q hq
      have hsxb := hsub
      obtain ⟨fb_, gb_, ⟨fob, fmb, fgb⟩, hwdb, hgGb, hgenb, h2kb⟩ := hsxb
      have hcnb := ma_cn_le (gs q) (pm_fc n)
      have E : sp_compare n (len, tx, pc, rk, gc, gs) (nI i) (nI q) = (nI ((if sp_sub n (gs i) (gs q) = true then 1 else 0) + (if sp_sub n (gs q) (gs i) = true then 2 else 0)), (len, tx, pc, rk, gc, gs)) := by simp only [sp_compare, he, he2]
      refine lv_aload_n (pc := 18) C0.1 C0.2.1 d_MG_compare_18 rfl (lv_at hl 0 rfl) ?_
      refine mg_get (pc := 19) C0 in_MG hK hP (0) f0 rfl 4 (by decide) fl_MG_38 rfl d_MG_compare_19 ?_
      refine lv_iload_n (pc := 22) C0.1 C0.2.1 d_MG_compare_22 rfl (lv_at hl 1 rfl) ?_
      refine mg_ald (pc := 23) C0 hK hP (9) 4 f9 rfl (j := i) (b := ad (10 + 3 * i)) (by omega) (by omega) (hgr i (by omega)) d_MG_compare_23 ?_
      refine lv_aload_n (pc := 24) C0.1 C0.2.1 d_MG_compare_24 rfl (lv_at hl 0 rfl) ?_
      refine mg_get (pc := 25) C0 in_MG hK hP (0) f0 rfl 4 (by decide) fl_MG_38 rfl d_MG_compare_25 ?_
      refine lv_iload_n (pc := 28) C0.1 C0.2.1 d_MG_compare_28 rfl (lv_at hl 2 rfl) ?_
      refine mg_ald (pc := 29) C0 hK hP (9) 4 f9 rfl (j := q) (b := ad (10 + 3 * q)) (by omega) (by omega) (hgr q (by omega)) d_MG_compare_29 ?_
      refine mg_ci (pc := 30) (As := [.ref (ad (10 + 3 * q))]) (rest := []) C0 (c_SU_liesIn l D ca ad h2 h6 ws0 hsua hsub) lk_MG_123 (by decide) foa rfl hK hP hD hS hA rfl hl.1 rfl (Nat.le_of_ble_eq_true rfl) d_MG_compare_30 (fun rv ws1 H locs hpost hP hD hS => ?_)
      obtain ⟨hr1, hw⟩ := hpost
      rw [hw] at hP hD
      rcases hr1 with ⟨rfl, hs1⟩ | ⟨rfl, x1, hx1, hy1⟩
      · have e1 : sp_sub n (gs i) (gs q) = true := sp_sub1 hs1
        refine lv_istore_n (pc := 33) (lv' := [(3, .int (nI (1))), (0, .ref (ad 0)), (1, .int (nI (i))), (2, .int (nI (q)))]) C0.1 C0.2.1 d_MG_compare_33 rfl hl (by decide) rfl (fun ls hl => ?_)
        refine lv_aload_n (pc := 34) C0.1 C0.2.1 d_MG_compare_34 rfl (lv_at hl 1 rfl) ?_
        refine mg_get (pc := 35) C0 in_MG hK hP (0) f0 rfl 4 (by decide) fl_MG_38 rfl d_MG_compare_35 ?_
        refine lv_iload_n (pc := 38) C0.1 C0.2.1 d_MG_compare_38 rfl (lv_at hl 3 rfl) ?_
        refine mg_ald (pc := 39) C0 hK hP (9) 4 f9 rfl (j := q) (b := ad (10 + 3 * q)) (by omega) (by omega) (hgr q (by omega)) d_MG_compare_39 ?_
        refine lv_aload_n (pc := 40) C0.1 C0.2.1 d_MG_compare_40 rfl (lv_at hl 1 rfl) ?_
        refine mg_get (pc := 41) C0 in_MG hK hP (0) f0 rfl 4 (by decide) fl_MG_38 rfl d_MG_compare_41 ?_
        refine lv_iload_n (pc := 44) C0.1 C0.2.1 d_MG_compare_44 rfl (lv_at hl 2 rfl) ?_
        refine mg_ald (pc := 45) C0 hK hP (9) 4 f9 rfl (j := i) (b := ad (10 + 3 * i)) (by omega) (by omega) (hgr i (by omega)) d_MG_compare_45 ?_
        refine mg_ci (pc := 46) (As := [.ref (ad (10 + 3 * i))]) (rest := []) C0 (c_SU_liesIn l D ca ad h2 h6 ws0 hsub hsua) lk_MG_123 (by decide) fob rfl hK hP hD hS hA rfl hl.1 rfl (Nat.le_of_ble_eq_true rfl) d_MG_compare_46 (fun rv ws1 H locs hpost hP hD hS => ?_)
        obtain ⟨hr2, hw⟩ := hpost
        rw [hw] at hP hD
        rcases hr2 with ⟨rfl, hs2⟩ | ⟨rfl, x2, hx2, hy2⟩
        · have e2 : sp_sub n (gs q) (gs i) = true := sp_sub1 hs2
          rw [e1, e2] at E
          refine lv_istore (pc := 49) (lv' := [(4, .int (nI (1))), (3, .int (nI (1))), (0, .ref (ad 0)), (1, .int (nI (i))), (2, .int (nI (q)))]) C0.1 C0.2.1 d_MG_compare_49 hl (by decide) rfl (fun ls hl => ?_)
          refine lv_iload_n (pc := 51) C0.1 C0.2.1 d_MG_compare_51 rfl (lv_at hl 1 rfl) ?_
          refine mz_eq (pc := 52) (tgt := 66) C0 (by decide) d_MG_compare_52 (by decide) (fun h9 => absurd h9 (by decide)) (fun _ => ?_)
          refine lv_iload (pc := 55) C0.1 C0.2.1 d_MG_compare_55 (lv_at hl 0 rfl) ?_
          refine mz_eq (pc := 57) (tgt := 64) C0 (by decide) d_MG_compare_57 (by decide) (fun h9 => absurd h9 (by decide)) (fun _ => ?_)
          refine lv_iconst (pc := 60) (v := nI (3)) C0.1 C0.2.1 d_MG_compare_60 (by decide +kernel) ?_
          refine lv_goto (pc := 61) (tgt := 65) C0.1 C0.2.1 d_MG_compare_61 (by decide) ?_
          exact hret _ _ _ _ 65 _ (rfl) (⟨by rw [E]; rfl, by rw [E]; exact hM, hfm⟩) hP hD hS d_MG_compare_65
        · have e2 : sp_sub n (gs q) (gs i) = false := sp_sub0 (hgenb.1.2.1 _ hx2) hx2 hy2
          rw [e1, e2] at E
          refine lv_istore (pc := 49) (lv' := [(4, .int (nI (0))), (3, .int (nI (1))), (0, .ref (ad 0)), (1, .int (nI (i))), (2, .int (nI (q)))]) C0.1 C0.2.1 d_MG_compare_49 hl (by decide) rfl (fun ls hl => ?_)
          refine lv_iload_n (pc := 51) C0.1 C0.2.1 d_MG_compare_51 rfl (lv_at hl 1 rfl) ?_
          refine mz_eq (pc := 52) (tgt := 66) C0 (by decide) d_MG_compare_52 (by decide) (fun h9 => absurd h9 (by decide)) (fun _ => ?_)
          refine lv_iload (pc := 55) C0.1 C0.2.1 d_MG_compare_55 (lv_at hl 0 rfl) ?_
          refine mz_eq (pc := 57) (tgt := 64) C0 (by decide) d_MG_compare_57 (by decide) (fun _ => ?_) (fun h9 => absurd rfl h9)
          refine lv_iconst (pc := 64) (v := nI (1)) C0.1 C0.2.1 d_MG_compare_64 (by decide +kernel) ?_
          exact hret _ _ _ _ 65 _ (rfl) (⟨by rw [E]; rfl, by rw [E]; exact hM, hfm⟩) hP hD hS d_MG_compare_65
      · have e1 : sp_sub n (gs i) (gs q) = false := sp_sub0 (hgena.1.2.1 _ hx1) hx1 hy1
        refine lv_istore_n (pc := 33) (lv' := [(3, .int (nI (0))), (0, .ref (ad 0)), (1, .int (nI (i))), (2, .int (nI (q)))]) C0.1 C0.2.1 d_MG_compare_33 rfl hl (by decide) rfl (fun ls hl => ?_)
        refine lv_aload_n (pc := 34) C0.1 C0.2.1 d_MG_compare_34 rfl (lv_at hl 1 rfl) ?_
        refine mg_get (pc := 35) C0 in_MG hK hP (0) f0 rfl 4 (by decide) fl_MG_38 rfl d_MG_compare_35 ?_
        refine lv_iload_n (pc := 38) C0.1 C0.2.1 d_MG_compare_38 rfl (lv_at hl 3 rfl) ?_
        refine mg_ald (pc := 39) C0 hK hP (9) 4 f9 rfl (j := q) (b := ad (10 + 3 * q)) (by omega) (by omega) (hgr q (by omega)) d_MG_compare_39 ?_
        refine lv_aload_n (pc := 40) C0.1 C0.2.1 d_MG_compare_40 rfl (lv_at hl 1 rfl) ?_
        refine mg_get (pc := 41) C0 in_MG hK hP (0) f0 rfl 4 (by decide) fl_MG_38 rfl d_MG_compare_41 ?_
        refine lv_iload_n (pc := 44) C0.1 C0.2.1 d_MG_compare_44 rfl (lv_at hl 2 rfl) ?_
        refine mg_ald (pc := 45) C0 hK hP (9) 4 f9 rfl (j := i) (b := ad (10 + 3 * i)) (by omega) (by omega) (hgr i (by omega)) d_MG_compare_45 ?_
        refine mg_ci (pc := 46) (As := [.ref (ad (10 + 3 * i))]) (rest := []) C0 (c_SU_liesIn l D ca ad h2 h6 ws0 hsub hsua) lk_MG_123 (by decide) fob rfl hK hP hD hS hA rfl hl.1 rfl (Nat.le_of_ble_eq_true rfl) d_MG_compare_46 (fun rv ws1 H locs hpost hP hD hS => ?_)
        obtain ⟨hr2, hw⟩ := hpost
        rw [hw] at hP hD
        rcases hr2 with ⟨rfl, hs2⟩ | ⟨rfl, x2, hx2, hy2⟩
        · have e2 : sp_sub n (gs q) (gs i) = true := sp_sub1 hs2
          rw [e1, e2] at E
          refine lv_istore (pc := 49) (lv' := [(4, .int (nI (1))), (3, .int (nI (0))), (0, .ref (ad 0)), (1, .int (nI (i))), (2, .int (nI (q)))]) C0.1 C0.2.1 d_MG_compare_49 hl (by decide) rfl (fun ls hl => ?_)
          refine lv_iload_n (pc := 51) C0.1 C0.2.1 d_MG_compare_51 rfl (lv_at hl 1 rfl) ?_
          refine mz_eq (pc := 52) (tgt := 66) C0 (by decide) d_MG_compare_52 (by decide) (fun _ => ?_) (fun h9 => absurd rfl h9)
          refine lv_iload (pc := 66) C0.1 C0.2.1 d_MG_compare_66 (lv_at hl 0 rfl) ?_
          refine mz_eq (pc := 68) (tgt := 75) C0 (by decide) d_MG_compare_68 (by decide) (fun h9 => absurd h9 (by decide)) (fun _ => ?_)
          refine lv_iconst (pc := 71) (v := nI (2)) C0.1 C0.2.1 d_MG_compare_71 (by decide +kernel) ?_
          refine lv_goto (pc := 72) (tgt := 76) C0.1 C0.2.1 d_MG_compare_72 (by decide) ?_
          exact hret _ _ _ _ 76 _ (rfl) (⟨by rw [E]; rfl, by rw [E]; exact hM, hfm⟩) hP hD hS d_MG_compare_76
        · have e2 : sp_sub n (gs q) (gs i) = false := sp_sub0 (hgenb.1.2.1 _ hx2) hx2 hy2
          rw [e1, e2] at E
          refine lv_istore (pc := 49) (lv' := [(4, .int (nI (0))), (3, .int (nI (0))), (0, .ref (ad 0)), (1, .int (nI (i))), (2, .int (nI (q)))]) C0.1 C0.2.1 d_MG_compare_49 hl (by decide) rfl (fun ls hl => ?_)
          refine lv_iload_n (pc := 51) C0.1 C0.2.1 d_MG_compare_51 rfl (lv_at hl 1 rfl) ?_
          refine mz_eq (pc := 52) (tgt := 66) C0 (by decide) d_MG_compare_52 (by decide) (fun _ => ?_) (fun h9 => absurd rfl h9)
          refine lv_iload (pc := 66) C0.1 C0.2.1 d_MG_compare_66 (lv_at hl 0 rfl) ?_
          refine mz_eq (pc := 68) (tgt := 75) C0 (by decide) d_MG_compare_68 (by decide) (fun _ => ?_) (fun h9 => absurd rfl h9)
          refine lv_iconst (pc := 75) (v := nI (0)) C0.1 C0.2.1 d_MG_compare_75 (by decide +kernel) ?_
          exact hret _ _ _ _ 76 _ (rfl) (⟨by rw [E]; rfl, by rw [E]; exact hM, hfm⟩) hP hD hS d_MG_compare_76
set_option maxHeartbeats 4000000 in
set_option maxRecDepth 100000 in
theorem c_MG_normal (l : Launch) (D : va_G) (ca : Nat → ClassId) (ad : Nat → Nat) {n : Nat} (h2 : 2 ≤ n) (h6 : n ≤ 6) {len : Nat} {tx : Nat → Nat} {pc : Nat} {rk : Nat → Nat} {gc : Nat} {gs : Nat → Nat → Bool} {a b : Int32} (ws0 : va_W) (h : MGW ca ad n (len, tx, pc, rk, gc, gs) ws0) : mg_I l y_MG_normal b_MG_normal 3 (.boolean) 6 D classes (tys_ ca) [.ref (ad 0), .int (a), .int (b)] ws0 (fun v w => v = (sp_normal n (len, tx, pc, rk, gc, gs) a b).1 ∧ MGW ca ad n (sp_normal n (len, tx, pc, rk, gc, gs) a b).2 w ∧ ∀ j, 52 ≤ j → w[j]? = ws0[j]?) := by
  have hM := h
  obtain ⟨z0, hsy, hct, hli, ⟨R, z7, hR⟩, ⟨gr, z9, hgr⟩, hraw, hgs, hp, hrk, hg⟩ := h
  have z1 := hsy.1
  have hN := pm_fc_le h6
  have g0 := pm_gp h2 h6
  refine mg_openI (own := R_MG) rfl (by decide) (Nat.le_of_ble_eq_true rfl) ?_
  intro p e s m args below meth c A Q ls C0 hK hA hP hD hS hl hret
  have hl : lv_has ls 3 [(0, .ref (ad 0)), (1, .int (a)), (2, .int (b))] := hl
  have f0 := z0
  have f1 := z1
  have f7 := z7
  have f9 := z9
  have hfm : ∀ j, 52 ≤ j → ws0[j]? = ws0[j]? := fun _ _ => rfl
  have hk_ : pc < 2 ^ 31 ∧ gc < 2 ^ 31 := ⟨by omega, by omega⟩
  rcases sp_ix_or a (k := gc) (by omega) with ⟨hb_i, he⟩ | ⟨i, hi, rfl, he⟩
  · refine lv_aload_n (pc := 0) C0.1 C0.2.1 d_MG_normal_0 rfl (lv_at hl 0 rfl) ?_
    refine lv_iload_n (pc := 1) C0.1 C0.2.1 d_MG_normal_1 rfl (lv_at hl 1 rfl) ?_
    refine mg_ci (pc := 2) (As := [.int (a)]) (rest := []) C0 (c_MG_isGroup0 l D ca ad hb_i ws0 f0) lk_MG_94 (by decide) f0 rfl hK hP hD hS hA rfl hl.1 rfl (Nat.le_of_ble_eq_true rfl) d_MG_normal_2 (fun rv ws1 H locs hpost hP hD hS => ?_)
    obtain ⟨hr1, hw⟩ := hpost
    rw [hw] at hP hD
    refine mg_top (show rv = nI (0) from hr1) ?_
    refine mz_eq (pc := 5) (tgt := 56) C0 (by decide) d_MG_normal_5 (by decide) (fun _ => ?_) (fun h9 => absurd rfl h9)
    have E : sp_normal n (len, tx, pc, rk, gc, gs) a b = (nI 0, (len, tx, pc, rk, gc, gs)) := by simp only [sp_normal, he]
    refine lv_iconst (pc := 56) (v := nI (0)) C0.1 C0.2.1 d_MG_normal_56 (by decide +kernel) ?_
    exact hret _ _ _ _ 57 _ (rfl) (⟨by rw [E], by rw [E]; exact hM, hfm⟩) hP hD hS d_MG_normal_57
  · refine lv_aload_n (pc := 0) C0.1 C0.2.1 d_MG_normal_0 rfl (lv_at hl 0 rfl) ?_
    refine lv_iload_n (pc := 1) C0.1 C0.2.1 d_MG_normal_1 rfl (lv_at hl 1 rfl) ?_
    refine mg_ci (pc := 2) (As := [.int (nI (i))]) (rest := []) C0 (c_MG_isGroup1 l D ca ad hi hk_ ws0 f0) lk_MG_94 (by decide) f0 rfl hK hP hD hS hA rfl hl.1 rfl (Nat.le_of_ble_eq_true rfl) d_MG_normal_2 (fun rv ws1 H locs hpost hP hD hS => ?_)
    obtain ⟨hr1, hw⟩ := hpost
    rw [hw] at hP hD
    refine mg_top (show rv = nI (1) from hr1) ?_
    refine mz_eq (pc := 5) (tgt := 56) C0 (by decide) d_MG_normal_5 (by decide) (fun h9 => absurd h9 (by decide)) (fun _ => ?_)
    refine lv_aload_n (pc := 8) C0.1 C0.2.1 d_MG_normal_8 rfl (lv_at hl 0 rfl) ?_
    refine lv_iload_n (pc := 9) C0.1 C0.2.1 d_MG_normal_9 rfl (lv_at hl 2 rfl) ?_
    rcases sp_ix_or b (k := gc) (by omega) with ⟨hb_q, he2⟩ | ⟨q, hq, rfl, he2⟩
    · refine mg_ci (pc := 10) (As := [.int (b)]) (rest := []) C0 (c_MG_isGroup0 l D ca ad hb_q ws0 f0) lk_MG_94 (by decide) f0 rfl hK hP hD hS hA rfl hl.1 rfl (Nat.le_of_ble_eq_true rfl) d_MG_normal_10 (fun rv ws1 H locs hpost hP hD hS => ?_)
      obtain ⟨hr1, hw⟩ := hpost
      rw [hw] at hP hD
      refine mg_top (show rv = nI (0) from hr1) ?_
      refine mz_eq (pc := 13) (tgt := 56) C0 (by decide) d_MG_normal_13 (by decide) (fun _ => ?_) (fun h9 => absurd rfl h9)
      have E : sp_normal n (len, tx, pc, rk, gc, gs) (nI i) b = (nI 0, (len, tx, pc, rk, gc, gs)) := by simp only [sp_normal, he, he2]
      refine lv_iconst (pc := 56) (v := nI (0)) C0.1 C0.2.1 d_MG_normal_56 (by decide +kernel) ?_
      exact hret _ _ _ _ 57 _ (rfl) (⟨by rw [E], by rw [E]; exact hM, hfm⟩) hP hD hS d_MG_normal_57
    · refine mg_ci (pc := 10) (As := [.int (nI (q))]) (rest := []) C0 (c_MG_isGroup1 l D ca ad hq hk_ ws0 f0) lk_MG_94 (by decide) f0 rfl hK hP hD hS hA rfl hl.1 rfl (Nat.le_of_ble_eq_true rfl) d_MG_normal_10 (fun rv ws1 H locs hpost hP hD hS => ?_)
      obtain ⟨hr1, hw⟩ := hpost
      rw [hw] at hP hD
      refine mg_top (show rv = nI (1) from hr1) ?_
      refine mz_eq (pc := 13) (tgt := 56) C0 (by decide) d_MG_normal_13 (by decide) (fun h9 => absurd h9 (by decide)) (fun _ => ?_)
      obtain ⟨Ga, ka, hsua⟩ := hgs i hi
      have hsxa := hsua
      obtain ⟨fa_, ga_, ⟨foa, fma, fga⟩, hwda, hgGa, hgena, h2ka⟩ := hsxa
      have hcna := ma_cn_le (gs i) (pm_fc n)
      obtain ⟨Gb, kb, hsub⟩ := hgs q hq
      have hsxb := hsub
      obtain ⟨fb_, gb_, ⟨fob, fmb, fgb⟩, hwdb, hgGb, hgenb, h2kb⟩ := hsxb
      have hcnb := ma_cn_le (gs q) (pm_fc n)
      have E : sp_normal n (len, tx, pc, rk, gc, gs) (nI i) (nI q) = (nI (if sp_sub n (gs q) (gs i) = true ∧ sp_nrm n (gs i) (gs q) = true then 1 else 0), (len, tx, pc, rk, gc, gs)) := by simp only [sp_normal, he, he2]
      refine lv_aload_n (pc := 16) C0.1 C0.2.1 d_MG_normal_16 rfl (lv_at hl 0 rfl) ?_
      refine mg_get (pc := 17) C0 in_MG hK hP (0) f0 rfl 4 (by decide) fl_MG_38 rfl d_MG_normal_17 ?_
      refine lv_iload_n (pc := 20) C0.1 C0.2.1 d_MG_normal_20 rfl (lv_at hl 2 rfl) ?_
      refine mg_ald (pc := 21) C0 hK hP (9) 4 f9 rfl (j := q) (b := ad (10 + 3 * q)) (by omega) (by omega) (hgr q (by omega)) d_MG_normal_21 ?_
      refine lv_aload_n (pc := 22) C0.1 C0.2.1 d_MG_normal_22 rfl (lv_at hl 0 rfl) ?_
      refine mg_get (pc := 23) C0 in_MG hK hP (0) f0 rfl 4 (by decide) fl_MG_38 rfl d_MG_normal_23 ?_
      refine lv_iload_n (pc := 26) C0.1 C0.2.1 d_MG_normal_26 rfl (lv_at hl 1 rfl) ?_
      refine mg_ald (pc := 27) C0 hK hP (9) 4 f9 rfl (j := i) (b := ad (10 + 3 * i)) (by omega) (by omega) (hgr i (by omega)) d_MG_normal_27 ?_
      refine mg_ci (pc := 28) (As := [.ref (ad (10 + 3 * i))]) (rest := []) C0 (c_SU_liesIn l D ca ad h2 h6 ws0 hsub hsua) lk_MG_123 (by decide) fob rfl hK hP hD hS hA rfl hl.1 rfl (Nat.le_of_ble_eq_true rfl) d_MG_normal_28 (fun rv ws1 H locs hpost hP hD hS => ?_)
      obtain ⟨hr1, hw⟩ := hpost
      rw [hw] at hP hD
      rcases hr1 with ⟨rfl, hs1⟩ | ⟨rfl, x1, hx1, hy1⟩
      · have e1 : sp_sub n (gs q) (gs i) = true := sp_sub1 hs1
        refine mz_eq (pc := 31) (tgt := 56) C0 (by decide) d_MG_normal_31 (by decide) (fun h9 => absurd h9 (by decide)) (fun _ => ?_)
        refine lv_aload_n (pc := 34) C0.1 C0.2.1 d_MG_normal_34 rfl (lv_at hl 0 rfl) ?_
        refine mg_get (pc := 35) C0 in_MG hK hP (0) f0 rfl 4 (by decide) fl_MG_38 rfl d_MG_normal_35 ?_
        refine lv_iload_n (pc := 38) C0.1 C0.2.1 d_MG_normal_38 rfl (lv_at hl 2 rfl) ?_
        refine mg_ald (pc := 39) C0 hK hP (9) 4 f9 rfl (j := q) (b := ad (10 + 3 * q)) (by omega) (by omega) (hgr q (by omega)) d_MG_normal_39 ?_
        refine lv_aload_n (pc := 40) C0.1 C0.2.1 d_MG_normal_40 rfl (lv_at hl 0 rfl) ?_
        refine mg_get (pc := 41) C0 in_MG hK hP (0) f0 rfl 4 (by decide) fl_MG_38 rfl d_MG_normal_41 ?_
        refine lv_iload_n (pc := 44) C0.1 C0.2.1 d_MG_normal_44 rfl (lv_at hl 1 rfl) ?_
        refine mg_ald (pc := 45) C0 hK hP (9) 4 f9 rfl (j := i) (b := ad (10 + 3 * i)) (by omega) (by omega) (hgr i (by omega)) d_MG_normal_45 ?_
        refine mg_ci (pc := 46) (As := [.ref (ad (10 + 3 * i))]) (rest := []) C0 (c_SU_isKeptBy l D ca ad h2 h6 ws0 hsy hsub hsua) lk_MG_127 (by decide) fob rfl hK hP hD hS hA rfl hl.1 rfl (Nat.le_of_ble_eq_true rfl) d_MG_normal_46 (fun rv ws H locs hpost hP hD hS => ?_)
        obtain ⟨hres, hfr, hsy⟩ := hpost
        have f0 := (hfr (0) (by omega)).trans f0
        have f1 := (hfr (1) (by omega)).trans f1
        have f7 := (hfr (7) (by omega)).trans f7
        have f9 := (hfr (9) (by omega)).trans f9
        have foa := (hfr (10 + 3 * i) (by omega)).trans foa
        have fob := (hfr (10 + 3 * q) (by omega)).trans fob
        have hfm : ∀ j, 52 ≤ j → ws[j]? = ws0[j]? := fun j hj => (hfr j (by omega)).trans (hfm j hj)
        have hM1 := mgw_row hM hfr hsy
        rcases hres with ⟨rfl, hs2⟩ | ⟨rfl, j1, s1, hj1, hs1, hy2⟩
        · have e2 : sp_nrm n (gs i) (gs q) = true := sp_nrm1 (fun x a hx ha => gp_inv g0 hgenb hgena hs2 x a hx ha)
          rw [if_pos ⟨e1, e2⟩] at E
          refine mz_eq (pc := 49) (tgt := 56) C0 (by decide) d_MG_normal_49 (by decide) (fun h9 => absurd h9 (by decide)) (fun _ => ?_)
          refine lv_iconst (pc := 52) (v := nI (1)) C0.1 C0.2.1 d_MG_normal_52 (by decide +kernel) ?_
          refine lv_goto (pc := 53) (tgt := 57) C0.1 C0.2.1 d_MG_normal_53 (by decide) ?_
          exact hret _ _ _ _ 57 _ (rfl) (⟨by rw [E], by rw [E]; exact hM1, hfm⟩) hP hD hS d_MG_normal_57
        · have e2 : sp_nrm n (gs i) (gs q) = false := sp_nrm0 (gp_gen_lt hgenb hj1) (gp_gen_lt hgena hs1) (hgenb.2.1 _ hj1) (hgena.2.1 _ hs1) hy2
          rw [if_neg (fun h9 => by rw [e2] at h9; exact absurd h9.2 (by decide))] at E
          refine mz_eq (pc := 49) (tgt := 56) C0 (by decide) d_MG_normal_49 (by decide) (fun _ => ?_) (fun h9 => absurd rfl h9)
          refine lv_iconst (pc := 56) (v := nI (0)) C0.1 C0.2.1 d_MG_normal_56 (by decide +kernel) ?_
          exact hret _ _ _ _ 57 _ (rfl) (⟨by rw [E], by rw [E]; exact hM1, hfm⟩) hP hD hS d_MG_normal_57
      · have e1 : sp_sub n (gs q) (gs i) = false := sp_sub0 (hgenb.1.2.1 _ hx1) hx1 hy1
        rw [if_neg (fun h9 => by rw [e1] at h9; exact absurd h9.1 (by decide))] at E
        refine mz_eq (pc := 31) (tgt := 56) C0 (by decide) d_MG_normal_31 (by decide) (fun _ => ?_) (fun h9 => absurd rfl h9)
        refine lv_iconst (pc := 56) (v := nI (0)) C0.1 C0.2.1 d_MG_normal_56 (by decide +kernel) ?_
        exact hret _ _ _ _ 57 _ (rfl) (⟨by rw [E], by rw [E]; exact hM, hfm⟩) hP hD hS d_MG_normal_57
set_option maxHeartbeats 4000000 in
set_option maxRecDepth 100000 in
theorem c_MG_length (l : Launch) (D : va_G) (ca : Nat → ClassId) (ad : Nat → Nat) {n : Nat} (h2 : 2 ≤ n) (h6 : n ≤ 6) {len : Nat} {tx : Nat → Nat} {pc : Nat} {rk : Nat → Nat} {gc : Nat} {gs : Nat → Nat → Bool} {a : Int32} (ws0 : va_W) (h : MGW ca ad n (len, tx, pc, rk, gc, gs) ws0) : mg_I l y_MG_length b_MG_length 5 (.int) 8 D classes (tys_ ca) [.ref (ad 0), .int (a)] ws0 (fun v w => v = (sp_length n (len, tx, pc, rk, gc, gs) a).1 ∧ MGW ca ad n (sp_length n (len, tx, pc, rk, gc, gs) a).2 w ∧ ∀ j, 52 ≤ j → w[j]? = ws0[j]?) := by
  have hM := h
  obtain ⟨z0, hsy, hct, hli, ⟨R, z7, hR⟩, ⟨gr, z9, hgr⟩, hraw, hgs, hp, hrk, hg⟩ := h
  have z1 := hsy.1
  have hN := pm_fc_le h6
  have g0 := pm_gp h2 h6
  refine mg_openI (own := R_MG) rfl (by decide) (Nat.le_of_ble_eq_true rfl) ?_
  intro p e s m args below meth c A Q ls C0 hK hA hP hD hS hl hret
  have hl : lv_has ls 5 [(0, .ref (ad 0)), (1, .int (a))] := hl
  have f0 := z0
  have f1 := z1
  have f7 := z7
  have f9 := z9
  have hfm : ∀ j, 52 ≤ j → ws0[j]? = ws0[j]? := fun _ _ => rfl
  have hk_ : pc < 2 ^ 31 ∧ gc < 2 ^ 31 := ⟨by omega, by omega⟩
  rcases sp_ix_or a (k := gc) (by omega) with ⟨hb_i, he⟩ | ⟨i, hi, rfl, he⟩
  · refine lv_aload_n (pc := 0) C0.1 C0.2.1 d_MG_length_0 rfl (lv_at hl 0 rfl) ?_
    refine lv_iload_n (pc := 1) C0.1 C0.2.1 d_MG_length_1 rfl (lv_at hl 1 rfl) ?_
    refine mg_ci (pc := 2) (As := [.int (a)]) (rest := []) C0 (c_MG_isGroup0 l D ca ad hb_i ws0 f0) lk_MG_94 (by decide) f0 rfl hK hP hD hS hA rfl hl.1 rfl (Nat.le_of_ble_eq_true rfl) d_MG_length_2 (fun rv ws1 H locs hpost hP hD hS => ?_)
    obtain ⟨hr1, hw⟩ := hpost
    rw [hw] at hP hD
    refine mg_top (show rv = nI (0) from hr1) ?_
    refine mz_ne (pc := 5) (tgt := 10) C0 (by decide) d_MG_length_5 (by decide) (fun h9 => absurd rfl h9) (fun _ => ?_)
    have E : sp_length n (len, tx, pc, rk, gc, gs) a = ((-1), (len, tx, pc, rk, gc, gs)) := by simp only [sp_length, he]
    refine lv_iconst (pc := 8) (v := (-1)) C0.1 C0.2.1 d_MG_length_8 (by decide +kernel) ?_
    exact hret _ _ _ _ 9 _ (rfl) (⟨by rw [E], by rw [E]; exact hM, hfm⟩) hP hD hS d_MG_length_9
  · refine lv_aload_n (pc := 0) C0.1 C0.2.1 d_MG_length_0 rfl (lv_at hl 0 rfl) ?_
    refine lv_iload_n (pc := 1) C0.1 C0.2.1 d_MG_length_1 rfl (lv_at hl 1 rfl) ?_
    refine mg_ci (pc := 2) (As := [.int (nI (i))]) (rest := []) C0 (c_MG_isGroup1 l D ca ad hi hk_ ws0 f0) lk_MG_94 (by decide) f0 rfl hK hP hD hS hA rfl hl.1 rfl (Nat.le_of_ble_eq_true rfl) d_MG_length_2 (fun rv ws1 H locs hpost hP hD hS => ?_)
    obtain ⟨hr1, hw⟩ := hpost
    rw [hw] at hP hD
    refine mg_top (show rv = nI (1) from hr1) ?_
    refine mz_ne (pc := 5) (tgt := 10) C0 (by decide) d_MG_length_5 (by decide) (fun _ => ?_) (fun h9 => absurd h9 (by decide))
    obtain ⟨G, k, hsu⟩ := hgs i hi
    have hsx := hsu
    obtain ⟨f_, g_, ⟨fo, fm, fg⟩, hwd, hgG, hgen, h2k⟩ := hsx
    have hcn := ma_cn_le (gs i) (pm_fc n)
    have E : sp_length n (len, tx, pc, rk, gc, gs) (nI i) = (sp_ln n 10 0 (gs i), (len, tx, pc, rk, gc, gs)) := by simp only [sp_length, he]
    refine lv_aload_n (pc := 10) C0.1 C0.2.1 d_MG_length_10 rfl (lv_at hl 0 rfl) ?_
    refine mg_get (pc := 11) C0 in_MG hK hP (0) f0 rfl 4 (by decide) fl_MG_38 rfl d_MG_length_11 ?_
    refine lv_iload_n (pc := 14) C0.1 C0.2.1 d_MG_length_14 rfl (lv_at hl 1 rfl) ?_
    refine mg_ald (pc := 15) C0 hK hP (9) 4 f9 rfl (j := i) (b := ad (10 + 3 * i)) (by omega) (by omega) (hgr i (by omega)) d_MG_length_15 ?_
    refine lv_astore_n (pc := 16) (lv' := [(2, .ref (ad (10 + 3 * i))), (0, .ref (ad 0)), (1, .int (nI (i)))]) C0.1 C0.2.1 d_MG_length_16 rfl hl (by decide) rfl (fun ls hl => ?_)
    refine lv_iconst (pc := 17) (v := nI (0)) C0.1 C0.2.1 d_MG_length_17 (by decide +kernel) ?_
    refine lv_istore_n (pc := 18) (lv' := [(3, .int (nI (0))), (2, .ref (ad (10 + 3 * i))), (0, .ref (ad 0)), (1, .int (nI (i)))]) C0.1 C0.2.1 d_MG_length_18 rfl hl (by decide) rfl (fun ls hl => ?_)
    have loop : ∀ (d : Nat) (u : Nat) (q : Nat) (S : Nat → Bool) (G : Nat → Nat) (k : Nat) (ws : va_W) (H : Heap) (locs : List Loc) (ls : Array Slot), 10 - u = d → (MGW ca ad n (len, tx, pc, rk, gc, gs) ws) → (su_ok ca ad n q ws S G k) → (u ≤ 10) → ((u = 0 ∧ q < 12) ∨ (0 < u ∧ q = 12 + (u - 1) % 2)) → (sp_ln n (10 - u) u S = sp_ln n 10 0 (gs i)) → (∀ j, 52 ≤ j → ws[j]? = ws0[j]?) → lv_has ls 5 [(0, .ref (ad 0)), (2, .ref (ad (10 + 3 * q))), (3, .int (nI (u)))] → va_P D classes ws H → va_D A ws → va_S A s.heap H locs → W p l e (mg_rm 8) s m args below meth c H locs 0 0 Q (F0 m 19 ls []) := by
      intro d
      induction d using Nat.strongRecOn with
      | _ d ih_loop =>
        intro u q S G k ws H locs ls hd hM1 hsu hu hq hln hfm hl hP hD hS
        have hM2 := hM1
        obtain ⟨f0, hsy, hct, hli, ⟨R, f7, hR⟩, ⟨gr, f9, hgr⟩, hraw, hgs, hp, hrk, hg⟩ := hM2
        have f1 := hsy.1
        have hsx := hsu
        obtain ⟨f_, g_, ⟨fo, fm, fg⟩, hwd, hgG, hgen, h2k⟩ := hsx
        have hcn := ma_cn_le S (pm_fc n)
        refine lv_iload_n (pc := 19) C0.1 C0.2.1 d_MG_length_19 rfl (lv_at hl 2 rfl) ?_
        refine lv_bipush (pc := 20) (v := nI (10)) C0.1 C0.2.1 d_MG_length_20 (by decide +kernel) ?_
        refine mb_ge (pc := 22) (tgt := 83) C0 (by omega) (by omega) d_MG_length_22 (by decide) (fun hc => ?_) (fun hc => ?_)
        · have hu0 : 10 - u = 0 := by omega
          rw [hu0] at hln
          refine lv_iconst (pc := 83) (v := (-1)) C0.1 C0.2.1 d_MG_length_83 (by decide +kernel) ?_
          exact hret _ _ _ _ 84 _ (rfl) (⟨by rw [E]; exact hln, by rw [E]; exact hM1, hfm⟩) hP hD hS d_MG_length_84
        · have hu1 := hc
          obtain ⟨fu, hf9⟩ : ∃ fu, 10 - u = fu + 1 := ⟨10 - u - 1, by omega⟩
          have hf8 : 10 - (u + 1) = fu := by omega
          rw [hf9] at hln
          have hln1 : (if ma_cn S (pm_fc n) = 1 then nI u else if ma_cn (sp_der n S) (pm_fc n) = ma_cn S (pm_fc n) then (-1) else sp_ln n fu (u + 1) (sp_der n S)) = sp_ln n 10 0 (gs i) := hln
          refine lv_aload_n (pc := 25) C0.1 C0.2.1 d_MG_length_25 rfl (lv_at hl 1 rfl) ?_
          refine mg_get (pc := 26) C0 in_SU hK hP (10 + 3 * q) fo rfl 0 (by decide) fl_MG_100 rfl d_MG_length_26 ?_
          refine lv_iconst (pc := 29) (v := nI (1)) C0.1 C0.2.1 d_MG_length_29 (by decide +kernel) ?_
          refine mb_ne (pc := 30) (tgt := 35) C0 (by omega) (by omega) d_MG_length_30 (by decide) (fun hc => ?_) (fun hc => ?_)
          · rw [if_neg hc] at hln1
            refine lv_iload_n (pc := 35) C0.1 C0.2.1 d_MG_length_35 rfl (lv_at hl 2 rfl) ?_
            refine lv_iconst (pc := 36) (v := nI (2)) C0.1 C0.2.1 d_MG_length_36 (by decide +kernel) ?_
            refine mn_rem (pc := 37) C0 (by omega) (by omega) (by omega) d_MG_length_37 ?_
            refine mz_ne (pc := 38) (tgt := 48) C0 (by omega) d_MG_length_38 (by decide) (fun hpar => ?_) (fun hpar => ?_)
            · obtain ⟨sz, f, g, kc, fp, fq, fr⟩ := hraw 13 (by omega)
              have hqi : 13 ≠ q := by omega
              refine lv_aload_n (pc := 48) C0.1 C0.2.1 d_MG_length_48 rfl (lv_at hl 0 rfl) ?_
              refine mg_get (pc := 49) C0 in_MG hK hP (0) f0 rfl 7 (by decide) fl_MG_52 rfl d_MG_length_49 ?_
              refine lv_astore (pc := 52) (lv' := [(4, .ref (ad 49)), (0, .ref (ad 0)), (2, .ref (ad (10 + 3 * q))), (3, .int (nI (u)))]) C0.1 C0.2.1 d_MG_length_52 hl (by decide) rfl (fun ls hl => ?_)
              refine lv_aload (pc := 54) C0.1 C0.2.1 d_MG_length_54 (lv_at hl 0 rfl) ?_
              refine lv_aload_n (pc := 56) C0.1 C0.2.1 d_MG_length_56 rfl (lv_at hl 2 rfl) ?_
              refine mg_cv (pc := 57) (As := [.ref (ad (10 + 3 * q))]) (rest := []) C0 (c_SU_becomeDerivedOf l D ca ad h2 h6 (i := 13) hqi ws hsy hli hsu fp fq fr) lk_MG_137 (by decide) fp rfl hK hP hD hS hA rfl hl.1 rfl (Nat.le_of_ble_eq_true rfl) d_MG_length_57 (fun ws H locs hpost hP hD hS => ?_)
              obtain ⟨hfr, hsy, hli, S1, G1, k1, hsu1, hder⟩ := hpost
              have f0 := (hfr (0) (by omega)).trans f0
              have f1 := (hfr (1) (by omega)).trans f1
              have f7 := (hfr (7) (by omega)).trans f7
              have f9 := (hfr (9) (by omega)).trans f9
              have fo := (hfr (10 + 3 * q) (by omega)).trans fo
              have hfm : ∀ j, 52 ≤ j → ws[j]? = ws0[j]? := fun j hj => (hfr j (by omega)).trans (hfm j hj)
              have e1 := sp_der_eq hder
              rw [e1] at hln1
              have hcn1 := ma_cn_le S1 (pm_fc n)
              have hsx1 := hsu1
              obtain ⟨f1_, g1_, ⟨fp, fq, fr⟩, hw1_⟩ := hsx1
              have hM2 := mgw_sp hM1 (i := 13) (by omega) hfr hsy hli ⟨fp, fq, fr⟩
              refine lv_aload (pc := 60) C0.1 C0.2.1 d_MG_length_60 (lv_at hl 0 rfl) ?_
              refine mg_get (pc := 62) C0 in_SU hK hP (10 + 3 * 13) fp rfl 0 (by decide) fl_MG_100 rfl d_MG_length_62 ?_
              refine lv_aload_n (pc := 65) C0.1 C0.2.1 d_MG_length_65 rfl (lv_at hl 2 rfl) ?_
              refine mg_get (pc := 66) C0 in_SU hK hP (10 + 3 * q) fo rfl 0 (by decide) fl_MG_100 rfl d_MG_length_66 ?_
              refine mb_ne (pc := 69) (tgt := 74) C0 (by omega) (by omega) d_MG_length_69 (by decide) (fun hc => ?_) (fun hc => ?_)
              · rw [if_neg hc] at hln1
                refine lv_aload (pc := 74) C0.1 C0.2.1 d_MG_length_74 (lv_at hl 0 rfl) ?_
                refine lv_astore_n (pc := 76) (lv' := [(2, .ref (ad 49)), (4, .ref (ad 49)), (0, .ref (ad 0)), (3, .int (nI (u)))]) C0.1 C0.2.1 d_MG_length_76 rfl hl (by decide) rfl (fun ls hl => ?_)
                refine lv_iinc (pc := 77) (k := 3) (v := nI (u + 1)) (lv' := [(3, .int (nI (u + 1))), (2, .ref (ad 49)), (4, .ref (ad 49)), (0, .ref (ad 0))]) C0.1 C0.2.1 d_MG_length_77 hl rfl (nb_p1 _) (by decide) rfl (fun ls hl => ?_)
                refine lv_goto (pc := 80) (tgt := 19) C0.1 C0.2.1 d_MG_length_80 (by decide) ?_
                exact ih_loop _ (by omega) (u + 1) 13 S1 G1 k1 _ _ _ _ rfl hM2 hsu1 (by omega) (Or.inr ⟨by omega, by omega⟩) (by rw [hf8]; exact hln1) hfm (lv_sub hl [3, 1, 0] rfl) hP hD hS
              · rw [if_pos hc] at hln1
                refine lv_iconst (pc := 72) (v := (-1)) C0.1 C0.2.1 d_MG_length_72 (by decide +kernel) ?_
                exact hret _ _ _ _ 73 _ (rfl) (⟨by rw [E]; exact hln1, by rw [E]; exact hM2, hfm⟩) hP hD hS d_MG_length_73
            · obtain ⟨sz, f, g, kc, fp, fq, fr⟩ := hraw 12 (by omega)
              have hqi : 12 ≠ q := by omega
              refine lv_aload_n (pc := 41) C0.1 C0.2.1 d_MG_length_41 rfl (lv_at hl 0 rfl) ?_
              refine mg_get (pc := 42) C0 in_MG hK hP (0) f0 rfl 6 (by decide) fl_MG_48 rfl d_MG_length_42 ?_
              refine lv_goto (pc := 45) (tgt := 52) C0.1 C0.2.1 d_MG_length_45 (by decide) ?_
              refine lv_astore (pc := 52) (lv' := [(4, .ref (ad 46)), (0, .ref (ad 0)), (2, .ref (ad (10 + 3 * q))), (3, .int (nI (u)))]) C0.1 C0.2.1 d_MG_length_52 hl (by decide) rfl (fun ls hl => ?_)
              refine lv_aload (pc := 54) C0.1 C0.2.1 d_MG_length_54 (lv_at hl 0 rfl) ?_
              refine lv_aload_n (pc := 56) C0.1 C0.2.1 d_MG_length_56 rfl (lv_at hl 2 rfl) ?_
              refine mg_cv (pc := 57) (As := [.ref (ad (10 + 3 * q))]) (rest := []) C0 (c_SU_becomeDerivedOf l D ca ad h2 h6 (i := 12) hqi ws hsy hli hsu fp fq fr) lk_MG_137 (by decide) fp rfl hK hP hD hS hA rfl hl.1 rfl (Nat.le_of_ble_eq_true rfl) d_MG_length_57 (fun ws H locs hpost hP hD hS => ?_)
              obtain ⟨hfr, hsy, hli, S1, G1, k1, hsu1, hder⟩ := hpost
              have f0 := (hfr (0) (by omega)).trans f0
              have f1 := (hfr (1) (by omega)).trans f1
              have f7 := (hfr (7) (by omega)).trans f7
              have f9 := (hfr (9) (by omega)).trans f9
              have fo := (hfr (10 + 3 * q) (by omega)).trans fo
              have hfm : ∀ j, 52 ≤ j → ws[j]? = ws0[j]? := fun j hj => (hfr j (by omega)).trans (hfm j hj)
              have e1 := sp_der_eq hder
              rw [e1] at hln1
              have hcn1 := ma_cn_le S1 (pm_fc n)
              have hsx1 := hsu1
              obtain ⟨f1_, g1_, ⟨fp, fq, fr⟩, hw1_⟩ := hsx1
              have hM2 := mgw_sp hM1 (i := 12) (by omega) hfr hsy hli ⟨fp, fq, fr⟩
              refine lv_aload (pc := 60) C0.1 C0.2.1 d_MG_length_60 (lv_at hl 0 rfl) ?_
              refine mg_get (pc := 62) C0 in_SU hK hP (10 + 3 * 12) fp rfl 0 (by decide) fl_MG_100 rfl d_MG_length_62 ?_
              refine lv_aload_n (pc := 65) C0.1 C0.2.1 d_MG_length_65 rfl (lv_at hl 2 rfl) ?_
              refine mg_get (pc := 66) C0 in_SU hK hP (10 + 3 * q) fo rfl 0 (by decide) fl_MG_100 rfl d_MG_length_66 ?_
              refine mb_ne (pc := 69) (tgt := 74) C0 (by omega) (by omega) d_MG_length_69 (by decide) (fun hc => ?_) (fun hc => ?_)
              · rw [if_neg hc] at hln1
                refine lv_aload (pc := 74) C0.1 C0.2.1 d_MG_length_74 (lv_at hl 0 rfl) ?_
                refine lv_astore_n (pc := 76) (lv' := [(2, .ref (ad 46)), (4, .ref (ad 46)), (0, .ref (ad 0)), (3, .int (nI (u)))]) C0.1 C0.2.1 d_MG_length_76 rfl hl (by decide) rfl (fun ls hl => ?_)
                refine lv_iinc (pc := 77) (k := 3) (v := nI (u + 1)) (lv' := [(3, .int (nI (u + 1))), (2, .ref (ad 46)), (4, .ref (ad 46)), (0, .ref (ad 0))]) C0.1 C0.2.1 d_MG_length_77 hl rfl (nb_p1 _) (by decide) rfl (fun ls hl => ?_)
                refine lv_goto (pc := 80) (tgt := 19) C0.1 C0.2.1 d_MG_length_80 (by decide) ?_
                exact ih_loop _ (by omega) (u + 1) 12 S1 G1 k1 _ _ _ _ rfl hM2 hsu1 (by omega) (Or.inr ⟨by omega, by omega⟩) (by rw [hf8]; exact hln1) hfm (lv_sub hl [3, 1, 0] rfl) hP hD hS
              · rw [if_pos hc] at hln1
                refine lv_iconst (pc := 72) (v := (-1)) C0.1 C0.2.1 d_MG_length_72 (by decide +kernel) ?_
                exact hret _ _ _ _ 73 _ (rfl) (⟨by rw [E]; exact hln1, by rw [E]; exact hM2, hfm⟩) hP hD hS d_MG_length_73
          · rw [if_pos hc] at hln1
            refine lv_iload_n (pc := 33) C0.1 C0.2.1 d_MG_length_33 rfl (lv_at hl 2 rfl) ?_
            exact hret _ _ _ _ 34 _ (rfl) (⟨by rw [E]; exact hln1, by rw [E]; exact hM1, hfm⟩) hP hD hS d_MG_length_34
    exact loop _ 0 i _ _ _ _ _ _ _ rfl hM hsu (by omega) (Or.inl ⟨rfl, by omega⟩) rfl hfm (lv_sub hl [2, 1, 0] rfl) hP hD hS
