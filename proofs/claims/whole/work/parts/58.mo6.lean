/-! The reference: its calls, third part -/
def mo_lb (n : Nat) (S : Nat → Bool) (a : Nat) : Nat → Nat
  | 0 => pm_fc n
  | r + 1 => if S r = true then min (mo_lb n S a r) (pm_mu n a r) else mo_lb n S a r
theorem mo_lb_le (n : Nat) (S : Nat → Bool) (a : Nat) : ∀ r, mo_lb n S a r ≤ pm_fc n
  | 0 => Nat.le_refl _
  | r + 1 => by
    have h := mo_lb_le n S a r
    show (if S r = true then min (mo_lb n S a r) (pm_mu n a r) else mo_lb n S a r) ≤ _
    split
    · exact Nat.le_trans (Nat.min_le_left _ _) h
    · exact h
theorem mo_lb1 {n : Nat} {S : Nat → Bool} {a : Nat} (g : gp_ok (pm_fc n) (pm_mu n) (pm_iv n)) (h0 : S 0 = true) (ha : a < pm_fc n) : ∀ r, mo_lb n S a (r + 1) = su_lf n S a (r + 1)
  | 0 => by
    show (if S 0 = true then min (pm_fc n) (pm_mu n a 0) else pm_fc n) = (if S 0 = true then min a (pm_mu n a 0) else a)
    rw [if_pos h0, if_pos h0, gp_or g ha]
    omega
  | r + 1 => by
    show (if S (r + 1) = true then min (mo_lb n S a (r + 1)) (pm_mu n a (r + 1)) else mo_lb n S a (r + 1)) = (if S (r + 1) = true then min (su_lf n S a (r + 1)) (pm_mu n a (r + 1)) else su_lf n S a (r + 1))
    rw [mo_lb1 g h0 ha r]
theorem mo_lb_eq {n : Nat} {S : Nat → Bool} {a : Nat} (g : gp_ok (pm_fc n) (pm_mu n) (pm_iv n)) (h0 : S 0 = true) (ha : a < pm_fc n) : mo_lb n S a (pm_fc n) = su_lf n S a (pm_fc n) := by
  obtain ⟨k, hk⟩ : ∃ k, pm_fc n = k + 1 := ⟨pm_fc n - 1, by have := pm_fc_pos n; omega⟩
  have h := mo_lb1 g h0 ha k
  rw [← hk] at h
  exact h
set_option maxHeartbeats 4000000 in
set_option maxRecDepth 100000 in
theorem c_MO_normal (l : Launch) (D : va_G) (ca : Nat → ClassId) (ad : Nat → Nat) {n : Nat} (h2 : 2 ≤ n) (h6 : n ≤ 6) {len : Nat} {tx : Nat → Nat} {pc : Nat} {rk : Nat → Nat} {gc : Nat} {gs : Nat → Nat → Bool} {a b : Int32} (ws0 : va_W) (h : MOW ca ad n (len, tx, pc, rk, gc, gs) ws0) : mg_I l y_MO_normal b_MO_normal 6 (.boolean) 4 D classes (tys_ ca) [.ref (ad 52), .int (a), .int (b)] ws0 (fun v w => v = (sp_normal n (len, tx, pc, rk, gc, gs) a b).1 ∧ MOW ca ad n (sp_normal n (len, tx, pc, rk, gc, gs) a b).2 w ∧ ∀ j, j < 52 → w[j]? = ws0[j]?) := by
  have hM := h
  obtain ⟨zx, ⟨im, zi, him⟩, ⟨pe, ze, hpe⟩, ⟨st, my, ge, zs, zy, zg, hgs⟩, ⟨fn, znn⟩, ⟨ch, zc, hch⟩, hlen, htx, hp, hrk, hg⟩ := h
  have hN := pm_fc_le h6
  have g0 := pm_gp h2 h6
  have hk_ : pc < 2 ^ 30 ∧ gc < 2 ^ 30 := ⟨by omega, by omega⟩
  refine mg_openI (own := R_MO) rfl (by decide) (Nat.le_of_ble_eq_true rfl) ?_
  intro p e s m args below meth c A Q ls C0 hK hA hP hD hS hl hret
  have hl : lv_has ls 6 [(0, .ref (ad 52)), (1, .int (a)), (2, .int (b))] := hl
  have fx := zx
  have fi := zi
  have fe := ze
  have fs := zs
  have fy := zy
  have fg := zg
  have fnn := znn
  have fc := zc
  rcases sp_ix_or a (k := gc) (by omega) with ⟨hb_i, he⟩ | ⟨i, hi, rfl, he⟩
  · refine lv_aload_n (pc := 0) C0.1 C0.2.1 d_MO_normal_0 rfl (lv_at hl 0 rfl) ?_
    refine lv_iload_n (pc := 1) C0.1 C0.2.1 d_MO_normal_1 rfl (lv_at hl 1 rfl) ?_
    refine mg_ci (pc := 2) (As := [.int (a)]) (rest := []) C0 (c_MO_isGroup0 l D ca ad hb_i hk_.2 ws0 fx) lk_MO_102 (by decide) fx rfl hK hP hD hS hA rfl hl.1 rfl (Nat.le_of_ble_eq_true rfl) d_MO_normal_2 (fun rv ws1 H locs hpost hP hD hS => ?_)
    obtain ⟨hr1, hw⟩ := hpost
    rw [hw] at hP hD
    refine mg_top (show rv = nI (0) from hr1) ?_
    refine mz_eq (pc := 5) (tgt := 25) C0 (by decide) d_MO_normal_5 (by decide) (fun _ => ?_) (fun h9 => absurd rfl h9)
    have E : sp_normal n (len, tx, pc, rk, gc, gs) a b = (nI 0, (len, tx, pc, rk, gc, gs)) := by simp only [sp_normal, he]
    refine lv_iconst (pc := 25) (v := nI (0)) C0.1 C0.2.1 d_MO_normal_25 (by decide +kernel) ?_
    exact hret _ _ _ _ 26 _ (rfl) (⟨by rw [E], by rw [E]; exact hM, fun _ _ => rfl⟩) hP hD hS d_MO_normal_26
  · refine lv_aload_n (pc := 0) C0.1 C0.2.1 d_MO_normal_0 rfl (lv_at hl 0 rfl) ?_
    refine lv_iload_n (pc := 1) C0.1 C0.2.1 d_MO_normal_1 rfl (lv_at hl 1 rfl) ?_
    refine mg_ci (pc := 2) (As := [.int (nI (i))]) (rest := []) C0 (c_MO_isGroup1 l D ca ad hi hk_.2 ws0 fx) lk_MO_102 (by decide) fx rfl hK hP hD hS hA rfl hl.1 rfl (Nat.le_of_ble_eq_true rfl) d_MO_normal_2 (fun rv ws1 H locs hpost hP hD hS => ?_)
    obtain ⟨hr1, hw⟩ := hpost
    rw [hw] at hP hD
    refine mg_top (show rv = nI (1) from hr1) ?_
    refine mz_eq (pc := 5) (tgt := 25) C0 (by decide) d_MO_normal_5 (by decide) (fun h9 => absurd h9 (by decide)) (fun _ => ?_)
    refine lv_aload_n (pc := 8) C0.1 C0.2.1 d_MO_normal_8 rfl (lv_at hl 0 rfl) ?_
    refine lv_iload_n (pc := 9) C0.1 C0.2.1 d_MO_normal_9 rfl (lv_at hl 2 rfl) ?_
    rcases sp_ix_or b (k := gc) (by omega) with ⟨hb_q, he2⟩ | ⟨q, hq, rfl, he2⟩
    · refine mg_ci (pc := 10) (As := [.int (b)]) (rest := []) C0 (c_MO_isGroup0 l D ca ad hb_q hk_.2 ws0 fx) lk_MO_102 (by decide) fx rfl hK hP hD hS hA rfl hl.1 rfl (Nat.le_of_ble_eq_true rfl) d_MO_normal_10 (fun rv ws1 H locs hpost hP hD hS => ?_)
      obtain ⟨hr1, hw⟩ := hpost
      rw [hw] at hP hD
      refine mg_top (show rv = nI (0) from hr1) ?_
      refine mz_eq (pc := 13) (tgt := 25) C0 (by decide) d_MO_normal_13 (by decide) (fun _ => ?_) (fun h9 => absurd rfl h9)
      have E : sp_normal n (len, tx, pc, rk, gc, gs) (nI i) b = (nI 0, (len, tx, pc, rk, gc, gs)) := by simp only [sp_normal, he, he2]
      refine lv_iconst (pc := 25) (v := nI (0)) C0.1 C0.2.1 d_MO_normal_25 (by decide +kernel) ?_
      exact hret _ _ _ _ 26 _ (rfl) (⟨by rw [E], by rw [E]; exact hM, fun _ _ => rfl⟩) hP hD hS d_MO_normal_26
    · refine mg_ci (pc := 10) (As := [.int (nI (q))]) (rest := []) C0 (c_MO_isGroup1 l D ca ad hq hk_.2 ws0 fx) lk_MO_102 (by decide) fx rfl hK hP hD hS hA rfl hl.1 rfl (Nat.le_of_ble_eq_true rfl) d_MO_normal_10 (fun rv ws1 H locs hpost hP hD hS => ?_)
      obtain ⟨hr1, hw⟩ := hpost
      rw [hw] at hP hD
      refine mg_top (show rv = nI (1) from hr1) ?_
      refine mz_eq (pc := 13) (tgt := 25) C0 (by decide) d_MO_normal_13 (by decide) (fun h9 => absurd h9 (by decide)) (fun _ => ?_)
      obtain ⟨Ga, ka, hmga⟩ := hgs i hi
      have hcna := ma_cn_le (gs i) (pm_fc n)
      obtain ⟨Gb, kb, hmgb⟩ := hgs q hq
      have hcnb := ma_cn_le (gs q) (pm_fc n)
      have hka := mo_k9 h6 hmga
      have hkb := mo_k9 h6 hmgb
      have hgA := hmga.2.2.2.1
      have hgB := hmgb.2.2.2.1
      have E : sp_normal n (len, tx, pc, rk, gc, gs) (nI i) (nI q) = (nI (if sp_sub n (gs q) (gs i) = true ∧ sp_nrm n (gs i) (gs q) = true then 1 else 0), (len, tx, pc, rk, gc, gs)) := by simp only [sp_normal, he, he2]
      refine lv_aload_n (pc := 16) C0.1 C0.2.1 d_MO_normal_16 rfl (lv_at hl 0 rfl) ?_
      refine lv_iload_n (pc := 17) C0.1 C0.2.1 d_MO_normal_17 rfl (lv_at hl 2 rfl) ?_
      refine lv_iload_n (pc := 18) C0.1 C0.2.1 d_MO_normal_18 rfl (lv_at hl 1 rfl) ?_
      refine mg_ci (pc := 19) (As := [.int (nI (q)), .int (nI (i))]) (rest := []) C0 (c_MO_lies l D ca ad h2 h6 (by omega) (by omega) hmgb.1 hmga.1 hgB.1.2.1 ws0 fx fs) lk_MO_115 (by decide) fx rfl hK hP hD hS hA rfl hl.1 rfl (Nat.le_of_ble_eq_true rfl) d_MO_normal_19 (fun rv ws1 H locs hpost hP hD hS => ?_)
      obtain ⟨hr1, hw⟩ := hpost
      rw [hw] at hP hD
      rcases hr1 with ⟨rfl, hs1⟩ | ⟨rfl, x1, hx1, hy1⟩
      · have e1 : sp_sub n (gs q) (gs i) = true := sp_sub1 hs1
        refine mz_ne (pc := 22) (tgt := 27) C0 (by decide) d_MO_normal_22 (by decide) (fun _ => ?_) (fun h9 => absurd h9 (by decide))
        refine lv_iconst (pc := 27) (v := nI (1)) C0.1 C0.2.1 d_MO_normal_27 (by decide +kernel) ?_
        refine lv_istore_n (pc := 28) (lv' := [(3, .int (nI (1))), (0, .ref (ad 52)), (1, .int (nI (i))), (2, .int (nI (q)))]) C0.1 C0.2.1 d_MO_normal_28 rfl hl (by decide) rfl (fun ls hl => ?_)
        refine lv_iconst (pc := 29) (v := nI (0)) C0.1 C0.2.1 d_MO_normal_29 (by decide +kernel) ?_
        refine lv_istore (pc := 30) (lv' := [(4, .int (nI (0))), (3, .int (nI (1))), (0, .ref (ad 52)), (1, .int (nI (i))), (2, .int (nI (q)))]) C0.1 C0.2.1 d_MO_normal_30 hl (by decide) rfl (fun ls hl => ?_)
        have outer : ∀ (d : Nat) (u : Nat) (hv : Nat) (H : Heap) (locs : List Loc) (ls : Array Slot), ka - u = d → (u ≤ ka) → ((hv = 1 ∧ ∀ x y, x < u → y < kb → gs q (ga_cj (pm_mu n) (pm_iv n) (Gb y) (Ga x)) = true) ∨ (hv = 0 ∧ ∃ x y, x < ka ∧ y < kb ∧ gs q (ga_cj (pm_mu n) (pm_iv n) (Gb y) (Ga x)) = false)) → lv_has ls 6 [(0, .ref (ad 52)), (1, .int (nI (i))), (2, .int (nI (q))), (3, .int (nI (hv))), (4, .int (nI (u)))] → va_P D classes ws0 H → va_D A ws0 → va_S A s.heap H locs → W p l e (mg_rm 4) s m args below meth c H locs 0 0 Q (F0 m 32 ls []) := by
          intro d
          induction d using Nat.strongRecOn with
          | _ d ih_outer =>
            intro u hv H locs ls hd hu hh hl hP hD hS
            refine lv_iload (pc := 32) C0.1 C0.2.1 d_MO_normal_32 (lv_at hl 4 rfl) ?_
            refine lv_aload_n (pc := 34) C0.1 C0.2.1 d_MO_normal_34 rfl (lv_at hl 0 rfl) ?_
            refine mg_get (pc := 35) C0 in_MO hK hP (52) fx rfl 7 (by decide) fl_MO_24 rfl d_MO_normal_35 ?_
            refine lv_iload_n (pc := 38) C0.1 C0.2.1 d_MO_normal_38 rfl (lv_at hl 1 rfl) ?_
            refine mg_ild (pc := 39) C0 hK hP (56) 1 fy rfl (j := i) (by omega) (by omega) d_MO_normal_39 ?_
            refine mg_top (show my (i) = nI (ka) from hmga.2.1) ?_
            refine mb_ge (pc := 40) (tgt := 115) C0 (by omega) (by omega) d_MO_normal_40 (by decide) (fun hc => ?_) (fun hc => ?_)
            · rcases hh with ⟨rfl, hh⟩ | ⟨rfl, x3, y3, hx3, hy3, hh⟩
              · have e2 : sp_nrm n (gs i) (gs q) = true := sp_nrm1 (fun x a hx ha => gp_inv g0 hgB hgA (fun y x hy hx => hh x y (by omega) hy) x a hx ha)
                rw [if_pos ⟨e1, e2⟩] at E
                refine lv_iload_n (pc := 115) C0.1 C0.2.1 d_MO_normal_115 rfl (lv_at hl 3 rfl) ?_
                exact hret _ _ _ _ 116 _ (rfl) (⟨by rw [E], by rw [E]; exact hM, fun _ _ => rfl⟩) hP hD hS d_MO_normal_116
              · have e2 : sp_nrm n (gs i) (gs q) = false := sp_nrm0 (gp_gen_lt hgB hy3) (gp_gen_lt hgA hx3) (hgB.2.1 _ hy3) (hgA.2.1 _ hx3) hh
                rw [if_neg (fun h9 => by rw [e2] at h9; exact absurd h9.2 (by decide))] at E
                refine lv_iload_n (pc := 115) C0.1 C0.2.1 d_MO_normal_115 rfl (lv_at hl 3 rfl) ?_
                exact hret _ _ _ _ 116 _ (rfl) (⟨by rw [E], by rw [E]; exact hM, fun _ _ => rfl⟩) hP hD hS d_MO_normal_116
            · have hu1 := hc
              refine lv_iconst (pc := 43) (v := nI (0)) C0.1 C0.2.1 d_MO_normal_43 (by decide +kernel) ?_
              refine lv_istore (pc := 44) (lv' := [(5, .int (nI (0))), (0, .ref (ad 52)), (1, .int (nI (i))), (2, .int (nI (q))), (3, .int (nI (hv))), (4, .int (nI (u)))]) C0.1 C0.2.1 d_MO_normal_44 hl (by decide) rfl (fun ls hl => ?_)
              have inner : ∀ (d : Nat) (y0 : Nat) (hv : Nat) (H : Heap) (locs : List Loc) (ls : Array Slot), kb - y0 = d → (y0 ≤ kb) → ((hv = 1 ∧ ∀ x y, (x < u ∧ y < kb) ∨ (x = u ∧ y < y0) → gs q (ga_cj (pm_mu n) (pm_iv n) (Gb y) (Ga x)) = true) ∨ (hv = 0 ∧ ∃ x y, x < ka ∧ y < kb ∧ gs q (ga_cj (pm_mu n) (pm_iv n) (Gb y) (Ga x)) = false)) → lv_has ls 6 [(0, .ref (ad 52)), (1, .int (nI (i))), (2, .int (nI (q))), (3, .int (nI (hv))), (4, .int (nI (u))), (5, .int (nI (y0)))] → va_P D classes ws0 H → va_D A ws0 → va_S A s.heap H locs → W p l e (mg_rm 4) s m args below meth c H locs 0 0 Q (F0 m 46 ls []) := by
                intro d
                induction d using Nat.strongRecOn with
                | _ d ih_inner =>
                  intro y0 hv H locs ls hd hy0 hh hl hP hD hS
                  refine lv_iload (pc := 46) C0.1 C0.2.1 d_MO_normal_46 (lv_at hl 5 rfl) ?_
                  refine lv_aload_n (pc := 48) C0.1 C0.2.1 d_MO_normal_48 rfl (lv_at hl 0 rfl) ?_
                  refine mg_get (pc := 49) C0 in_MO hK hP (52) fx rfl 7 (by decide) fl_MO_24 rfl d_MO_normal_49 ?_
                  refine lv_iload_n (pc := 52) C0.1 C0.2.1 d_MO_normal_52 rfl (lv_at hl 2 rfl) ?_
                  refine mg_ild (pc := 53) C0 hK hP (56) 1 fy rfl (j := q) (by omega) (by omega) d_MO_normal_53 ?_
                  refine mg_top (show my (q) = nI (kb) from hmgb.2.1) ?_
                  refine mb_ge (pc := 54) (tgt := 109) C0 (by omega) (by omega) d_MO_normal_54 (by decide) (fun hc => ?_) (fun hc => ?_)
                  · refine lv_iinc (pc := 109) (k := 4) (v := nI (u + 1)) (lv' := [(4, .int (nI (u + 1))), (0, .ref (ad 52)), (1, .int (nI (i))), (2, .int (nI (q))), (3, .int (nI (hv))), (5, .int (nI (y0)))]) C0.1 C0.2.1 d_MO_normal_109 hl rfl (nb_p1 _) (by decide) rfl (fun ls hl => ?_)
                    refine lv_goto (pc := 112) (tgt := 32) C0.1 C0.2.1 d_MO_normal_112 (by decide) ?_
                    exact ih_outer _ (by clear hh; omega) (u + 1) hv _ _ _ rfl (by omega) (hh.elim (fun h9 => Or.inl ⟨h9.1, fun x y hx hy => h9.2 x y (by omega)⟩) Or.inr) (lv_sub hl [1, 2, 3, 4, 0] rfl) hP hD hS
                  · have hy1 := hc
                    rcases hh with ⟨rfl, hh⟩ | ⟨rfl, hh⟩
                    · refine lv_iload_n (pc := 57) C0.1 C0.2.1 d_MO_normal_57 rfl (lv_at hl 3 rfl) ?_
                      refine mz_eq (pc := 58) (tgt := 101) C0 (by decide) d_MO_normal_58 (by decide) (fun h9 => absurd h9 (by decide)) (fun _ => ?_)
                      refine lv_aload_n (pc := 61) C0.1 C0.2.1 d_MO_normal_61 rfl (lv_at hl 0 rfl) ?_
                      refine lv_iload_n (pc := 62) C0.1 C0.2.1 d_MO_normal_62 rfl (lv_at hl 2 rfl) ?_
                      refine lv_aload_n (pc := 63) C0.1 C0.2.1 d_MO_normal_63 rfl (lv_at hl 0 rfl) ?_
                      refine lv_aload_n (pc := 64) C0.1 C0.2.1 d_MO_normal_64 rfl (lv_at hl 0 rfl) ?_
                      refine mg_get (pc := 65) C0 in_MO hK hP (52) fx rfl 8 (by decide) fl_MO_27 rfl d_MO_normal_65 ?_
                      refine lv_bipush (pc := 68) (v := nI (20)) C0.1 C0.2.1 d_MO_normal_68 (by decide +kernel) ?_
                      refine lv_iload_n (pc := 70) C0.1 C0.2.1 d_MO_normal_70 rfl (lv_at hl 1 rfl) ?_
                      refine mn_mul (pc := 71) C0 d_MO_normal_71 ?_
                      refine lv_iload (pc := 72) C0.1 C0.2.1 d_MO_normal_72 (lv_at hl 4 rfl) ?_
                      refine mn_add (pc := 74) C0 d_MO_normal_74 ?_
                      refine mg_ild (pc := 75) C0 hK hP (57) 1 fg rfl (j := (20 * i) + u) (by omega) (by omega) d_MO_normal_75 ?_
                      refine mg_top (show ge ((20 * i) + u) = nI (Ga u) from hmga.2.2.1 u hu1) ?_
                      refine lv_aload_n (pc := 76) C0.1 C0.2.1 d_MO_normal_76 rfl (lv_at hl 0 rfl) ?_
                      refine mg_get (pc := 77) C0 in_MO hK hP (52) fx rfl 8 (by decide) fl_MO_27 rfl d_MO_normal_77 ?_
                      refine lv_bipush (pc := 80) (v := nI (20)) C0.1 C0.2.1 d_MO_normal_80 (by decide +kernel) ?_
                      refine lv_iload_n (pc := 82) C0.1 C0.2.1 d_MO_normal_82 rfl (lv_at hl 2 rfl) ?_
                      refine mn_mul (pc := 83) C0 d_MO_normal_83 ?_
                      refine lv_iload (pc := 84) C0.1 C0.2.1 d_MO_normal_84 (lv_at hl 5 rfl) ?_
                      refine mn_add (pc := 86) C0 d_MO_normal_86 ?_
                      refine mg_ild (pc := 87) C0 hK hP (57) 1 fg rfl (j := (20 * q) + y0) (by omega) (by omega) d_MO_normal_87 ?_
                      refine mg_top (show ge ((20 * q) + y0) = nI (Gb y0) from hmgb.2.2.1 y0 hy1) ?_
                      have hGa := gp_gen_lt hgA hu1
                      have hGb := gp_gen_lt hgB hy1
                      refine mg_ci (pc := 88) (As := [.int (nI (Ga u)), .int (nI (Gb y0))]) (rest := [.int (nI (q)), .ref (ad 52)]) C0 (c_MO_turned l D ca ad h2 h6 him hGa hGb ws0 fx fi) lk_MO_75 (by decide) fx rfl hK hP hD hS hA rfl hl.1 rfl (Nat.le_of_ble_eq_true rfl) d_MO_normal_88 (fun rv ws1 H locs hpost hP hD hS => ?_)
                      obtain ⟨hr1, hw⟩ := hpost
                      rw [hw] at hP hD
                      refine mg_top (show rv = nI (ga_cj (pm_mu n) (pm_iv n) (Gb y0) (Ga u)) from hr1) ?_
                      refine mg_ci (pc := 91) (As := [.int (nI (q)), .int (nI (ga_cj (pm_mu n) (pm_iv n) (Gb y0) (Ga u)))]) (rest := []) C0 (c_MO_has l D ca ad h2 h6 (by omega) (gp_cjl g0 hGb hGa) hmgb.1 ws0 fx fs) lk_MO_57 (by decide) fx rfl hK hP hD hS hA rfl hl.1 rfl (Nat.le_of_ble_eq_true rfl) d_MO_normal_91 (fun rv ws1 H locs hpost hP hD hS => ?_)
                      obtain ⟨hr1, hw⟩ := hpost
                      rw [hw] at hP hD
                      cases hs : gs q (ga_cj (pm_mu n) (pm_iv n) (Gb y0) (Ga u)) with
                      | true =>
                          rw [hs, if_pos rfl] at hr1
                          refine mg_top (show rv = nI (1) from hr1) ?_
                          refine mz_eq (pc := 94) (tgt := 101) C0 (by decide) d_MO_normal_94 (by decide) (fun h9 => absurd h9 (by decide)) (fun _ => ?_)
                          refine lv_iconst (pc := 97) (v := nI (1)) C0.1 C0.2.1 d_MO_normal_97 (by decide +kernel) ?_
                          refine lv_goto (pc := 98) (tgt := 102) C0.1 C0.2.1 d_MO_normal_98 (by decide) ?_
                          refine lv_istore_n (pc := 102) (lv' := [(3, .int (nI (1))), (0, .ref (ad 52)), (1, .int (nI (i))), (2, .int (nI (q))), (4, .int (nI (u))), (5, .int (nI (y0)))]) C0.1 C0.2.1 d_MO_normal_102 rfl hl (by decide) rfl (fun ls hl => ?_)
                          refine lv_iinc (pc := 103) (k := 5) (v := nI (y0 + 1)) (lv' := [(5, .int (nI (y0 + 1))), (3, .int (nI (1))), (0, .ref (ad 52)), (1, .int (nI (i))), (2, .int (nI (q))), (4, .int (nI (u)))]) C0.1 C0.2.1 d_MO_normal_103 hl rfl (nb_p1 _) (by decide) rfl (fun ls hl => ?_)
                          refine lv_goto (pc := 106) (tgt := 46) C0.1 C0.2.1 d_MO_normal_106 (by decide) ?_
                          exact ih_inner _ (by omega) (y0 + 1) 1 _ _ _ rfl (by omega) (Or.inl ⟨rfl, fun x y hx => by
                            by_cases e : x = u ∧ y = y0
                            · rw [e.1, e.2]; exact hs
                            · exact hh x y (by omega)⟩) (lv_sub hl [2, 3, 4, 1, 5, 0] rfl) hP hD hS
                      | false =>
                          rw [hs, if_neg (by decide)] at hr1
                          refine mg_top (show rv = nI (0) from hr1) ?_
                          refine mz_eq (pc := 94) (tgt := 101) C0 (by decide) d_MO_normal_94 (by decide) (fun _ => ?_) (fun h9 => absurd rfl h9)
                          refine lv_iconst (pc := 101) (v := nI (0)) C0.1 C0.2.1 d_MO_normal_101 (by decide +kernel) ?_
                          refine lv_istore_n (pc := 102) (lv' := [(3, .int (nI (0))), (0, .ref (ad 52)), (1, .int (nI (i))), (2, .int (nI (q))), (4, .int (nI (u))), (5, .int (nI (y0)))]) C0.1 C0.2.1 d_MO_normal_102 rfl hl (by decide) rfl (fun ls hl => ?_)
                          refine lv_iinc (pc := 103) (k := 5) (v := nI (y0 + 1)) (lv' := [(5, .int (nI (y0 + 1))), (3, .int (nI (0))), (0, .ref (ad 52)), (1, .int (nI (i))), (2, .int (nI (q))), (4, .int (nI (u)))]) C0.1 C0.2.1 d_MO_normal_103 hl rfl (nb_p1 _) (by decide) rfl (fun ls hl => ?_)
                          refine lv_goto (pc := 106) (tgt := 46) C0.1 C0.2.1 d_MO_normal_106 (by decide) ?_
                          exact ih_inner _ (by omega) (y0 + 1) 0 _ _ _ rfl (by omega) (Or.inr ⟨rfl, u, y0, hu1, hy1, hs⟩) (lv_sub hl [2, 3, 4, 1, 5, 0] rfl) hP hD hS
                    · refine lv_iload_n (pc := 57) C0.1 C0.2.1 d_MO_normal_57 rfl (lv_at hl 3 rfl) ?_
                      refine mz_eq (pc := 58) (tgt := 101) C0 (by decide) d_MO_normal_58 (by decide) (fun _ => ?_) (fun h9 => absurd rfl h9)
                      refine lv_iconst (pc := 101) (v := nI (0)) C0.1 C0.2.1 d_MO_normal_101 (by decide +kernel) ?_
                      refine lv_istore_n (pc := 102) (lv' := [(3, .int (nI (0))), (0, .ref (ad 52)), (1, .int (nI (i))), (2, .int (nI (q))), (4, .int (nI (u))), (5, .int (nI (y0)))]) C0.1 C0.2.1 d_MO_normal_102 rfl hl (by decide) rfl (fun ls hl => ?_)
                      refine lv_iinc (pc := 103) (k := 5) (v := nI (y0 + 1)) (lv' := [(5, .int (nI (y0 + 1))), (3, .int (nI (0))), (0, .ref (ad 52)), (1, .int (nI (i))), (2, .int (nI (q))), (4, .int (nI (u)))]) C0.1 C0.2.1 d_MO_normal_103 hl rfl (nb_p1 _) (by decide) rfl (fun ls hl => ?_)
                      refine lv_goto (pc := 106) (tgt := 46) C0.1 C0.2.1 d_MO_normal_106 (by decide) ?_
                      exact ih_inner _ (by omega) (y0 + 1) 0 _ _ _ rfl (by omega) (Or.inr ⟨rfl, hh⟩) (lv_sub hl [2, 3, 4, 1, 5, 0] rfl) hP hD hS
              exact inner _ 0 hv _ _ _ rfl (by omega) (hh.elim (fun h9 => Or.inl ⟨h9.1, fun x y hx => h9.2 x y (by omega) (by omega)⟩) Or.inr) (lv_sub hl [1, 2, 3, 4, 5, 0] rfl) hP hD hS
        exact outer _ 0 1 _ _ _ rfl (by omega) (Or.inl ⟨rfl, fun x y hx => absurd hx (by omega)⟩) (lv_sub hl [2, 3, 4, 1, 0] rfl) hP hD hS
      · have e1 : sp_sub n (gs q) (gs i) = false := sp_sub0 (hgB.1.2.1 _ hx1) hx1 hy1
        rw [if_neg (fun h9 => by rw [e1] at h9; exact absurd h9.1 (by decide))] at E
        refine mz_ne (pc := 22) (tgt := 27) C0 (by decide) d_MO_normal_22 (by decide) (fun h9 => absurd rfl h9) (fun _ => ?_)
        refine lv_iconst (pc := 25) (v := nI (0)) C0.1 C0.2.1 d_MO_normal_25 (by decide +kernel) ?_
        exact hret _ _ _ _ 26 _ (rfl) (⟨by rw [E], by rw [E]; exact hM, fun _ _ => rfl⟩) hP hD hS d_MO_normal_26
set_option maxHeartbeats 4000000 in
set_option maxRecDepth 100000 in
theorem c_MO_element (l : Launch) (D : va_G) (ca : Nat → ClassId) (ad : Nat → Nat) {n : Nat} (h2 : 2 ≤ n) (h6 : n ≤ 6) {len : Nat} {tx : Nat → Nat} {pc : Nat} {rk : Nat → Nat} {gc : Nat} {gs : Nat → Nat → Bool} {a b : Int32} (ws0 : va_W) (h : MOW ca ad n (len, tx, pc, rk, gc, gs) ws0) : mg_I l y_MO_element b_MO_element 5 (.int) 3 D classes (tys_ ca) [.ref (ad 52), .int (a), .int (b)] ws0 (fun v w => v = (sp_element n (len, tx, pc, rk, gc, gs) a b).1 ∧ MOW ca ad n (sp_element n (len, tx, pc, rk, gc, gs) a b).2 w ∧ ∀ j, j < 52 → w[j]? = ws0[j]?) := by
  have hM := h
  obtain ⟨zx, ⟨im, zi, him⟩, ⟨pe, ze, hpe⟩, ⟨st, my, ge, zs, zy, zg, hgs⟩, ⟨fn, znn⟩, ⟨ch, zc, hch⟩, hlen, htx, hp, hrk, hg⟩ := h
  have hN := pm_fc_le h6
  have g0 := pm_gp h2 h6
  have hk_ : pc < 2 ^ 30 ∧ gc < 2 ^ 30 := ⟨by omega, by omega⟩
  refine mg_openI (own := R_MO) rfl (by decide) (Nat.le_of_ble_eq_true rfl) ?_
  intro p e s m args below meth c A Q ls C0 hK hA hP hD hS hl hret
  have hl : lv_has ls 5 [(0, .ref (ad 52)), (1, .int (a)), (2, .int (b))] := hl
  have fx := zx
  have fi := zi
  have fe := ze
  have fs := zs
  have fy := zy
  have fg := zg
  have fnn := znn
  have fc := zc
  have hN0 := pm_fc_pos n
  rcases sp_ix_or a (k := gc) (by omega) with ⟨hb_i, he⟩ | ⟨i, hi, rfl, he⟩
  · refine lv_aload_n (pc := 0) C0.1 C0.2.1 d_MO_element_0 rfl (lv_at hl 0 rfl) ?_
    refine lv_iload_n (pc := 1) C0.1 C0.2.1 d_MO_element_1 rfl (lv_at hl 1 rfl) ?_
    refine mg_ci (pc := 2) (As := [.int (a)]) (rest := []) C0 (c_MO_isGroup0 l D ca ad hb_i hk_.2 ws0 fx) lk_MO_102 (by decide) fx rfl hK hP hD hS hA rfl hl.1 rfl (Nat.le_of_ble_eq_true rfl) d_MO_element_2 (fun rv ws1 H locs hpost hP hD hS => ?_)
    obtain ⟨hr1, hw⟩ := hpost
    rw [hw] at hP hD
    refine mg_top (show rv = nI (0) from hr1) ?_
    refine mz_eq (pc := 5) (tgt := 32) C0 (by decide) d_MO_element_5 (by decide) (fun _ => ?_) (fun h9 => absurd rfl h9)
    have E : sp_element n (len, tx, pc, rk, gc, gs) a b = ((-1), (len, tx, pc, rk, gc, gs)) := by simp only [sp_element, he]
    refine lv_iconst (pc := 32) (v := (-1)) C0.1 C0.2.1 d_MO_element_32 (by decide +kernel) ?_
    exact hret _ _ _ _ 33 _ (rfl) (⟨by rw [E], by rw [E]; exact hM, fun _ _ => rfl⟩) hP hD hS d_MO_element_33
  · refine lv_aload_n (pc := 0) C0.1 C0.2.1 d_MO_element_0 rfl (lv_at hl 0 rfl) ?_
    refine lv_iload_n (pc := 1) C0.1 C0.2.1 d_MO_element_1 rfl (lv_at hl 1 rfl) ?_
    refine mg_ci (pc := 2) (As := [.int (nI (i))]) (rest := []) C0 (c_MO_isGroup1 l D ca ad hi hk_.2 ws0 fx) lk_MO_102 (by decide) fx rfl hK hP hD hS hA rfl hl.1 rfl (Nat.le_of_ble_eq_true rfl) d_MO_element_2 (fun rv ws1 H locs hpost hP hD hS => ?_)
    obtain ⟨hr1, hw⟩ := hpost
    rw [hw] at hP hD
    refine mg_top (show rv = nI (1) from hr1) ?_
    refine mz_eq (pc := 5) (tgt := 32) C0 (by decide) d_MO_element_5 (by decide) (fun h9 => absurd h9 (by decide)) (fun _ => ?_)
    obtain ⟨G, k, hmg⟩ := hgs i hi
    have hcn := ma_cn_le (gs i) (pm_fc n)
    rcases sp_ix_or b (k := ma_cn (gs i) (pm_fc n)) (by omega) with ⟨hb_q, he2⟩ | ⟨q, hq, rfl, he2⟩
    · refine lv_aload_n (pc := 8) C0.1 C0.2.1 d_MO_element_8 rfl (lv_at hl 0 rfl) ?_
      refine mg_get (pc := 9) C0 in_MO hK hP (52) fx rfl 3 (by decide) fl_MO_13 rfl d_MO_element_9 ?_
      refine lv_bipush (pc := 12) (v := nI (40)) C0.1 C0.2.1 d_MO_element_12 (by decide +kernel) ?_
      refine mb_ge (pc := 14) (tgt := 32) C0 (by omega) (by omega) d_MO_element_14 (by decide) (fun hc => ?_) (fun hc => ?_)
      · have E : sp_element n (len, tx, pc, rk, gc, gs) (nI i) b = ((-1), (len, tx, pc, rk, gc, gs)) := by simp only [sp_element, he, he2]
        refine lv_iconst (pc := 32) (v := (-1)) C0.1 C0.2.1 d_MO_element_32 (by decide +kernel) ?_
        exact hret _ _ _ _ 33 _ (rfl) (⟨by rw [E], by rw [E]; exact hM, fun _ _ => rfl⟩) hP hD hS d_MO_element_33
      · refine lv_iload_n (pc := 17) C0.1 C0.2.1 d_MO_element_17 rfl (lv_at hl 2 rfl) ?_
        refine lv_iconst (pc := 18) (v := nI (0)) C0.1 C0.2.1 d_MO_element_18 (by decide +kernel) ?_
        refine lv_aload_n (pc := 19) C0.1 C0.2.1 d_MO_element_19 rfl (lv_at hl 0 rfl) ?_
        refine lv_iload_n (pc := 20) C0.1 C0.2.1 d_MO_element_20 rfl (lv_at hl 1 rfl) ?_
        refine mg_ci (pc := 21) (As := [.int (nI (i))]) (rest := [.int (nI (0)), .int (b)]) C0 (c_MO_orderOf l D ca ad h2 h6 (by omega) hmg.1 ws0 fx fs) lk_MO_105 (by decide) fx rfl hK hP hD hS hA rfl hl.1 rfl (Nat.le_of_ble_eq_true rfl) d_MO_element_21 (fun rv ws1 H locs hpost hP hD hS => ?_)
        obtain ⟨hr1, hw⟩ := hpost
        rw [hw] at hP hD
        refine mg_top (show rv = nI (ma_cn (gs i) (pm_fc n)) from hr1) ?_
        refine lv_iconst (pc := 24) (v := nI (1)) C0.1 C0.2.1 d_MO_element_24 (by decide +kernel) ?_
        refine lv_isub (pc := 25) C0.1 C0.2.1 d_MO_element_25 ?_
        refine mg_si (pc := 26) (As := [.int (b), .int (nI (0)), .int ((nI (ma_cn (gs i) (pm_fc n))) - (nI (1)))]) (rest := []) C0 (c_MO_in l D ca ad ws0) lk_MO_85 (by decide) hK hP hD hS hA rfl hl.1 rfl (Nat.le_of_ble_eq_true rfl) d_MO_element_26 (fun rv ws1 H locs hpost hP hD hS => ?_)
        obtain ⟨hr1, hw⟩ := hpost
        rw [hw] at hP hD
        refine mg_top (show rv = nI (0) from hr1.elim (fun h9 => h9.2) (fun h9 => (hb_q.elim h9.1.1 (fun h8 => h9.1.2 (mo_hi1 (by omega) h8))).elim)) ?_
        refine mz_ne (pc := 29) (tgt := 34) C0 (by decide) d_MO_element_29 (by decide) (fun h9 => absurd rfl h9) (fun _ => ?_)
        have E : sp_element n (len, tx, pc, rk, gc, gs) (nI i) b = ((-1), (len, tx, pc, rk, gc, gs)) := by simp only [sp_element, he, he2]
        refine lv_iconst (pc := 32) (v := (-1)) C0.1 C0.2.1 d_MO_element_32 (by decide +kernel) ?_
        exact hret _ _ _ _ 33 _ (rfl) (⟨by rw [E], by rw [E]; exact hM, fun _ _ => rfl⟩) hP hD hS d_MO_element_33
    · refine lv_aload_n (pc := 8) C0.1 C0.2.1 d_MO_element_8 rfl (lv_at hl 0 rfl) ?_
      refine mg_get (pc := 9) C0 in_MO hK hP (52) fx rfl 3 (by decide) fl_MO_13 rfl d_MO_element_9 ?_
      refine lv_bipush (pc := 12) (v := nI (40)) C0.1 C0.2.1 d_MO_element_12 (by decide +kernel) ?_
      refine mb_ge (pc := 14) (tgt := 32) C0 (by omega) (by omega) d_MO_element_14 (by decide) (fun hc => ?_) (fun hc => ?_)
      · have E : sp_element n (len, tx, pc, rk, gc, gs) (nI i) (nI q) = ((-1), (len, tx, pc, rk, gc, gs)) := by simp only [sp_element, he, he2, sp_keep, if_neg (show ¬ pc < 40 by omega)]
        refine lv_iconst (pc := 32) (v := (-1)) C0.1 C0.2.1 d_MO_element_32 (by decide +kernel) ?_
        exact hret _ _ _ _ 33 _ (rfl) (⟨by rw [E], by rw [E]; exact hM, fun _ _ => rfl⟩) hP hD hS d_MO_element_33
      · have h40 : pc < 40 := by omega
        refine lv_iload_n (pc := 17) C0.1 C0.2.1 d_MO_element_17 rfl (lv_at hl 2 rfl) ?_
        refine lv_iconst (pc := 18) (v := nI (0)) C0.1 C0.2.1 d_MO_element_18 (by decide +kernel) ?_
        refine lv_aload_n (pc := 19) C0.1 C0.2.1 d_MO_element_19 rfl (lv_at hl 0 rfl) ?_
        refine lv_iload_n (pc := 20) C0.1 C0.2.1 d_MO_element_20 rfl (lv_at hl 1 rfl) ?_
        refine mg_ci (pc := 21) (As := [.int (nI (i))]) (rest := [.int (nI (0)), .int (nI (q))]) C0 (c_MO_orderOf l D ca ad h2 h6 (by omega) hmg.1 ws0 fx fs) lk_MO_105 (by decide) fx rfl hK hP hD hS hA rfl hl.1 rfl (Nat.le_of_ble_eq_true rfl) d_MO_element_21 (fun rv ws1 H locs hpost hP hD hS => ?_)
        obtain ⟨hr1, hw⟩ := hpost
        rw [hw] at hP hD
        refine mg_top (show rv = nI (ma_cn (gs i) (pm_fc n)) from hr1) ?_
        refine lv_iconst (pc := 24) (v := nI (1)) C0.1 C0.2.1 d_MO_element_24 (by decide +kernel) ?_
        refine lv_isub (pc := 25) C0.1 C0.2.1 d_MO_element_25 ?_
        refine mg_si (pc := 26) (As := [.int (nI (q)), .int (nI (0)), .int ((nI (ma_cn (gs i) (pm_fc n))) - (nI (1)))]) (rest := []) C0 (c_MO_in l D ca ad ws0) lk_MO_85 (by decide) hK hP hD hS hA rfl hl.1 rfl (Nat.le_of_ble_eq_true rfl) d_MO_element_26 (fun rv ws1 H locs hpost hP hD hS => ?_)
        obtain ⟨hr1, hw⟩ := hpost
        rw [hw] at hP hD
        refine mg_top (show rv = nI (1) from hr1.elim (fun h9 => (h9.1.elim (fun h8 => nI_pos (by omega) h8) (fun h8 => mo_hi0 (by omega) hq h8)).elim) (fun h9 => h9.2)) ?_
        refine mz_ne (pc := 29) (tgt := 34) C0 (by decide) d_MO_element_29 (by decide) (fun _ => ?_) (fun h9 => absurd h9 (by decide))
        obtain ⟨x0, hx0, hsx, hcx⟩ := ma_cn_ex hq
        have hel := ma_el_eq hsx hcx hx0
        refine lv_iload_n (pc := 34) C0.1 C0.2.1 d_MO_element_34 rfl (lv_at hl 2 rfl) ?_
        refine lv_istore_n (pc := 35) (lv' := [(3, .int (nI (q))), (0, .ref (ad 52)), (1, .int (nI (i))), (2, .int (nI (q)))]) C0.1 C0.2.1 d_MO_element_35 rfl hl (by decide) rfl (fun ls hl => ?_)
        refine lv_iconst (pc := 36) (v := nI (0)) C0.1 C0.2.1 d_MO_element_36 (by decide +kernel) ?_
        refine lv_istore (pc := 37) (lv' := [(4, .int (nI (0))), (3, .int (nI (q))), (0, .ref (ad 52)), (1, .int (nI (i))), (2, .int (nI (q)))]) C0.1 C0.2.1 d_MO_element_37 hl (by decide) rfl (fun ls hl => ?_)
        have loop : ∀ (d : Nat) (r : Nat) (H : Heap) (locs : List Loc) (ls : Array Slot), x0 - r = d → (r ≤ x0) → lv_has ls 5 [(0, .ref (ad 52)), (1, .int (nI (i))), (2, .int (nI (q))), (3, .int (nI (q - ma_cn (gs i) r))), (4, .int (nI (r)))] → va_P D classes ws0 H → va_D A ws0 → va_S A s.heap H locs → W p l e (mg_rm 3) s m args below meth c H locs 0 0 Q (F0 m 39 ls []) := by
          intro d
          induction d using Nat.strongRecOn with
          | _ d ih_loop =>
            intro r H locs ls hd hr hl hP hD hS
            have hup := ma_cn_up (gs i) hr
            have hrN : r < pm_fc n := by omega
            refine lv_iload (pc := 39) C0.1 C0.2.1 d_MO_element_39 (lv_at hl 4 rfl) ?_
            refine lv_aload_n (pc := 41) C0.1 C0.2.1 d_MO_element_41 rfl (lv_at hl 0 rfl) ?_
            refine mg_get (pc := 42) C0 in_MO hK hP (52) fx rfl 1 (by decide) fl_MO_39 rfl d_MO_element_42 ?_
            refine lv_iconst (pc := 45) (v := nI (1)) C0.1 C0.2.1 d_MO_element_45 (by decide +kernel) ?_
            refine mn_sub (pc := 46) C0 (by omega) d_MO_element_46 ?_
            refine mb_ge (pc := 47) (tgt := 91) C0 (by omega) (by omega) d_MO_element_47 (by decide) (fun hc => ?_) (fun hc => ?_)
            · have hrx : r = x0 := by
                rcases Nat.lt_or_ge r x0 with h9 | h9
                · first
                  | omega
                  | (have h7 := ma_cn_lt hs h9; omega)
                · omega
              rw [hrx] at hl
              refine lv_aload_n (pc := 91) C0.1 C0.2.1 d_MO_element_91 rfl (lv_at hl 0 rfl) ?_
              refine lv_iload (pc := 92) C0.1 C0.2.1 d_MO_element_92 (lv_at hl 4 rfl) ?_
              refine mg_ci (pc := 94) (As := [.int (nI (x0))]) (rest := []) C0 (c_MO_keep l D ca ad h2 h6 hx0 h40 ws0 hM) lk_MO_92 (by decide) fx rfl hK hP hD hS hA rfl hl.1 rfl (Nat.le_of_ble_eq_true rfl) d_MO_element_94 (fun rv ws H locs hpost hP hD hS => ?_)
              obtain ⟨hr1, hM1, hfr⟩ := hpost
              have E : sp_element n (len, tx, pc, rk, gc, gs) (nI i) (nI q) = sp_keep (len, tx, pc, rk, gc, gs) x0 := by simp only [sp_element, he, he2, hel]
              exact hret _ _ _ _ 97 _ (rfl) (⟨by rw [E]; exact hr1, by rw [E]; exact hM1, hfr⟩) hP hD hS d_MO_element_97
            · refine lv_iload_n (pc := 50) C0.1 C0.2.1 d_MO_element_50 rfl (lv_at hl 3 rfl) ?_
              refine mz_gt (pc := 51) (tgt := 64) C0 (by omega) d_MO_element_51 (by decide) (fun hlf => ?_) (fun hlf => ?_)
              · refine lv_aload_n (pc := 64) C0.1 C0.2.1 d_MO_element_64 rfl (lv_at hl 0 rfl) ?_
                refine lv_iload_n (pc := 65) C0.1 C0.2.1 d_MO_element_65 rfl (lv_at hl 1 rfl) ?_
                refine lv_iload (pc := 66) C0.1 C0.2.1 d_MO_element_66 (lv_at hl 4 rfl) ?_
                refine mg_ci (pc := 68) (As := [.int (nI (i)), .int (nI (r))]) (rest := []) C0 (c_MO_has l D ca ad h2 h6 (by omega) hrN hmg.1 ws0 fx fs) lk_MO_57 (by decide) fx rfl hK hP hD hS hA rfl hl.1 rfl (Nat.le_of_ble_eq_true rfl) d_MO_element_68 (fun rv ws1 H locs hpost hP hD hS => ?_)
                obtain ⟨hr1, hw⟩ := hpost
                rw [hw] at hP hD
                cases hs : gs i r with
                | true =>
                    rw [hs, if_pos rfl] at hr1
                    refine mg_top (show rv = nI (1) from hr1) ?_
                    refine mz_eq (pc := 71) (tgt := 80) C0 (by decide) d_MO_element_71 (by decide) (fun h9 => absurd h9 (by decide)) (fun _ => ?_)
                    refine lv_iload_n (pc := 74) C0.1 C0.2.1 d_MO_element_74 rfl (lv_at hl 3 rfl) ?_
                    refine lv_iconst (pc := 75) (v := nI (1)) C0.1 C0.2.1 d_MO_element_75 (by decide +kernel) ?_
                    refine mn_sub (pc := 76) C0 (by omega) d_MO_element_76 ?_
                    refine lv_goto (pc := 77) (tgt := 81) C0.1 C0.2.1 d_MO_element_77 (by decide) ?_
                    refine lv_istore_n (pc := 81) (lv' := [(3, .int (nI ((q - ma_cn (gs i) r) - 1))), (0, .ref (ad 52)), (1, .int (nI (i))), (2, .int (nI (q))), (4, .int (nI (r)))]) C0.1 C0.2.1 d_MO_element_81 rfl hl (by decide) rfl (fun ls hl => ?_)
                    refine lv_iload (pc := 82) C0.1 C0.2.1 d_MO_element_82 (lv_at hl 4 rfl) ?_
                    refine lv_iconst (pc := 84) (v := nI (1)) C0.1 C0.2.1 d_MO_element_84 (by decide +kernel) ?_
                    refine mn_add (pc := 85) C0 d_MO_element_85 ?_
                    refine lv_istore (pc := 86) (lv' := [(4, .int (nI (r + 1))), (3, .int (nI ((q - ma_cn (gs i) r) - 1))), (0, .ref (ad 52)), (1, .int (nI (i))), (2, .int (nI (q)))]) C0.1 C0.2.1 d_MO_element_86 hl (by decide) rfl (fun ls hl => ?_)
                    refine lv_goto (pc := 88) (tgt := 39) C0.1 C0.2.1 d_MO_element_88 (by decide) ?_
                    have hne : r ≠ x0 := fun h9 => by rw [h9] at hlf; omega
                    have e1 : q - ma_cn (gs i) (r + 1) = q - ma_cn (gs i) r - 1 := by show q - (ma_cn (gs i) r + (if gs i r = true then 1 else 0)) = _; rw [if_pos hs]; omega
                    rw [← e1] at hl
                    exact ih_loop _ (by omega) (r + 1) _ _ _ rfl (by omega) (lv_sub hl [2, 3, 4, 1, 0] rfl) hP hD hS
                | false =>
                    rw [hs, if_neg (by decide)] at hr1
                    refine mg_top (show rv = nI (0) from hr1) ?_
                    refine mz_eq (pc := 71) (tgt := 80) C0 (by decide) d_MO_element_71 (by decide) (fun _ => ?_) (fun h9 => absurd rfl h9)
                    refine lv_iload_n (pc := 80) C0.1 C0.2.1 d_MO_element_80 rfl (lv_at hl 3 rfl) ?_
                    refine lv_istore_n (pc := 81) (lv' := [(3, .int (nI (q - ma_cn (gs i) r))), (0, .ref (ad 52)), (1, .int (nI (i))), (2, .int (nI (q))), (4, .int (nI (r)))]) C0.1 C0.2.1 d_MO_element_81 rfl hl (by decide) rfl (fun ls hl => ?_)
                    refine lv_iload (pc := 82) C0.1 C0.2.1 d_MO_element_82 (lv_at hl 4 rfl) ?_
                    refine lv_iconst (pc := 84) (v := nI (1)) C0.1 C0.2.1 d_MO_element_84 (by decide +kernel) ?_
                    refine mn_add (pc := 85) C0 d_MO_element_85 ?_
                    refine lv_istore (pc := 86) (lv' := [(4, .int (nI (r + 1))), (3, .int (nI (q - ma_cn (gs i) r))), (0, .ref (ad 52)), (1, .int (nI (i))), (2, .int (nI (q)))]) C0.1 C0.2.1 d_MO_element_86 hl (by decide) rfl (fun ls hl => ?_)
                    refine lv_goto (pc := 88) (tgt := 39) C0.1 C0.2.1 d_MO_element_88 (by decide) ?_
                    have hne : r ≠ x0 := fun h9 => by rw [h9, hsx] at hs; exact absurd hs (by decide)
                    have e1 : ma_cn (gs i) (r + 1) = ma_cn (gs i) r := by show ma_cn (gs i) r + (if gs i r = true then 1 else 0) = _; rw [hs, if_neg (by decide)]; exact Nat.add_zero _
                    rw [← e1] at hl
                    exact ih_loop _ (by omega) (r + 1) _ _ _ rfl (by omega) (lv_sub hl [2, 3, 4, 1, 0] rfl) hP hD hS
              · refine lv_aload_n (pc := 54) C0.1 C0.2.1 d_MO_element_54 rfl (lv_at hl 0 rfl) ?_
                refine lv_iload_n (pc := 55) C0.1 C0.2.1 d_MO_element_55 rfl (lv_at hl 1 rfl) ?_
                refine lv_iload (pc := 56) C0.1 C0.2.1 d_MO_element_56 (lv_at hl 4 rfl) ?_
                refine mg_ci (pc := 58) (As := [.int (nI (i)), .int (nI (r))]) (rest := []) C0 (c_MO_has l D ca ad h2 h6 (by omega) hrN hmg.1 ws0 fx fs) lk_MO_57 (by decide) fx rfl hK hP hD hS hA rfl hl.1 rfl (Nat.le_of_ble_eq_true rfl) d_MO_element_58 (fun rv ws1 H locs hpost hP hD hS => ?_)
                obtain ⟨hr1, hw⟩ := hpost
                rw [hw] at hP hD
                cases hs : gs i r with
                | true =>
                    rw [hs, if_pos rfl] at hr1
                    refine mg_top (show rv = nI (1) from hr1) ?_
                    refine mz_ne (pc := 61) (tgt := 91) C0 (by decide) d_MO_element_61 (by decide) (fun _ => ?_) (fun h9 => absurd h9 (by decide))
                    have hrx : r = x0 := by
                      rcases Nat.lt_or_ge r x0 with h9 | h9
                      · first
                        | omega
                        | (have h7 := ma_cn_lt hs h9; omega)
                      · omega
                    rw [hrx] at hl
                    refine lv_aload_n (pc := 91) C0.1 C0.2.1 d_MO_element_91 rfl (lv_at hl 0 rfl) ?_
                    refine lv_iload (pc := 92) C0.1 C0.2.1 d_MO_element_92 (lv_at hl 4 rfl) ?_
                    refine mg_ci (pc := 94) (As := [.int (nI (x0))]) (rest := []) C0 (c_MO_keep l D ca ad h2 h6 hx0 h40 ws0 hM) lk_MO_92 (by decide) fx rfl hK hP hD hS hA rfl hl.1 rfl (Nat.le_of_ble_eq_true rfl) d_MO_element_94 (fun rv ws H locs hpost hP hD hS => ?_)
                    obtain ⟨hr1, hM1, hfr⟩ := hpost
                    have E : sp_element n (len, tx, pc, rk, gc, gs) (nI i) (nI q) = sp_keep (len, tx, pc, rk, gc, gs) x0 := by simp only [sp_element, he, he2, hel]
                    exact hret _ _ _ _ 97 _ (rfl) (⟨by rw [E]; exact hr1, by rw [E]; exact hM1, hfr⟩) hP hD hS d_MO_element_97
                | false =>
                    have hr0 := hr1
                    rw [hs, if_neg (by decide)] at hr1
                    refine mg_top (show rv = nI (0) from hr1) ?_
                    refine mz_ne (pc := 61) (tgt := 91) C0 (by decide) d_MO_element_61 (by decide) (fun h9 => absurd rfl h9) (fun _ => ?_)
                    refine lv_aload_n (pc := 64) C0.1 C0.2.1 d_MO_element_64 rfl (lv_at hl 0 rfl) ?_
                    refine lv_iload_n (pc := 65) C0.1 C0.2.1 d_MO_element_65 rfl (lv_at hl 1 rfl) ?_
                    refine lv_iload (pc := 66) C0.1 C0.2.1 d_MO_element_66 (lv_at hl 4 rfl) ?_
                    refine mg_ci (pc := 68) (As := [.int (nI (i)), .int (nI (r))]) (rest := []) C0 (c_MO_has l D ca ad h2 h6 (by omega) hrN hmg.1 ws0 fx fs) lk_MO_57 (by decide) fx rfl hK hP hD hS hA rfl hl.1 rfl (Nat.le_of_ble_eq_true rfl) d_MO_element_68 (fun rv ws1 H locs hpost hP hD hS => ?_)
                    obtain ⟨hr1, hw⟩ := hpost
                    rw [hw] at hP hD
                    rw [hs, if_neg (by decide)] at hr1
                    refine mg_top (show rv = nI (0) from hr1) ?_
                    refine mz_eq (pc := 71) (tgt := 80) C0 (by decide) d_MO_element_71 (by decide) (fun _ => ?_) (fun h9 => absurd rfl h9)
                    refine lv_iload_n (pc := 80) C0.1 C0.2.1 d_MO_element_80 rfl (lv_at hl 3 rfl) ?_
                    refine lv_istore_n (pc := 81) (lv' := [(3, .int (nI (q - ma_cn (gs i) r))), (0, .ref (ad 52)), (1, .int (nI (i))), (2, .int (nI (q))), (4, .int (nI (r)))]) C0.1 C0.2.1 d_MO_element_81 rfl hl (by decide) rfl (fun ls hl => ?_)
                    refine lv_iload (pc := 82) C0.1 C0.2.1 d_MO_element_82 (lv_at hl 4 rfl) ?_
                    refine lv_iconst (pc := 84) (v := nI (1)) C0.1 C0.2.1 d_MO_element_84 (by decide +kernel) ?_
                    refine mn_add (pc := 85) C0 d_MO_element_85 ?_
                    refine lv_istore (pc := 86) (lv' := [(4, .int (nI (r + 1))), (3, .int (nI (q - ma_cn (gs i) r))), (0, .ref (ad 52)), (1, .int (nI (i))), (2, .int (nI (q)))]) C0.1 C0.2.1 d_MO_element_86 hl (by decide) rfl (fun ls hl => ?_)
                    refine lv_goto (pc := 88) (tgt := 39) C0.1 C0.2.1 d_MO_element_88 (by decide) ?_
                    have hne : r ≠ x0 := fun h9 => by rw [h9, hsx] at hs; exact absurd hs (by decide)
                    have e1 : ma_cn (gs i) (r + 1) = ma_cn (gs i) r := by show ma_cn (gs i) r + (if gs i r = true then 1 else 0) = _; rw [hs, if_neg (by decide)]; exact Nat.add_zero _
                    rw [← e1] at hl
                    exact ih_loop _ (by omega) (r + 1) _ _ _ rfl (by omega) (lv_sub hl [2, 3, 4, 1, 0] rfl) hP hD hS
        exact loop _ 0 _ _ _ rfl (by omega) (lv_sub hl [2, 3, 4, 1, 0] rfl) hP hD hS
set_option maxHeartbeats 4000000 in
set_option maxRecDepth 100000 in
theorem c_MO_least (l : Launch) (D : va_G) (ca : Nat → ClassId) (ad : Nat → Nat) {n : Nat} (h2 : 2 ≤ n) (h6 : n ≤ 6) {len : Nat} {tx : Nat → Nat} {pc : Nat} {rk : Nat → Nat} {gc : Nat} {gs : Nat → Nat → Bool} {a b : Int32} (ws0 : va_W) (h : MOW ca ad n (len, tx, pc, rk, gc, gs) ws0) : mg_I l y_MO_least b_MO_least 6 (.int) 3 D classes (tys_ ca) [.ref (ad 52), .int (a), .int (b)] ws0 (fun v w => v = (sp_least n (len, tx, pc, rk, gc, gs) a b).1 ∧ MOW ca ad n (sp_least n (len, tx, pc, rk, gc, gs) a b).2 w ∧ ∀ j, j < 52 → w[j]? = ws0[j]?) := by
  have hM := h
  obtain ⟨zx, ⟨im, zi, him⟩, ⟨pe, ze, hpe⟩, ⟨st, my, ge, zs, zy, zg, hgs⟩, ⟨fn, znn⟩, ⟨ch, zc, hch⟩, hlen, htx, hp, hrk, hg⟩ := h
  have hN := pm_fc_le h6
  have g0 := pm_gp h2 h6
  have hk_ : pc < 2 ^ 30 ∧ gc < 2 ^ 30 := ⟨by omega, by omega⟩
  refine mg_openI (own := R_MO) rfl (by decide) (Nat.le_of_ble_eq_true rfl) ?_
  intro p e s m args below meth c A Q ls C0 hK hA hP hD hS hl hret
  have hl : lv_has ls 6 [(0, .ref (ad 52)), (1, .int (a)), (2, .int (b))] := hl
  have fx := zx
  have fi := zi
  have fe := ze
  have fs := zs
  have fy := zy
  have fg := zg
  have fnn := znn
  have fc := zc
  have hN0 := pm_fc_pos n
  rcases sp_ix_or a (k := gc) (by omega) with ⟨hb_i, he⟩ | ⟨i, hi, rfl, he⟩
  · refine lv_aload_n (pc := 0) C0.1 C0.2.1 d_MO_least_0 rfl (lv_at hl 0 rfl) ?_
    refine lv_iload_n (pc := 1) C0.1 C0.2.1 d_MO_least_1 rfl (lv_at hl 1 rfl) ?_
    refine mg_ci (pc := 2) (As := [.int (a)]) (rest := []) C0 (c_MO_isGroup0 l D ca ad hb_i hk_.2 ws0 fx) lk_MO_102 (by decide) fx rfl hK hP hD hS hA rfl hl.1 rfl (Nat.le_of_ble_eq_true rfl) d_MO_least_2 (fun rv ws1 H locs hpost hP hD hS => ?_)
    obtain ⟨hr1, hw⟩ := hpost
    rw [hw] at hP hD
    refine mg_top (show rv = nI (0) from hr1) ?_
    refine mz_eq (pc := 5) (tgt := 25) C0 (by decide) d_MO_least_5 (by decide) (fun _ => ?_) (fun h9 => absurd rfl h9)
    have E : sp_least n (len, tx, pc, rk, gc, gs) a b = ((-1), (len, tx, pc, rk, gc, gs)) := by simp only [sp_least, he]
    refine lv_iconst (pc := 25) (v := (-1)) C0.1 C0.2.1 d_MO_least_25 (by decide +kernel) ?_
    exact hret _ _ _ _ 26 _ (rfl) (⟨by rw [E], by rw [E]; exact hM, fun _ _ => rfl⟩) hP hD hS d_MO_least_26
  · refine lv_aload_n (pc := 0) C0.1 C0.2.1 d_MO_least_0 rfl (lv_at hl 0 rfl) ?_
    refine lv_iload_n (pc := 1) C0.1 C0.2.1 d_MO_least_1 rfl (lv_at hl 1 rfl) ?_
    refine mg_ci (pc := 2) (As := [.int (nI (i))]) (rest := []) C0 (c_MO_isGroup1 l D ca ad hi hk_.2 ws0 fx) lk_MO_102 (by decide) fx rfl hK hP hD hS hA rfl hl.1 rfl (Nat.le_of_ble_eq_true rfl) d_MO_least_2 (fun rv ws1 H locs hpost hP hD hS => ?_)
    obtain ⟨hr1, hw⟩ := hpost
    rw [hw] at hP hD
    refine mg_top (show rv = nI (1) from hr1) ?_
    refine mz_eq (pc := 5) (tgt := 25) C0 (by decide) d_MO_least_5 (by decide) (fun h9 => absurd h9 (by decide)) (fun _ => ?_)
    refine lv_aload_n (pc := 8) C0.1 C0.2.1 d_MO_least_8 rfl (lv_at hl 0 rfl) ?_
    refine lv_iload_n (pc := 9) C0.1 C0.2.1 d_MO_least_9 rfl (lv_at hl 2 rfl) ?_
    rcases sp_ix_or b (k := pc) (by omega) with ⟨hb_q, he2⟩ | ⟨q, hq, rfl, he2⟩
    · refine mg_ci (pc := 10) (As := [.int (b)]) (rest := []) C0 (c_MO_isPermutation0 l D ca ad hb_q hk_.1 ws0 fx) lk_MO_98 (by decide) fx rfl hK hP hD hS hA rfl hl.1 rfl (Nat.le_of_ble_eq_true rfl) d_MO_least_10 (fun rv ws1 H locs hpost hP hD hS => ?_)
      obtain ⟨hr1, hw⟩ := hpost
      rw [hw] at hP hD
      refine mg_top (show rv = nI (0) from hr1) ?_
      refine mz_eq (pc := 13) (tgt := 25) C0 (by decide) d_MO_least_13 (by decide) (fun _ => ?_) (fun h9 => absurd rfl h9)
      have E : sp_least n (len, tx, pc, rk, gc, gs) (nI i) b = ((-1), (len, tx, pc, rk, gc, gs)) := by simp only [sp_least, he, he2]
      refine lv_iconst (pc := 25) (v := (-1)) C0.1 C0.2.1 d_MO_least_25 (by decide +kernel) ?_
      exact hret _ _ _ _ 26 _ (rfl) (⟨by rw [E], by rw [E]; exact hM, fun _ _ => rfl⟩) hP hD hS d_MO_least_26
    · refine mg_ci (pc := 10) (As := [.int (nI (q))]) (rest := []) C0 (c_MO_isPermutation1 l D ca ad hq hk_.1 ws0 fx) lk_MO_98 (by decide) fx rfl hK hP hD hS hA rfl hl.1 rfl (Nat.le_of_ble_eq_true rfl) d_MO_least_10 (fun rv ws1 H locs hpost hP hD hS => ?_)
      obtain ⟨hr1, hw⟩ := hpost
      rw [hw] at hP hD
      refine mg_top (show rv = nI (1) from hr1) ?_
      refine mz_eq (pc := 13) (tgt := 25) C0 (by decide) d_MO_least_13 (by decide) (fun h9 => absurd h9 (by decide)) (fun _ => ?_)
      obtain ⟨G, k, hmg⟩ := hgs i hi
      have hcn := ma_cn_le (gs i) (pm_fc n)
      refine lv_aload_n (pc := 16) C0.1 C0.2.1 d_MO_least_16 rfl (lv_at hl 0 rfl) ?_
      refine mg_get (pc := 17) C0 in_MO hK hP (52) fx rfl 3 (by decide) fl_MO_13 rfl d_MO_least_17 ?_
      refine lv_bipush (pc := 20) (v := nI (40)) C0.1 C0.2.1 d_MO_least_20 (by decide +kernel) ?_
      refine mb_lt (pc := 22) (tgt := 27) C0 (by omega) (by omega) d_MO_least_22 (by decide) (fun hc => ?_) (fun hc => ?_)
      · have h40 := hc
        have hsg := hmg.2.2.2.1.1
        refine lv_aload_n (pc := 27) C0.1 C0.2.1 d_MO_least_27 rfl (lv_at hl 0 rfl) ?_
        refine mg_get (pc := 28) C0 in_MO hK hP (52) fx rfl 1 (by decide) fl_MO_39 rfl d_MO_least_28 ?_
        refine lv_istore_n (pc := 31) (lv' := [(3, .int (nI (pm_fc n))), (0, .ref (ad 52)), (1, .int (nI (i))), (2, .int (nI (q)))]) C0.1 C0.2.1 d_MO_least_31 rfl hl (by decide) rfl (fun ls hl => ?_)
        refine lv_iconst (pc := 32) (v := nI (0)) C0.1 C0.2.1 d_MO_least_32 (by decide +kernel) ?_
        refine lv_istore (pc := 33) (lv' := [(4, .int (nI (0))), (3, .int (nI (pm_fc n))), (0, .ref (ad 52)), (1, .int (nI (i))), (2, .int (nI (q)))]) C0.1 C0.2.1 d_MO_least_33 hl (by decide) rfl (fun ls hl => ?_)
        have loop : ∀ (d : Nat) (r : Nat) (H : Heap) (locs : List Loc) (ls : Array Slot), pm_fc n - r = d → (r ≤ pm_fc n) → lv_has ls 6 [(0, .ref (ad 52)), (1, .int (nI (i))), (2, .int (nI (q))), (3, .int (nI (mo_lb n (gs i) (rk q) r))), (4, .int (nI (r)))] → va_P D classes ws0 H → va_D A ws0 → va_S A s.heap H locs → W p l e (mg_rm 3) s m args below meth c H locs 0 0 Q (F0 m 35 ls []) := by
          intro d
          induction d using Nat.strongRecOn with
          | _ d ih_loop =>
            intro r H locs ls hd hr hl hP hD hS
            have hlb := mo_lb_le n (gs i) (rk q) r
            refine lv_iload (pc := 35) C0.1 C0.2.1 d_MO_least_35 (lv_at hl 4 rfl) ?_
            refine lv_aload_n (pc := 37) C0.1 C0.2.1 d_MO_least_37 rfl (lv_at hl 0 rfl) ?_
            refine mg_get (pc := 38) C0 in_MO hK hP (52) fx rfl 1 (by decide) fl_MO_39 rfl d_MO_least_38 ?_
            refine mb_ge (pc := 41) (tgt := 94) C0 (by omega) (by omega) d_MO_least_41 (by decide) (fun hc => ?_) (fun hc => ?_)
            · have hrr : r = pm_fc n := by omega
              rw [hrr] at hl
              have elb : mo_lb n (gs i) (rk q) (pm_fc n) = su_lf n (gs i) (rk q) (pm_fc n) := mo_lb_eq g0 hsg.1 (hrk q hq)
              rw [elb] at hl
              refine lv_aload_n (pc := 94) C0.1 C0.2.1 d_MO_least_94 rfl (lv_at hl 0 rfl) ?_
              refine lv_iload_n (pc := 95) C0.1 C0.2.1 d_MO_least_95 rfl (lv_at hl 3 rfl) ?_
              refine mg_ci (pc := 96) (As := [.int (nI (su_lf n (gs i) (rk q) (pm_fc n)))]) (rest := []) C0 (c_MO_keep l D ca ad h2 h6 (Nat.lt_of_le_of_lt (su_lf_le _ _ _ _) (hrk q hq)) h40 ws0 hM) lk_MO_92 (by decide) fx rfl hK hP hD hS hA rfl hl.1 rfl (Nat.le_of_ble_eq_true rfl) d_MO_least_96 (fun rv ws H locs hpost hP hD hS => ?_)
              obtain ⟨hr1, hM1, hfr⟩ := hpost
              have E : sp_least n (len, tx, pc, rk, gc, gs) (nI i) (nI q) = sp_keep (len, tx, pc, rk, gc, gs) (su_lf n (gs i) (rk q) (pm_fc n)) := by simp only [sp_least, he, he2]
              exact hret _ _ _ _ 99 _ (rfl) (⟨by rw [E]; exact hr1, by rw [E]; exact hM1, hfr⟩) hP hD hS d_MO_least_99
            · have hrN := hc
              refine lv_aload_n (pc := 44) C0.1 C0.2.1 d_MO_least_44 rfl (lv_at hl 0 rfl) ?_
              refine lv_iload_n (pc := 45) C0.1 C0.2.1 d_MO_least_45 rfl (lv_at hl 1 rfl) ?_
              refine lv_iload (pc := 46) C0.1 C0.2.1 d_MO_least_46 (lv_at hl 4 rfl) ?_
              refine mg_ci (pc := 48) (As := [.int (nI (i)), .int (nI (r))]) (rest := []) C0 (c_MO_has l D ca ad h2 h6 (by omega) hrN hmg.1 ws0 fx fs) lk_MO_57 (by decide) fx rfl hK hP hD hS hA rfl hl.1 rfl (Nat.le_of_ble_eq_true rfl) d_MO_least_48 (fun rv ws1 H locs hpost hP hD hS => ?_)
              obtain ⟨hr1, hw⟩ := hpost
              rw [hw] at hP hD
              cases hs : gs i r with
              | true =>
                  rw [hs, if_pos rfl] at hr1
                  refine mg_top (show rv = nI (1) from hr1) ?_
                  refine mz_eq (pc := 51) (tgt := 69) C0 (by decide) d_MO_least_51 (by decide) (fun h9 => absurd h9 (by decide)) (fun _ => ?_)
                  have hmu := gp_m g0 (hrk q hq) hrN
                  refine lv_aload_n (pc := 54) C0.1 C0.2.1 d_MO_least_54 rfl (lv_at hl 0 rfl) ?_
                  refine lv_aload_n (pc := 55) C0.1 C0.2.1 d_MO_least_55 rfl (lv_at hl 0 rfl) ?_
                  refine mg_get (pc := 56) C0 in_MO hK hP (52) fx rfl 4 (by decide) fl_MO_17 rfl d_MO_least_56 ?_
                  refine lv_iload_n (pc := 59) C0.1 C0.2.1 d_MO_least_59 rfl (lv_at hl 2 rfl) ?_
                  refine mg_ild (pc := 60) C0 hK hP (54) 1 fe rfl (j := q) (by omega) (by omega) d_MO_least_60 ?_
                  refine mg_top (show pe (q) = nI (rk q) from hpe q hq) ?_
                  refine lv_iload (pc := 61) C0.1 C0.2.1 d_MO_least_61 (lv_at hl 4 rfl) ?_
                  refine mg_ci (pc := 63) (As := [.int (nI (rk q)), .int (nI (r))]) (rest := []) C0 (c_MO_times l D ca ad h2 h6 him (hrk q hq) hrN ws0 fx fi) lk_MO_64 (by decide) fx rfl hK hP hD hS hA rfl hl.1 rfl (Nat.le_of_ble_eq_true rfl) d_MO_least_63 (fun rv ws1 H locs hpost hP hD hS => ?_)
                  obtain ⟨hr1, hw⟩ := hpost
                  rw [hw] at hP hD
                  refine mg_top (show rv = nI (pm_mu n (rk q) r) from hr1) ?_
                  refine lv_goto (pc := 66) (tgt := 73) C0.1 C0.2.1 d_MO_least_66 (by decide) ?_
                  refine lv_istore (pc := 73) (lv' := [(5, .int (nI (pm_mu n (rk q) r))), (0, .ref (ad 52)), (1, .int (nI (i))), (2, .int (nI (q))), (3, .int (nI (mo_lb n (gs i) (rk q) r))), (4, .int (nI (r)))]) C0.1 C0.2.1 d_MO_least_73 hl (by decide) rfl (fun ls hl => ?_)
                  refine lv_iload (pc := 75) C0.1 C0.2.1 d_MO_least_75 (lv_at hl 0 rfl) ?_
                  refine lv_iload_n (pc := 77) C0.1 C0.2.1 d_MO_least_77 rfl (lv_at hl 4 rfl) ?_
                  have e1 : mo_lb n (gs i) (rk q) (r + 1) = min (mo_lb n (gs i) (rk q) r) (pm_mu n (rk q) r) := by show (if gs i r = true then _ else _) = _; rw [if_pos hs]
                  refine mb_ge (pc := 78) (tgt := 86) C0 (by omega) (by omega) d_MO_least_78 (by decide) (fun hc => ?_) (fun hc => ?_)
                  · refine lv_iload_n (pc := 86) C0.1 C0.2.1 d_MO_least_86 rfl (lv_at hl 4 rfl) ?_
                    refine mg_top (show nI (mo_lb n (gs i) (rk q) r) = nI (mo_lb n (gs i) (rk q) (r + 1)) from congrArg nI (by rw [e1]; omega)) ?_
                    refine lv_istore_n (pc := 87) (lv' := [(3, .int (nI (mo_lb n (gs i) (rk q) (r + 1)))), (5, .int (nI (pm_mu n (rk q) r))), (0, .ref (ad 52)), (1, .int (nI (i))), (2, .int (nI (q))), (4, .int (nI (r)))]) C0.1 C0.2.1 d_MO_least_87 rfl hl (by decide) rfl (fun ls hl => ?_)
                    refine lv_iinc (pc := 88) (k := 5) (v := nI (r + 1)) (lv' := [(4, .int (nI (r + 1))), (3, .int (nI (mo_lb n (gs i) (rk q) (r + 1)))), (5, .int (nI (pm_mu n (rk q) r))), (0, .ref (ad 52)), (1, .int (nI (i))), (2, .int (nI (q)))]) C0.1 C0.2.1 d_MO_least_88 hl rfl (nb_p1 _) (by decide) rfl (fun ls hl => ?_)
                    refine lv_goto (pc := 91) (tgt := 35) C0.1 C0.2.1 d_MO_least_91 (by decide) ?_
                    exact ih_loop _ (by omega) (r + 1) _ _ _ rfl (by omega) (lv_sub hl [3, 4, 5, 1, 0] rfl) hP hD hS
                  · refine lv_iload (pc := 81) C0.1 C0.2.1 d_MO_least_81 (lv_at hl 0 rfl) ?_
                    refine lv_goto (pc := 83) (tgt := 87) C0.1 C0.2.1 d_MO_least_83 (by decide) ?_
                    refine mg_top (show nI (pm_mu n (rk q) r) = nI (mo_lb n (gs i) (rk q) (r + 1)) from congrArg nI (by rw [e1]; omega)) ?_
                    refine lv_istore_n (pc := 87) (lv' := [(3, .int (nI (mo_lb n (gs i) (rk q) (r + 1)))), (5, .int (nI (pm_mu n (rk q) r))), (0, .ref (ad 52)), (1, .int (nI (i))), (2, .int (nI (q))), (4, .int (nI (r)))]) C0.1 C0.2.1 d_MO_least_87 rfl hl (by decide) rfl (fun ls hl => ?_)
                    refine lv_iinc (pc := 88) (k := 5) (v := nI (r + 1)) (lv' := [(4, .int (nI (r + 1))), (3, .int (nI (mo_lb n (gs i) (rk q) (r + 1)))), (5, .int (nI (pm_mu n (rk q) r))), (0, .ref (ad 52)), (1, .int (nI (i))), (2, .int (nI (q)))]) C0.1 C0.2.1 d_MO_least_88 hl rfl (nb_p1 _) (by decide) rfl (fun ls hl => ?_)
                    refine lv_goto (pc := 91) (tgt := 35) C0.1 C0.2.1 d_MO_least_91 (by decide) ?_
                    exact ih_loop _ (by omega) (r + 1) _ _ _ rfl (by omega) (lv_sub hl [3, 4, 5, 1, 0] rfl) hP hD hS
              | false =>
                  rw [hs, if_neg (by decide)] at hr1
                  refine mg_top (show rv = nI (0) from hr1) ?_
                  refine mz_eq (pc := 51) (tgt := 69) C0 (by decide) d_MO_least_51 (by decide) (fun _ => ?_) (fun h9 => absurd rfl h9)
                  refine lv_aload_n (pc := 69) C0.1 C0.2.1 d_MO_least_69 rfl (lv_at hl 0 rfl) ?_
                  refine mg_get (pc := 70) C0 in_MO hK hP (52) fx rfl 1 (by decide) fl_MO_39 rfl d_MO_least_70 ?_
                  refine lv_istore (pc := 73) (lv' := [(5, .int (nI (pm_fc n))), (0, .ref (ad 52)), (1, .int (nI (i))), (2, .int (nI (q))), (3, .int (nI (mo_lb n (gs i) (rk q) r))), (4, .int (nI (r)))]) C0.1 C0.2.1 d_MO_least_73 hl (by decide) rfl (fun ls hl => ?_)
                  refine lv_iload (pc := 75) C0.1 C0.2.1 d_MO_least_75 (lv_at hl 0 rfl) ?_
                  refine lv_iload_n (pc := 77) C0.1 C0.2.1 d_MO_least_77 rfl (lv_at hl 4 rfl) ?_
                  refine mb_ge (pc := 78) (tgt := 86) C0 (by omega) (by omega) d_MO_least_78 (by decide) (fun hc => ?_) (fun hc => ?_)
                  · refine lv_iload_n (pc := 86) C0.1 C0.2.1 d_MO_least_86 rfl (lv_at hl 4 rfl) ?_
                    refine lv_istore_n (pc := 87) (lv' := [(3, .int (nI (mo_lb n (gs i) (rk q) r))), (5, .int (nI (pm_fc n))), (0, .ref (ad 52)), (1, .int (nI (i))), (2, .int (nI (q))), (4, .int (nI (r)))]) C0.1 C0.2.1 d_MO_least_87 rfl hl (by decide) rfl (fun ls hl => ?_)
                    refine lv_iinc (pc := 88) (k := 5) (v := nI (r + 1)) (lv' := [(4, .int (nI (r + 1))), (3, .int (nI (mo_lb n (gs i) (rk q) r))), (5, .int (nI (pm_fc n))), (0, .ref (ad 52)), (1, .int (nI (i))), (2, .int (nI (q)))]) C0.1 C0.2.1 d_MO_least_88 hl rfl (nb_p1 _) (by decide) rfl (fun ls hl => ?_)
                    refine lv_goto (pc := 91) (tgt := 35) C0.1 C0.2.1 d_MO_least_91 (by decide) ?_
                    have e1 : mo_lb n (gs i) (rk q) (r + 1) = mo_lb n (gs i) (rk q) r := by show (if gs i r = true then _ else _) = _; rw [hs, if_neg (by decide)]
                    rw [← e1] at hl
                    exact ih_loop _ (by omega) (r + 1) _ _ _ rfl (by omega) (lv_sub hl [3, 4, 5, 1, 0] rfl) hP hD hS
                  · exact absurd hc (by omega)
        exact loop _ 0 _ _ _ rfl (by omega) (lv_sub hl [2, 3, 4, 1, 0] rfl) hP hD hS
      · have E : sp_least n (len, tx, pc, rk, gc, gs) (nI i) (nI q) = ((-1), (len, tx, pc, rk, gc, gs)) := by simp only [sp_least, he, he2, sp_keep, if_neg (show ¬ pc < 40 by omega)]
        refine lv_iconst (pc := 25) (v := (-1)) C0.1 C0.2.1 d_MO_least_25 (by decide +kernel) ?_
        exact hret _ _ _ _ 26 _ (rfl) (⟨by rw [E], by rw [E]; exact hM, fun _ _ => rfl⟩) hP hD hS d_MO_least_26
