/-! The reference: its calls, fourth part -/
theorem mo_cp {n a b k : Nat} {S : Nat → Bool} {G : Nat → Nat} {st st1 : Nat → Int64} {my ge ge1 : Nat → Int32} (hmg : mo_g n st my ge a S G k) (hc : ∀ S, mo_wd st a S → mo_wd st1 b S) (hoc : ∀ h i, h ≠ b → i < 12 → st1 (12 * h + i) = st (12 * h + i)) (hg1 : ∀ j, j < k → ge1 (20 * b + j) = ge (20 * a + j)) (hg2 : ∀ h j, h ≠ b → j < 20 → ge1 (20 * h + j) = ge (20 * h + j)) : mo_sm st my ge st1 (upd my b (nI k)) ge1 b ∧ mo_g n st1 (upd my b (nI k)) ge1 b S G k :=
  ⟨fun h h1 _ _ => ⟨fun i hi => hoc h i h1 hi, pk_un h1, fun j hj => hg2 h j h1 hj⟩, hc S hmg.1, pk_us, fun j hj => (hg1 j hj).trans (hmg.2.2.1 j hj), hmg.2.2.2⟩
def mo_ca (n : Nat) (S0 S : Nat → Bool) (u bf : Nat) : Prop := (bf ≠ ma_cn S (pm_fc n) ∧ ma_cn S (pm_fc n) * 2 ^ u ≤ 720 ∧ sp_ln n (10 - u) u S = sp_ln n 10 0 S0) ∨ (bf = ma_cn S (pm_fc n) ∧ ma_cn S (pm_fc n) ≠ 1 ∧ sp_ln n 10 0 S0 = (-1))
theorem mo_ca0 {n : Nat} {S : Nat → Bool} (hN : pm_fc n ≤ 720) (h0 : S 0 = true) : mo_ca n S S 0 0 := by
  have h1 := ma_cn_lt (S := S) (r := 0) h0 (pm_fc_pos n)
  have h2 := ma_cn_le S (pm_fc n)
  exact Or.inl ⟨by omega, by rw [Nat.pow_zero]; omega, rfl⟩
theorem mo_caE {n u bf : Nat} {S0 S : Nat → Bool} (h : mo_ca n S0 S u bf) (hp : 0 < ma_cn S (pm_fc n)) (hx : 10 ≤ u ∨ ma_cn S (pm_fc n) ≤ 1 ∨ ma_cn S (pm_fc n) = bf) : (ma_cn S (pm_fc n) = 1 → sp_ln n 10 0 S0 = nI u) ∧ (ma_cn S (pm_fc n) ≠ 1 → sp_ln n 10 0 S0 = (-1)) := by
  rcases h with ⟨h1, h2, h3⟩ | ⟨h1, h2, h3⟩
  · refine ⟨fun e => ?_, fun e => ?_⟩
    · rcases Nat.lt_or_ge u 10 with hu | hu
      · obtain ⟨f, hf⟩ : ∃ f, 10 - u = f + 1 := ⟨10 - u - 1, by omega⟩
        rw [← h3, hf]
        show (if ma_cn S (pm_fc n) = 1 then nI u else _) = nI u
        rw [if_pos e]
      · have h4 : 2 ^ 10 ≤ 2 ^ u := Nat.pow_le_pow_right (by decide) hu
        rw [e] at h2
        have h5 : (2 : Nat) ^ 10 = 1024 := rfl
        omega
    · have hu : 10 ≤ u := by omega
      rw [← h3, show 10 - u = 0 by omega]
      rfl
  · exact ⟨fun e => absurd e h2, fun _ => h3⟩
theorem mo_caS {n u bf : Nat} {S0 S S1 : Nat → Bool} (g : gp_ok (pm_fc n) (pm_mu n) (pm_iv n)) (h : mo_ca n S0 S u bf) (hb : ma_cn S (pm_fc n) ≠ bf) (h1 : ma_cn S (pm_fc n) ≠ 1) (hu : u < 10) (hS : gp_sg (pm_fc n) (pm_mu n) (pm_iv n) (fun x => S x = true)) (hd : gp_der (pm_fc n) (pm_mu n) (pm_iv n) (fun x => S x = true) (fun x => S1 x = true)) : mo_ca n S0 S1 (u + 1) (ma_cn S (pm_fc n)) := by
  have hsub : ∀ x, S1 x = true → S x = true := hd.2.2 _ hS (fun x y hx hy => hS.2.2.1 _ _ (hS.2.2.1 _ _ (hS.2.2.2 x hx) (hS.2.2.2 y hy)) (hS.2.2.1 x y hx hy))
  rcases h with ⟨-, h2, h3⟩ | ⟨h2, -, -⟩
  · obtain ⟨f, hf⟩ : ∃ f, 10 - u = f + 1 := ⟨10 - u - 1, by omega⟩
    rw [hf] at h3
    have h4 : (if ma_cn S (pm_fc n) = 1 then nI u else if ma_cn (sp_der n S) (pm_fc n) = ma_cn S (pm_fc n) then (-1) else sp_ln n f (u + 1) (sp_der n S)) = sp_ln n 10 0 S0 := h3
    rw [if_neg h1, sp_der_eq hd] at h4
    by_cases e : ma_cn S1 (pm_fc n) = ma_cn S (pm_fc n)
    · rw [if_pos e] at h4
      exact Or.inr ⟨e.symm, by omega, h4.symm⟩
    · rw [if_neg e] at h4
      refine Or.inl ⟨fun q => e q.symm, ?_, ?_⟩
      · have hex : ∃ a, S a = true ∧ S1 a = false := by
          apply Classical.byContradiction
          intro hn
          apply e
          refine ma_cn_congr (fun r _ => ?_)
          cases hr : S r with
          | false =>
            cases hr1 : S1 r with
            | false => rfl
            | true => rw [hsub r hr1] at hr; exact absurd hr (by decide)
          | true =>
            cases hr1 : S1 r with
            | true => rfl
            | false => exact absurd ⟨r, hr, hr1⟩ hn
        obtain ⟨a, ha, hna⟩ := hex
        have h5 := gp_half g hd.1 hS hsub ha hna
        have h6 : 2 * ma_cn S1 (pm_fc n) * 2 ^ u ≤ ma_cn S (pm_fc n) * 2 ^ u := Nat.mul_le_mul_right _ h5
        rw [Nat.pow_succ]
        have h7 : ma_cn S1 (pm_fc n) * (2 ^ u * 2) = 2 * ma_cn S1 (pm_fc n) * 2 ^ u := by
          rw [Nat.mul_comm (2 ^ u) 2, ← Nat.mul_assoc, Nat.mul_comm _ 2]
        omega
      · rw [show 10 - (u + 1) = f by omega]
        exact h4
  · exact absurd h2.symm hb
theorem nb_byA {word : Int32} {i : Nat} (hi : i < 4) : ((word >>> (nI (8 * i) &&& 31)) &&& nI 255) = nI (ty_b word i) := by
  rw [← nb_by hi]
  apply Int32.toBitVec_inj.mp
  have key : ∀ k, k + 8 ≤ 32 → word.toBitVec.sshiftRight k &&& 255#32 = word.toBitVec >>> k &&& 255#32 := fun k hk => by
    have h8 : ∀ j, j < 32 → 8 ≤ j → (255#32).getLsbD j = false := by decide
    apply BitVec.eq_of_getLsbD_eq
    intro j hj
    rw [BitVec.getLsbD_and, BitVec.getLsbD_and, BitVec.getLsbD_sshiftRight, BitVec.getLsbD_ushiftRight]
    rcases Nat.lt_or_ge j 8 with h | h
    · rw [if_pos (by omega)]
      rw [decide_eq_false (show ¬ 32 ≤ j by omega), Bool.not_false, Bool.true_and]
    · rw [h8 j hj h, Bool.and_false, Bool.and_false]
  have h : i = 0 ∨ i = 1 ∨ i = 2 ∨ i = 3 := by omega
  rcases h with h | h | h | h <;> subst h
  · exact key 0 (by decide)
  · exact key 8 (by decide)
  · exact key 16 (by decide)
  · exact key 24 (by decide)
set_option maxHeartbeats 4000000 in
set_option maxRecDepth 100000 in
theorem c_MO_length (l : Launch) (D : va_G) (ca : Nat → ClassId) (ad : Nat → Nat) {n : Nat} (h2 : 2 ≤ n) (h6 : n ≤ 6) {len : Nat} {tx : Nat → Nat} {pc : Nat} {rk : Nat → Nat} {gc : Nat} {gs : Nat → Nat → Bool} {a : Int32} (ws0 : va_W) (h : MOW ca ad n (len, tx, pc, rk, gc, gs) ws0) : mg_I l y_MO_length b_MO_length 5 (.int) 6 D classes (tys_ ca) [.ref (ad 52), .int (a)] ws0 (fun v w => v = (sp_length n (len, tx, pc, rk, gc, gs) a).1 ∧ MOW ca ad n (sp_length n (len, tx, pc, rk, gc, gs) a).2 w ∧ ∀ j, j < 52 → w[j]? = ws0[j]?) := by
  have hM := h
  obtain ⟨zx, ⟨im, zi, him⟩, ⟨pe, ze, hpe⟩, ⟨st, my, ge, zs, zy, zg, hgs⟩, ⟨fn, znn⟩, ⟨ch, zc, hch⟩, hlen, htx, hp, hrk, hg⟩ := h
  have hN := pm_fc_le h6
  have g0 := pm_gp h2 h6
  have hk_ : pc < 2 ^ 30 ∧ gc < 2 ^ 30 := ⟨by omega, by omega⟩
  refine mg_openI (own := R_MO) rfl (by decide) (Nat.le_of_ble_eq_true rfl) ?_
  intro p e s m args below meth c A Q ls C0 hK hA hP hD hS hl hret
  have hl : lv_has ls 5 [(0, .ref (ad 52)), (1, .int (a))] := hl
  have fx := zx
  have fi := zi
  have fe := ze
  have fs := zs
  have fy := zy
  have fg := zg
  have fnn := znn
  have fc := zc
  have hfm : ∀ j, j < 52 → ws0[j]? = ws0[j]? := fun _ _ => rfl
  rcases sp_ix_or a (k := gc) (by omega) with ⟨hb_i, he⟩ | ⟨i, hi, rfl, he⟩
  · refine lv_aload_n (pc := 0) C0.1 C0.2.1 d_MO_length_0 rfl (lv_at hl 0 rfl) ?_
    refine lv_iload_n (pc := 1) C0.1 C0.2.1 d_MO_length_1 rfl (lv_at hl 1 rfl) ?_
    refine mg_ci (pc := 2) (As := [.int (a)]) (rest := []) C0 (c_MO_isGroup0 l D ca ad hb_i hk_.2 ws0 fx) lk_MO_102 (by decide) fx rfl hK hP hD hS hA rfl hl.1 rfl (Nat.le_of_ble_eq_true rfl) d_MO_length_2 (fun rv ws1 H locs hpost hP hD hS => ?_)
    obtain ⟨hr1, hw⟩ := hpost
    rw [hw] at hP hD
    refine mg_top (show rv = nI (0) from hr1) ?_
    refine mz_ne (pc := 5) (tgt := 10) C0 (by decide) d_MO_length_5 (by decide) (fun h9 => absurd rfl h9) (fun _ => ?_)
    have E : sp_length n (len, tx, pc, rk, gc, gs) a = ((-1), (len, tx, pc, rk, gc, gs)) := by simp only [sp_length, he]
    refine lv_iconst (pc := 8) (v := (-1)) C0.1 C0.2.1 d_MO_length_8 (by decide +kernel) ?_
    exact hret _ _ _ _ 9 _ (rfl) (⟨by rw [E], by rw [E]; exact hM, hfm⟩) hP hD hS d_MO_length_9
  · refine lv_aload_n (pc := 0) C0.1 C0.2.1 d_MO_length_0 rfl (lv_at hl 0 rfl) ?_
    refine lv_iload_n (pc := 1) C0.1 C0.2.1 d_MO_length_1 rfl (lv_at hl 1 rfl) ?_
    refine mg_ci (pc := 2) (As := [.int (nI (i))]) (rest := []) C0 (c_MO_isGroup1 l D ca ad hi hk_.2 ws0 fx) lk_MO_102 (by decide) fx rfl hK hP hD hS hA rfl hl.1 rfl (Nat.le_of_ble_eq_true rfl) d_MO_length_2 (fun rv ws1 H locs hpost hP hD hS => ?_)
    obtain ⟨hr1, hw⟩ := hpost
    rw [hw] at hP hD
    refine mg_top (show rv = nI (1) from hr1) ?_
    refine mz_ne (pc := 5) (tgt := 10) C0 (by decide) d_MO_length_5 (by decide) (fun _ => ?_) (fun h9 => absurd h9 (by decide))
    obtain ⟨G, k, hmg⟩ := hgs i hi
    have hcn := ma_cn_le (gs i) (pm_fc n)
    have hk9 := mo_k9 h6 hmg
    have E : sp_length n (len, tx, pc, rk, gc, gs) (nI i) = (sp_ln n 10 0 (gs i), (len, tx, pc, rk, gc, gs)) := by simp only [sp_length, he]
    refine lv_aload_n (pc := 10) C0.1 C0.2.1 d_MO_length_10 rfl (lv_at hl 0 rfl) ?_
    refine lv_iload_n (pc := 11) C0.1 C0.2.1 d_MO_length_11 rfl (lv_at hl 1 rfl) ?_
    refine lv_bipush (pc := 12) (v := nI (12)) C0.1 C0.2.1 d_MO_length_12 (by decide +kernel) ?_
    refine mg_cv (pc := 14) (As := [.int (nI (i)), .int (nI (12))]) (rest := []) C0 (c_MO_copy l D ca ad h2 h6 (show i ≠ 12 by omega) (by omega) (by decide) hmg.2.1 (by omega) ws0 fx fs fy fg) lk_MO_61 (by decide) fx rfl hK hP hD hS hA rfl hl.1 rfl (Nat.le_of_ble_eq_true rfl) d_MO_length_14 (fun ws H locs hpost hP hD hS => ?_)
    obtain ⟨hfr, st1, ge1, fs, fy, fg, hc14, hoc, hg1, hgc⟩ := hpost
    have fx := (hfr (52) (by omega)).trans fx
    have fi := (hfr (53) (by omega)).trans fi
    have fe := (hfr (54) (by omega)).trans fe
    have fnn := (hfr (58) (by omega)).trans fnn
    have fc := (hfr (59) (by omega)).trans fc
    have hfm : ∀ j, j < 52 → ws[j]? = ws0[j]? := fun j hj => (hfr j (by omega)).trans (hfm j hj)
    obtain ⟨hsm, hm⟩ := mo_cp hmg hc14 hoc hg1 hgc
    refine lv_iconst (pc := 17) (v := nI (0)) C0.1 C0.2.1 d_MO_length_17 (by decide +kernel) ?_
    refine lv_istore_n (pc := 18) (lv' := [(2, .int (nI (0))), (0, .ref (ad 52)), (1, .int (nI (i)))]) C0.1 C0.2.1 d_MO_length_18 rfl hl (by decide) rfl (fun ls hl => ?_)
    refine lv_iconst (pc := 19) (v := nI (0)) C0.1 C0.2.1 d_MO_length_19 (by decide +kernel) ?_
    refine lv_istore_n (pc := 20) (lv' := [(3, .int (nI (0))), (2, .int (nI (0))), (0, .ref (ad 52)), (1, .int (nI (i)))]) C0.1 C0.2.1 d_MO_length_20 rfl hl (by decide) rfl (fun ls hl => ?_)
    refine lv_iconst (pc := 21) (v := nI (0)) C0.1 C0.2.1 d_MO_length_21 (by decide +kernel) ?_
    refine lv_istore (pc := 22) (lv' := [(4, .int (nI (0))), (3, .int (nI (0))), (2, .int (nI (0))), (0, .ref (ad 52)), (1, .int (nI (i)))]) C0.1 C0.2.1 d_MO_length_22 hl (by decide) rfl (fun ls hl => ?_)
    have loop : ∀ (d : Nat) (u : Nat) (bf : Nat) (st1 : Nat → Int64) (my1 : Nat → Int32) (ge1 : Nat → Int32) (fn1 : Nat → Int32) (S : Nat → Bool) (G : Nat → Nat) (k : Nat) (ws : va_W) (H : Heap) (locs : List Loc) (ls : Array Slot), 10 - u = d → (u ≤ 10) → (bf ≤ 720) → (∀ j, j < gc → ∃ (G : Nat → Nat) (k : Nat), mo_g n st1 my1 ge1 j (gs j) G k) → (mo_g n st1 my1 ge1 12 S G k) → (mo_ca n (gs i) S u bf) → (∀ j, j < 52 → ws[j]? = ws0[j]?) → ws[52]? = some (ad 52, .inr (4, [.int (nI (n)), .int (nI (pm_fc n)), .ref (ad 53), .int (nI (pc)), .ref (ad 54), .int (nI (gc)), .ref (ad 55), .ref (ad 56), .ref (ad 57), .ref (ad 58), .ref (ad 59), .int (nI (len))])) → ws[53]? = some (ad 53, .inl (ca 1, 720, .inl (im))) → ws[54]? = some (ad 54, .inl (ca 1, 40, .inl (pe))) → ws[55]? = some (ad 55, .inl (ca 2, 180, .inr (.inl (st1)))) → ws[56]? = some (ad 56, .inl (ca 1, 15, .inl (my1))) → ws[57]? = some (ad 57, .inl (ca 1, 300, .inl (ge1))) → ws[58]? = some (ad 58, .inl (ca 1, 720, .inl (fn1))) → ws[59]? = some (ad 59, .inl (ca 1, 40, .inl (ch))) → lv_has ls 5 [(0, .ref (ad 52)), (1, .int (nI (i))), (2, .int (nI (u))), (3, .int (nI (bf))), (4, .int (nI (u)))] → va_P D classes ws H → va_D A ws → va_S A s.heap H locs → W p l e (mg_rm 6) s m args below meth c H locs 0 0 Q (F0 m 24 ls []) := by
      intro d
      induction d using Nat.strongRecOn with
      | _ d ih_loop =>
        intro u bf st1 my1 ge1 fn1 S G k ws H locs ls hd hu hbf hgs1 hm hca hfm fx fi fe fs fy fg fnn fc hl hP hD hS
        have hcn9 := ma_cn_le S (pm_fc n)
        have hpos : 0 < ma_cn S (pm_fc n) := Nat.lt_of_le_of_lt (Nat.zero_le _) (ma_cn_lt (S := S) (r := 0) hm.2.2.2.1.1.1 (pm_fc_pos n))
        have hk9 := mo_k9 h6 hm
        refine lv_iload (pc := 24) C0.1 C0.2.1 d_MO_length_24 (lv_at hl 4 rfl) ?_
        refine lv_bipush (pc := 26) (v := nI (10)) C0.1 C0.2.1 d_MO_length_26 (by decide +kernel) ?_
        refine mb_ge (pc := 28) (tgt := 84) C0 (by omega) (by omega) d_MO_length_28 (by decide) (fun hc => ?_) (fun hc => ?_)
        · have hfin := mo_caE hca hpos (Or.inl (by omega))
          refine lv_aload_n (pc := 84) C0.1 C0.2.1 d_MO_length_84 rfl (lv_at hl 0 rfl) ?_
          refine lv_bipush (pc := 85) (v := nI (12)) C0.1 C0.2.1 d_MO_length_85 (by decide +kernel) ?_
          refine mg_ci (pc := 87) (As := [.int (nI (12))]) (rest := []) C0 (c_MO_orderOf l D ca ad h2 h6 (by decide) hm.1 ws fx fs) lk_MO_105 (by decide) fx rfl hK hP hD hS hA rfl hl.1 rfl (Nat.le_of_ble_eq_true rfl) d_MO_length_87 (fun rv ws1 H locs hpost hP hD hS => ?_)
          obtain ⟨hr1, hw⟩ := hpost
          rw [hw] at hP hD
          refine mg_top (show rv = nI (ma_cn S (pm_fc n)) from hr1) ?_
          refine lv_iconst (pc := 90) (v := nI (1)) C0.1 C0.2.1 d_MO_length_90 (by decide +kernel) ?_
          refine mb_ne (pc := 91) (tgt := 98) C0 (by omega) (by omega) d_MO_length_91 (by decide) (fun hc => ?_) (fun hc => ?_)
          · refine lv_iconst (pc := 98) (v := (-1)) C0.1 C0.2.1 d_MO_length_98 (by decide +kernel) ?_
            exact hret _ _ _ _ 99 _ (rfl) (⟨by rw [E]; exact (hfin.2 hc).symm, by rw [E]; exact ⟨fx, ⟨im, fi, him⟩, ⟨_, fe, hpe⟩, ⟨_, _, _, fs, fy, fg, hgs1⟩, ⟨_, fnn⟩, ⟨ch, fc, hch⟩, hlen, htx, hp, hrk, hg⟩, hfm⟩) hP hD hS d_MO_length_99
          · refine lv_iload_n (pc := 94) C0.1 C0.2.1 d_MO_length_94 rfl (lv_at hl 2 rfl) ?_
            refine lv_goto (pc := 95) (tgt := 99) C0.1 C0.2.1 d_MO_length_95 (by decide) ?_
            exact hret _ _ _ _ 99 _ (rfl) (⟨by rw [E]; exact (hfin.1 hc).symm, by rw [E]; exact ⟨fx, ⟨im, fi, him⟩, ⟨_, fe, hpe⟩, ⟨_, _, _, fs, fy, fg, hgs1⟩, ⟨_, fnn⟩, ⟨ch, fc, hch⟩, hlen, htx, hp, hrk, hg⟩, hfm⟩) hP hD hS d_MO_length_99
        · have hu1 := hc
          refine lv_aload_n (pc := 31) C0.1 C0.2.1 d_MO_length_31 rfl (lv_at hl 0 rfl) ?_
          refine lv_bipush (pc := 32) (v := nI (12)) C0.1 C0.2.1 d_MO_length_32 (by decide +kernel) ?_
          refine mg_ci (pc := 34) (As := [.int (nI (12))]) (rest := []) C0 (c_MO_orderOf l D ca ad h2 h6 (by decide) hm.1 ws fx fs) lk_MO_105 (by decide) fx rfl hK hP hD hS hA rfl hl.1 rfl (Nat.le_of_ble_eq_true rfl) d_MO_length_34 (fun rv ws1 H locs hpost hP hD hS => ?_)
          obtain ⟨hr1, hw⟩ := hpost
          rw [hw] at hP hD
          refine mg_top (show rv = nI (ma_cn S (pm_fc n)) from hr1) ?_
          refine lv_iconst (pc := 37) (v := nI (1)) C0.1 C0.2.1 d_MO_length_37 (by decide +kernel) ?_
          refine mb_le (pc := 38) (tgt := 84) C0 (by omega) (by omega) d_MO_length_38 (by decide) (fun hc => ?_) (fun hc => ?_)
          · have hfin := mo_caE hca hpos (Or.inr (Or.inl hc))
            refine lv_aload_n (pc := 84) C0.1 C0.2.1 d_MO_length_84 rfl (lv_at hl 0 rfl) ?_
            refine lv_bipush (pc := 85) (v := nI (12)) C0.1 C0.2.1 d_MO_length_85 (by decide +kernel) ?_
            refine mg_ci (pc := 87) (As := [.int (nI (12))]) (rest := []) C0 (c_MO_orderOf l D ca ad h2 h6 (by decide) hm.1 ws fx fs) lk_MO_105 (by decide) fx rfl hK hP hD hS hA rfl hl.1 rfl (Nat.le_of_ble_eq_true rfl) d_MO_length_87 (fun rv ws1 H locs hpost hP hD hS => ?_)
            obtain ⟨hr1, hw⟩ := hpost
            rw [hw] at hP hD
            refine mg_top (show rv = nI (ma_cn S (pm_fc n)) from hr1) ?_
            refine lv_iconst (pc := 90) (v := nI (1)) C0.1 C0.2.1 d_MO_length_90 (by decide +kernel) ?_
            refine mb_ne (pc := 91) (tgt := 98) C0 (by omega) (by omega) d_MO_length_91 (by decide) (fun hc => ?_) (fun hc => ?_)
            · refine lv_iconst (pc := 98) (v := (-1)) C0.1 C0.2.1 d_MO_length_98 (by decide +kernel) ?_
              exact hret _ _ _ _ 99 _ (rfl) (⟨by rw [E]; exact (hfin.2 hc).symm, by rw [E]; exact ⟨fx, ⟨im, fi, him⟩, ⟨_, fe, hpe⟩, ⟨_, _, _, fs, fy, fg, hgs1⟩, ⟨_, fnn⟩, ⟨ch, fc, hch⟩, hlen, htx, hp, hrk, hg⟩, hfm⟩) hP hD hS d_MO_length_99
            · refine lv_iload_n (pc := 94) C0.1 C0.2.1 d_MO_length_94 rfl (lv_at hl 2 rfl) ?_
              refine lv_goto (pc := 95) (tgt := 99) C0.1 C0.2.1 d_MO_length_95 (by decide) ?_
              exact hret _ _ _ _ 99 _ (rfl) (⟨by rw [E]; exact (hfin.1 hc).symm, by rw [E]; exact ⟨fx, ⟨im, fi, him⟩, ⟨_, fe, hpe⟩, ⟨_, _, _, fs, fy, fg, hgs1⟩, ⟨_, fnn⟩, ⟨ch, fc, hch⟩, hlen, htx, hp, hrk, hg⟩, hfm⟩) hP hD hS d_MO_length_99
          · have hc1 := hc
            refine lv_aload_n (pc := 41) C0.1 C0.2.1 d_MO_length_41 rfl (lv_at hl 0 rfl) ?_
            refine lv_bipush (pc := 42) (v := nI (12)) C0.1 C0.2.1 d_MO_length_42 (by decide +kernel) ?_
            refine mg_ci (pc := 44) (As := [.int (nI (12))]) (rest := []) C0 (c_MO_orderOf l D ca ad h2 h6 (by decide) hm.1 ws fx fs) lk_MO_105 (by decide) fx rfl hK hP hD hS hA rfl hl.1 rfl (Nat.le_of_ble_eq_true rfl) d_MO_length_44 (fun rv ws1 H locs hpost hP hD hS => ?_)
            obtain ⟨hr1, hw⟩ := hpost
            rw [hw] at hP hD
            refine mg_top (show rv = nI (ma_cn S (pm_fc n)) from hr1) ?_
            refine lv_iload_n (pc := 47) C0.1 C0.2.1 d_MO_length_47 rfl (lv_at hl 3 rfl) ?_
            refine mb_eq (pc := 48) (tgt := 84) C0 (by omega) (by omega) d_MO_length_48 (by decide) (fun hc => ?_) (fun hc => ?_)
            · have hfin := mo_caE hca hpos (Or.inr (Or.inr hc))
              refine lv_aload_n (pc := 84) C0.1 C0.2.1 d_MO_length_84 rfl (lv_at hl 0 rfl) ?_
              refine lv_bipush (pc := 85) (v := nI (12)) C0.1 C0.2.1 d_MO_length_85 (by decide +kernel) ?_
              refine mg_ci (pc := 87) (As := [.int (nI (12))]) (rest := []) C0 (c_MO_orderOf l D ca ad h2 h6 (by decide) hm.1 ws fx fs) lk_MO_105 (by decide) fx rfl hK hP hD hS hA rfl hl.1 rfl (Nat.le_of_ble_eq_true rfl) d_MO_length_87 (fun rv ws1 H locs hpost hP hD hS => ?_)
              obtain ⟨hr1, hw⟩ := hpost
              rw [hw] at hP hD
              refine mg_top (show rv = nI (ma_cn S (pm_fc n)) from hr1) ?_
              refine lv_iconst (pc := 90) (v := nI (1)) C0.1 C0.2.1 d_MO_length_90 (by decide +kernel) ?_
              refine mb_ne (pc := 91) (tgt := 98) C0 (by omega) (by omega) d_MO_length_91 (by decide) (fun hc => ?_) (fun hc => ?_)
              · refine lv_iconst (pc := 98) (v := (-1)) C0.1 C0.2.1 d_MO_length_98 (by decide +kernel) ?_
                exact hret _ _ _ _ 99 _ (rfl) (⟨by rw [E]; exact (hfin.2 hc).symm, by rw [E]; exact ⟨fx, ⟨im, fi, him⟩, ⟨_, fe, hpe⟩, ⟨_, _, _, fs, fy, fg, hgs1⟩, ⟨_, fnn⟩, ⟨ch, fc, hch⟩, hlen, htx, hp, hrk, hg⟩, hfm⟩) hP hD hS d_MO_length_99
              · refine lv_iload_n (pc := 94) C0.1 C0.2.1 d_MO_length_94 rfl (lv_at hl 2 rfl) ?_
                refine lv_goto (pc := 95) (tgt := 99) C0.1 C0.2.1 d_MO_length_95 (by decide) ?_
                exact hret _ _ _ _ 99 _ (rfl) (⟨by rw [E]; exact (hfin.1 hc).symm, by rw [E]; exact ⟨fx, ⟨im, fi, him⟩, ⟨_, fe, hpe⟩, ⟨_, _, _, fs, fy, fg, hgs1⟩, ⟨_, fnn⟩, ⟨ch, fc, hch⟩, hlen, htx, hp, hrk, hg⟩, hfm⟩) hP hD hS d_MO_length_99
            · have hcb := hc
              refine lv_aload_n (pc := 51) C0.1 C0.2.1 d_MO_length_51 rfl (lv_at hl 0 rfl) ?_
              refine lv_bipush (pc := 52) (v := nI (12)) C0.1 C0.2.1 d_MO_length_52 (by decide +kernel) ?_
              refine mg_ci (pc := 54) (As := [.int (nI (12))]) (rest := []) C0 (c_MO_orderOf l D ca ad h2 h6 (by decide) hm.1 ws fx fs) lk_MO_105 (by decide) fx rfl hK hP hD hS hA rfl hl.1 rfl (Nat.le_of_ble_eq_true rfl) d_MO_length_54 (fun rv ws1 H locs hpost hP hD hS => ?_)
              obtain ⟨hr1, hw⟩ := hpost
              rw [hw] at hP hD
              refine mg_top (show rv = nI (ma_cn S (pm_fc n)) from hr1) ?_
              refine lv_istore_n (pc := 57) (lv' := [(3, .int (nI (ma_cn S (pm_fc n)))), (0, .ref (ad 52)), (1, .int (nI (i))), (2, .int (nI (u))), (4, .int (nI (u)))]) C0.1 C0.2.1 d_MO_length_57 rfl hl (by decide) rfl (fun ls hl => ?_)
              refine lv_aload_n (pc := 58) C0.1 C0.2.1 d_MO_length_58 rfl (lv_at hl 1 rfl) ?_
              refine lv_bipush (pc := 59) (v := nI (12)) C0.1 C0.2.1 d_MO_length_59 (by decide +kernel) ?_
              refine lv_bipush (pc := 61) (v := nI (13)) C0.1 C0.2.1 d_MO_length_61 (by decide +kernel) ?_
              refine mg_cv (pc := 63) (As := [.int (nI (12)), .int (nI (13))]) (rest := []) C0 (c_MO_derive l D ca ad h2 h6 him (show 12 ≠ 13 by decide) (by decide) (by decide) hm ws fx fi fs fy fg fnn) lk_MO_122 (by decide) fx rfl hK hP hD hS hA rfl hl.1 rfl (Nat.le_of_ble_eq_true rfl) d_MO_length_63 (fun ws H locs hpost hP hD hS => ?_)
              obtain ⟨hfr, st2, my2, ge2, fn2, fs, fy, fg, fnn, hsm2, S1, G1, k1, hmg1, hder⟩ := hpost
              have fx := (hfr (52) (by omega)).trans fx
              have fi := (hfr (53) (by omega)).trans fi
              have fe := (hfr (54) (by omega)).trans fe
              have fc := (hfr (59) (by omega)).trans fc
              have hfm : ∀ j, j < 52 → ws[j]? = ws0[j]? := fun j hj => (hfr j (by omega)).trans (hfm j hj)
              have hgs2 := mow_sp h6 (by decide) hg hsm2 hgs1
              have hk1 := mo_k9 h6 hmg1
              refine lv_aload_n (pc := 66) C0.1 C0.2.1 d_MO_length_66 rfl (lv_at hl 1 rfl) ?_
              refine lv_bipush (pc := 67) (v := nI (13)) C0.1 C0.2.1 d_MO_length_67 (by decide +kernel) ?_
              refine lv_bipush (pc := 69) (v := nI (12)) C0.1 C0.2.1 d_MO_length_69 (by decide +kernel) ?_
              refine mg_cv (pc := 71) (As := [.int (nI (13)), .int (nI (12))]) (rest := []) C0 (c_MO_copy l D ca ad h2 h6 (show 13 ≠ 12 by decide) (by decide) (by decide) hmg1.2.1 (by omega) ws fx fs fy fg) lk_MO_61 (by decide) fx rfl hK hP hD hS hA rfl hl.1 rfl (Nat.le_of_ble_eq_true rfl) d_MO_length_71 (fun ws H locs hpost hP hD hS => ?_)
              obtain ⟨hfr, st3, ge3, fs, fy, fg, hc14, hoc, hg1, hgc⟩ := hpost
              have fx := (hfr (52) (by omega)).trans fx
              have fi := (hfr (53) (by omega)).trans fi
              have fe := (hfr (54) (by omega)).trans fe
              have fc := (hfr (59) (by omega)).trans fc
              have fnn := (hfr (58) (by omega)).trans fnn
              have hfm : ∀ j, j < 52 → ws[j]? = ws0[j]? := fun j hj => (hfr j (by omega)).trans (hfm j hj)
              obtain ⟨hsm3, hm3⟩ := mo_cp hmg1 hc14 hoc hg1 hgc
              refine lv_iload_n (pc := 74) C0.1 C0.2.1 d_MO_length_74 rfl (lv_at hl 3 rfl) ?_
              refine lv_iconst (pc := 75) (v := nI (1)) C0.1 C0.2.1 d_MO_length_75 (by decide +kernel) ?_
              refine mn_add (pc := 76) C0 d_MO_length_76 ?_
              refine lv_istore_n (pc := 77) (lv' := [(2, .int (nI (u + 1))), (3, .int (nI (ma_cn S (pm_fc n)))), (0, .ref (ad 52)), (1, .int (nI (i))), (4, .int (nI (u)))]) C0.1 C0.2.1 d_MO_length_77 rfl hl (by decide) rfl (fun ls hl => ?_)
              refine lv_iinc (pc := 78) (k := 4) (v := nI (u + 1)) (lv' := [(4, .int (nI (u + 1))), (2, .int (nI (u + 1))), (3, .int (nI (ma_cn S (pm_fc n)))), (0, .ref (ad 52)), (1, .int (nI (i)))]) C0.1 C0.2.1 d_MO_length_78 hl rfl (nb_p1 _) (by decide) rfl (fun ls hl => ?_)
              refine lv_goto (pc := 81) (tgt := 24) C0.1 C0.2.1 d_MO_length_81 (by decide) ?_
              exact ih_loop _ (by omega) (u + 1) (ma_cn S (pm_fc n)) st3 _ ge3 fn2 S1 G1 k1 _ _ _ _ rfl (by omega) (by omega) (mow_sp h6 (Nat.le_refl _) hg hsm3 hgs2) hm3 (mo_caS g0 hca hcb (by omega) hu1 hm.2.2.2.1.1 hder) hfm fx fi fe fs fy fg fnn fc (lv_sub hl [3, 4, 1, 2, 0] rfl) hP hD hS
    exact loop _ 0 0 st1 _ ge1 fn (gs i) G k _ _ _ _ rfl (by omega) (by omega) (mow_sp h6 (Nat.le_refl _) hg hsm hgs) hm (mo_ca0 hN hm.2.2.2.1.1.1) hfm fx fi fe fs fy fg fnn fc (lv_sub hl [3, 4, 2, 1, 0] rfl) hP hD hS
set_option maxHeartbeats 4000000 in
set_option maxRecDepth 100000 in
theorem c_MO_type (l : Launch) (D : va_G) (ca : Nat → ClassId) (ad : Nat → Nat) {n : Nat} (h2 : 2 ≤ n) (h6 : n ≤ 6) {len : Nat} {tx : Nat → Nat} {pc : Nat} {rk : Nat → Nat} {gc : Nat} {gs : Nat → Nat → Bool} {word x : Int32} (ws0 : va_W) (h : MOW ca ad n (len, tx, pc, rk, gc, gs) ws0) : mg_I l y_MO_type b_MO_type 5 (.boolean) 2 D classes (tys_ ca) [.ref (ad 52), .int (word), .int (x)] ws0 (fun v w => v = (sp_type (len, tx, pc, rk, gc, gs) word x).1 ∧ MOW ca ad n (sp_type (len, tx, pc, rk, gc, gs) word x).2 w ∧ ∀ j, j < 52 → w[j]? = ws0[j]?) := by
  have hM := h
  obtain ⟨zx, ⟨im, zi, him⟩, ⟨pe, ze, hpe⟩, ⟨st, my, ge, zs, zy, zg, hgs⟩, ⟨fn, znn⟩, ⟨ch, zc, hch⟩, hlen, htx, hp, hrk, hg⟩ := h
  have hN := pm_fc_le h6
  have g0 := pm_gp h2 h6
  have hk_ : pc < 2 ^ 30 ∧ gc < 2 ^ 30 := ⟨by omega, by omega⟩
  refine mg_openI (own := R_MO) rfl (by decide) (Nat.le_of_ble_eq_true rfl) ?_
  intro p e s m args below meth c A Q ls C0 hK hA hP hD hS hl hret
  have hl : lv_has ls 5 [(0, .ref (ad 52)), (1, .int (word)), (2, .int (x))] := hl
  have fx := zx
  have fi := zi
  have fe := ze
  have fs := zs
  have fy := zy
  have fg := zg
  have fnn := znn
  have fc := zc
  have hfm : ∀ j, j < 52 → ws0[j]? = ws0[j]? := fun _ _ => rfl
  by_cases hx : x < 1 ∨ 4 < x
  · refine lv_iload_n (pc := 0) C0.1 C0.2.1 d_MO_type_0 rfl (lv_at hl 2 rfl) ?_
    refine lv_iconst (pc := 1) (v := nI (1)) C0.1 C0.2.1 d_MO_type_1 (by decide +kernel) ?_
    refine lv_iconst (pc := 2) (v := nI (4)) C0.1 C0.2.1 d_MO_type_2 (by decide +kernel) ?_
    refine mg_si (pc := 3) (As := [.int (x), .int (nI (1)), .int (nI (4))]) (rest := []) C0 (c_MO_in l D ca ad ws0) lk_MO_85 (by decide) hK hP hD hS hA rfl hl.1 rfl (Nat.le_of_ble_eq_true rfl) d_MO_type_3 (fun rv ws1 H locs hpost hP hD hS => ?_)
    obtain ⟨hr1, hw⟩ := hpost
    rw [hw] at hP hD
    refine mg_top (show rv = nI (0) from hr1.elim (fun h9 => h9.2) (fun h9 => (hx.elim h9.1.1 h9.1.2).elim)) ?_
    refine mz_eq (pc := 6) (tgt := 24) C0 (by decide) d_MO_type_6 (by decide) (fun _ => ?_) (fun h9 => absurd rfl h9)
    have E : sp_type (len, tx, pc, rk, gc, gs) word x = (nI 0, (len, tx, pc, rk, gc, gs)) := if_neg (fun h9 => h9.1 hx)
    refine lv_iconst (pc := 24) (v := nI (0)) C0.1 C0.2.1 d_MO_type_24 (by decide +kernel) ?_
    refine lv_istore_n (pc := 25) (lv' := [(3, .int (nI (0))), (0, .ref (ad 52)), (1, .int (word)), (2, .int (x))]) C0.1 C0.2.1 d_MO_type_25 rfl hl (by decide) rfl (fun ls hl => ?_)
    refine lv_iconst (pc := 26) (v := nI (0)) C0.1 C0.2.1 d_MO_type_26 (by decide +kernel) ?_
    refine lv_istore (pc := 27) (lv' := [(4, .int (nI (0))), (3, .int (nI (0))), (0, .ref (ad 52)), (1, .int (word)), (2, .int (x))]) C0.1 C0.2.1 d_MO_type_27 hl (by decide) rfl (fun ls hl => ?_)
    refine lv_iload (pc := 29) C0.1 C0.2.1 d_MO_type_29 (lv_at hl 0 rfl) ?_
    refine lv_iload_n (pc := 31) C0.1 C0.2.1 d_MO_type_31 rfl (lv_at hl 4 rfl) ?_
    refine lv_icmp_ge (pc := 32) (tgt := 64) C0.1 C0.2.1 d_MO_type_32 (by decide) (fun hc => ?_) (fun hc => ?_)
    · refine lv_iload_n (pc := 64) C0.1 C0.2.1 d_MO_type_64 rfl (lv_at hl 4 rfl) ?_
      refine lv_iconst (pc := 65) (v := nI (1)) C0.1 C0.2.1 d_MO_type_65 (by decide +kernel) ?_
      refine lv_isub (pc := 66) C0.1 C0.2.1 d_MO_type_66 ?_
      refine lv_istore (pc := 67) (lv' := [(4, .int (x - (nI (1)))), (3, .int (nI (0))), (0, .ref (ad 52)), (1, .int (word)), (2, .int (x))]) C0.1 C0.2.1 d_MO_type_67 hl (by decide) rfl (fun ls hl => ?_)
      refine lv_iload (pc := 69) C0.1 C0.2.1 d_MO_type_69 (lv_at hl 0 rfl) ?_
      refine lv_if_lt (pc := 71) (tgt := 114) C0.1 C0.2.1 d_MO_type_71 (by decide) (fun hc => ?_) (fun hc => ?_)
      · refine lv_iload_n (pc := 114) C0.1 C0.2.1 d_MO_type_114 rfl (lv_at hl 1 rfl) ?_
        exact hret _ _ _ _ 115 _ (rfl) (⟨by rw [E], by rw [E]; exact hM, hfm⟩) hP hD hS d_MO_type_115
      · refine lv_iload_n (pc := 74) C0.1 C0.2.1 d_MO_type_74 rfl (lv_at hl 1 rfl) ?_
        refine mz_eq (pc := 75) (tgt := 114) C0 (by decide) d_MO_type_75 (by decide) (fun _ => ?_) (fun h9 => absurd rfl h9)
        refine lv_iload_n (pc := 114) C0.1 C0.2.1 d_MO_type_114 rfl (lv_at hl 1 rfl) ?_
        exact hret _ _ _ _ 115 _ (rfl) (⟨by rw [E], by rw [E]; exact hM, hfm⟩) hP hD hS d_MO_type_115
    · refine lv_iload_n (pc := 35) C0.1 C0.2.1 d_MO_type_35 rfl (lv_at hl 1 rfl) ?_
      refine mz_eq (pc := 36) (tgt := 64) C0 (by decide) d_MO_type_36 (by decide) (fun _ => ?_) (fun h9 => absurd rfl h9)
      refine lv_iload_n (pc := 64) C0.1 C0.2.1 d_MO_type_64 rfl (lv_at hl 4 rfl) ?_
      refine lv_iconst (pc := 65) (v := nI (1)) C0.1 C0.2.1 d_MO_type_65 (by decide +kernel) ?_
      refine lv_isub (pc := 66) C0.1 C0.2.1 d_MO_type_66 ?_
      refine lv_istore (pc := 67) (lv' := [(4, .int (x - (nI (1)))), (3, .int (nI (0))), (0, .ref (ad 52)), (1, .int (word)), (2, .int (x))]) C0.1 C0.2.1 d_MO_type_67 hl (by decide) rfl (fun ls hl => ?_)
      refine lv_iload (pc := 69) C0.1 C0.2.1 d_MO_type_69 (lv_at hl 0 rfl) ?_
      refine lv_if_lt (pc := 71) (tgt := 114) C0.1 C0.2.1 d_MO_type_71 (by decide) (fun hc => ?_) (fun hc => ?_)
      · refine lv_iload_n (pc := 114) C0.1 C0.2.1 d_MO_type_114 rfl (lv_at hl 1 rfl) ?_
        exact hret _ _ _ _ 115 _ (rfl) (⟨by rw [E], by rw [E]; exact hM, hfm⟩) hP hD hS d_MO_type_115
      · refine lv_iload_n (pc := 74) C0.1 C0.2.1 d_MO_type_74 rfl (lv_at hl 1 rfl) ?_
        refine mz_eq (pc := 75) (tgt := 114) C0 (by decide) d_MO_type_75 (by decide) (fun _ => ?_) (fun h9 => absurd rfl h9)
        refine lv_iload_n (pc := 114) C0.1 C0.2.1 d_MO_type_114 rfl (lv_at hl 1 rfl) ?_
        exact hret _ _ _ _ 115 _ (rfl) (⟨by rw [E], by rw [E]; exact hM, hfm⟩) hP hD hS d_MO_type_115
  · obtain ⟨m0, hm1, hm4, rfl⟩ : ∃ m0 : Nat, 1 ≤ m0 ∧ m0 ≤ 4 ∧ x = nI m0 := by
      have h9 : ¬ x < 0 := fun h9 => hx (Or.inl (by rw [Int32.lt_iff_toInt_lt] at h9 ⊢; have h7 : (0 : Int32).toInt = 0 := by decide
                                                    have h8 : (1 : Int32).toInt = 1 := by decide
                                                    omega))
      obtain ⟨j, hj, rfl⟩ := nI_of h9
      refine ⟨j, ?_, ?_, rfl⟩
      · rcases Nat.eq_zero_or_pos j with h7 | h7
        · subst h7; exact absurd (Or.inl (by decide)) hx
        · exact h7
      · rcases Nat.lt_or_ge 4 j with h7 | h7
        · exact absurd (Or.inr (show nI 4 < nI j from nI_lt h7 hj)) hx
        · exact h7
    have hcl : (nI m0).toNatClampNeg = m0 := nI_clamp (by omega)
    refine lv_iload_n (pc := 0) C0.1 C0.2.1 d_MO_type_0 rfl (lv_at hl 2 rfl) ?_
    refine lv_iconst (pc := 1) (v := nI (1)) C0.1 C0.2.1 d_MO_type_1 (by decide +kernel) ?_
    refine lv_iconst (pc := 2) (v := nI (4)) C0.1 C0.2.1 d_MO_type_2 (by decide +kernel) ?_
    refine mg_si (pc := 3) (As := [.int (nI (m0)), .int (nI (1)), .int (nI (4))]) (rest := []) C0 (c_MO_in l D ca ad ws0) lk_MO_85 (by decide) hK hP hD hS hA rfl hl.1 rfl (Nat.le_of_ble_eq_true rfl) d_MO_type_3 (fun rv ws1 H locs hpost hP hD hS => ?_)
    obtain ⟨hr1, hw⟩ := hpost
    rw [hw] at hP hD
    refine mg_top (show rv = nI (1) from hr1.elim (fun h9 => (hx h9.1).elim) (fun h9 => h9.2)) ?_
    refine mz_eq (pc := 6) (tgt := 24) C0 (by decide) d_MO_type_6 (by decide) (fun h9 => absurd h9 (by decide)) (fun _ => ?_)
    refine lv_aload_n (pc := 9) C0.1 C0.2.1 d_MO_type_9 rfl (lv_at hl 0 rfl) ?_
    refine mg_get (pc := 10) C0 in_MO hK hP (52) fx rfl 11 (by decide) fl_MO_89 rfl d_MO_type_10 ?_
    refine lv_iload_n (pc := 13) C0.1 C0.2.1 d_MO_type_13 rfl (lv_at hl 2 rfl) ?_
    refine mn_add (pc := 14) C0 d_MO_type_14 ?_
    refine lv_bipush (pc := 15) (v := nI (40)) C0.1 C0.2.1 d_MO_type_15 (by decide +kernel) ?_
    refine mb_gt (pc := 17) (tgt := 24) C0 (by omega) (by omega) d_MO_type_17 (by decide) (fun hc => ?_) (fun hc => ?_)
    · have E : sp_type (len, tx, pc, rk, gc, gs) word (nI m0) = (nI 0, (len, tx, pc, rk, gc, gs)) := if_neg (fun h9 => by
        rw [hcl] at h9
        exact absurd (ty_ok2 h9.2).1 (by omega))
      refine lv_iconst (pc := 24) (v := nI (0)) C0.1 C0.2.1 d_MO_type_24 (by decide +kernel) ?_
      refine lv_istore_n (pc := 25) (lv' := [(3, .int (nI (0))), (0, .ref (ad 52)), (1, .int (word)), (2, .int (nI (m0)))]) C0.1 C0.2.1 d_MO_type_25 rfl hl (by decide) rfl (fun ls hl => ?_)
      refine lv_iconst (pc := 26) (v := nI (0)) C0.1 C0.2.1 d_MO_type_26 (by decide +kernel) ?_
      refine lv_istore (pc := 27) (lv' := [(4, .int (nI (0))), (3, .int (nI (0))), (0, .ref (ad 52)), (1, .int (word)), (2, .int (nI (m0)))]) C0.1 C0.2.1 d_MO_type_27 hl (by decide) rfl (fun ls hl => ?_)
      refine lv_iload (pc := 29) C0.1 C0.2.1 d_MO_type_29 (lv_at hl 0 rfl) ?_
      refine lv_iload_n (pc := 31) C0.1 C0.2.1 d_MO_type_31 rfl (lv_at hl 4 rfl) ?_
      refine mb_ge (pc := 32) (tgt := 64) C0 (by omega) (by omega) d_MO_type_32 (by decide) (fun hc => ?_) (fun hc => ?_)
      · exact absurd hc (by omega)
      · refine lv_iload_n (pc := 35) C0.1 C0.2.1 d_MO_type_35 rfl (lv_at hl 1 rfl) ?_
        refine mz_eq (pc := 36) (tgt := 64) C0 (by decide) d_MO_type_36 (by decide) (fun _ => ?_) (fun h9 => absurd rfl h9)
        refine lv_iload_n (pc := 64) C0.1 C0.2.1 d_MO_type_64 rfl (lv_at hl 4 rfl) ?_
        refine lv_iconst (pc := 65) (v := nI (1)) C0.1 C0.2.1 d_MO_type_65 (by decide +kernel) ?_
        refine mn_sub (pc := 66) C0 (by omega) d_MO_type_66 ?_
        refine lv_istore (pc := 67) (lv' := [(4, .int (nI (m0 - 1))), (3, .int (nI (0))), (0, .ref (ad 52)), (1, .int (word)), (2, .int (nI (m0)))]) C0.1 C0.2.1 d_MO_type_67 hl (by decide) rfl (fun ls hl => ?_)
        refine lv_iload (pc := 69) C0.1 C0.2.1 d_MO_type_69 (lv_at hl 0 rfl) ?_
        refine mz_lt (pc := 71) (tgt := 114) C0 (by omega) d_MO_type_71 (by decide) ?_
        refine lv_iload_n (pc := 74) C0.1 C0.2.1 d_MO_type_74 rfl (lv_at hl 1 rfl) ?_
        refine mz_eq (pc := 75) (tgt := 114) C0 (by decide) d_MO_type_75 (by decide) (fun _ => ?_) (fun h9 => absurd rfl h9)
        refine lv_iload_n (pc := 114) C0.1 C0.2.1 d_MO_type_114 rfl (lv_at hl 1 rfl) ?_
        exact hret _ _ _ _ 115 _ (rfl) (⟨by rw [E], by rw [E]; exact ⟨fx, ⟨im, fi, him⟩, ⟨_, fe, hpe⟩, ⟨_, _, _, fs, fy, fg, hgs⟩, ⟨_, fnn⟩, ⟨ch, fc, hch⟩, hlen, htx, hp, hrk, hg⟩, hfm⟩) hP hD hS d_MO_type_115
    · have hroom : len + m0 ≤ 40 := by omega
      refine lv_iconst (pc := 20) (v := nI (1)) C0.1 C0.2.1 d_MO_type_20 (by decide +kernel) ?_
      refine lv_goto (pc := 21) (tgt := 25) C0.1 C0.2.1 d_MO_type_21 (by decide) ?_
      refine lv_istore_n (pc := 25) (lv' := [(3, .int (nI (1))), (0, .ref (ad 52)), (1, .int (word)), (2, .int (nI (m0)))]) C0.1 C0.2.1 d_MO_type_25 rfl hl (by decide) rfl (fun ls hl => ?_)
      refine lv_iconst (pc := 26) (v := nI (0)) C0.1 C0.2.1 d_MO_type_26 (by decide +kernel) ?_
      refine lv_istore (pc := 27) (lv' := [(4, .int (nI (0))), (3, .int (nI (1))), (0, .ref (ad 52)), (1, .int (word)), (2, .int (nI (m0)))]) C0.1 C0.2.1 d_MO_type_27 hl (by decide) rfl (fun ls hl => ?_)
      have loop1 : ∀ (d : Nat) (a : Nat) (hv : Nat) (ws : va_W) (H : Heap) (locs : List Loc) (ls : Array Slot), m0 - a = d → (a ≤ m0) → ((hv = 1 ∧ ∀ i, i < a → 32 ≤ ty_b word i ∧ ty_b word i ≤ 126) ∨ (hv = 0 ∧ ∃ i, i < m0 ∧ ¬ (32 ≤ ty_b word i ∧ ty_b word i ≤ 126))) → (∀ j, j < 52 → ws[j]? = ws0[j]?) → ws[52]? = some (ad 52, .inr (4, [.int (nI (n)), .int (nI (pm_fc n)), .ref (ad 53), .int (nI (pc)), .ref (ad 54), .int (nI (gc)), .ref (ad 55), .ref (ad 56), .ref (ad 57), .ref (ad 58), .ref (ad 59), .int (nI (len))])) → ws[53]? = some (ad 53, .inl (ca 1, 720, .inl (im))) → ws[54]? = some (ad 54, .inl (ca 1, 40, .inl (pe))) → ws[55]? = some (ad 55, .inl (ca 2, 180, .inr (.inl (st)))) → ws[56]? = some (ad 56, .inl (ca 1, 15, .inl (my))) → ws[57]? = some (ad 57, .inl (ca 1, 300, .inl (ge))) → ws[58]? = some (ad 58, .inl (ca 1, 720, .inl (fn))) → ws[59]? = some (ad 59, .inl (ca 1, 40, .inl (ch))) → lv_has ls 5 [(0, .ref (ad 52)), (1, .int (word)), (2, .int (nI (m0))), (3, .int (nI (hv))), (4, .int (nI (a)))] → va_P D classes ws H → va_D A ws → va_S A s.heap H locs → W p l e (mg_rm 2) s m args below meth c H locs 0 0 Q (F0 m 29 ls []) := by
        intro d
        induction d using Nat.strongRecOn with
        | _ d ih_loop1 =>
          intro a hv ws H locs ls hd ha hh hfm fx fi fe fs fy fg fnn fc hl hP hD hS
          rcases hh with ⟨rfl, hh⟩ | ⟨rfl, hh⟩
          · refine lv_iload (pc := 29) C0.1 C0.2.1 d_MO_type_29 (lv_at hl 4 rfl) ?_
            refine lv_iload_n (pc := 31) C0.1 C0.2.1 d_MO_type_31 rfl (lv_at hl 2 rfl) ?_
            refine mb_ge (pc := 32) (tgt := 64) C0 (by omega) (by omega) d_MO_type_32 (by decide) (fun hc => ?_) (fun hc => ?_)
            · have hok := ty_ok1 hroom (fun i hi => hh i (by omega))
              have E : sp_type (len, tx, pc, rk, gc, gs) word (nI m0) = (nI 1, (len + m0, ty_tx len m0 word tx, pc, rk, gc, gs)) := by
                have h9 : ¬ (nI m0 < 1 ∨ 4 < nI m0) ∧ ty_ok len (nI m0).toNatClampNeg word = true := ⟨hx, by rw [hcl]; exact hok⟩
                show (if _ then _ else _) = _
                rw [if_pos h9, hcl]
              refine lv_iload_n (pc := 64) C0.1 C0.2.1 d_MO_type_64 rfl (lv_at hl 2 rfl) ?_
              refine lv_iconst (pc := 65) (v := nI (1)) C0.1 C0.2.1 d_MO_type_65 (by decide +kernel) ?_
              refine lv_isub (pc := 66) C0.1 C0.2.1 d_MO_type_66 ?_
              refine mg_top (show (nI (m0)) - (nI (1)) = nI m0 - 1 from nb_ds _) ?_
              refine lv_istore (pc := 67) (lv' := [(4, .int (nI m0 - 1)), (0, .ref (ad 52)), (1, .int (word)), (2, .int (nI (m0))), (3, .int (nI (1)))]) C0.1 C0.2.1 d_MO_type_67 hl (by decide) rfl (fun ls hl => ?_)
              have loop2 : ∀ (d : Nat) (k : Nat) (ch1 : Nat → Int32) (ws : va_W) (H : Heap) (locs : List Loc) (ls : Array Slot), k = d → (k ≤ m0) → (∀ j, j < len + (m0 - k) → ch1 j = nI (ty_tx len m0 word tx j)) → (∀ j, j < 52 → ws[j]? = ws0[j]?) → ws[52]? = some (ad 52, .inr (4, [.int (nI (n)), .int (nI (pm_fc n)), .ref (ad 53), .int (nI (pc)), .ref (ad 54), .int (nI (gc)), .ref (ad 55), .ref (ad 56), .ref (ad 57), .ref (ad 58), .ref (ad 59), .int (nI (len + (m0 - k)))])) → ws[53]? = some (ad 53, .inl (ca 1, 720, .inl (im))) → ws[54]? = some (ad 54, .inl (ca 1, 40, .inl (pe))) → ws[55]? = some (ad 55, .inl (ca 2, 180, .inr (.inl (st)))) → ws[56]? = some (ad 56, .inl (ca 1, 15, .inl (my))) → ws[57]? = some (ad 57, .inl (ca 1, 300, .inl (ge))) → ws[58]? = some (ad 58, .inl (ca 1, 720, .inl (fn))) → ws[59]? = some (ad 59, .inl (ca 1, 40, .inl (ch1))) → lv_has ls 5 [(0, .ref (ad 52)), (1, .int (word)), (2, .int (nI (m0))), (3, .int (nI (1))), (4, .int (nI k - 1))] → va_P D classes ws H → va_D A ws → va_S A s.heap H locs → W p l e (mg_rm 2) s m args below meth c H locs 0 0 Q (F0 m 69 ls []) := by
                intro d
                induction d using Nat.strongRecOn with
                | _ d ih_loop2 =>
                  intro k ch1 ws H locs ls hd hk hT1 hfm fx fi fe fs fy fg fnn fc hl hP hD hS
                  refine lv_iload (pc := 69) C0.1 C0.2.1 d_MO_type_69 (lv_at hl 4 rfl) ?_
                  refine lv_if_lt (pc := 71) (tgt := 114) C0.1 C0.2.1 d_MO_type_71 (by decide) (fun hc => ?_) (fun hc => ?_)
                  · have hk0 := nb_dn0 (by omega) hc
                    subst hk0
                    rw [Nat.sub_zero] at fx hT1
                    have hok2 := ty_ok2 hok
                    refine lv_iload_n (pc := 114) C0.1 C0.2.1 d_MO_type_114 rfl (lv_at hl 3 rfl) ?_
                    exact hret _ _ _ _ 115 _ (rfl) (⟨by rw [E], by
                        rw [E]
                        exact ⟨fx, ⟨im, fi, him⟩, ⟨_, fe, hpe⟩, ⟨_, _, _, fs, fy, fg, hgs⟩, ⟨_, fnn⟩, ⟨_, fc, hT1⟩, by omega, fun j hj => by
                          by_cases e : j < len
                          · unfold ty_tx; rw [if_pos e]; exact htx j e
                          · unfold ty_tx; rw [if_neg e]; have h9 := hok2.2 (m0 - 1 - (j - len)) (by omega); omega, hp, hrk, hg⟩, hfm⟩) hP hD hS d_MO_type_115
                  · have hkp : 0 < k := by
                      rcases Nat.eq_zero_or_pos k with h | h
                      · subst h; exact absurd hc nb_dnz
                      · exact h
                    rw [nb_dn1 hkp] at hl
                    have hlt := ty_b_lt word (k - 1)
                    refine lv_iload_n (pc := 74) C0.1 C0.2.1 d_MO_type_74 rfl (lv_at hl 3 rfl) ?_
                    refine mz_eq (pc := 75) (tgt := 114) C0 (by decide) d_MO_type_75 (by decide) (fun h9 => absurd h9 (by decide)) (fun _ => ?_)
                    refine lv_aload_n (pc := 78) C0.1 C0.2.1 d_MO_type_78 rfl (lv_at hl 0 rfl) ?_
                    refine mg_get (pc := 79) C0 in_MO hK hP (52) fx rfl 10 (by decide) fl_MO_33 rfl d_MO_type_79 ?_
                    refine lv_aload_n (pc := 82) C0.1 C0.2.1 d_MO_type_82 rfl (lv_at hl 0 rfl) ?_
                    refine mg_get (pc := 83) C0 in_MO hK hP (52) fx rfl 11 (by decide) fl_MO_89 rfl d_MO_type_83 ?_
                    refine lv_iload_n (pc := 86) C0.1 C0.2.1 d_MO_type_86 rfl (lv_at hl 1 rfl) ?_
                    refine lv_bipush (pc := 87) (v := nI (8)) C0.1 C0.2.1 d_MO_type_87 (by decide +kernel) ?_
                    refine lv_iload (pc := 89) C0.1 C0.2.1 d_MO_type_89 (lv_at hl 4 rfl) ?_
                    refine mn_mul (pc := 91) C0 d_MO_type_91 ?_
                    refine lv_ishr (pc := 92) C0.1 C0.2.1 d_MO_type_92 ?_
                    refine lv_sipush (pc := 93) (v := nI (255)) C0.1 C0.2.1 d_MO_type_93 (by decide +kernel) ?_
                    refine lv_iand (pc := 96) C0.1 C0.2.1 d_MO_type_96 ?_
                    refine mg_top (show (word >>> ((nI (8 * (k - 1))) &&& 31)) &&& (nI (255)) = nI (ty_b word (k - 1)) from nb_byA (by omega)) ?_
                    refine mg_ist (pc := 97) C0 hK hP hD hS (59) 1 fc rfl (j := len + (m0 - k)) (by omega) (by omega) d_MO_type_97 (fun ws H locs hfr fc hP hD hS => ?_)
                    have fx := (hfr (52) (by omega)).trans fx
                    have fi := (hfr (53) (by omega)).trans fi
                    have fe := (hfr (54) (by omega)).trans fe
                    have fs := (hfr (55) (by omega)).trans fs
                    have fy := (hfr (56) (by omega)).trans fy
                    have fg := (hfr (57) (by omega)).trans fg
                    have fnn := (hfr (58) (by omega)).trans fnn
                    have hfm : ∀ j, j < 52 → ws[j]? = ws0[j]? := fun j hj => (hfr j (by omega)).trans (hfm j hj)
                    refine lv_aload_n (pc := 98) C0.1 C0.2.1 d_MO_type_98 rfl (lv_at hl 0 rfl) ?_
                    refine lv_aload_n (pc := 99) C0.1 C0.2.1 d_MO_type_99 rfl (lv_at hl 0 rfl) ?_
                    refine mg_get (pc := 100) C0 in_MO hK hP (52) fx rfl 11 (by decide) fl_MO_89 rfl d_MO_type_100 ?_
                    refine lv_iconst (pc := 103) (v := nI (1)) C0.1 C0.2.1 d_MO_type_103 (by decide +kernel) ?_
                    refine mn_add (pc := 104) C0 d_MO_type_104 ?_
                    refine mg_top (show nI ((len + (m0 - k)) + 1) = nI (len + (m0 - (k - 1))) from congrArg nI (by omega)) ?_
                    refine mg_put (pc := 105) C0 in_MO t_MO_ok n_MO hK hP hD hS (52) fx rfl 11 (by decide) fl_MO_89 rfl (ty := .int) (by decide +kernel) rfl rfl (Nat.le_of_ble_eq_true rfl) (fs' := [.int (nI (n)), .int (nI (pm_fc n)), .ref (ad 53), .int (nI (pc)), .ref (ad 54), .int (nI (gc)), .ref (ad 55), .ref (ad 56), .ref (ad 57), .ref (ad 58), .ref (ad 59), .int (nI (len + (m0 - (k - 1))))]) rfl d_MO_type_105 (fun ws H locs hfr fx hP hD hS => ?_)
                    have fi := (hfr (53) (by omega)).trans fi
                    have fe := (hfr (54) (by omega)).trans fe
                    have fs := (hfr (55) (by omega)).trans fs
                    have fy := (hfr (56) (by omega)).trans fy
                    have fg := (hfr (57) (by omega)).trans fg
                    have fnn := (hfr (58) (by omega)).trans fnn
                    have fc := (hfr (59) (by omega)).trans fc
                    have hfm : ∀ j, j < 52 → ws[j]? = ws0[j]? := fun j hj => (hfr j (by omega)).trans (hfm j hj)
                    refine lv_iinc (pc := 108) (k := 4) (v := nI (k - 1) - 1) (lv' := [(4, .int (nI (k - 1) - 1)), (0, .ref (ad 52)), (1, .int (word)), (2, .int (nI (m0))), (3, .int (nI (1)))]) C0.1 C0.2.1 d_MO_type_108 hl rfl (nb_dm _) (by decide) rfl (fun ls hl => ?_)
                    refine lv_goto (pc := 111) (tgt := 69) C0.1 C0.2.1 d_MO_type_111 (by decide) ?_
                    exact ih_loop2 _ (by omega) (k - 1) (upd ch1 (len + (m0 - k)) (nI (ty_b word (k - 1)))) _ _ _ _ rfl (by omega) (fun j hj => by
                      by_cases e : j = len + (m0 - k)
                      · subst e
                        rw [pk_us]
                        unfold ty_tx
                        rw [if_neg (by omega), show m0 - 1 - (len + (m0 - k) - len) = k - 1 by omega]
                      · rw [pk_un e]; exact hT1 j (by omega)) hfm fx fi fe fs fy fg fnn fc (lv_sub hl [1, 2, 3, 4, 0] rfl) hP hD hS
              exact loop2 _ m0 ch _ _ _ _ rfl (by omega) (fun j hj => by
                rw [Nat.sub_self, Nat.add_zero] at hj
                unfold ty_tx
                rw [if_pos hj]; exact hch j hj) hfm (by rw [Nat.sub_self]; exact fx) fi fe fs fy fg fnn fc (lv_sub hl [1, 2, 3, 4, 0] rfl) hP hD hS
            · have hal := hc
              have hlt := ty_b_lt word a
              refine lv_iload_n (pc := 35) C0.1 C0.2.1 d_MO_type_35 rfl (lv_at hl 3 rfl) ?_
              refine mz_eq (pc := 36) (tgt := 64) C0 (by decide) d_MO_type_36 (by decide) (fun h9 => absurd h9 (by decide)) (fun _ => ?_)
              refine lv_iload_n (pc := 39) C0.1 C0.2.1 d_MO_type_39 rfl (lv_at hl 1 rfl) ?_
              refine lv_bipush (pc := 40) (v := nI (8)) C0.1 C0.2.1 d_MO_type_40 (by decide +kernel) ?_
              refine lv_iload (pc := 42) C0.1 C0.2.1 d_MO_type_42 (lv_at hl 4 rfl) ?_
              refine mn_mul (pc := 44) C0 d_MO_type_44 ?_
              refine lv_ishr (pc := 45) C0.1 C0.2.1 d_MO_type_45 ?_
              refine lv_sipush (pc := 46) (v := nI (255)) C0.1 C0.2.1 d_MO_type_46 (by decide +kernel) ?_
              refine lv_iand (pc := 49) C0.1 C0.2.1 d_MO_type_49 ?_
              refine mg_top (show (word >>> ((nI (8 * a)) &&& 31)) &&& (nI (255)) = nI (ty_b word a) from nb_byA (by omega)) ?_
              refine lv_bipush (pc := 50) (v := nI (32)) C0.1 C0.2.1 d_MO_type_50 (by decide +kernel) ?_
              refine lv_bipush (pc := 52) (v := nI (126)) C0.1 C0.2.1 d_MO_type_52 (by decide +kernel) ?_
              refine mg_si (pc := 54) (As := [.int (nI (ty_b word a)), .int (nI (32)), .int (nI (126))]) (rest := []) C0 (c_MO_in l D ca ad ws) lk_MO_85 (by decide) hK hP hD hS hA rfl hl.1 rfl (Nat.le_of_ble_eq_true rfl) d_MO_type_54 (fun rv ws1 H locs hpost hP hD hS => ?_)
              obtain ⟨hr1, hw⟩ := hpost
              rw [hw] at hP hD
              rcases hr1 with ⟨hb9, rfl⟩ | ⟨hb9, rfl⟩
              · refine lv_istore_n (pc := 57) (lv' := [(3, .int (nI (0))), (0, .ref (ad 52)), (1, .int (word)), (2, .int (nI (m0))), (4, .int (nI (a)))]) C0.1 C0.2.1 d_MO_type_57 rfl hl (by decide) rfl (fun ls hl => ?_)
                refine lv_iinc (pc := 58) (k := 4) (v := nI (a + 1)) (lv' := [(4, .int (nI (a + 1))), (3, .int (nI (0))), (0, .ref (ad 52)), (1, .int (word)), (2, .int (nI (m0)))]) C0.1 C0.2.1 d_MO_type_58 hl rfl (nb_p1 _) (by decide) rfl (fun ls hl => ?_)
                refine lv_goto (pc := 61) (tgt := 29) C0.1 C0.2.1 d_MO_type_61 (by decide) ?_
                exact ih_loop1 _ (by omega) (a + 1) 0 _ _ _ _ rfl (by omega) (Or.inr ⟨rfl, a, hal, fun h9 => hb9.elim (fun h8 => Int32.not_lt.mpr (nI_le h9.1 (by omega)) h8) (fun h8 => Int32.not_lt.mpr (nI_le h9.2 (by decide)) h8)⟩) hfm fx fi fe fs fy fg fnn fc (lv_sub hl [2, 3, 4, 1, 0] rfl) hP hD hS
              · refine lv_istore_n (pc := 57) (lv' := [(3, .int (nI (1))), (0, .ref (ad 52)), (1, .int (word)), (2, .int (nI (m0))), (4, .int (nI (a)))]) C0.1 C0.2.1 d_MO_type_57 rfl hl (by decide) rfl (fun ls hl => ?_)
                refine lv_iinc (pc := 58) (k := 4) (v := nI (a + 1)) (lv' := [(4, .int (nI (a + 1))), (3, .int (nI (1))), (0, .ref (ad 52)), (1, .int (word)), (2, .int (nI (m0)))]) C0.1 C0.2.1 d_MO_type_58 hl rfl (nb_p1 _) (by decide) rfl (fun ls hl => ?_)
                refine lv_goto (pc := 61) (tgt := 29) C0.1 C0.2.1 d_MO_type_61 (by decide) ?_
                exact ih_loop1 _ (by omega) (a + 1) 1 _ _ _ _ rfl (by omega) (Or.inl ⟨rfl, fun i hi => by
                  by_cases e : i = a
                  · subst e; exact ⟨Nat.le_of_not_lt (fun h8 => hb9.1 (nI_lt h8 (by decide))), Nat.le_of_not_lt (fun h8 => hb9.2 (nI_lt h8 (by omega)))⟩
                  · exact hh i (by omega)⟩) hfm fx fi fe fs fy fg fnn fc (lv_sub hl [2, 3, 4, 1, 0] rfl) hP hD hS
          · obtain ⟨i9, hi9, hn9⟩ := hh
            have E : sp_type (len, tx, pc, rk, gc, gs) word (nI m0) = (nI 0, (len, tx, pc, rk, gc, gs)) := if_neg (fun h9 => by
              rw [hcl] at h9
              exact hn9 ((ty_ok2 h9.2).2 i9 hi9))
            refine lv_iload (pc := 29) C0.1 C0.2.1 d_MO_type_29 (lv_at hl 4 rfl) ?_
            refine lv_iload_n (pc := 31) C0.1 C0.2.1 d_MO_type_31 rfl (lv_at hl 2 rfl) ?_
            refine mb_ge (pc := 32) (tgt := 64) C0 (by omega) (by omega) d_MO_type_32 (by decide) (fun hc => ?_) (fun hc => ?_)
            · refine lv_iload_n (pc := 64) C0.1 C0.2.1 d_MO_type_64 rfl (lv_at hl 2 rfl) ?_
              refine lv_iconst (pc := 65) (v := nI (1)) C0.1 C0.2.1 d_MO_type_65 (by decide +kernel) ?_
              refine mn_sub (pc := 66) C0 (by omega) d_MO_type_66 ?_
              refine lv_istore (pc := 67) (lv' := [(4, .int (nI (m0 - 1))), (0, .ref (ad 52)), (1, .int (word)), (2, .int (nI (m0))), (3, .int (nI (0)))]) C0.1 C0.2.1 d_MO_type_67 hl (by decide) rfl (fun ls hl => ?_)
              refine lv_iload (pc := 69) C0.1 C0.2.1 d_MO_type_69 (lv_at hl 0 rfl) ?_
              refine mz_lt (pc := 71) (tgt := 114) C0 (by omega) d_MO_type_71 (by decide) ?_
              refine lv_iload_n (pc := 74) C0.1 C0.2.1 d_MO_type_74 rfl (lv_at hl 4 rfl) ?_
              refine mz_eq (pc := 75) (tgt := 114) C0 (by decide) d_MO_type_75 (by decide) (fun _ => ?_) (fun h9 => absurd rfl h9)
              refine lv_iload_n (pc := 114) C0.1 C0.2.1 d_MO_type_114 rfl (lv_at hl 4 rfl) ?_
              exact hret _ _ _ _ 115 _ (rfl) (⟨by rw [E], by rw [E]; exact ⟨fx, ⟨im, fi, him⟩, ⟨_, fe, hpe⟩, ⟨_, _, _, fs, fy, fg, hgs⟩, ⟨_, fnn⟩, ⟨ch, fc, hch⟩, hlen, htx, hp, hrk, hg⟩, hfm⟩) hP hD hS d_MO_type_115
            · refine lv_iload_n (pc := 35) C0.1 C0.2.1 d_MO_type_35 rfl (lv_at hl 3 rfl) ?_
              refine mz_eq (pc := 36) (tgt := 64) C0 (by decide) d_MO_type_36 (by decide) (fun _ => ?_) (fun h9 => absurd rfl h9)
              refine lv_iload_n (pc := 64) C0.1 C0.2.1 d_MO_type_64 rfl (lv_at hl 2 rfl) ?_
              refine lv_iconst (pc := 65) (v := nI (1)) C0.1 C0.2.1 d_MO_type_65 (by decide +kernel) ?_
              refine mn_sub (pc := 66) C0 (by omega) d_MO_type_66 ?_
              refine lv_istore (pc := 67) (lv' := [(4, .int (nI (m0 - 1))), (0, .ref (ad 52)), (1, .int (word)), (2, .int (nI (m0))), (3, .int (nI (0)))]) C0.1 C0.2.1 d_MO_type_67 hl (by decide) rfl (fun ls hl => ?_)
              refine lv_iload (pc := 69) C0.1 C0.2.1 d_MO_type_69 (lv_at hl 0 rfl) ?_
              refine mz_lt (pc := 71) (tgt := 114) C0 (by omega) d_MO_type_71 (by decide) ?_
              refine lv_iload_n (pc := 74) C0.1 C0.2.1 d_MO_type_74 rfl (lv_at hl 4 rfl) ?_
              refine mz_eq (pc := 75) (tgt := 114) C0 (by decide) d_MO_type_75 (by decide) (fun _ => ?_) (fun h9 => absurd rfl h9)
              refine lv_iload_n (pc := 114) C0.1 C0.2.1 d_MO_type_114 rfl (lv_at hl 4 rfl) ?_
              exact hret _ _ _ _ 115 _ (rfl) (⟨by rw [E], by rw [E]; exact ⟨fx, ⟨im, fi, him⟩, ⟨_, fe, hpe⟩, ⟨_, _, _, fs, fy, fg, hgs⟩, ⟨_, fnn⟩, ⟨ch, fc, hch⟩, hlen, htx, hp, hrk, hg⟩, hfm⟩) hP hD hS d_MO_type_115
      exact loop1 _ 0 1 _ _ _ _ rfl (by omega) (Or.inl ⟨rfl, fun i hi => absurd hi (by omega)⟩) hfm fx fi fe fs fy fg fnn fc (lv_sub hl [2, 3, 4, 1, 0] rfl) hP hD hS
