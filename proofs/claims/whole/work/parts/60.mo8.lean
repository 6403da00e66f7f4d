/-! The reference: how it reads -/
theorem nb_xor (a b : Nat) : nI a ^^^ nI b = nI (a ^^^ b) := by
  apply Int32.toBitVec_inj.1
  show BitVec.ofNat 32 a ^^^ BitVec.ofNat 32 b = BitVec.ofNat 32 (a ^^^ b)
  apply BitVec.eq_of_getLsbD_eq
  intro i hi
  simp [hi]
theorem nb_pk (P l v : Nat) : ((nI P &&& (nI (7 * 2 ^ l) ^^^ (-1))) ||| nI (v * 2 ^ l)) = nI ((P &&& (7 * 2 ^ l ^^^ 4294967295)) ||| v * 2 ^ l) := by
  rw [show (-1 : Int32) = nI 4294967295 by decide, nb_xor, nb_and, nb_or]
theorem nb_ne2 {a : Nat} (h : a < 2 ^ 31) : ¬ nI a = (-2) := fun e => by
  have h1 := nI_pos h
  rw [e] at h1
  exact h1 (by decide)
theorem nb_le2 {a : Nat} (h : a < 2 ^ 31) : ¬ nI a ≤ (-2) := fun e => by
  rw [Int32.le_iff_toInt_le, nI_toInt h] at e
  have h1 : (-2 : Int32).toInt = -2 := by decide
  omega
theorem nb_sneg {a b : Nat} (h : a < b) (hb : b < 2 ^ 30) : nI a - nI b < 0 := by
  rw [Int32.lt_iff_toInt_lt, pk_sub_toInt (by omega) hb]
  have h1 : (0 : Int32).toInt = 0 := by decide
  omega
theorem mo_pd {n P la v : Nat} {pp : Nat → Nat} (h6 : n ≤ 6) (hd : ∀ x, x < n → P / 2 ^ (3 * x) % 8 = pp x) (hv : v < 8) : ∀ x, x < n → ((P &&& (7 * 2 ^ (3 * la) ^^^ 4294967295)) ||| v * 2 ^ (3 * la)) / 2 ^ (3 * x) % 8 = ps_up pp la v x := fun x hx => by
  rw [qk_or hv, qk_clr (by omega), hd x hx]
  by_cases e : x = la
  · rw [if_pos e, if_pos e, e, ps_us, Nat.zero_or]
  · rw [if_neg e, if_neg e, ps_un _ _ e, Nat.or_zero]
theorem mo_pl {P la v : Nat} (hP : P < 2 ^ 18) (hl : la < 6) (hv : v < 8) : (P &&& (7 * 2 ^ (3 * la) ^^^ 4294967295)) ||| v * 2 ^ (3 * la) < 2 ^ 18 := by
  refine Nat.or_lt_two_pow (Nat.lt_of_le_of_lt Nat.and_le_left hP) ?_
  have h : 2 ^ (3 * la) ≤ 2 ^ 15 := Nat.pow_le_pow_right (by decide) (by omega)
  have h1 : v * 2 ^ (3 * la) ≤ 7 * 2 ^ 15 := Nat.mul_le_mul (by omega) h
  have h2 : (7 : Nat) * 2 ^ 15 < 2 ^ 18 := by decide
  omega
theorem ps_n0 {n cc la se : Nat} {pp : Nat → Nat} (h32 : ¬ cc = 32) (h40 : ¬ cc = 40) : ps_st n cc (0, la, se, pp) = none := by
  unfold ps_st
  rw [if_neg h32]
  show (if 0 = 0 then _ else _) = _
  rw [if_pos rfl, if_neg h40]
theorem ps_s0 {n cc la se : Nat} {pp : Nat → Nat} (h40 : cc = 40) : ps_st n cc (0, la, se, pp) = some (1, la, se, pp) := by
  subst h40
  rfl
theorem ps_n1 {n cc la se : Nat} {pp : Nat → Nat} (h41 : cc = 41) : ps_st n cc (1, la, se, pp) = none := by
  subst h41
  rfl
theorem ps_s1 {n cc t1 la se : Nat} {pp : Nat → Nat} (ht : 2 ≤ t1) (h41 : cc = 41) : ps_st n cc (t1, la, se, pp) = some (0, la, se, ps_up pp la (t1 - 2)) := by
  subst h41
  unfold ps_st
  dsimp only
  rw [if_neg (by decide), if_neg (by omega), if_pos rfl, if_neg (by omega)]
theorem ps_n2 {n cc t1 la se : Nat} {pp : Nat → Nat} (h32 : ¬ cc = 32) (ht : t1 ≠ 0) (h41 : ¬ cc = 41) (h : ¬ (48 ≤ cc ∧ cc < 48 + n ∧ se.testBit (cc - 48) = false)) : ps_st n cc (t1, la, se, pp) = none := by
  unfold ps_st
  dsimp only
  rw [if_neg h32, if_neg ht, if_neg h41, if_neg h]
theorem ps_s2 {n cc la se : Nat} {pp : Nat → Nat} (h1 : 48 ≤ cc) (h2 : cc < 48 + n) (h3 : se.testBit (cc - 48) = false) : ps_st n cc (1, la, se, pp) = some (2 + (cc - 48), cc - 48, se ||| 2 ^ (cc - 48), pp) := by
  unfold ps_st
  dsimp only
  rw [if_neg (by omega), if_neg (by decide), if_neg (by omega), if_pos ⟨h1, h2, h3⟩, if_pos rfl]
theorem ps_s3 {n cc t1 la se : Nat} {pp : Nat → Nat} (ht : 2 ≤ t1) (h1 : 48 ≤ cc) (h2 : cc < 48 + n) (h3 : se.testBit (cc - 48) = false) : ps_st n cc (t1, la, se, pp) = some (t1, cc - 48, se ||| 2 ^ (cc - 48), ps_up pp la (cc - 48)) := by
  unfold ps_st
  dsimp only
  rw [if_neg (by omega), if_neg (by omega), if_neg (by omega), if_pos ⟨h1, h2, h3⟩, if_neg (by omega)]
set_option maxHeartbeats 4000000 in
set_option maxRecDepth 100000 in
theorem c_MO_read (l : Launch) (D : va_G) (ca : Nat → ClassId) (ad : Nat → Nat) {n : Nat} (h2 : 2 ≤ n) (h6 : n ≤ 6) {len : Nat} {tx : Nat → Nat} {pc : Nat} {rk : Nat → Nat} {gc : Nat} {gs : Nat → Nat → Bool} (ws0 : va_W) (h : MOW ca ad n (len, tx, pc, rk, gc, gs) ws0) : mg_I l y_MO_read b_MO_read 9 (.int) 2 D classes (tys_ ca) [.ref (ad 52)] ws0 (fun v w => v = (sp_read n (len, tx, pc, rk, gc, gs)).1 ∧ MOW ca ad n (sp_read n (len, tx, pc, rk, gc, gs)).2 w ∧ ∀ j, j < 52 → w[j]? = ws0[j]?) := by
  have hM := h
  obtain ⟨zx, ⟨im, zi, him⟩, ⟨pe, ze, hpe⟩, ⟨st, my, ge, zs, zy, zg, hgs⟩, ⟨fn, znn⟩, ⟨ch, zc, hch⟩, hlen, htx, hp, hrk, hg⟩ := h
  have hN := pm_fc_le h6
  have g0 := pm_gp h2 h6
  have hk_ : pc < 2 ^ 30 ∧ gc < 2 ^ 30 := ⟨by omega, by omega⟩
  refine mg_openI (own := R_MO) rfl (by decide) (Nat.le_of_ble_eq_true rfl) ?_
  intro p e s m args below meth c A Q ls C0 hK hA hP hD hS hl hret
  have hl : lv_has ls 9 [(0, .ref (ad 52))] := hl
  have fx := zx
  have fi := zi
  have fe := ze
  have fs := zs
  have fy := zy
  have fg := zg
  have fnn := znn
  have fc := zc
  have hfm : ∀ j, j < 52 → ws0[j]? = ws0[j]? := fun _ _ => rfl
  have hN0 := pm_fc_pos n
  have h8 : ∀ x, x < n → pm_im n 0 x < 8 := fun x hx => by have := pm_lt h2 h6 hN0 hx; omega
  have h18 : 2 ^ (3 * n) ≤ 2 ^ 18 := Nat.pow_le_pow_right (by decide) (by omega)
  refine lv_aload_n (pc := 0) C0.1 C0.2.1 d_MO_read_0 rfl (lv_at hl 0 rfl) ?_
  refine mg_get (pc := 1) C0 in_MO hK hP (52) fx rfl 11 (by decide) fl_MO_89 rfl d_MO_read_1 ?_
  refine lv_istore_n (pc := 4) (lv' := [(1, .int (nI (len))), (0, .ref (ad 52))]) C0.1 C0.2.1 d_MO_read_4 rfl hl (by decide) rfl (fun ls hl => ?_)
  refine lv_aload_n (pc := 5) C0.1 C0.2.1 d_MO_read_5 rfl (lv_at hl 1 rfl) ?_
  refine lv_iconst (pc := 6) (v := nI (0)) C0.1 C0.2.1 d_MO_read_6 (by decide +kernel) ?_
  refine mg_put (pc := 7) C0 in_MO t_MO_ok n_MO hK hP hD hS (52) fx rfl 11 (by decide) fl_MO_89 rfl (ty := .int) (by decide +kernel) rfl rfl (Nat.le_of_ble_eq_true rfl) (fs' := [.int (nI (n)), .int (nI (pm_fc n)), .ref (ad 53), .int (nI (pc)), .ref (ad 54), .int (nI (gc)), .ref (ad 55), .ref (ad 56), .ref (ad 57), .ref (ad 58), .ref (ad 59), .int (nI (0))]) rfl d_MO_read_7 (fun ws H locs hfr fx hP hD hS => ?_)
  have fi := (hfr (53) (by omega)).trans fi
  have fe := (hfr (54) (by omega)).trans fe
  have fs := (hfr (55) (by omega)).trans fs
  have fy := (hfr (56) (by omega)).trans fy
  have fg := (hfr (57) (by omega)).trans fg
  have fnn := (hfr (58) (by omega)).trans fnn
  have fc := (hfr (59) (by omega)).trans fc
  have hfm : ∀ j, j < 52 → ws[j]? = ws0[j]? := fun j hj => (hfr j (by omega)).trans (hfm j hj)
  refine lv_aload_n (pc := 10) C0.1 C0.2.1 d_MO_read_10 rfl (lv_at hl 1 rfl) ?_
  refine mg_get (pc := 11) C0 in_MO hK hP (52) fx rfl 2 (by decide) fl_MO_7 rfl d_MO_read_11 ?_
  refine lv_iconst (pc := 14) (v := nI (0)) C0.1 C0.2.1 d_MO_read_14 (by decide +kernel) ?_
  refine mg_ild (pc := 15) C0 hK hP (53) 1 fi rfl (j := 0) (by omega) (by omega) d_MO_read_15 ?_
  refine mg_top (show im (0) = nI (qk_p (pm_im n 0) n) from him 0 hN0) ?_
  refine lv_istore_n (pc := 16) (lv' := [(2, .int (nI (qk_p (pm_im n 0) n))), (1, .int (nI (len))), (0, .ref (ad 52))]) C0.1 C0.2.1 d_MO_read_16 rfl hl (by decide) rfl (fun ls hl => ?_)
  refine lv_iconst (pc := 17) (v := nI (0)) C0.1 C0.2.1 d_MO_read_17 (by decide +kernel) ?_
  refine lv_istore_n (pc := 18) (lv' := [(3, .int (nI (0))), (2, .int (nI (qk_p (pm_im n 0) n))), (1, .int (nI (len))), (0, .ref (ad 52))]) C0.1 C0.2.1 d_MO_read_18 rfl hl (by decide) rfl (fun ls hl => ?_)
  refine lv_bipush (pc := 19) (v := (-2)) C0.1 C0.2.1 d_MO_read_19 (by decide +kernel) ?_
  refine lv_istore (pc := 21) (lv' := [(4, .int ((-2))), (3, .int (nI (0))), (2, .int (nI (qk_p (pm_im n 0) n))), (1, .int (nI (len))), (0, .ref (ad 52))]) C0.1 C0.2.1 d_MO_read_21 hl (by decide) rfl (fun ls hl => ?_)
  refine lv_iconst (pc := 23) (v := (-1)) C0.1 C0.2.1 d_MO_read_23 (by decide +kernel) ?_
  refine lv_istore (pc := 24) (lv' := [(5, .int ((-1))), (4, .int ((-2))), (3, .int (nI (0))), (2, .int (nI (qk_p (pm_im n 0) n))), (1, .int (nI (len))), (0, .ref (ad 52))]) C0.1 C0.2.1 d_MO_read_24 hl (by decide) rfl (fun ls hl => ?_)
  refine lv_iconst (pc := 26) (v := nI (0)) C0.1 C0.2.1 d_MO_read_26 (by decide +kernel) ?_
  refine lv_istore (pc := 27) (lv' := [(6, .int (nI (0))), (5, .int ((-1))), (4, .int ((-2))), (3, .int (nI (0))), (2, .int (nI (qk_p (pm_im n 0) n))), (1, .int (nI (len))), (0, .ref (ad 52))]) C0.1 C0.2.1 d_MO_read_27 hl (by decide) rfl (fun ls hl => ?_)
  have loop : ∀ (d : Nat) (ai : Nat) (t1 : Nat) (la : Nat) (se : Nat) (pp : Nat → Nat) (P : Nat) (fv : Int32) (lx : Int32) (ws : va_W) (H : Heap) (locs : List Loc) (ls : Array Slot), len - ai = d → (ai ≤ len) → (ps_ok n (t1, la, se, pp)) → (se < 64) → (P < 2 ^ 18) → (∀ x, x < n → P / 2 ^ (3 * x) % 8 = pp x) → ((t1 = 0 ∧ fv = (-2)) ∨ (t1 = 1 ∧ fv = (-1)) ∨ (2 ≤ t1 ∧ fv = nI (t1 - 2) ∧ lx = nI la)) → (ps_go n tx (len - ai) ai (t1, la, se, pp) = ps_go n tx len 0 ps_0) → (∀ j, j < 52 → ws[j]? = ws0[j]?) → ws[52]? = some (ad 52, .inr (4, [.int (nI (n)), .int (nI (pm_fc n)), .ref (ad 53), .int (nI (pc)), .ref (ad 54), .int (nI (gc)), .ref (ad 55), .ref (ad 56), .ref (ad 57), .ref (ad 58), .ref (ad 59), .int (nI (0))])) → ws[53]? = some (ad 53, .inl (ca 1, 720, .inl (im))) → ws[54]? = some (ad 54, .inl (ca 1, 40, .inl (pe))) → ws[55]? = some (ad 55, .inl (ca 2, 180, .inr (.inl (st)))) → ws[56]? = some (ad 56, .inl (ca 1, 15, .inl (my))) → ws[57]? = some (ad 57, .inl (ca 1, 300, .inl (ge))) → ws[58]? = some (ad 58, .inl (ca 1, 720, .inl (fn))) → ws[59]? = some (ad 59, .inl (ca 1, 40, .inl (ch))) → lv_has ls 9 [(0, .ref (ad 52)), (1, .int (nI (len))), (2, .int (nI (P))), (3, .int (nI (se))), (4, .int (fv)), (5, .int (lx)), (6, .int (nI (ai)))] → va_P D classes ws H → va_D A ws → va_S A s.heap H locs → W p l e (mg_rm 2) s m args below meth c H locs 0 0 Q (F0 m 29 ls []) := by
    intro d
    induction d using Nat.strongRecOn with
    | _ d ih_loop =>
      intro ai t1 la se pp P fv lx ws H locs ls hd hai hps hse hPl hdig hfv hgo hfm fx fi fe fs fy fg fnn fc hl hP hD hS
      have hP31 : P < 2 ^ 31 := Nat.lt_trans hPl (by decide)
      refine lv_iload (pc := 29) C0.1 C0.2.1 d_MO_read_29 (lv_at hl 6 rfl) ?_
      refine lv_iload_n (pc := 31) C0.1 C0.2.1 d_MO_read_31 rfl (lv_at hl 1 rfl) ?_
      refine mb_ge (pc := 32) (tgt := 216) C0 (by omega) (by omega) d_MO_read_32 (by decide) (fun hc => ?_) (fun hc => ?_)
      · have hal : len - ai = 0 := by omega
        rw [hal] at hgo
        have hM1 : MOW ca ad n (0, tx, pc, rk, gc, gs) ws := ⟨fx, ⟨im, fi, him⟩, ⟨_, fe, hpe⟩, ⟨_, _, _, fs, fy, fg, hgs⟩, ⟨_, fnn⟩, ⟨ch, fc, fun i hi => absurd hi (by omega)⟩, by omega, fun i hi => absurd hi (by omega), hp, hrk, hg⟩
        rcases hfv with ⟨rfl, rfl⟩ | ⟨rfl, rfl⟩ | ⟨ht1, rfl, rfl⟩
        · refine lv_iload (pc := 216) C0.1 C0.2.1 d_MO_read_216 (lv_at hl 4 rfl) ?_
          refine lv_bipush (pc := 218) (v := (-2)) C0.1 C0.2.1 d_MO_read_218 (by decide +kernel) ?_
          refine lv_icmp_le (pc := 220) (tgt := 227) C0.1 C0.2.1 d_MO_read_220 (by decide) (fun hc => ?_) (fun hc => ?_)
          · have hrd : ps_read n tx len = .inr pp := ps_rd2 (t := (0, la, se, pp)) hgo.symm rfl
            have hpm := ps_read_pm hrd
            have hF3 := pm_F3 h2 h6 hpm.1 (fun x y hxy hy e9 => by
              have h9 := hpm.2 x y (by omega) hy e9
              omega)
            refine lv_aload_n (pc := 227) C0.1 C0.2.1 d_MO_read_227 rfl (lv_at hl 0 rfl) ?_
            refine mg_get (pc := 228) C0 in_MO hK hP (52) fx rfl 3 (by decide) fl_MO_13 rfl d_MO_read_228 ?_
            refine lv_bipush (pc := 231) (v := nI (40)) C0.1 C0.2.1 d_MO_read_231 (by decide +kernel) ?_
            refine mb_lt (pc := 233) (tgt := 242) C0 (by omega) (by omega) d_MO_read_233 (by decide) (fun hc => ?_) (fun hc => ?_)
            · have h40 : pc < 40 := hc
              have E : sp_read n (len, tx, pc, rk, gc, gs) = sp_keep (0, tx, pc, rk, gc, gs) (pm_rk n pp) := by simp only [sp_read, hrd, if_pos h40]
              refine lv_aload_n (pc := 242) C0.1 C0.2.1 d_MO_read_242 rfl (lv_at hl 0 rfl) ?_
              refine lv_aload_n (pc := 243) C0.1 C0.2.1 d_MO_read_243 rfl (lv_at hl 0 rfl) ?_
              refine lv_iload_n (pc := 244) C0.1 C0.2.1 d_MO_read_244 rfl (lv_at hl 2 rfl) ?_
              refine mg_ci (pc := 245) (As := [.int (nI (P))]) (rest := [.ref (ad 52)]) C0 (c_MO_placeOf l D ca ad h2 h6 (F := pp) hP31 hdig hpm.1 ws fx) lk_MO_50 (by decide) fx rfl hK hP hD hS hA rfl hl.1 rfl (Nat.le_of_ble_eq_true rfl) d_MO_read_245 (fun rv ws1 H locs hpost hP hD hS => ?_)
              obtain ⟨hr1, hw⟩ := hpost
              rw [hw] at hP hD
              refine mg_top (show rv = nI (pm_rk n pp) from hr1) ?_
              refine mg_ci (pc := 248) (As := [.int (nI (pm_rk n pp))]) (rest := []) C0 (c_MO_keep l D ca ad h2 h6 hF3.1 h40 ws hM1) lk_MO_92 (by decide) fx rfl hK hP hD hS hA rfl hl.1 rfl (Nat.le_of_ble_eq_true rfl) d_MO_read_248 (fun rv ws H locs hpost hP hD hS => ?_)
              obtain ⟨hr1, hM2, hfr⟩ := hpost
              have hfm : ∀ j, j < 52 → ws[j]? = ws0[j]? := fun j hj => (hfr j (by omega)).trans (hfm j hj)
              exact hret _ _ _ _ 251 _ (rfl) (⟨by rw [E]; exact hr1, by rw [E]; exact hM2, hfm⟩) hP hD hS d_MO_read_251
            · have E : sp_read n (len, tx, pc, rk, gc, gs) = ((-1000), (0, tx, pc, rk, gc, gs)) := by simp only [sp_read, hrd, if_neg (show ¬ pc < 40 by omega)]
              refine lv_sipush (pc := 236) (v := (-1000)) C0.1 C0.2.1 d_MO_read_236 (by decide +kernel) ?_
              refine lv_goto (pc := 239) (tgt := 251) C0.1 C0.2.1 d_MO_read_239 (by decide) ?_
              exact hret _ _ _ _ 251 _ (rfl) (⟨by rw [E], by rw [E]; exact hM1, hfm⟩) hP hD hS d_MO_read_251
          · first
            | exact absurd hc (by decide)
            | exact absurd (by decide) hc
        · refine lv_iload (pc := 216) C0.1 C0.2.1 d_MO_read_216 (lv_at hl 4 rfl) ?_
          refine lv_bipush (pc := 218) (v := (-2)) C0.1 C0.2.1 d_MO_read_218 (by decide +kernel) ?_
          refine lv_icmp_le (pc := 220) (tgt := 227) C0.1 C0.2.1 d_MO_read_220 (by decide) (fun hc => ?_) (fun hc => ?_)
          · first
            | exact absurd hc (by decide)
            | exact absurd (by decide) hc
          · have hrd : ps_read n tx len = .inl len := ps_rd3 (t := (1, la, se, pp)) hgo.symm (by dsimp only; omega)
            have E : sp_read n (len, tx, pc, rk, gc, gs) = ((-1) - nI len, (0, tx, pc, rk, gc, gs)) := by simp only [sp_read, hrd]
            refine lv_iconst (pc := 223) (v := (-1)) C0.1 C0.2.1 d_MO_read_223 (by decide +kernel) ?_
            refine lv_iload_n (pc := 224) C0.1 C0.2.1 d_MO_read_224 rfl (lv_at hl 1 rfl) ?_
            refine lv_isub (pc := 225) C0.1 C0.2.1 d_MO_read_225 ?_
            exact hret _ _ _ _ 226 _ (rfl) (⟨by rw [E], by rw [E]; exact hM1, hfm⟩) hP hD hS d_MO_read_226
        · refine lv_iload (pc := 216) C0.1 C0.2.1 d_MO_read_216 (lv_at hl 4 rfl) ?_
          refine lv_bipush (pc := 218) (v := (-2)) C0.1 C0.2.1 d_MO_read_218 (by decide +kernel) ?_
          refine lv_icmp_le (pc := 220) (tgt := 227) C0.1 C0.2.1 d_MO_read_220 (by decide) (fun hc => ?_) (fun hc => ?_)
          · first
            | exact absurd hc (nb_le2 (by have := (hps.2.2 ht1).1; dsimp only at this; omega))
            | exact absurd (nb_le2 (by have := (hps.2.2 ht1).1; dsimp only at this; omega)) hc
          · have hrd : ps_read n tx len = .inl len := ps_rd3 (t := (t1, la, se, pp)) hgo.symm (by dsimp only; omega)
            have E : sp_read n (len, tx, pc, rk, gc, gs) = ((-1) - nI len, (0, tx, pc, rk, gc, gs)) := by simp only [sp_read, hrd]
            refine lv_iconst (pc := 223) (v := (-1)) C0.1 C0.2.1 d_MO_read_223 (by decide +kernel) ?_
            refine lv_iload_n (pc := 224) C0.1 C0.2.1 d_MO_read_224 rfl (lv_at hl 1 rfl) ?_
            refine lv_isub (pc := 225) C0.1 C0.2.1 d_MO_read_225 ?_
            exact hret _ _ _ _ 226 _ (rfl) (⟨by rw [E], by rw [E]; exact hM1, hfm⟩) hP hD hS d_MO_read_226
      · have hal := hc
        have hc7 := htx ai hal
        obtain ⟨fu, hfu⟩ : ∃ fu, len - ai = fu + 1 := ⟨len - ai - 1, by omega⟩
        have hfu1 : len - (ai + 1) = fu := by omega
        rw [hfu] at hgo
        refine lv_aload_n (pc := 35) C0.1 C0.2.1 d_MO_read_35 rfl (lv_at hl 0 rfl) ?_
        refine mg_get (pc := 36) C0 in_MO hK hP (52) fx rfl 10 (by decide) fl_MO_33 rfl d_MO_read_36 ?_
        refine lv_iload (pc := 39) C0.1 C0.2.1 d_MO_read_39 (lv_at hl 6 rfl) ?_
        refine mg_ild (pc := 41) C0 hK hP (59) 1 fc rfl (j := ai) (by omega) (by omega) d_MO_read_41 ?_
        refine mg_top (show ch (ai) = nI (tx ai) from hch ai hal) ?_
        refine lv_istore (pc := 42) (lv' := [(7, .int (nI (tx ai))), (0, .ref (ad 52)), (1, .int (nI (len))), (2, .int (nI (P))), (3, .int (nI (se))), (4, .int (fv)), (5, .int (lx)), (6, .int (nI (ai)))]) C0.1 C0.2.1 d_MO_read_42 hl (by decide) rfl (fun ls hl => ?_)
        refine lv_iload (pc := 44) C0.1 C0.2.1 d_MO_read_44 (lv_at hl 0 rfl) ?_
        refine lv_bipush (pc := 46) (v := nI (48)) C0.1 C0.2.1 d_MO_read_46 (by decide +kernel) ?_
        rcases hfv with ⟨rfl, rfl⟩ | ⟨rfl, rfl⟩ | ⟨ht1, rfl, rfl⟩
        · by_cases h48 : 48 ≤ tx ai
          · refine mn_sub (pc := 48) C0 (by omega) d_MO_read_48 ?_
            refine lv_istore (pc := 49) (lv' := [(8, .int (nI ((tx ai) - 48))), (7, .int (nI (tx ai))), (0, .ref (ad 52)), (1, .int (nI (len))), (2, .int (nI (P))), (3, .int (nI (se))), (4, .int ((-2))), (5, .int (lx)), (6, .int (nI (ai)))]) C0.1 C0.2.1 d_MO_read_49 hl (by decide) rfl (fun ls hl => ?_)
            refine lv_iload (pc := 51) C0.1 C0.2.1 d_MO_read_51 (lv_at hl 1 rfl) ?_
            refine lv_bipush (pc := 53) (v := nI (40)) C0.1 C0.2.1 d_MO_read_53 (by decide +kernel) ?_
            refine mb_ne (pc := 55) (tgt := 71) C0 (by omega) (by omega) d_MO_read_55 (by decide) (fun hc40 => ?_) (fun hc40 => ?_)
            · refine lv_iload (pc := 71) C0.1 C0.2.1 d_MO_read_71 (lv_at hl 1 rfl) ?_
              refine lv_bipush (pc := 73) (v := nI (41)) C0.1 C0.2.1 d_MO_read_73 (by decide +kernel) ?_
              refine mb_ne (pc := 75) (tgt := 110) C0 (by omega) (by omega) d_MO_read_75 (by decide) (fun hc41 => ?_) (fun hc41 => ?_)
              · refine lv_iload (pc := 110) C0.1 C0.2.1 d_MO_read_110 (lv_at hl 6 rfl) ?_
                refine lv_bipush (pc := 112) (v := (-2)) C0.1 C0.2.1 d_MO_read_112 (by decide +kernel) ?_
                refine lv_icmp_le (pc := 114) (tgt := 198) C0.1 C0.2.1 d_MO_read_114 (by decide) (fun hc => ?_) (fun hc => ?_)
                · refine lv_iload (pc := 198) C0.1 C0.2.1 d_MO_read_198 (lv_at hl 1 rfl) ?_
                  refine lv_bipush (pc := 200) (v := nI (32)) C0.1 C0.2.1 d_MO_read_200 (by decide +kernel) ?_
                  refine mb_eq (pc := 202) (tgt := 210) C0 (by omega) (by omega) d_MO_read_202 (by decide) (fun hc => ?_) (fun hc => ?_)
                  · have hst : ps_st n (tx ai) (0, la, se, pp) = some (0, la, se, pp) := by rw [hc]; rfl
                    refine lv_iinc (pc := 210) (k := 8) (v := nI (ai + 1)) (lv' := [(6, .int (nI (ai + 1))), (8, .int (nI ((tx ai) - 48))), (7, .int (nI (tx ai))), (0, .ref (ad 52)), (1, .int (nI (len))), (2, .int (nI (P))), (3, .int (nI (se))), (4, .int ((-2))), (5, .int (lx))]) C0.1 C0.2.1 d_MO_read_210 hl rfl (nb_p1 _) (by decide) rfl (fun ls hl => ?_)
                    refine lv_goto (pc := 213) (tgt := 29) C0.1 C0.2.1 d_MO_read_213 (by decide) ?_
                    exact ih_loop _ (by omega) (ai + 1) 0 la se pp P (-2) lx _ _ _ _ rfl (by omega) (ps_ok1 hps hst) hse hPl hdig (Or.inl ⟨rfl, rfl⟩) (by rw [hfu1, ← ps_go_some hst]; exact hgo) hfm fx fi fe fs fy fg fnn fc (lv_sub hl [3, 4, 5, 6, 7, 8, 0] rfl) hP hD hS
                  · have hc32 : ¬ tx ai = 32 := hc
                    have hst : ps_st n (tx ai) (0, la, se, pp) = none := ps_n0 hc32 hc40
                    have hrd := ps_rd1 (hgo.symm.trans (ps_go_none hst))
                    have hM1 : MOW ca ad n (0, tx, pc, rk, gc, gs) ws := ⟨fx, ⟨im, fi, him⟩, ⟨_, fe, hpe⟩, ⟨_, _, _, fs, fy, fg, hgs⟩, ⟨_, fnn⟩, ⟨ch, fc, fun i hi => absurd hi (by omega)⟩, by omega, fun i hi => absurd hi (by omega), hp, hrk, hg⟩
                    have E : sp_read n (len, tx, pc, rk, gc, gs) = ((-1) - nI ai, (0, tx, pc, rk, gc, gs)) := by simp only [sp_read, hrd]
                    refine lv_iconst (pc := 205) (v := (-1)) C0.1 C0.2.1 d_MO_read_205 (by decide +kernel) ?_
                    refine lv_iload (pc := 206) C0.1 C0.2.1 d_MO_read_206 (lv_at hl 8 rfl) ?_
                    refine lv_isub (pc := 208) C0.1 C0.2.1 d_MO_read_208 ?_
                    exact hret _ _ _ _ 209 _ (rfl) (⟨by rw [E], by rw [E]; exact hM1, hfm⟩) hP hD hS d_MO_read_209
                · first
                  | exact absurd hc (by decide)
                  | exact absurd (by decide) hc
              · refine lv_iload (pc := 78) C0.1 C0.2.1 d_MO_read_78 (lv_at hl 6 rfl) ?_
                refine lv_if_lt (pc := 80) (tgt := 110) C0.1 C0.2.1 d_MO_read_80 (by decide) (fun hc => ?_) (fun hc => ?_)
                · refine lv_iload (pc := 110) C0.1 C0.2.1 d_MO_read_110 (lv_at hl 6 rfl) ?_
                  refine lv_bipush (pc := 112) (v := (-2)) C0.1 C0.2.1 d_MO_read_112 (by decide +kernel) ?_
                  refine lv_icmp_le (pc := 114) (tgt := 198) C0.1 C0.2.1 d_MO_read_114 (by decide) (fun hc => ?_) (fun hc => ?_)
                  · refine lv_iload (pc := 198) C0.1 C0.2.1 d_MO_read_198 (lv_at hl 1 rfl) ?_
                    refine lv_bipush (pc := 200) (v := nI (32)) C0.1 C0.2.1 d_MO_read_200 (by decide +kernel) ?_
                    refine mb_eq (pc := 202) (tgt := 210) C0 (by omega) (by omega) d_MO_read_202 (by decide) (fun hc => ?_) (fun hc => ?_)
                    · have hst : ps_st n (tx ai) (0, la, se, pp) = some (0, la, se, pp) := by rw [hc]; rfl
                      refine lv_iinc (pc := 210) (k := 8) (v := nI (ai + 1)) (lv' := [(6, .int (nI (ai + 1))), (8, .int (nI ((tx ai) - 48))), (7, .int (nI (tx ai))), (0, .ref (ad 52)), (1, .int (nI (len))), (2, .int (nI (P))), (3, .int (nI (se))), (4, .int ((-2))), (5, .int (lx))]) C0.1 C0.2.1 d_MO_read_210 hl rfl (nb_p1 _) (by decide) rfl (fun ls hl => ?_)
                      refine lv_goto (pc := 213) (tgt := 29) C0.1 C0.2.1 d_MO_read_213 (by decide) ?_
                      exact ih_loop _ (by omega) (ai + 1) 0 la se pp P (-2) lx _ _ _ _ rfl (by omega) (ps_ok1 hps hst) hse hPl hdig (Or.inl ⟨rfl, rfl⟩) (by rw [hfu1, ← ps_go_some hst]; exact hgo) hfm fx fi fe fs fy fg fnn fc (lv_sub hl [3, 4, 5, 6, 7, 8, 0] rfl) hP hD hS
                    · have hc32 : ¬ tx ai = 32 := hc
                      have hst : ps_st n (tx ai) (0, la, se, pp) = none := ps_n0 hc32 (by omega)
                      have hrd := ps_rd1 (hgo.symm.trans (ps_go_none hst))
                      have hM1 : MOW ca ad n (0, tx, pc, rk, gc, gs) ws := ⟨fx, ⟨im, fi, him⟩, ⟨_, fe, hpe⟩, ⟨_, _, _, fs, fy, fg, hgs⟩, ⟨_, fnn⟩, ⟨ch, fc, fun i hi => absurd hi (by omega)⟩, by omega, fun i hi => absurd hi (by omega), hp, hrk, hg⟩
                      have E : sp_read n (len, tx, pc, rk, gc, gs) = ((-1) - nI ai, (0, tx, pc, rk, gc, gs)) := by simp only [sp_read, hrd]
                      refine lv_iconst (pc := 205) (v := (-1)) C0.1 C0.2.1 d_MO_read_205 (by decide +kernel) ?_
                      refine lv_iload (pc := 206) C0.1 C0.2.1 d_MO_read_206 (lv_at hl 8 rfl) ?_
                      refine lv_isub (pc := 208) C0.1 C0.2.1 d_MO_read_208 ?_
                      exact hret _ _ _ _ 209 _ (rfl) (⟨by rw [E], by rw [E]; exact hM1, hfm⟩) hP hD hS d_MO_read_209
                  · first
                    | exact absurd hc (by decide)
                    | exact absurd (by decide) hc
                · first
                  | exact absurd hc (by decide)
                  | exact absurd (by decide) hc
            · refine lv_iload (pc := 58) C0.1 C0.2.1 d_MO_read_58 (lv_at hl 6 rfl) ?_
              refine lv_bipush (pc := 60) (v := (-2)) C0.1 C0.2.1 d_MO_read_60 (by decide +kernel) ?_
              refine lv_icmp_ne (pc := 62) (tgt := 71) C0.1 C0.2.1 d_MO_read_62 (by decide) (fun hc => ?_) (fun hc => ?_)
              · first
                | exact absurd hc (rfl)
                | exact absurd (rfl) hc
              · refine lv_iconst (pc := 65) (v := (-1)) C0.1 C0.2.1 d_MO_read_65 (by decide +kernel) ?_
                refine lv_istore (pc := 66) (lv' := [(4, .int ((-1))), (8, .int (nI ((tx ai) - 48))), (7, .int (nI (tx ai))), (0, .ref (ad 52)), (1, .int (nI (len))), (2, .int (nI (P))), (3, .int (nI (se))), (5, .int (lx)), (6, .int (nI (ai)))]) C0.1 C0.2.1 d_MO_read_66 hl (by decide) rfl (fun ls hl => ?_)
                refine lv_goto (pc := 68) (tgt := 210) C0.1 C0.2.1 d_MO_read_68 (by decide) ?_
                have hst : ps_st n (tx ai) (0, la, se, pp) = some (1, la, se, pp) := ps_s0 hc40
                refine lv_iinc (pc := 210) (k := 8) (v := nI (ai + 1)) (lv' := [(6, .int (nI (ai + 1))), (4, .int ((-1))), (8, .int (nI ((tx ai) - 48))), (7, .int (nI (tx ai))), (0, .ref (ad 52)), (1, .int (nI (len))), (2, .int (nI (P))), (3, .int (nI (se))), (5, .int (lx))]) C0.1 C0.2.1 d_MO_read_210 hl rfl (nb_p1 _) (by decide) rfl (fun ls hl => ?_)
                refine lv_goto (pc := 213) (tgt := 29) C0.1 C0.2.1 d_MO_read_213 (by decide) ?_
                exact ih_loop _ (by omega) (ai + 1) 1 la se pp P (-1) lx _ _ _ _ rfl (by omega) (ps_ok1 hps hst) hse hPl hdig (Or.inr (Or.inl ⟨rfl, rfl⟩)) (by rw [hfu1, ← ps_go_some hst]; exact hgo) hfm fx fi fe fs fy fg fnn fc (lv_sub hl [4, 5, 6, 7, 1, 8, 0] rfl) hP hD hS
          · refine lv_isub (pc := 48) C0.1 C0.2.1 d_MO_read_48 ?_
            refine lv_istore (pc := 49) (lv' := [(8, .int ((nI (tx ai)) - (nI (48)))), (7, .int (nI (tx ai))), (0, .ref (ad 52)), (1, .int (nI (len))), (2, .int (nI (P))), (3, .int (nI (se))), (4, .int ((-2))), (5, .int (lx)), (6, .int (nI (ai)))]) C0.1 C0.2.1 d_MO_read_49 hl (by decide) rfl (fun ls hl => ?_)
            refine lv_iload (pc := 51) C0.1 C0.2.1 d_MO_read_51 (lv_at hl 1 rfl) ?_
            refine lv_bipush (pc := 53) (v := nI (40)) C0.1 C0.2.1 d_MO_read_53 (by decide +kernel) ?_
            refine mb_ne (pc := 55) (tgt := 71) C0 (by omega) (by omega) d_MO_read_55 (by decide) (fun hc40 => ?_) (fun hc40 => ?_)
            · refine lv_iload (pc := 71) C0.1 C0.2.1 d_MO_read_71 (lv_at hl 1 rfl) ?_
              refine lv_bipush (pc := 73) (v := nI (41)) C0.1 C0.2.1 d_MO_read_73 (by decide +kernel) ?_
              refine mb_ne (pc := 75) (tgt := 110) C0 (by omega) (by omega) d_MO_read_75 (by decide) (fun hc41 => ?_) (fun hc41 => ?_)
              · refine lv_iload (pc := 110) C0.1 C0.2.1 d_MO_read_110 (lv_at hl 6 rfl) ?_
                refine lv_bipush (pc := 112) (v := (-2)) C0.1 C0.2.1 d_MO_read_112 (by decide +kernel) ?_
                refine lv_icmp_le (pc := 114) (tgt := 198) C0.1 C0.2.1 d_MO_read_114 (by decide) (fun hc => ?_) (fun hc => ?_)
                · refine lv_iload (pc := 198) C0.1 C0.2.1 d_MO_read_198 (lv_at hl 1 rfl) ?_
                  refine lv_bipush (pc := 200) (v := nI (32)) C0.1 C0.2.1 d_MO_read_200 (by decide +kernel) ?_
                  refine mb_eq (pc := 202) (tgt := 210) C0 (by omega) (by omega) d_MO_read_202 (by decide) (fun hc => ?_) (fun hc => ?_)
                  · have hst : ps_st n (tx ai) (0, la, se, pp) = some (0, la, se, pp) := by rw [hc]; rfl
                    refine lv_iinc (pc := 210) (k := 8) (v := nI (ai + 1)) (lv' := [(6, .int (nI (ai + 1))), (8, .int ((nI (tx ai)) - (nI (48)))), (7, .int (nI (tx ai))), (0, .ref (ad 52)), (1, .int (nI (len))), (2, .int (nI (P))), (3, .int (nI (se))), (4, .int ((-2))), (5, .int (lx))]) C0.1 C0.2.1 d_MO_read_210 hl rfl (nb_p1 _) (by decide) rfl (fun ls hl => ?_)
                    refine lv_goto (pc := 213) (tgt := 29) C0.1 C0.2.1 d_MO_read_213 (by decide) ?_
                    exact ih_loop _ (by omega) (ai + 1) 0 la se pp P (-2) lx _ _ _ _ rfl (by omega) (ps_ok1 hps hst) hse hPl hdig (Or.inl ⟨rfl, rfl⟩) (by rw [hfu1, ← ps_go_some hst]; exact hgo) hfm fx fi fe fs fy fg fnn fc (lv_sub hl [3, 4, 5, 6, 7, 8, 0] rfl) hP hD hS
                  · have hc32 : ¬ tx ai = 32 := hc
                    have hst : ps_st n (tx ai) (0, la, se, pp) = none := ps_n0 hc32 hc40
                    have hrd := ps_rd1 (hgo.symm.trans (ps_go_none hst))
                    have hM1 : MOW ca ad n (0, tx, pc, rk, gc, gs) ws := ⟨fx, ⟨im, fi, him⟩, ⟨_, fe, hpe⟩, ⟨_, _, _, fs, fy, fg, hgs⟩, ⟨_, fnn⟩, ⟨ch, fc, fun i hi => absurd hi (by omega)⟩, by omega, fun i hi => absurd hi (by omega), hp, hrk, hg⟩
                    have E : sp_read n (len, tx, pc, rk, gc, gs) = ((-1) - nI ai, (0, tx, pc, rk, gc, gs)) := by simp only [sp_read, hrd]
                    refine lv_iconst (pc := 205) (v := (-1)) C0.1 C0.2.1 d_MO_read_205 (by decide +kernel) ?_
                    refine lv_iload (pc := 206) C0.1 C0.2.1 d_MO_read_206 (lv_at hl 8 rfl) ?_
                    refine lv_isub (pc := 208) C0.1 C0.2.1 d_MO_read_208 ?_
                    exact hret _ _ _ _ 209 _ (rfl) (⟨by rw [E], by rw [E]; exact hM1, hfm⟩) hP hD hS d_MO_read_209
                · first
                  | exact absurd hc (by decide)
                  | exact absurd (by decide) hc
              · refine lv_iload (pc := 78) C0.1 C0.2.1 d_MO_read_78 (lv_at hl 6 rfl) ?_
                refine lv_if_lt (pc := 80) (tgt := 110) C0.1 C0.2.1 d_MO_read_80 (by decide) (fun hc => ?_) (fun hc => ?_)
                · refine lv_iload (pc := 110) C0.1 C0.2.1 d_MO_read_110 (lv_at hl 6 rfl) ?_
                  refine lv_bipush (pc := 112) (v := (-2)) C0.1 C0.2.1 d_MO_read_112 (by decide +kernel) ?_
                  refine lv_icmp_le (pc := 114) (tgt := 198) C0.1 C0.2.1 d_MO_read_114 (by decide) (fun hc => ?_) (fun hc => ?_)
                  · refine lv_iload (pc := 198) C0.1 C0.2.1 d_MO_read_198 (lv_at hl 1 rfl) ?_
                    refine lv_bipush (pc := 200) (v := nI (32)) C0.1 C0.2.1 d_MO_read_200 (by decide +kernel) ?_
                    refine mb_eq (pc := 202) (tgt := 210) C0 (by omega) (by omega) d_MO_read_202 (by decide) (fun hc => ?_) (fun hc => ?_)
                    · have hst : ps_st n (tx ai) (0, la, se, pp) = some (0, la, se, pp) := by rw [hc]; rfl
                      refine lv_iinc (pc := 210) (k := 8) (v := nI (ai + 1)) (lv' := [(6, .int (nI (ai + 1))), (8, .int ((nI (tx ai)) - (nI (48)))), (7, .int (nI (tx ai))), (0, .ref (ad 52)), (1, .int (nI (len))), (2, .int (nI (P))), (3, .int (nI (se))), (4, .int ((-2))), (5, .int (lx))]) C0.1 C0.2.1 d_MO_read_210 hl rfl (nb_p1 _) (by decide) rfl (fun ls hl => ?_)
                      refine lv_goto (pc := 213) (tgt := 29) C0.1 C0.2.1 d_MO_read_213 (by decide) ?_
                      exact ih_loop _ (by omega) (ai + 1) 0 la se pp P (-2) lx _ _ _ _ rfl (by omega) (ps_ok1 hps hst) hse hPl hdig (Or.inl ⟨rfl, rfl⟩) (by rw [hfu1, ← ps_go_some hst]; exact hgo) hfm fx fi fe fs fy fg fnn fc (lv_sub hl [3, 4, 5, 6, 7, 8, 0] rfl) hP hD hS
                    · have hc32 : ¬ tx ai = 32 := hc
                      have hst : ps_st n (tx ai) (0, la, se, pp) = none := ps_n0 hc32 (by omega)
                      have hrd := ps_rd1 (hgo.symm.trans (ps_go_none hst))
                      have hM1 : MOW ca ad n (0, tx, pc, rk, gc, gs) ws := ⟨fx, ⟨im, fi, him⟩, ⟨_, fe, hpe⟩, ⟨_, _, _, fs, fy, fg, hgs⟩, ⟨_, fnn⟩, ⟨ch, fc, fun i hi => absurd hi (by omega)⟩, by omega, fun i hi => absurd hi (by omega), hp, hrk, hg⟩
                      have E : sp_read n (len, tx, pc, rk, gc, gs) = ((-1) - nI ai, (0, tx, pc, rk, gc, gs)) := by simp only [sp_read, hrd]
                      refine lv_iconst (pc := 205) (v := (-1)) C0.1 C0.2.1 d_MO_read_205 (by decide +kernel) ?_
                      refine lv_iload (pc := 206) C0.1 C0.2.1 d_MO_read_206 (lv_at hl 8 rfl) ?_
                      refine lv_isub (pc := 208) C0.1 C0.2.1 d_MO_read_208 ?_
                      exact hret _ _ _ _ 209 _ (rfl) (⟨by rw [E], by rw [E]; exact hM1, hfm⟩) hP hD hS d_MO_read_209
                  · first
                    | exact absurd hc (by decide)
                    | exact absurd (by decide) hc
                · first
                  | exact absurd hc (by decide)
                  | exact absurd (by decide) hc
            · refine lv_iload (pc := 58) C0.1 C0.2.1 d_MO_read_58 (lv_at hl 6 rfl) ?_
              refine lv_bipush (pc := 60) (v := (-2)) C0.1 C0.2.1 d_MO_read_60 (by decide +kernel) ?_
              refine lv_icmp_ne (pc := 62) (tgt := 71) C0.1 C0.2.1 d_MO_read_62 (by decide) (fun hc => ?_) (fun hc => ?_)
              · first
                | exact absurd hc (rfl)
                | exact absurd (rfl) hc
              · refine lv_iconst (pc := 65) (v := (-1)) C0.1 C0.2.1 d_MO_read_65 (by decide +kernel) ?_
                refine lv_istore (pc := 66) (lv' := [(4, .int ((-1))), (8, .int ((nI (tx ai)) - (nI (48)))), (7, .int (nI (tx ai))), (0, .ref (ad 52)), (1, .int (nI (len))), (2, .int (nI (P))), (3, .int (nI (se))), (5, .int (lx)), (6, .int (nI (ai)))]) C0.1 C0.2.1 d_MO_read_66 hl (by decide) rfl (fun ls hl => ?_)
                refine lv_goto (pc := 68) (tgt := 210) C0.1 C0.2.1 d_MO_read_68 (by decide) ?_
                have hst : ps_st n (tx ai) (0, la, se, pp) = some (1, la, se, pp) := ps_s0 hc40
                refine lv_iinc (pc := 210) (k := 8) (v := nI (ai + 1)) (lv' := [(6, .int (nI (ai + 1))), (4, .int ((-1))), (8, .int ((nI (tx ai)) - (nI (48)))), (7, .int (nI (tx ai))), (0, .ref (ad 52)), (1, .int (nI (len))), (2, .int (nI (P))), (3, .int (nI (se))), (5, .int (lx))]) C0.1 C0.2.1 d_MO_read_210 hl rfl (nb_p1 _) (by decide) rfl (fun ls hl => ?_)
                refine lv_goto (pc := 213) (tgt := 29) C0.1 C0.2.1 d_MO_read_213 (by decide) ?_
                exact ih_loop _ (by omega) (ai + 1) 1 la se pp P (-1) lx _ _ _ _ rfl (by omega) (ps_ok1 hps hst) hse hPl hdig (Or.inr (Or.inl ⟨rfl, rfl⟩)) (by rw [hfu1, ← ps_go_some hst]; exact hgo) hfm fx fi fe fs fy fg fnn fc (lv_sub hl [4, 5, 6, 7, 1, 8, 0] rfl) hP hD hS
        · by_cases h48 : 48 ≤ tx ai
          · refine mn_sub (pc := 48) C0 (by omega) d_MO_read_48 ?_
            refine lv_istore (pc := 49) (lv' := [(8, .int (nI ((tx ai) - 48))), (7, .int (nI (tx ai))), (0, .ref (ad 52)), (1, .int (nI (len))), (2, .int (nI (P))), (3, .int (nI (se))), (4, .int ((-1))), (5, .int (lx)), (6, .int (nI (ai)))]) C0.1 C0.2.1 d_MO_read_49 hl (by decide) rfl (fun ls hl => ?_)
            refine lv_iload (pc := 51) C0.1 C0.2.1 d_MO_read_51 (lv_at hl 1 rfl) ?_
            refine lv_bipush (pc := 53) (v := nI (40)) C0.1 C0.2.1 d_MO_read_53 (by decide +kernel) ?_
            refine mb_ne (pc := 55) (tgt := 71) C0 (by omega) (by omega) d_MO_read_55 (by decide) (fun hc40 => ?_) (fun hc40 => ?_)
            · refine lv_iload (pc := 71) C0.1 C0.2.1 d_MO_read_71 (lv_at hl 1 rfl) ?_
              refine lv_bipush (pc := 73) (v := nI (41)) C0.1 C0.2.1 d_MO_read_73 (by decide +kernel) ?_
              refine mb_ne (pc := 75) (tgt := 110) C0 (by omega) (by omega) d_MO_read_75 (by decide) (fun hc41 => ?_) (fun hc41 => ?_)
              · refine lv_iload (pc := 110) C0.1 C0.2.1 d_MO_read_110 (lv_at hl 6 rfl) ?_
                refine lv_bipush (pc := 112) (v := (-2)) C0.1 C0.2.1 d_MO_read_112 (by decide +kernel) ?_
                refine lv_icmp_le (pc := 114) (tgt := 198) C0.1 C0.2.1 d_MO_read_114 (by decide) (fun hc => ?_) (fun hc => ?_)
                · first
                  | exact absurd hc (by decide)
                  | exact absurd (by decide) hc
                · refine lv_iload (pc := 117) C0.1 C0.2.1 d_MO_read_117 (lv_at hl 0 rfl) ?_
                  refine lv_iconst (pc := 119) (v := nI (0)) C0.1 C0.2.1 d_MO_read_119 (by decide +kernel) ?_
                  refine lv_aload_n (pc := 120) C0.1 C0.2.1 d_MO_read_120 rfl (lv_at hl 2 rfl) ?_
                  refine mg_get (pc := 121) C0 in_MO hK hP (52) fx rfl 0 (by decide) fl_MO_36 rfl d_MO_read_121 ?_
                  refine lv_iconst (pc := 124) (v := nI (1)) C0.1 C0.2.1 d_MO_read_124 (by decide +kernel) ?_
                  refine lv_isub (pc := 125) C0.1 C0.2.1 d_MO_read_125 ?_
                  refine mg_si (pc := 126) (As := [.int (nI ((tx ai) - 48)), .int (nI (0)), .int ((nI (n)) - (nI (1)))]) (rest := []) C0 (c_MO_in l D ca ad ws) lk_MO_85 (by decide) hK hP hD hS hA rfl hl.1 rfl (Nat.le_of_ble_eq_true rfl) d_MO_read_126 (fun rv ws1 H locs hpost hP hD hS => ?_)
                  obtain ⟨hr1, hw⟩ := hpost
                  rw [hw] at hP hD
                  by_cases hxn : tx ai - 48 < n
                  · refine mg_top (show rv = nI (1) from hr1.elim (fun h9 => (h9.1.elim (fun h8 => nI_pos (by omega) h8) (fun h8 => mo_hi0 (by omega) hxn h8)).elim) (fun h9 => h9.2)) ?_
                    refine mz_eq (pc := 129) (tgt := 198) C0 (by decide) d_MO_read_129 (by decide) (fun h9 => absurd h9 (by decide)) (fun _ => ?_)
                    refine lv_iload_n (pc := 132) C0.1 C0.2.1 d_MO_read_132 rfl (lv_at hl 5 rfl) ?_
                    refine lv_iload (pc := 133) C0.1 C0.2.1 d_MO_read_133 (lv_at hl 0 rfl) ?_
                    refine mn_shr (pc := 135) C0 (by omega) (by omega) d_MO_read_135 ?_
                    refine lv_iconst (pc := 136) (v := nI (1)) C0.1 C0.2.1 d_MO_read_136 (by decide +kernel) ?_
                    refine mn_bit (pc := 137) C0 d_MO_read_137 ?_
                    refine mz_ne (pc := 138) (tgt := 198) C0 (by omega) d_MO_read_138 (by decide) (fun hc => ?_) (fun hc => ?_)
                    · have hbit : se.testBit (tx ai - 48) = true := nb_t1 hc
                      refine lv_iload (pc := 198) C0.1 C0.2.1 d_MO_read_198 (lv_at hl 1 rfl) ?_
                      refine lv_bipush (pc := 200) (v := nI (32)) C0.1 C0.2.1 d_MO_read_200 (by decide +kernel) ?_
                      refine mb_eq (pc := 202) (tgt := 210) C0 (by omega) (by omega) d_MO_read_202 (by decide) (fun hc => ?_) (fun hc => ?_)
                      · have hst : ps_st n (tx ai) (1, la, se, pp) = some (1, la, se, pp) := by rw [hc]; rfl
                        refine lv_iinc (pc := 210) (k := 8) (v := nI (ai + 1)) (lv' := [(6, .int (nI (ai + 1))), (8, .int (nI ((tx ai) - 48))), (7, .int (nI (tx ai))), (0, .ref (ad 52)), (1, .int (nI (len))), (2, .int (nI (P))), (3, .int (nI (se))), (4, .int ((-1))), (5, .int (lx))]) C0.1 C0.2.1 d_MO_read_210 hl rfl (nb_p1 _) (by decide) rfl (fun ls hl => ?_)
                        refine lv_goto (pc := 213) (tgt := 29) C0.1 C0.2.1 d_MO_read_213 (by decide) ?_
                        exact ih_loop _ (by omega) (ai + 1) 1 la se pp P (-1) lx _ _ _ _ rfl (by omega) (ps_ok1 hps hst) hse hPl hdig (Or.inr (Or.inl ⟨rfl, rfl⟩)) (by rw [hfu1, ← ps_go_some hst]; exact hgo) hfm fx fi fe fs fy fg fnn fc (lv_sub hl [3, 4, 5, 6, 7, 8, 0] rfl) hP hD hS
                      · have hc32 : ¬ tx ai = 32 := hc
                        have hst : ps_st n (tx ai) (1, la, se, pp) = none := ps_n2 hc32 (by omega) hc41 (fun h9 => by rw [hbit] at h9; exact absurd h9.2.2 (by decide))
                        have hrd := ps_rd1 (hgo.symm.trans (ps_go_none hst))
                        have hM1 : MOW ca ad n (0, tx, pc, rk, gc, gs) ws := ⟨fx, ⟨im, fi, him⟩, ⟨_, fe, hpe⟩, ⟨_, _, _, fs, fy, fg, hgs⟩, ⟨_, fnn⟩, ⟨ch, fc, fun i hi => absurd hi (by omega)⟩, by omega, fun i hi => absurd hi (by omega), hp, hrk, hg⟩
                        have E : sp_read n (len, tx, pc, rk, gc, gs) = ((-1) - nI ai, (0, tx, pc, rk, gc, gs)) := by simp only [sp_read, hrd]
                        refine lv_iconst (pc := 205) (v := (-1)) C0.1 C0.2.1 d_MO_read_205 (by decide +kernel) ?_
                        refine lv_iload (pc := 206) C0.1 C0.2.1 d_MO_read_206 (lv_at hl 8 rfl) ?_
                        refine lv_isub (pc := 208) C0.1 C0.2.1 d_MO_read_208 ?_
                        exact hret _ _ _ _ 209 _ (rfl) (⟨by rw [E], by rw [E]; exact hM1, hfm⟩) hP hD hS d_MO_read_209
                    · have hbit : se.testBit (tx ai - 48) = false := nb_t0 hc
                      have hse1 : se ||| 2 ^ (tx ai - 48) < 64 := Nat.or_lt_two_pow (n := 6) hse (Nat.pow_lt_pow_right (by decide) (by omega))
                      refine lv_iload_n (pc := 141) C0.1 C0.2.1 d_MO_read_141 rfl (lv_at hl 5 rfl) ?_
                      refine lv_iconst (pc := 142) (v := nI (1)) C0.1 C0.2.1 d_MO_read_142 (by decide +kernel) ?_
                      refine lv_iload (pc := 143) C0.1 C0.2.1 d_MO_read_143 (lv_at hl 0 rfl) ?_
                      refine mn_shl1 (pc := 145) C0 (by omega) d_MO_read_145 ?_
                      refine mn_or (pc := 146) C0 d_MO_read_146 ?_
                      refine lv_istore_n (pc := 147) (lv' := [(3, .int (nI (se ||| (2 ^ ((tx ai) - 48))))), (8, .int (nI ((tx ai) - 48))), (7, .int (nI (tx ai))), (0, .ref (ad 52)), (1, .int (nI (len))), (2, .int (nI (P))), (4, .int ((-1))), (5, .int (lx)), (6, .int (nI (ai)))]) C0.1 C0.2.1 d_MO_read_147 rfl hl (by decide) rfl (fun ls hl => ?_)
                      refine lv_iload (pc := 148) C0.1 C0.2.1 d_MO_read_148 (lv_at hl 6 rfl) ?_
                      refine lv_if_ge (pc := 150) (tgt := 157) C0.1 C0.2.1 d_MO_read_150 (by decide) (fun hc => ?_) (fun hc => ?_)
                      · first
                        | exact absurd hc (by decide)
                        | exact absurd (by decide) hc
                      · refine lv_iload_n (pc := 153) C0.1 C0.2.1 d_MO_read_153 rfl (lv_at hl 5 rfl) ?_
                        refine lv_goto (pc := 154) (tgt := 176) C0.1 C0.2.1 d_MO_read_154 (by decide) ?_
                        refine lv_istore_n (pc := 176) (lv' := [(2, .int (nI (P))), (3, .int (nI (se ||| (2 ^ ((tx ai) - 48))))), (8, .int (nI ((tx ai) - 48))), (7, .int (nI (tx ai))), (0, .ref (ad 52)), (1, .int (nI (len))), (4, .int ((-1))), (5, .int (lx)), (6, .int (nI (ai)))]) C0.1 C0.2.1 d_MO_read_176 rfl hl (by decide) rfl (fun ls hl => ?_)
                        refine lv_iload (pc := 177) C0.1 C0.2.1 d_MO_read_177 (lv_at hl 6 rfl) ?_
                        refine lv_if_ge (pc := 179) (tgt := 187) C0.1 C0.2.1 d_MO_read_179 (by decide) (fun hc => ?_) (fun hc => ?_)
                        · first
                          | exact absurd hc (by decide)
                          | exact absurd (by decide) hc
                        · refine lv_iload (pc := 182) C0.1 C0.2.1 d_MO_read_182 (lv_at hl 2 rfl) ?_
                          refine lv_goto (pc := 184) (tgt := 189) C0.1 C0.2.1 d_MO_read_184 (by decide) ?_
                          refine lv_istore (pc := 189) (lv' := [(4, .int (nI ((tx ai) - 48))), (2, .int (nI (P))), (3, .int (nI (se ||| (2 ^ ((tx ai) - 48))))), (8, .int (nI ((tx ai) - 48))), (7, .int (nI (tx ai))), (0, .ref (ad 52)), (1, .int (nI (len))), (5, .int (lx)), (6, .int (nI (ai)))]) C0.1 C0.2.1 d_MO_read_189 hl (by decide) rfl (fun ls hl => ?_)
                          refine lv_iload (pc := 191) C0.1 C0.2.1 d_MO_read_191 (lv_at hl 3 rfl) ?_
                          refine lv_istore (pc := 193) (lv' := [(5, .int (nI ((tx ai) - 48))), (4, .int (nI ((tx ai) - 48))), (2, .int (nI (P))), (3, .int (nI (se ||| (2 ^ ((tx ai) - 48))))), (8, .int (nI ((tx ai) - 48))), (7, .int (nI (tx ai))), (0, .ref (ad 52)), (1, .int (nI (len))), (6, .int (nI (ai)))]) C0.1 C0.2.1 d_MO_read_193 hl (by decide) rfl (fun ls hl => ?_)
                          refine lv_goto (pc := 195) (tgt := 210) C0.1 C0.2.1 d_MO_read_195 (by decide) ?_
                          have hst : ps_st n (tx ai) (1, la, se, pp) = some (2 + (tx ai - 48), tx ai - 48, se ||| 2 ^ (tx ai - 48), pp) := ps_s2 (by omega) (by omega) hbit
                          refine lv_iinc (pc := 210) (k := 8) (v := nI (ai + 1)) (lv' := [(6, .int (nI (ai + 1))), (5, .int (nI ((tx ai) - 48))), (4, .int (nI ((tx ai) - 48))), (2, .int (nI (P))), (3, .int (nI (se ||| (2 ^ ((tx ai) - 48))))), (8, .int (nI ((tx ai) - 48))), (7, .int (nI (tx ai))), (0, .ref (ad 52)), (1, .int (nI (len)))]) C0.1 C0.2.1 d_MO_read_210 hl rfl (nb_p1 _) (by decide) rfl (fun ls hl => ?_)
                          refine lv_goto (pc := 213) (tgt := 29) C0.1 C0.2.1 d_MO_read_213 (by decide) ?_
                          exact ih_loop _ (by omega) (ai + 1) (2 + (tx ai - 48)) (tx ai - 48) (se ||| 2 ^ (tx ai - 48)) pp P (nI ((tx ai) - 48)) (nI ((tx ai) - 48)) _ _ _ _ rfl (by omega) (ps_ok1 hps hst) hse1 hPl hdig (Or.inr (Or.inr ⟨by omega, congrArg nI (by omega), rfl⟩)) (by rw [hfu1, ← ps_go_some hst]; exact hgo) hfm fx fi fe fs fy fg fnn fc (lv_sub hl [7, 8, 3, 4, 2, 1, 0] rfl) hP hD hS
                  · refine mg_top (show rv = nI (0) from hr1.elim (fun h9 => h9.2) (fun h9 => (h9.1.2 (mo_hi1 (by omega) (nI_le (by omega) (by omega)))).elim)) ?_
                    refine mz_eq (pc := 129) (tgt := 198) C0 (by decide) d_MO_read_129 (by decide) (fun _ => ?_) (fun h9 => absurd rfl h9)
                    refine lv_iload (pc := 198) C0.1 C0.2.1 d_MO_read_198 (lv_at hl 1 rfl) ?_
                    refine lv_bipush (pc := 200) (v := nI (32)) C0.1 C0.2.1 d_MO_read_200 (by decide +kernel) ?_
                    refine mb_eq (pc := 202) (tgt := 210) C0 (by omega) (by omega) d_MO_read_202 (by decide) (fun hc => ?_) (fun hc => ?_)
                    · have hst : ps_st n (tx ai) (1, la, se, pp) = some (1, la, se, pp) := by rw [hc]; rfl
                      refine lv_iinc (pc := 210) (k := 8) (v := nI (ai + 1)) (lv' := [(6, .int (nI (ai + 1))), (8, .int (nI ((tx ai) - 48))), (7, .int (nI (tx ai))), (0, .ref (ad 52)), (1, .int (nI (len))), (2, .int (nI (P))), (3, .int (nI (se))), (4, .int ((-1))), (5, .int (lx))]) C0.1 C0.2.1 d_MO_read_210 hl rfl (nb_p1 _) (by decide) rfl (fun ls hl => ?_)
                      refine lv_goto (pc := 213) (tgt := 29) C0.1 C0.2.1 d_MO_read_213 (by decide) ?_
                      exact ih_loop _ (by omega) (ai + 1) 1 la se pp P (-1) lx _ _ _ _ rfl (by omega) (ps_ok1 hps hst) hse hPl hdig (Or.inr (Or.inl ⟨rfl, rfl⟩)) (by rw [hfu1, ← ps_go_some hst]; exact hgo) hfm fx fi fe fs fy fg fnn fc (lv_sub hl [3, 4, 5, 6, 7, 8, 0] rfl) hP hD hS
                    · have hc32 : ¬ tx ai = 32 := hc
                      have hst : ps_st n (tx ai) (1, la, se, pp) = none := ps_n2 hc32 (by omega) hc41 (fun h9 => hxn (by omega))
                      have hrd := ps_rd1 (hgo.symm.trans (ps_go_none hst))
                      have hM1 : MOW ca ad n (0, tx, pc, rk, gc, gs) ws := ⟨fx, ⟨im, fi, him⟩, ⟨_, fe, hpe⟩, ⟨_, _, _, fs, fy, fg, hgs⟩, ⟨_, fnn⟩, ⟨ch, fc, fun i hi => absurd hi (by omega)⟩, by omega, fun i hi => absurd hi (by omega), hp, hrk, hg⟩
                      have E : sp_read n (len, tx, pc, rk, gc, gs) = ((-1) - nI ai, (0, tx, pc, rk, gc, gs)) := by simp only [sp_read, hrd]
                      refine lv_iconst (pc := 205) (v := (-1)) C0.1 C0.2.1 d_MO_read_205 (by decide +kernel) ?_
                      refine lv_iload (pc := 206) C0.1 C0.2.1 d_MO_read_206 (lv_at hl 8 rfl) ?_
                      refine lv_isub (pc := 208) C0.1 C0.2.1 d_MO_read_208 ?_
                      exact hret _ _ _ _ 209 _ (rfl) (⟨by rw [E], by rw [E]; exact hM1, hfm⟩) hP hD hS d_MO_read_209
              · refine lv_iload (pc := 78) C0.1 C0.2.1 d_MO_read_78 (lv_at hl 6 rfl) ?_
                refine lv_if_lt (pc := 80) (tgt := 110) C0.1 C0.2.1 d_MO_read_80 (by decide) (fun hc => ?_) (fun hc => ?_)
                · refine lv_iload (pc := 110) C0.1 C0.2.1 d_MO_read_110 (lv_at hl 6 rfl) ?_
                  refine lv_bipush (pc := 112) (v := (-2)) C0.1 C0.2.1 d_MO_read_112 (by decide +kernel) ?_
                  refine lv_icmp_le (pc := 114) (tgt := 198) C0.1 C0.2.1 d_MO_read_114 (by decide) (fun hc => ?_) (fun hc => ?_)
                  · first
                    | exact absurd hc (by decide)
                    | exact absurd (by decide) hc
                  · refine lv_iload (pc := 117) C0.1 C0.2.1 d_MO_read_117 (lv_at hl 0 rfl) ?_
                    refine lv_iconst (pc := 119) (v := nI (0)) C0.1 C0.2.1 d_MO_read_119 (by decide +kernel) ?_
                    refine lv_aload_n (pc := 120) C0.1 C0.2.1 d_MO_read_120 rfl (lv_at hl 2 rfl) ?_
                    refine mg_get (pc := 121) C0 in_MO hK hP (52) fx rfl 0 (by decide) fl_MO_36 rfl d_MO_read_121 ?_
                    refine lv_iconst (pc := 124) (v := nI (1)) C0.1 C0.2.1 d_MO_read_124 (by decide +kernel) ?_
                    refine lv_isub (pc := 125) C0.1 C0.2.1 d_MO_read_125 ?_
                    refine mg_si (pc := 126) (As := [.int (nI ((tx ai) - 48)), .int (nI (0)), .int ((nI (n)) - (nI (1)))]) (rest := []) C0 (c_MO_in l D ca ad ws) lk_MO_85 (by decide) hK hP hD hS hA rfl hl.1 rfl (Nat.le_of_ble_eq_true rfl) d_MO_read_126 (fun rv ws1 H locs hpost hP hD hS => ?_)
                    obtain ⟨hr1, hw⟩ := hpost
                    rw [hw] at hP hD
                    exact absurd h48 (by omega)
                · first
                  | exact absurd hc (by decide)
                  | exact absurd (by decide) hc
            · refine lv_iload (pc := 58) C0.1 C0.2.1 d_MO_read_58 (lv_at hl 6 rfl) ?_
              refine lv_bipush (pc := 60) (v := (-2)) C0.1 C0.2.1 d_MO_read_60 (by decide +kernel) ?_
              refine lv_icmp_ne (pc := 62) (tgt := 71) C0.1 C0.2.1 d_MO_read_62 (by decide) (fun hc => ?_) (fun hc => ?_)
              · exact absurd h48 (by omega)
              · first
                | exact absurd hc (by decide)
                | exact absurd (by decide) hc
          · refine lv_isub (pc := 48) C0.1 C0.2.1 d_MO_read_48 ?_
            refine lv_istore (pc := 49) (lv' := [(8, .int ((nI (tx ai)) - (nI (48)))), (7, .int (nI (tx ai))), (0, .ref (ad 52)), (1, .int (nI (len))), (2, .int (nI (P))), (3, .int (nI (se))), (4, .int ((-1))), (5, .int (lx)), (6, .int (nI (ai)))]) C0.1 C0.2.1 d_MO_read_49 hl (by decide) rfl (fun ls hl => ?_)
            refine lv_iload (pc := 51) C0.1 C0.2.1 d_MO_read_51 (lv_at hl 1 rfl) ?_
            refine lv_bipush (pc := 53) (v := nI (40)) C0.1 C0.2.1 d_MO_read_53 (by decide +kernel) ?_
            refine mb_ne (pc := 55) (tgt := 71) C0 (by omega) (by omega) d_MO_read_55 (by decide) (fun hc40 => ?_) (fun hc40 => ?_)
            · refine lv_iload (pc := 71) C0.1 C0.2.1 d_MO_read_71 (lv_at hl 1 rfl) ?_
              refine lv_bipush (pc := 73) (v := nI (41)) C0.1 C0.2.1 d_MO_read_73 (by decide +kernel) ?_
              refine mb_ne (pc := 75) (tgt := 110) C0 (by omega) (by omega) d_MO_read_75 (by decide) (fun hc41 => ?_) (fun hc41 => ?_)
              · refine lv_iload (pc := 110) C0.1 C0.2.1 d_MO_read_110 (lv_at hl 6 rfl) ?_
                refine lv_bipush (pc := 112) (v := (-2)) C0.1 C0.2.1 d_MO_read_112 (by decide +kernel) ?_
                refine lv_icmp_le (pc := 114) (tgt := 198) C0.1 C0.2.1 d_MO_read_114 (by decide) (fun hc => ?_) (fun hc => ?_)
                · first
                  | exact absurd hc (by decide)
                  | exact absurd (by decide) hc
                · refine lv_iload (pc := 117) C0.1 C0.2.1 d_MO_read_117 (lv_at hl 0 rfl) ?_
                  refine lv_iconst (pc := 119) (v := nI (0)) C0.1 C0.2.1 d_MO_read_119 (by decide +kernel) ?_
                  refine lv_aload_n (pc := 120) C0.1 C0.2.1 d_MO_read_120 rfl (lv_at hl 2 rfl) ?_
                  refine mg_get (pc := 121) C0 in_MO hK hP (52) fx rfl 0 (by decide) fl_MO_36 rfl d_MO_read_121 ?_
                  refine lv_iconst (pc := 124) (v := nI (1)) C0.1 C0.2.1 d_MO_read_124 (by decide +kernel) ?_
                  refine lv_isub (pc := 125) C0.1 C0.2.1 d_MO_read_125 ?_
                  refine mg_si (pc := 126) (As := [.int ((nI (tx ai)) - (nI (48))), .int (nI (0)), .int ((nI (n)) - (nI (1)))]) (rest := []) C0 (c_MO_in l D ca ad ws) lk_MO_85 (by decide) hK hP hD hS hA rfl hl.1 rfl (Nat.le_of_ble_eq_true rfl) d_MO_read_126 (fun rv ws1 H locs hpost hP hD hS => ?_)
                  obtain ⟨hr1, hw⟩ := hpost
                  rw [hw] at hP hD
                  refine mg_top (show rv = nI (0) from hr1.elim (fun h9 => h9.2) (fun h9 => (h9.1.1 (nb_sneg (by omega) (by omega))).elim)) ?_
                  refine mz_eq (pc := 129) (tgt := 198) C0 (by decide) d_MO_read_129 (by decide) (fun _ => ?_) (fun h9 => absurd rfl h9)
                  refine lv_iload (pc := 198) C0.1 C0.2.1 d_MO_read_198 (lv_at hl 1 rfl) ?_
                  refine lv_bipush (pc := 200) (v := nI (32)) C0.1 C0.2.1 d_MO_read_200 (by decide +kernel) ?_
                  refine mb_eq (pc := 202) (tgt := 210) C0 (by omega) (by omega) d_MO_read_202 (by decide) (fun hc => ?_) (fun hc => ?_)
                  · have hst : ps_st n (tx ai) (1, la, se, pp) = some (1, la, se, pp) := by rw [hc]; rfl
                    refine lv_iinc (pc := 210) (k := 8) (v := nI (ai + 1)) (lv' := [(6, .int (nI (ai + 1))), (8, .int ((nI (tx ai)) - (nI (48)))), (7, .int (nI (tx ai))), (0, .ref (ad 52)), (1, .int (nI (len))), (2, .int (nI (P))), (3, .int (nI (se))), (4, .int ((-1))), (5, .int (lx))]) C0.1 C0.2.1 d_MO_read_210 hl rfl (nb_p1 _) (by decide) rfl (fun ls hl => ?_)
                    refine lv_goto (pc := 213) (tgt := 29) C0.1 C0.2.1 d_MO_read_213 (by decide) ?_
                    exact ih_loop _ (by omega) (ai + 1) 1 la se pp P (-1) lx _ _ _ _ rfl (by omega) (ps_ok1 hps hst) hse hPl hdig (Or.inr (Or.inl ⟨rfl, rfl⟩)) (by rw [hfu1, ← ps_go_some hst]; exact hgo) hfm fx fi fe fs fy fg fnn fc (lv_sub hl [3, 4, 5, 6, 7, 8, 0] rfl) hP hD hS
                  · have hc32 : ¬ tx ai = 32 := hc
                    have hst : ps_st n (tx ai) (1, la, se, pp) = none := ps_n2 hc32 (by omega) hc41 (fun h9 => h48 h9.1)
                    have hrd := ps_rd1 (hgo.symm.trans (ps_go_none hst))
                    have hM1 : MOW ca ad n (0, tx, pc, rk, gc, gs) ws := ⟨fx, ⟨im, fi, him⟩, ⟨_, fe, hpe⟩, ⟨_, _, _, fs, fy, fg, hgs⟩, ⟨_, fnn⟩, ⟨ch, fc, fun i hi => absurd hi (by omega)⟩, by omega, fun i hi => absurd hi (by omega), hp, hrk, hg⟩
                    have E : sp_read n (len, tx, pc, rk, gc, gs) = ((-1) - nI ai, (0, tx, pc, rk, gc, gs)) := by simp only [sp_read, hrd]
                    refine lv_iconst (pc := 205) (v := (-1)) C0.1 C0.2.1 d_MO_read_205 (by decide +kernel) ?_
                    refine lv_iload (pc := 206) C0.1 C0.2.1 d_MO_read_206 (lv_at hl 8 rfl) ?_
                    refine lv_isub (pc := 208) C0.1 C0.2.1 d_MO_read_208 ?_
                    exact hret _ _ _ _ 209 _ (rfl) (⟨by rw [E], by rw [E]; exact hM1, hfm⟩) hP hD hS d_MO_read_209
              · refine lv_iload (pc := 78) C0.1 C0.2.1 d_MO_read_78 (lv_at hl 6 rfl) ?_
                refine lv_if_lt (pc := 80) (tgt := 110) C0.1 C0.2.1 d_MO_read_80 (by decide) (fun hc => ?_) (fun hc => ?_)
                · refine lv_iload (pc := 110) C0.1 C0.2.1 d_MO_read_110 (lv_at hl 6 rfl) ?_
                  refine lv_bipush (pc := 112) (v := (-2)) C0.1 C0.2.1 d_MO_read_112 (by decide +kernel) ?_
                  refine lv_icmp_le (pc := 114) (tgt := 198) C0.1 C0.2.1 d_MO_read_114 (by decide) (fun hc => ?_) (fun hc => ?_)
                  · first
                    | exact absurd hc (by decide)
                    | exact absurd (by decide) hc
                  · refine lv_iload (pc := 117) C0.1 C0.2.1 d_MO_read_117 (lv_at hl 0 rfl) ?_
                    refine lv_iconst (pc := 119) (v := nI (0)) C0.1 C0.2.1 d_MO_read_119 (by decide +kernel) ?_
                    refine lv_aload_n (pc := 120) C0.1 C0.2.1 d_MO_read_120 rfl (lv_at hl 2 rfl) ?_
                    refine mg_get (pc := 121) C0 in_MO hK hP (52) fx rfl 0 (by decide) fl_MO_36 rfl d_MO_read_121 ?_
                    refine lv_iconst (pc := 124) (v := nI (1)) C0.1 C0.2.1 d_MO_read_124 (by decide +kernel) ?_
                    refine lv_isub (pc := 125) C0.1 C0.2.1 d_MO_read_125 ?_
                    refine mg_si (pc := 126) (As := [.int ((nI (tx ai)) - (nI (48))), .int (nI (0)), .int ((nI (n)) - (nI (1)))]) (rest := []) C0 (c_MO_in l D ca ad ws) lk_MO_85 (by decide) hK hP hD hS hA rfl hl.1 rfl (Nat.le_of_ble_eq_true rfl) d_MO_read_126 (fun rv ws1 H locs hpost hP hD hS => ?_)
                    obtain ⟨hr1, hw⟩ := hpost
                    rw [hw] at hP hD
                    refine mg_top (show rv = nI (0) from hr1.elim (fun h9 => h9.2) (fun h9 => (h9.1.1 (nb_sneg (by omega) (by omega))).elim)) ?_
                    refine mz_eq (pc := 129) (tgt := 198) C0 (by decide) d_MO_read_129 (by decide) (fun _ => ?_) (fun h9 => absurd rfl h9)
                    refine lv_iload (pc := 198) C0.1 C0.2.1 d_MO_read_198 (lv_at hl 1 rfl) ?_
                    refine lv_bipush (pc := 200) (v := nI (32)) C0.1 C0.2.1 d_MO_read_200 (by decide +kernel) ?_
                    refine mb_eq (pc := 202) (tgt := 210) C0 (by omega) (by omega) d_MO_read_202 (by decide) (fun hc => ?_) (fun hc => ?_)
                    · have hst : ps_st n (tx ai) (1, la, se, pp) = some (1, la, se, pp) := by rw [hc]; rfl
                      refine lv_iinc (pc := 210) (k := 8) (v := nI (ai + 1)) (lv' := [(6, .int (nI (ai + 1))), (8, .int ((nI (tx ai)) - (nI (48)))), (7, .int (nI (tx ai))), (0, .ref (ad 52)), (1, .int (nI (len))), (2, .int (nI (P))), (3, .int (nI (se))), (4, .int ((-1))), (5, .int (lx))]) C0.1 C0.2.1 d_MO_read_210 hl rfl (nb_p1 _) (by decide) rfl (fun ls hl => ?_)
                      refine lv_goto (pc := 213) (tgt := 29) C0.1 C0.2.1 d_MO_read_213 (by decide) ?_
                      exact ih_loop _ (by omega) (ai + 1) 1 la se pp P (-1) lx _ _ _ _ rfl (by omega) (ps_ok1 hps hst) hse hPl hdig (Or.inr (Or.inl ⟨rfl, rfl⟩)) (by rw [hfu1, ← ps_go_some hst]; exact hgo) hfm fx fi fe fs fy fg fnn fc (lv_sub hl [3, 4, 5, 6, 7, 8, 0] rfl) hP hD hS
                    · have hc32 : ¬ tx ai = 32 := hc
                      have hst : ps_st n (tx ai) (1, la, se, pp) = none := ps_n1 hc41
                      have hrd := ps_rd1 (hgo.symm.trans (ps_go_none hst))
                      have hM1 : MOW ca ad n (0, tx, pc, rk, gc, gs) ws := ⟨fx, ⟨im, fi, him⟩, ⟨_, fe, hpe⟩, ⟨_, _, _, fs, fy, fg, hgs⟩, ⟨_, fnn⟩, ⟨ch, fc, fun i hi => absurd hi (by omega)⟩, by omega, fun i hi => absurd hi (by omega), hp, hrk, hg⟩
                      have E : sp_read n (len, tx, pc, rk, gc, gs) = ((-1) - nI ai, (0, tx, pc, rk, gc, gs)) := by simp only [sp_read, hrd]
                      refine lv_iconst (pc := 205) (v := (-1)) C0.1 C0.2.1 d_MO_read_205 (by decide +kernel) ?_
                      refine lv_iload (pc := 206) C0.1 C0.2.1 d_MO_read_206 (lv_at hl 8 rfl) ?_
                      refine lv_isub (pc := 208) C0.1 C0.2.1 d_MO_read_208 ?_
                      exact hret _ _ _ _ 209 _ (rfl) (⟨by rw [E], by rw [E]; exact hM1, hfm⟩) hP hD hS d_MO_read_209
                · first
                  | exact absurd hc (by decide)
                  | exact absurd (by decide) hc
            · refine lv_iload (pc := 58) C0.1 C0.2.1 d_MO_read_58 (lv_at hl 6 rfl) ?_
              refine lv_bipush (pc := 60) (v := (-2)) C0.1 C0.2.1 d_MO_read_60 (by decide +kernel) ?_
              refine lv_icmp_ne (pc := 62) (tgt := 71) C0.1 C0.2.1 d_MO_read_62 (by decide) (fun hc => ?_) (fun hc => ?_)
              · refine lv_iload (pc := 71) C0.1 C0.2.1 d_MO_read_71 (lv_at hl 1 rfl) ?_
                refine lv_bipush (pc := 73) (v := nI (41)) C0.1 C0.2.1 d_MO_read_73 (by decide +kernel) ?_
                refine mb_ne (pc := 75) (tgt := 110) C0 (by omega) (by omega) d_MO_read_75 (by decide) (fun hc41 => ?_) (fun hc41 => ?_)
                · refine lv_iload (pc := 110) C0.1 C0.2.1 d_MO_read_110 (lv_at hl 6 rfl) ?_
                  refine lv_bipush (pc := 112) (v := (-2)) C0.1 C0.2.1 d_MO_read_112 (by decide +kernel) ?_
                  refine lv_icmp_le (pc := 114) (tgt := 198) C0.1 C0.2.1 d_MO_read_114 (by decide) (fun hc => ?_) (fun hc => ?_)
                  · first
                    | exact absurd hc (by decide)
                    | exact absurd (by decide) hc
                  · refine lv_iload (pc := 117) C0.1 C0.2.1 d_MO_read_117 (lv_at hl 0 rfl) ?_
                    refine lv_iconst (pc := 119) (v := nI (0)) C0.1 C0.2.1 d_MO_read_119 (by decide +kernel) ?_
                    refine lv_aload_n (pc := 120) C0.1 C0.2.1 d_MO_read_120 rfl (lv_at hl 2 rfl) ?_
                    refine mg_get (pc := 121) C0 in_MO hK hP (52) fx rfl 0 (by decide) fl_MO_36 rfl d_MO_read_121 ?_
                    refine lv_iconst (pc := 124) (v := nI (1)) C0.1 C0.2.1 d_MO_read_124 (by decide +kernel) ?_
                    refine lv_isub (pc := 125) C0.1 C0.2.1 d_MO_read_125 ?_
                    refine mg_si (pc := 126) (As := [.int ((nI (tx ai)) - (nI (48))), .int (nI (0)), .int ((nI (n)) - (nI (1)))]) (rest := []) C0 (c_MO_in l D ca ad ws) lk_MO_85 (by decide) hK hP hD hS hA rfl hl.1 rfl (Nat.le_of_ble_eq_true rfl) d_MO_read_126 (fun rv ws1 H locs hpost hP hD hS => ?_)
                    obtain ⟨hr1, hw⟩ := hpost
                    rw [hw] at hP hD
                    refine mg_top (show rv = nI (0) from hr1.elim (fun h9 => h9.2) (fun h9 => (h9.1.1 (nb_sneg (by omega) (by omega))).elim)) ?_
                    refine mz_eq (pc := 129) (tgt := 198) C0 (by decide) d_MO_read_129 (by decide) (fun _ => ?_) (fun h9 => absurd rfl h9)
                    refine lv_iload (pc := 198) C0.1 C0.2.1 d_MO_read_198 (lv_at hl 1 rfl) ?_
                    refine lv_bipush (pc := 200) (v := nI (32)) C0.1 C0.2.1 d_MO_read_200 (by decide +kernel) ?_
                    refine mb_eq (pc := 202) (tgt := 210) C0 (by omega) (by omega) d_MO_read_202 (by decide) (fun hc => ?_) (fun hc => ?_)
                    · have hst : ps_st n (tx ai) (1, la, se, pp) = some (1, la, se, pp) := by rw [hc]; rfl
                      refine lv_iinc (pc := 210) (k := 8) (v := nI (ai + 1)) (lv' := [(6, .int (nI (ai + 1))), (8, .int ((nI (tx ai)) - (nI (48)))), (7, .int (nI (tx ai))), (0, .ref (ad 52)), (1, .int (nI (len))), (2, .int (nI (P))), (3, .int (nI (se))), (4, .int ((-1))), (5, .int (lx))]) C0.1 C0.2.1 d_MO_read_210 hl rfl (nb_p1 _) (by decide) rfl (fun ls hl => ?_)
                      refine lv_goto (pc := 213) (tgt := 29) C0.1 C0.2.1 d_MO_read_213 (by decide) ?_
                      exact ih_loop _ (by omega) (ai + 1) 1 la se pp P (-1) lx _ _ _ _ rfl (by omega) (ps_ok1 hps hst) hse hPl hdig (Or.inr (Or.inl ⟨rfl, rfl⟩)) (by rw [hfu1, ← ps_go_some hst]; exact hgo) hfm fx fi fe fs fy fg fnn fc (lv_sub hl [3, 4, 5, 6, 7, 8, 0] rfl) hP hD hS
                    · have hc32 : ¬ tx ai = 32 := hc
                      have hst : ps_st n (tx ai) (1, la, se, pp) = none := ps_n2 hc32 (by omega) hc41 (fun h9 => h48 h9.1)
                      have hrd := ps_rd1 (hgo.symm.trans (ps_go_none hst))
                      have hM1 : MOW ca ad n (0, tx, pc, rk, gc, gs) ws := ⟨fx, ⟨im, fi, him⟩, ⟨_, fe, hpe⟩, ⟨_, _, _, fs, fy, fg, hgs⟩, ⟨_, fnn⟩, ⟨ch, fc, fun i hi => absurd hi (by omega)⟩, by omega, fun i hi => absurd hi (by omega), hp, hrk, hg⟩
                      have E : sp_read n (len, tx, pc, rk, gc, gs) = ((-1) - nI ai, (0, tx, pc, rk, gc, gs)) := by simp only [sp_read, hrd]
                      refine lv_iconst (pc := 205) (v := (-1)) C0.1 C0.2.1 d_MO_read_205 (by decide +kernel) ?_
                      refine lv_iload (pc := 206) C0.1 C0.2.1 d_MO_read_206 (lv_at hl 8 rfl) ?_
                      refine lv_isub (pc := 208) C0.1 C0.2.1 d_MO_read_208 ?_
                      exact hret _ _ _ _ 209 _ (rfl) (⟨by rw [E], by rw [E]; exact hM1, hfm⟩) hP hD hS d_MO_read_209
                · exact absurd hc41 (by omega)
              · first
                | exact absurd hc (by decide)
                | exact absurd (by decide) hc
        · have h3 := hps.2.2 ht1
          dsimp only at h3
          obtain ⟨hk1, hk2, -⟩ := h3
          by_cases h48 : 48 ≤ tx ai
          · refine mn_sub (pc := 48) C0 (by omega) d_MO_read_48 ?_
            refine lv_istore (pc := 49) (lv' := [(8, .int (nI ((tx ai) - 48))), (7, .int (nI (tx ai))), (0, .ref (ad 52)), (1, .int (nI (len))), (2, .int (nI (P))), (3, .int (nI (se))), (4, .int (nI (t1 - 2))), (5, .int (nI (la))), (6, .int (nI (ai)))]) C0.1 C0.2.1 d_MO_read_49 hl (by decide) rfl (fun ls hl => ?_)
            refine lv_iload (pc := 51) C0.1 C0.2.1 d_MO_read_51 (lv_at hl 1 rfl) ?_
            refine lv_bipush (pc := 53) (v := nI (40)) C0.1 C0.2.1 d_MO_read_53 (by decide +kernel) ?_
            refine mb_ne (pc := 55) (tgt := 71) C0 (by omega) (by omega) d_MO_read_55 (by decide) (fun hc40 => ?_) (fun hc40 => ?_)
            · refine lv_iload (pc := 71) C0.1 C0.2.1 d_MO_read_71 (lv_at hl 1 rfl) ?_
              refine lv_bipush (pc := 73) (v := nI (41)) C0.1 C0.2.1 d_MO_read_73 (by decide +kernel) ?_
              refine mb_ne (pc := 75) (tgt := 110) C0 (by omega) (by omega) d_MO_read_75 (by decide) (fun hc41 => ?_) (fun hc41 => ?_)
              · refine lv_iload (pc := 110) C0.1 C0.2.1 d_MO_read_110 (lv_at hl 6 rfl) ?_
                refine lv_bipush (pc := 112) (v := (-2)) C0.1 C0.2.1 d_MO_read_112 (by decide +kernel) ?_
                refine lv_icmp_le (pc := 114) (tgt := 198) C0.1 C0.2.1 d_MO_read_114 (by decide) (fun hc => ?_) (fun hc => ?_)
                · first
                  | exact absurd hc (nb_le2 (by omega))
                  | exact absurd (nb_le2 (by omega)) hc
                · refine lv_iload (pc := 117) C0.1 C0.2.1 d_MO_read_117 (lv_at hl 0 rfl) ?_
                  refine lv_iconst (pc := 119) (v := nI (0)) C0.1 C0.2.1 d_MO_read_119 (by decide +kernel) ?_
                  refine lv_aload_n (pc := 120) C0.1 C0.2.1 d_MO_read_120 rfl (lv_at hl 2 rfl) ?_
                  refine mg_get (pc := 121) C0 in_MO hK hP (52) fx rfl 0 (by decide) fl_MO_36 rfl d_MO_read_121 ?_
                  refine lv_iconst (pc := 124) (v := nI (1)) C0.1 C0.2.1 d_MO_read_124 (by decide +kernel) ?_
                  refine lv_isub (pc := 125) C0.1 C0.2.1 d_MO_read_125 ?_
                  refine mg_si (pc := 126) (As := [.int (nI ((tx ai) - 48)), .int (nI (0)), .int ((nI (n)) - (nI (1)))]) (rest := []) C0 (c_MO_in l D ca ad ws) lk_MO_85 (by decide) hK hP hD hS hA rfl hl.1 rfl (Nat.le_of_ble_eq_true rfl) d_MO_read_126 (fun rv ws1 H locs hpost hP hD hS => ?_)
                  obtain ⟨hr1, hw⟩ := hpost
                  rw [hw] at hP hD
                  by_cases hxn : tx ai - 48 < n
                  · refine mg_top (show rv = nI (1) from hr1.elim (fun h9 => (h9.1.elim (fun h8 => nI_pos (by omega) h8) (fun h8 => mo_hi0 (by omega) hxn h8)).elim) (fun h9 => h9.2)) ?_
                    refine mz_eq (pc := 129) (tgt := 198) C0 (by decide) d_MO_read_129 (by decide) (fun h9 => absurd h9 (by decide)) (fun _ => ?_)
                    refine lv_iload_n (pc := 132) C0.1 C0.2.1 d_MO_read_132 rfl (lv_at hl 5 rfl) ?_
                    refine lv_iload (pc := 133) C0.1 C0.2.1 d_MO_read_133 (lv_at hl 0 rfl) ?_
                    refine mn_shr (pc := 135) C0 (by omega) (by omega) d_MO_read_135 ?_
                    refine lv_iconst (pc := 136) (v := nI (1)) C0.1 C0.2.1 d_MO_read_136 (by decide +kernel) ?_
                    refine mn_bit (pc := 137) C0 d_MO_read_137 ?_
                    refine mz_ne (pc := 138) (tgt := 198) C0 (by omega) d_MO_read_138 (by decide) (fun hc => ?_) (fun hc => ?_)
                    · have hbit : se.testBit (tx ai - 48) = true := nb_t1 hc
                      refine lv_iload (pc := 198) C0.1 C0.2.1 d_MO_read_198 (lv_at hl 1 rfl) ?_
                      refine lv_bipush (pc := 200) (v := nI (32)) C0.1 C0.2.1 d_MO_read_200 (by decide +kernel) ?_
                      refine mb_eq (pc := 202) (tgt := 210) C0 (by omega) (by omega) d_MO_read_202 (by decide) (fun hc => ?_) (fun hc => ?_)
                      · have hst : ps_st n (tx ai) (t1, la, se, pp) = some (t1, la, se, pp) := by rw [hc]; rfl
                        refine lv_iinc (pc := 210) (k := 8) (v := nI (ai + 1)) (lv' := [(6, .int (nI (ai + 1))), (8, .int (nI ((tx ai) - 48))), (7, .int (nI (tx ai))), (0, .ref (ad 52)), (1, .int (nI (len))), (2, .int (nI (P))), (3, .int (nI (se))), (4, .int (nI (t1 - 2))), (5, .int (nI (la)))]) C0.1 C0.2.1 d_MO_read_210 hl rfl (nb_p1 _) (by decide) rfl (fun ls hl => ?_)
                        refine lv_goto (pc := 213) (tgt := 29) C0.1 C0.2.1 d_MO_read_213 (by decide) ?_
                        exact ih_loop _ (by omega) (ai + 1) t1 la se pp P (nI (t1 - 2)) (nI (la)) _ _ _ _ rfl (by omega) (ps_ok1 hps hst) hse hPl hdig (Or.inr (Or.inr ⟨ht1, rfl, rfl⟩)) (by rw [hfu1, ← ps_go_some hst]; exact hgo) hfm fx fi fe fs fy fg fnn fc (lv_sub hl [3, 4, 5, 6, 7, 8, 0] rfl) hP hD hS
                      · have hc32 : ¬ tx ai = 32 := hc
                        have hst : ps_st n (tx ai) (t1, la, se, pp) = none := ps_n2 hc32 (by omega) hc41 (fun h9 => by rw [hbit] at h9; exact absurd h9.2.2 (by decide))
                        have hrd := ps_rd1 (hgo.symm.trans (ps_go_none hst))
                        have hM1 : MOW ca ad n (0, tx, pc, rk, gc, gs) ws := ⟨fx, ⟨im, fi, him⟩, ⟨_, fe, hpe⟩, ⟨_, _, _, fs, fy, fg, hgs⟩, ⟨_, fnn⟩, ⟨ch, fc, fun i hi => absurd hi (by omega)⟩, by omega, fun i hi => absurd hi (by omega), hp, hrk, hg⟩
                        have E : sp_read n (len, tx, pc, rk, gc, gs) = ((-1) - nI ai, (0, tx, pc, rk, gc, gs)) := by simp only [sp_read, hrd]
                        refine lv_iconst (pc := 205) (v := (-1)) C0.1 C0.2.1 d_MO_read_205 (by decide +kernel) ?_
                        refine lv_iload (pc := 206) C0.1 C0.2.1 d_MO_read_206 (lv_at hl 8 rfl) ?_
                        refine lv_isub (pc := 208) C0.1 C0.2.1 d_MO_read_208 ?_
                        exact hret _ _ _ _ 209 _ (rfl) (⟨by rw [E], by rw [E]; exact hM1, hfm⟩) hP hD hS d_MO_read_209
                    · have hbit : se.testBit (tx ai - 48) = false := nb_t0 hc
                      have hse1 : se ||| 2 ^ (tx ai - 48) < 64 := Nat.or_lt_two_pow (n := 6) hse (Nat.pow_lt_pow_right (by decide) (by omega))
                      refine lv_iload_n (pc := 141) C0.1 C0.2.1 d_MO_read_141 rfl (lv_at hl 5 rfl) ?_
                      refine lv_iconst (pc := 142) (v := nI (1)) C0.1 C0.2.1 d_MO_read_142 (by decide +kernel) ?_
                      refine lv_iload (pc := 143) C0.1 C0.2.1 d_MO_read_143 (lv_at hl 0 rfl) ?_
                      refine mn_shl1 (pc := 145) C0 (by omega) d_MO_read_145 ?_
                      refine mn_or (pc := 146) C0 d_MO_read_146 ?_
                      refine lv_istore_n (pc := 147) (lv' := [(3, .int (nI (se ||| (2 ^ ((tx ai) - 48))))), (8, .int (nI ((tx ai) - 48))), (7, .int (nI (tx ai))), (0, .ref (ad 52)), (1, .int (nI (len))), (2, .int (nI (P))), (4, .int (nI (t1 - 2))), (5, .int (nI (la))), (6, .int (nI (ai)))]) C0.1 C0.2.1 d_MO_read_147 rfl hl (by decide) rfl (fun ls hl => ?_)
                      refine lv_iload (pc := 148) C0.1 C0.2.1 d_MO_read_148 (lv_at hl 6 rfl) ?_
                      refine mz_ge (pc := 150) (tgt := 157) C0 (by omega) d_MO_read_150 (by decide) ?_
                      refine lv_iload_n (pc := 157) C0.1 C0.2.1 d_MO_read_157 rfl (lv_at hl 5 rfl) ?_
                      refine lv_bipush (pc := 158) (v := nI (7)) C0.1 C0.2.1 d_MO_read_158 (by decide +kernel) ?_
                      refine lv_iconst (pc := 160) (v := nI (3)) C0.1 C0.2.1 d_MO_read_160 (by decide +kernel) ?_
                      refine lv_iload (pc := 161) C0.1 C0.2.1 d_MO_read_161 (lv_at hl 7 rfl) ?_
                      refine mn_mul (pc := 163) C0 d_MO_read_163 ?_
                      refine mn_shl (pc := 164) C0 (by omega) (mo_sh (by decide) (by omega)) d_MO_read_164 ?_
                      refine lv_iconst (pc := 165) (v := (-1)) C0.1 C0.2.1 d_MO_read_165 (by decide +kernel) ?_
                      refine lv_ixor (pc := 166) C0.1 C0.2.1 d_MO_read_166 ?_
                      refine lv_iand (pc := 167) C0.1 C0.2.1 d_MO_read_167 ?_
                      refine lv_iload (pc := 168) C0.1 C0.2.1 d_MO_read_168 (lv_at hl 1 rfl) ?_
                      refine lv_iconst (pc := 170) (v := nI (3)) C0.1 C0.2.1 d_MO_read_170 (by decide +kernel) ?_
                      refine lv_iload (pc := 171) C0.1 C0.2.1 d_MO_read_171 (lv_at hl 7 rfl) ?_
                      refine mn_mul (pc := 173) C0 d_MO_read_173 ?_
                      refine mn_shl (pc := 174) C0 (by omega) (mo_sh (by omega) (by omega)) d_MO_read_174 ?_
                      refine lv_ior (pc := 175) C0.1 C0.2.1 d_MO_read_175 ?_
                      refine mg_top (show ((nI (P)) &&& ((nI (7 * 2 ^ (3 * la))) ^^^ (-1))) ||| (nI (((tx ai) - 48) * 2 ^ (3 * la))) = nI ((P &&& (7 * 2 ^ (3 * la) ^^^ 4294967295)) ||| (tx ai - 48) * 2 ^ (3 * la)) from nb_pk _ _ _) ?_
                      refine lv_istore_n (pc := 176) (lv' := [(2, .int (nI ((P &&& (7 * 2 ^ (3 * la) ^^^ 4294967295)) ||| (tx ai - 48) * 2 ^ (3 * la)))), (3, .int (nI (se ||| (2 ^ ((tx ai) - 48))))), (8, .int (nI ((tx ai) - 48))), (7, .int (nI (tx ai))), (0, .ref (ad 52)), (1, .int (nI (len))), (4, .int (nI (t1 - 2))), (5, .int (nI (la))), (6, .int (nI (ai)))]) C0.1 C0.2.1 d_MO_read_176 rfl hl (by decide) rfl (fun ls hl => ?_)
                      refine lv_iload (pc := 177) C0.1 C0.2.1 d_MO_read_177 (lv_at hl 6 rfl) ?_
                      refine mz_ge (pc := 179) (tgt := 187) C0 (by omega) d_MO_read_179 (by decide) ?_
                      refine lv_iload (pc := 187) C0.1 C0.2.1 d_MO_read_187 (lv_at hl 6 rfl) ?_
                      refine lv_istore (pc := 189) (lv' := [(4, .int (nI (t1 - 2))), (2, .int (nI ((P &&& (7 * 2 ^ (3 * la) ^^^ 4294967295)) ||| (tx ai - 48) * 2 ^ (3 * la)))), (3, .int (nI (se ||| (2 ^ ((tx ai) - 48))))), (8, .int (nI ((tx ai) - 48))), (7, .int (nI (tx ai))), (0, .ref (ad 52)), (1, .int (nI (len))), (5, .int (nI (la))), (6, .int (nI (ai)))]) C0.1 C0.2.1 d_MO_read_189 hl (by decide) rfl (fun ls hl => ?_)
                      refine lv_iload (pc := 191) C0.1 C0.2.1 d_MO_read_191 (lv_at hl 3 rfl) ?_
                      refine lv_istore (pc := 193) (lv' := [(5, .int (nI ((tx ai) - 48))), (4, .int (nI (t1 - 2))), (2, .int (nI ((P &&& (7 * 2 ^ (3 * la) ^^^ 4294967295)) ||| (tx ai - 48) * 2 ^ (3 * la)))), (3, .int (nI (se ||| (2 ^ ((tx ai) - 48))))), (8, .int (nI ((tx ai) - 48))), (7, .int (nI (tx ai))), (0, .ref (ad 52)), (1, .int (nI (len))), (6, .int (nI (ai)))]) C0.1 C0.2.1 d_MO_read_193 hl (by decide) rfl (fun ls hl => ?_)
                      refine lv_goto (pc := 195) (tgt := 210) C0.1 C0.2.1 d_MO_read_195 (by decide) ?_
                      have hst : ps_st n (tx ai) (t1, la, se, pp) = some (t1, tx ai - 48, se ||| 2 ^ (tx ai - 48), ps_up pp la (tx ai - 48)) := ps_s3 ht1 (by omega) (by omega) hbit
                      refine lv_iinc (pc := 210) (k := 8) (v := nI (ai + 1)) (lv' := [(6, .int (nI (ai + 1))), (5, .int (nI ((tx ai) - 48))), (4, .int (nI (t1 - 2))), (2, .int (nI ((P &&& (7 * 2 ^ (3 * la) ^^^ 4294967295)) ||| (tx ai - 48) * 2 ^ (3 * la)))), (3, .int (nI (se ||| (2 ^ ((tx ai) - 48))))), (8, .int (nI ((tx ai) - 48))), (7, .int (nI (tx ai))), (0, .ref (ad 52)), (1, .int (nI (len)))]) C0.1 C0.2.1 d_MO_read_210 hl rfl (nb_p1 _) (by decide) rfl (fun ls hl => ?_)
                      refine lv_goto (pc := 213) (tgt := 29) C0.1 C0.2.1 d_MO_read_213 (by decide) ?_
                      exact ih_loop _ (by omega) (ai + 1) t1 (tx ai - 48) (se ||| 2 ^ (tx ai - 48)) (ps_up pp la (tx ai - 48)) ((P &&& (7 * 2 ^ (3 * la) ^^^ 4294967295)) ||| (tx ai - 48) * 2 ^ (3 * la)) (nI (t1 - 2)) (nI ((tx ai) - 48)) _ _ _ _ rfl (by omega) (ps_ok1 hps hst) hse1 (mo_pl hPl (show la < 6 by omega) (by omega)) (mo_pd h6 hdig (by omega)) (Or.inr (Or.inr ⟨ht1, rfl, rfl⟩)) (by rw [hfu1, ← ps_go_some hst]; exact hgo) hfm fx fi fe fs fy fg fnn fc (lv_sub hl [7, 8, 3, 4, 2, 1, 0] rfl) hP hD hS
                  · refine mg_top (show rv = nI (0) from hr1.elim (fun h9 => h9.2) (fun h9 => (h9.1.2 (mo_hi1 (by omega) (nI_le (by omega) (by omega)))).elim)) ?_
                    refine mz_eq (pc := 129) (tgt := 198) C0 (by decide) d_MO_read_129 (by decide) (fun _ => ?_) (fun h9 => absurd rfl h9)
                    refine lv_iload (pc := 198) C0.1 C0.2.1 d_MO_read_198 (lv_at hl 1 rfl) ?_
                    refine lv_bipush (pc := 200) (v := nI (32)) C0.1 C0.2.1 d_MO_read_200 (by decide +kernel) ?_
                    refine mb_eq (pc := 202) (tgt := 210) C0 (by omega) (by omega) d_MO_read_202 (by decide) (fun hc => ?_) (fun hc => ?_)
                    · have hst : ps_st n (tx ai) (t1, la, se, pp) = some (t1, la, se, pp) := by rw [hc]; rfl
                      refine lv_iinc (pc := 210) (k := 8) (v := nI (ai + 1)) (lv' := [(6, .int (nI (ai + 1))), (8, .int (nI ((tx ai) - 48))), (7, .int (nI (tx ai))), (0, .ref (ad 52)), (1, .int (nI (len))), (2, .int (nI (P))), (3, .int (nI (se))), (4, .int (nI (t1 - 2))), (5, .int (nI (la)))]) C0.1 C0.2.1 d_MO_read_210 hl rfl (nb_p1 _) (by decide) rfl (fun ls hl => ?_)
                      refine lv_goto (pc := 213) (tgt := 29) C0.1 C0.2.1 d_MO_read_213 (by decide) ?_
                      exact ih_loop _ (by omega) (ai + 1) t1 la se pp P (nI (t1 - 2)) (nI (la)) _ _ _ _ rfl (by omega) (ps_ok1 hps hst) hse hPl hdig (Or.inr (Or.inr ⟨ht1, rfl, rfl⟩)) (by rw [hfu1, ← ps_go_some hst]; exact hgo) hfm fx fi fe fs fy fg fnn fc (lv_sub hl [3, 4, 5, 6, 7, 8, 0] rfl) hP hD hS
                    · have hc32 : ¬ tx ai = 32 := hc
                      have hst : ps_st n (tx ai) (t1, la, se, pp) = none := ps_n2 hc32 (by omega) hc41 (fun h9 => hxn (by omega))
                      have hrd := ps_rd1 (hgo.symm.trans (ps_go_none hst))
                      have hM1 : MOW ca ad n (0, tx, pc, rk, gc, gs) ws := ⟨fx, ⟨im, fi, him⟩, ⟨_, fe, hpe⟩, ⟨_, _, _, fs, fy, fg, hgs⟩, ⟨_, fnn⟩, ⟨ch, fc, fun i hi => absurd hi (by omega)⟩, by omega, fun i hi => absurd hi (by omega), hp, hrk, hg⟩
                      have E : sp_read n (len, tx, pc, rk, gc, gs) = ((-1) - nI ai, (0, tx, pc, rk, gc, gs)) := by simp only [sp_read, hrd]
                      refine lv_iconst (pc := 205) (v := (-1)) C0.1 C0.2.1 d_MO_read_205 (by decide +kernel) ?_
                      refine lv_iload (pc := 206) C0.1 C0.2.1 d_MO_read_206 (lv_at hl 8 rfl) ?_
                      refine lv_isub (pc := 208) C0.1 C0.2.1 d_MO_read_208 ?_
                      exact hret _ _ _ _ 209 _ (rfl) (⟨by rw [E], by rw [E]; exact hM1, hfm⟩) hP hD hS d_MO_read_209
              · refine lv_iload (pc := 78) C0.1 C0.2.1 d_MO_read_78 (lv_at hl 6 rfl) ?_
                refine mz_lt (pc := 80) (tgt := 110) C0 (by omega) d_MO_read_80 (by decide) ?_
                refine lv_iload_n (pc := 83) C0.1 C0.2.1 d_MO_read_83 rfl (lv_at hl 4 rfl) ?_
                refine lv_bipush (pc := 84) (v := nI (7)) C0.1 C0.2.1 d_MO_read_84 (by decide +kernel) ?_
                refine lv_iconst (pc := 86) (v := nI (3)) C0.1 C0.2.1 d_MO_read_86 (by decide +kernel) ?_
                refine lv_iload (pc := 87) C0.1 C0.2.1 d_MO_read_87 (lv_at hl 7 rfl) ?_
                refine mn_mul (pc := 89) C0 d_MO_read_89 ?_
                refine mn_shl (pc := 90) C0 (by omega) (mo_sh (by decide) (by omega)) d_MO_read_90 ?_
                refine lv_iconst (pc := 91) (v := (-1)) C0.1 C0.2.1 d_MO_read_91 (by decide +kernel) ?_
                refine lv_ixor (pc := 92) C0.1 C0.2.1 d_MO_read_92 ?_
                refine lv_iand (pc := 93) C0.1 C0.2.1 d_MO_read_93 ?_
                refine lv_iload (pc := 94) C0.1 C0.2.1 d_MO_read_94 (lv_at hl 6 rfl) ?_
                refine lv_iconst (pc := 96) (v := nI (3)) C0.1 C0.2.1 d_MO_read_96 (by decide +kernel) ?_
                refine lv_iload (pc := 97) C0.1 C0.2.1 d_MO_read_97 (lv_at hl 7 rfl) ?_
                refine mn_mul (pc := 99) C0 d_MO_read_99 ?_
                refine mn_shl (pc := 100) C0 (by omega) (mo_sh (by omega) (by omega)) d_MO_read_100 ?_
                refine lv_ior (pc := 101) C0.1 C0.2.1 d_MO_read_101 ?_
                refine mg_top (show ((nI (P)) &&& ((nI (7 * 2 ^ (3 * la))) ^^^ (-1))) ||| (nI ((t1 - 2) * 2 ^ (3 * la))) = nI ((P &&& (7 * 2 ^ (3 * la) ^^^ 4294967295)) ||| (t1 - 2) * 2 ^ (3 * la)) from nb_pk _ _ _) ?_
                refine lv_istore_n (pc := 102) (lv' := [(2, .int (nI ((P &&& (7 * 2 ^ (3 * la) ^^^ 4294967295)) ||| (t1 - 2) * 2 ^ (3 * la)))), (8, .int (nI ((tx ai) - 48))), (7, .int (nI (tx ai))), (0, .ref (ad 52)), (1, .int (nI (len))), (3, .int (nI (se))), (4, .int (nI (t1 - 2))), (5, .int (nI (la))), (6, .int (nI (ai)))]) C0.1 C0.2.1 d_MO_read_102 rfl hl (by decide) rfl (fun ls hl => ?_)
                refine lv_bipush (pc := 103) (v := (-2)) C0.1 C0.2.1 d_MO_read_103 (by decide +kernel) ?_
                refine lv_istore (pc := 105) (lv' := [(4, .int ((-2))), (2, .int (nI ((P &&& (7 * 2 ^ (3 * la) ^^^ 4294967295)) ||| (t1 - 2) * 2 ^ (3 * la)))), (8, .int (nI ((tx ai) - 48))), (7, .int (nI (tx ai))), (0, .ref (ad 52)), (1, .int (nI (len))), (3, .int (nI (se))), (5, .int (nI (la))), (6, .int (nI (ai)))]) C0.1 C0.2.1 d_MO_read_105 hl (by decide) rfl (fun ls hl => ?_)
                refine lv_goto (pc := 107) (tgt := 210) C0.1 C0.2.1 d_MO_read_107 (by decide) ?_
                have hst : ps_st n (tx ai) (t1, la, se, pp) = some (0, la, se, ps_up pp la (t1 - 2)) := ps_s1 ht1 hc41
                refine lv_iinc (pc := 210) (k := 8) (v := nI (ai + 1)) (lv' := [(6, .int (nI (ai + 1))), (4, .int ((-2))), (2, .int (nI ((P &&& (7 * 2 ^ (3 * la) ^^^ 4294967295)) ||| (t1 - 2) * 2 ^ (3 * la)))), (8, .int (nI ((tx ai) - 48))), (7, .int (nI (tx ai))), (0, .ref (ad 52)), (1, .int (nI (len))), (3, .int (nI (se))), (5, .int (nI (la)))]) C0.1 C0.2.1 d_MO_read_210 hl rfl (nb_p1 _) (by decide) rfl (fun ls hl => ?_)
                refine lv_goto (pc := 213) (tgt := 29) C0.1 C0.2.1 d_MO_read_213 (by decide) ?_
                exact ih_loop _ (by omega) (ai + 1) 0 la se (ps_up pp la (t1 - 2)) ((P &&& (7 * 2 ^ (3 * la) ^^^ 4294967295)) ||| (t1 - 2) * 2 ^ (3 * la)) (-2) (nI (la)) _ _ _ _ rfl (by omega) (ps_ok1 hps hst) hse (mo_pl hPl (show la < 6 by omega) (by omega)) (mo_pd h6 hdig (by omega)) (Or.inl ⟨rfl, rfl⟩) (by rw [hfu1, ← ps_go_some hst]; exact hgo) hfm fx fi fe fs fy fg fnn fc (lv_sub hl [5, 6, 2, 7, 1, 8, 0] rfl) hP hD hS
            · refine lv_iload (pc := 58) C0.1 C0.2.1 d_MO_read_58 (lv_at hl 6 rfl) ?_
              refine lv_bipush (pc := 60) (v := (-2)) C0.1 C0.2.1 d_MO_read_60 (by decide +kernel) ?_
              refine lv_icmp_ne (pc := 62) (tgt := 71) C0.1 C0.2.1 d_MO_read_62 (by decide) (fun hc => ?_) (fun hc => ?_)
              · exact absurd h48 (by omega)
              · first
                | exact absurd hc (nb_ne2 (by omega))
                | exact absurd (nb_ne2 (by omega)) hc
          · refine lv_isub (pc := 48) C0.1 C0.2.1 d_MO_read_48 ?_
            refine lv_istore (pc := 49) (lv' := [(8, .int ((nI (tx ai)) - (nI (48)))), (7, .int (nI (tx ai))), (0, .ref (ad 52)), (1, .int (nI (len))), (2, .int (nI (P))), (3, .int (nI (se))), (4, .int (nI (t1 - 2))), (5, .int (nI (la))), (6, .int (nI (ai)))]) C0.1 C0.2.1 d_MO_read_49 hl (by decide) rfl (fun ls hl => ?_)
            refine lv_iload (pc := 51) C0.1 C0.2.1 d_MO_read_51 (lv_at hl 1 rfl) ?_
            refine lv_bipush (pc := 53) (v := nI (40)) C0.1 C0.2.1 d_MO_read_53 (by decide +kernel) ?_
            refine mb_ne (pc := 55) (tgt := 71) C0 (by omega) (by omega) d_MO_read_55 (by decide) (fun hc40 => ?_) (fun hc40 => ?_)
            · refine lv_iload (pc := 71) C0.1 C0.2.1 d_MO_read_71 (lv_at hl 1 rfl) ?_
              refine lv_bipush (pc := 73) (v := nI (41)) C0.1 C0.2.1 d_MO_read_73 (by decide +kernel) ?_
              refine mb_ne (pc := 75) (tgt := 110) C0 (by omega) (by omega) d_MO_read_75 (by decide) (fun hc41 => ?_) (fun hc41 => ?_)
              · refine lv_iload (pc := 110) C0.1 C0.2.1 d_MO_read_110 (lv_at hl 6 rfl) ?_
                refine lv_bipush (pc := 112) (v := (-2)) C0.1 C0.2.1 d_MO_read_112 (by decide +kernel) ?_
                refine lv_icmp_le (pc := 114) (tgt := 198) C0.1 C0.2.1 d_MO_read_114 (by decide) (fun hc => ?_) (fun hc => ?_)
                · first
                  | exact absurd hc (nb_le2 (by omega))
                  | exact absurd (nb_le2 (by omega)) hc
                · refine lv_iload (pc := 117) C0.1 C0.2.1 d_MO_read_117 (lv_at hl 0 rfl) ?_
                  refine lv_iconst (pc := 119) (v := nI (0)) C0.1 C0.2.1 d_MO_read_119 (by decide +kernel) ?_
                  refine lv_aload_n (pc := 120) C0.1 C0.2.1 d_MO_read_120 rfl (lv_at hl 2 rfl) ?_
                  refine mg_get (pc := 121) C0 in_MO hK hP (52) fx rfl 0 (by decide) fl_MO_36 rfl d_MO_read_121 ?_
                  refine lv_iconst (pc := 124) (v := nI (1)) C0.1 C0.2.1 d_MO_read_124 (by decide +kernel) ?_
                  refine lv_isub (pc := 125) C0.1 C0.2.1 d_MO_read_125 ?_
                  refine mg_si (pc := 126) (As := [.int ((nI (tx ai)) - (nI (48))), .int (nI (0)), .int ((nI (n)) - (nI (1)))]) (rest := []) C0 (c_MO_in l D ca ad ws) lk_MO_85 (by decide) hK hP hD hS hA rfl hl.1 rfl (Nat.le_of_ble_eq_true rfl) d_MO_read_126 (fun rv ws1 H locs hpost hP hD hS => ?_)
                  obtain ⟨hr1, hw⟩ := hpost
                  rw [hw] at hP hD
                  refine mg_top (show rv = nI (0) from hr1.elim (fun h9 => h9.2) (fun h9 => (h9.1.1 (nb_sneg (by omega) (by omega))).elim)) ?_
                  refine mz_eq (pc := 129) (tgt := 198) C0 (by decide) d_MO_read_129 (by decide) (fun _ => ?_) (fun h9 => absurd rfl h9)
                  refine lv_iload (pc := 198) C0.1 C0.2.1 d_MO_read_198 (lv_at hl 1 rfl) ?_
                  refine lv_bipush (pc := 200) (v := nI (32)) C0.1 C0.2.1 d_MO_read_200 (by decide +kernel) ?_
                  refine mb_eq (pc := 202) (tgt := 210) C0 (by omega) (by omega) d_MO_read_202 (by decide) (fun hc => ?_) (fun hc => ?_)
                  · have hst : ps_st n (tx ai) (t1, la, se, pp) = some (t1, la, se, pp) := by rw [hc]; rfl
                    refine lv_iinc (pc := 210) (k := 8) (v := nI (ai + 1)) (lv' := [(6, .int (nI (ai + 1))), (8, .int ((nI (tx ai)) - (nI (48)))), (7, .int (nI (tx ai))), (0, .ref (ad 52)), (1, .int (nI (len))), (2, .int (nI (P))), (3, .int (nI (se))), (4, .int (nI (t1 - 2))), (5, .int (nI (la)))]) C0.1 C0.2.1 d_MO_read_210 hl rfl (nb_p1 _) (by decide) rfl (fun ls hl => ?_)
                    refine lv_goto (pc := 213) (tgt := 29) C0.1 C0.2.1 d_MO_read_213 (by decide) ?_
                    exact ih_loop _ (by omega) (ai + 1) t1 la se pp P (nI (t1 - 2)) (nI (la)) _ _ _ _ rfl (by omega) (ps_ok1 hps hst) hse hPl hdig (Or.inr (Or.inr ⟨ht1, rfl, rfl⟩)) (by rw [hfu1, ← ps_go_some hst]; exact hgo) hfm fx fi fe fs fy fg fnn fc (lv_sub hl [3, 4, 5, 6, 7, 8, 0] rfl) hP hD hS
                  · have hc32 : ¬ tx ai = 32 := hc
                    have hst : ps_st n (tx ai) (t1, la, se, pp) = none := ps_n2 hc32 (by omega) hc41 (fun h9 => h48 h9.1)
                    have hrd := ps_rd1 (hgo.symm.trans (ps_go_none hst))
                    have hM1 : MOW ca ad n (0, tx, pc, rk, gc, gs) ws := ⟨fx, ⟨im, fi, him⟩, ⟨_, fe, hpe⟩, ⟨_, _, _, fs, fy, fg, hgs⟩, ⟨_, fnn⟩, ⟨ch, fc, fun i hi => absurd hi (by omega)⟩, by omega, fun i hi => absurd hi (by omega), hp, hrk, hg⟩
                    have E : sp_read n (len, tx, pc, rk, gc, gs) = ((-1) - nI ai, (0, tx, pc, rk, gc, gs)) := by simp only [sp_read, hrd]
                    refine lv_iconst (pc := 205) (v := (-1)) C0.1 C0.2.1 d_MO_read_205 (by decide +kernel) ?_
                    refine lv_iload (pc := 206) C0.1 C0.2.1 d_MO_read_206 (lv_at hl 8 rfl) ?_
                    refine lv_isub (pc := 208) C0.1 C0.2.1 d_MO_read_208 ?_
                    exact hret _ _ _ _ 209 _ (rfl) (⟨by rw [E], by rw [E]; exact hM1, hfm⟩) hP hD hS d_MO_read_209
              · refine lv_iload (pc := 78) C0.1 C0.2.1 d_MO_read_78 (lv_at hl 6 rfl) ?_
                refine mz_lt (pc := 80) (tgt := 110) C0 (by omega) d_MO_read_80 (by decide) ?_
                refine lv_iload_n (pc := 83) C0.1 C0.2.1 d_MO_read_83 rfl (lv_at hl 4 rfl) ?_
                refine lv_bipush (pc := 84) (v := nI (7)) C0.1 C0.2.1 d_MO_read_84 (by decide +kernel) ?_
                refine lv_iconst (pc := 86) (v := nI (3)) C0.1 C0.2.1 d_MO_read_86 (by decide +kernel) ?_
                refine lv_iload (pc := 87) C0.1 C0.2.1 d_MO_read_87 (lv_at hl 7 rfl) ?_
                refine mn_mul (pc := 89) C0 d_MO_read_89 ?_
                refine mn_shl (pc := 90) C0 (by omega) (mo_sh (by decide) (by omega)) d_MO_read_90 ?_
                refine lv_iconst (pc := 91) (v := (-1)) C0.1 C0.2.1 d_MO_read_91 (by decide +kernel) ?_
                refine lv_ixor (pc := 92) C0.1 C0.2.1 d_MO_read_92 ?_
                refine lv_iand (pc := 93) C0.1 C0.2.1 d_MO_read_93 ?_
                refine lv_iload (pc := 94) C0.1 C0.2.1 d_MO_read_94 (lv_at hl 6 rfl) ?_
                refine lv_iconst (pc := 96) (v := nI (3)) C0.1 C0.2.1 d_MO_read_96 (by decide +kernel) ?_
                refine lv_iload (pc := 97) C0.1 C0.2.1 d_MO_read_97 (lv_at hl 7 rfl) ?_
                refine mn_mul (pc := 99) C0 d_MO_read_99 ?_
                refine mn_shl (pc := 100) C0 (by omega) (mo_sh (by omega) (by omega)) d_MO_read_100 ?_
                refine lv_ior (pc := 101) C0.1 C0.2.1 d_MO_read_101 ?_
                refine mg_top (show ((nI (P)) &&& ((nI (7 * 2 ^ (3 * la))) ^^^ (-1))) ||| (nI ((t1 - 2) * 2 ^ (3 * la))) = nI ((P &&& (7 * 2 ^ (3 * la) ^^^ 4294967295)) ||| (t1 - 2) * 2 ^ (3 * la)) from nb_pk _ _ _) ?_
                refine lv_istore_n (pc := 102) (lv' := [(2, .int (nI ((P &&& (7 * 2 ^ (3 * la) ^^^ 4294967295)) ||| (t1 - 2) * 2 ^ (3 * la)))), (8, .int ((nI (tx ai)) - (nI (48)))), (7, .int (nI (tx ai))), (0, .ref (ad 52)), (1, .int (nI (len))), (3, .int (nI (se))), (4, .int (nI (t1 - 2))), (5, .int (nI (la))), (6, .int (nI (ai)))]) C0.1 C0.2.1 d_MO_read_102 rfl hl (by decide) rfl (fun ls hl => ?_)
                refine lv_bipush (pc := 103) (v := (-2)) C0.1 C0.2.1 d_MO_read_103 (by decide +kernel) ?_
                refine lv_istore (pc := 105) (lv' := [(4, .int ((-2))), (2, .int (nI ((P &&& (7 * 2 ^ (3 * la) ^^^ 4294967295)) ||| (t1 - 2) * 2 ^ (3 * la)))), (8, .int ((nI (tx ai)) - (nI (48)))), (7, .int (nI (tx ai))), (0, .ref (ad 52)), (1, .int (nI (len))), (3, .int (nI (se))), (5, .int (nI (la))), (6, .int (nI (ai)))]) C0.1 C0.2.1 d_MO_read_105 hl (by decide) rfl (fun ls hl => ?_)
                refine lv_goto (pc := 107) (tgt := 210) C0.1 C0.2.1 d_MO_read_107 (by decide) ?_
                have hst : ps_st n (tx ai) (t1, la, se, pp) = some (0, la, se, ps_up pp la (t1 - 2)) := ps_s1 ht1 hc41
                refine lv_iinc (pc := 210) (k := 8) (v := nI (ai + 1)) (lv' := [(6, .int (nI (ai + 1))), (4, .int ((-2))), (2, .int (nI ((P &&& (7 * 2 ^ (3 * la) ^^^ 4294967295)) ||| (t1 - 2) * 2 ^ (3 * la)))), (8, .int ((nI (tx ai)) - (nI (48)))), (7, .int (nI (tx ai))), (0, .ref (ad 52)), (1, .int (nI (len))), (3, .int (nI (se))), (5, .int (nI (la)))]) C0.1 C0.2.1 d_MO_read_210 hl rfl (nb_p1 _) (by decide) rfl (fun ls hl => ?_)
                refine lv_goto (pc := 213) (tgt := 29) C0.1 C0.2.1 d_MO_read_213 (by decide) ?_
                exact ih_loop _ (by omega) (ai + 1) 0 la se (ps_up pp la (t1 - 2)) ((P &&& (7 * 2 ^ (3 * la) ^^^ 4294967295)) ||| (t1 - 2) * 2 ^ (3 * la)) (-2) (nI (la)) _ _ _ _ rfl (by omega) (ps_ok1 hps hst) hse (mo_pl hPl (show la < 6 by omega) (by omega)) (mo_pd h6 hdig (by omega)) (Or.inl ⟨rfl, rfl⟩) (by rw [hfu1, ← ps_go_some hst]; exact hgo) hfm fx fi fe fs fy fg fnn fc (lv_sub hl [5, 6, 2, 7, 1, 8, 0] rfl) hP hD hS
            · refine lv_iload (pc := 58) C0.1 C0.2.1 d_MO_read_58 (lv_at hl 6 rfl) ?_
              refine lv_bipush (pc := 60) (v := (-2)) C0.1 C0.2.1 d_MO_read_60 (by decide +kernel) ?_
              refine lv_icmp_ne (pc := 62) (tgt := 71) C0.1 C0.2.1 d_MO_read_62 (by decide) (fun hc => ?_) (fun hc => ?_)
              · refine lv_iload (pc := 71) C0.1 C0.2.1 d_MO_read_71 (lv_at hl 1 rfl) ?_
                refine lv_bipush (pc := 73) (v := nI (41)) C0.1 C0.2.1 d_MO_read_73 (by decide +kernel) ?_
                refine mb_ne (pc := 75) (tgt := 110) C0 (by omega) (by omega) d_MO_read_75 (by decide) (fun hc41 => ?_) (fun hc41 => ?_)
                · refine lv_iload (pc := 110) C0.1 C0.2.1 d_MO_read_110 (lv_at hl 6 rfl) ?_
                  refine lv_bipush (pc := 112) (v := (-2)) C0.1 C0.2.1 d_MO_read_112 (by decide +kernel) ?_
                  refine lv_icmp_le (pc := 114) (tgt := 198) C0.1 C0.2.1 d_MO_read_114 (by decide) (fun hc => ?_) (fun hc => ?_)
                  · first
                    | exact absurd hc (nb_le2 (by omega))
                    | exact absurd (nb_le2 (by omega)) hc
                  · refine lv_iload (pc := 117) C0.1 C0.2.1 d_MO_read_117 (lv_at hl 0 rfl) ?_
                    refine lv_iconst (pc := 119) (v := nI (0)) C0.1 C0.2.1 d_MO_read_119 (by decide +kernel) ?_
                    refine lv_aload_n (pc := 120) C0.1 C0.2.1 d_MO_read_120 rfl (lv_at hl 2 rfl) ?_
                    refine mg_get (pc := 121) C0 in_MO hK hP (52) fx rfl 0 (by decide) fl_MO_36 rfl d_MO_read_121 ?_
                    refine lv_iconst (pc := 124) (v := nI (1)) C0.1 C0.2.1 d_MO_read_124 (by decide +kernel) ?_
                    refine lv_isub (pc := 125) C0.1 C0.2.1 d_MO_read_125 ?_
                    refine mg_si (pc := 126) (As := [.int ((nI (tx ai)) - (nI (48))), .int (nI (0)), .int ((nI (n)) - (nI (1)))]) (rest := []) C0 (c_MO_in l D ca ad ws) lk_MO_85 (by decide) hK hP hD hS hA rfl hl.1 rfl (Nat.le_of_ble_eq_true rfl) d_MO_read_126 (fun rv ws1 H locs hpost hP hD hS => ?_)
                    obtain ⟨hr1, hw⟩ := hpost
                    rw [hw] at hP hD
                    refine mg_top (show rv = nI (0) from hr1.elim (fun h9 => h9.2) (fun h9 => (h9.1.1 (nb_sneg (by omega) (by omega))).elim)) ?_
                    refine mz_eq (pc := 129) (tgt := 198) C0 (by decide) d_MO_read_129 (by decide) (fun _ => ?_) (fun h9 => absurd rfl h9)
                    refine lv_iload (pc := 198) C0.1 C0.2.1 d_MO_read_198 (lv_at hl 1 rfl) ?_
                    refine lv_bipush (pc := 200) (v := nI (32)) C0.1 C0.2.1 d_MO_read_200 (by decide +kernel) ?_
                    refine mb_eq (pc := 202) (tgt := 210) C0 (by omega) (by omega) d_MO_read_202 (by decide) (fun hc => ?_) (fun hc => ?_)
                    · have hst : ps_st n (tx ai) (t1, la, se, pp) = some (t1, la, se, pp) := by rw [hc]; rfl
                      refine lv_iinc (pc := 210) (k := 8) (v := nI (ai + 1)) (lv' := [(6, .int (nI (ai + 1))), (8, .int ((nI (tx ai)) - (nI (48)))), (7, .int (nI (tx ai))), (0, .ref (ad 52)), (1, .int (nI (len))), (2, .int (nI (P))), (3, .int (nI (se))), (4, .int (nI (t1 - 2))), (5, .int (nI (la)))]) C0.1 C0.2.1 d_MO_read_210 hl rfl (nb_p1 _) (by decide) rfl (fun ls hl => ?_)
                      refine lv_goto (pc := 213) (tgt := 29) C0.1 C0.2.1 d_MO_read_213 (by decide) ?_
                      exact ih_loop _ (by omega) (ai + 1) t1 la se pp P (nI (t1 - 2)) (nI (la)) _ _ _ _ rfl (by omega) (ps_ok1 hps hst) hse hPl hdig (Or.inr (Or.inr ⟨ht1, rfl, rfl⟩)) (by rw [hfu1, ← ps_go_some hst]; exact hgo) hfm fx fi fe fs fy fg fnn fc (lv_sub hl [3, 4, 5, 6, 7, 8, 0] rfl) hP hD hS
                    · have hc32 : ¬ tx ai = 32 := hc
                      have hst : ps_st n (tx ai) (t1, la, se, pp) = none := ps_n2 hc32 (by omega) hc41 (fun h9 => h48 h9.1)
                      have hrd := ps_rd1 (hgo.symm.trans (ps_go_none hst))
                      have hM1 : MOW ca ad n (0, tx, pc, rk, gc, gs) ws := ⟨fx, ⟨im, fi, him⟩, ⟨_, fe, hpe⟩, ⟨_, _, _, fs, fy, fg, hgs⟩, ⟨_, fnn⟩, ⟨ch, fc, fun i hi => absurd hi (by omega)⟩, by omega, fun i hi => absurd hi (by omega), hp, hrk, hg⟩
                      have E : sp_read n (len, tx, pc, rk, gc, gs) = ((-1) - nI ai, (0, tx, pc, rk, gc, gs)) := by simp only [sp_read, hrd]
                      refine lv_iconst (pc := 205) (v := (-1)) C0.1 C0.2.1 d_MO_read_205 (by decide +kernel) ?_
                      refine lv_iload (pc := 206) C0.1 C0.2.1 d_MO_read_206 (lv_at hl 8 rfl) ?_
                      refine lv_isub (pc := 208) C0.1 C0.2.1 d_MO_read_208 ?_
                      exact hret _ _ _ _ 209 _ (rfl) (⟨by rw [E], by rw [E]; exact hM1, hfm⟩) hP hD hS d_MO_read_209
                · exact absurd hc41 (by omega)
              · first
                | exact absurd hc (nb_ne2 (by omega))
                | exact absurd (nb_ne2 (by omega)) hc
  exact loop _ 0 0 0 0 (fun x => x) (qk_p (pm_im n 0) n) (-2) (-1) _ _ _ _ rfl (by omega) (ps_ok0 n) (by decide) (Nat.lt_of_lt_of_le (qk_lt h8) h18) (fun x hx => by rw [qk_dig h8 hx, pm_im0 h2 h6 hx]) (Or.inl ⟨rfl, rfl⟩) rfl hfm fx fi fe fs fy fg fnn fc (lv_sub hl [6, 5, 4, 3, 2, 1, 0] rfl) hP hD hS
