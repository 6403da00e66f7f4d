/-! The reference: closure and derived group -/
set_option maxHeartbeats 4000000 in
set_option maxRecDepth 100000 in
theorem c_MO_close (l : Launch) (D : va_G) (ca : Nat → ClassId) (ad : Nat → Nat) {n : Nat} (h2 : 2 ≤ n) (h6 : n ≤ 6) {pcx gcx lenx : Int32} {im : Nat → Int32} (him : ∀ r, r < pm_fc n → im r = nI (qk_p (pm_im n r) n)) {st : Nat → Int64} {my ge fn : Nat → Int32} {g h t0 kG kH : Nat} {SG SH : Nat → Bool} {GG GH G0 : Nat → Nat} (hgt : g ≠ t0) (hht : h ≠ t0) (hg14 : g < 14) (hh14 : h < 14) (ht14 : t0 < 14) (hmg : mo_g n st my ge g SG GG kG) (hmh : mo_g n st my ge h SH GH kH) (hmt : mo_g n st my ge t0 su_one G0 0) (ws0 : va_W) (zx : ws0[52]? = some (ad 52, .inr (4, [.int (nI (n)), .int (nI (pm_fc n)), .ref (ad 53), .int (pcx), .ref (ad 54), .int (gcx), .ref (ad 55), .ref (ad 56), .ref (ad 57), .ref (ad 58), .ref (ad 59), .int (lenx)]))) (zi : ws0[53]? = some (ad 53, .inl (ca 1, 720, .inl (im)))) (zs : ws0[55]? = some (ad 55, .inl (ca 2, 180, .inr (.inl (st))))) (zy : ws0[56]? = some (ad 56, .inl (ca 1, 15, .inl (my)))) (zg : ws0[57]? = some (ad 57, .inl (ca 1, 300, .inl (ge)))) (znn : ws0[58]? = some (ad 58, .inl (ca 1, 720, .inl (fn)))) : mg_V l y_MO_close b_MO_close 6 5 D classes (tys_ ca) [.ref (ad 52), .int (nI (g)), .int (nI (h)), .int (nI (t0))] ws0 (fun w => (∀ j, j ≠ 55 ∧ j ≠ 56 ∧ j ≠ 57 ∧ j ≠ 58 → w[j]? = ws0[j]?) ∧ ∃ (st1 : Nat → Int64) (my1 ge1 fn1 : Nat → Int32), w[55]? = some (ad 55, .inl (ca 2, 180, .inr (.inl (st1)))) ∧ w[56]? = some (ad 56, .inl (ca 1, 15, .inl (my1))) ∧ w[57]? = some (ad 57, .inl (ca 1, 300, .inl (ge1))) ∧ w[58]? = some (ad 58, .inl (ca 1, 720, .inl (fn1))) ∧ mo_sm st my ge st1 my1 ge1 t0 ∧ ∃ (S1 : Nat → Bool) (G1 : Nat → Nat) (k1 : Nat), mo_g n st1 my1 ge1 t0 S1 G1 k1 ∧ gp_clo (pm_fc n) (pm_mu n) (pm_iv n) (fun x => SG x = true) (fun x => SH x = true) (fun x => S1 x = true)) := by
  have hN := pm_fc_le h6
  have g0 := pm_gp h2 h6
  have hkH := mo_k9 h6 hmh
  have hgenG := hmg.2.2.2.1
  have hgenH := hmh.2.2.2.1
  refine mg_openV (own := R_MO) rfl (by decide) (Nat.le_of_ble_eq_true rfl) ?_
  intro p e s m args below meth c A Q ls C0 hK hA hP hD hS hl hret
  have hl : lv_has ls 6 [(0, .ref (ad 52)), (1, .int (nI (g))), (2, .int (nI (h))), (3, .int (nI (t0)))] := hl
  have fx := zx
  have fi := zi
  have fs := zs
  have fy := zy
  have fg := zg
  have fnn := znn
  have hfm : ∀ j, j ≠ 55 ∧ j ≠ 56 ∧ j ≠ 57 ∧ j ≠ 58 → ws0[j]? = ws0[j]? := fun _ _ => rfl
  refine lv_iconst (pc := 0) (v := nI (0)) C0.1 C0.2.1 d_MO_close_0 (by decide +kernel) ?_
  refine lv_istore (pc := 1) (lv' := [(4, .int (nI (0))), (0, .ref (ad 52)), (1, .int (nI (g))), (2, .int (nI (h))), (3, .int (nI (t0)))]) C0.1 C0.2.1 d_MO_close_1 hl (by decide) rfl (fun ls hl => ?_)
  have outer : ∀ (d : Nat) (r : Nat) (st1 : Nat → Int64) (my1 : Nat → Int32) (ge1 : Nat → Int32) (fn1 : Nat → Int32) (S1 : Nat → Bool) (G1 : Nat → Nat) (k1 : Nat) (ws : va_W) (H : Heap) (locs : List Loc) (ls : Array Slot), pm_fc n - r = d → (mo_g n st1 my1 ge1 g SG GG kG) → (mo_g n st1 my1 ge1 h SH GH kH) → (mo_g n st1 my1 ge1 t0 S1 G1 k1) → (mo_sm st my ge st1 my1 ge1 t0) → (∀ U, gp_sg (pm_fc n) (pm_mu n) (pm_iv n) U → (∀ x i, SG x = true → i < kH → U (ga_cj (pm_mu n) (pm_iv n) (GH i) x)) → ∀ x, S1 x = true → U x) → (∀ x i, x < r → SG x = true → i < kH → S1 (ga_cj (pm_mu n) (pm_iv n) (GH i) x) = true) → (r ≤ pm_fc n) → (∀ j, j ≠ 55 ∧ j ≠ 56 ∧ j ≠ 57 ∧ j ≠ 58 → ws[j]? = ws0[j]?) → ws[55]? = some (ad 55, .inl (ca 2, 180, .inr (.inl (st1)))) → ws[56]? = some (ad 56, .inl (ca 1, 15, .inl (my1))) → ws[57]? = some (ad 57, .inl (ca 1, 300, .inl (ge1))) → ws[58]? = some (ad 58, .inl (ca 1, 720, .inl (fn1))) → lv_has ls 6 [(0, .ref (ad 52)), (1, .int (nI (g))), (2, .int (nI (h))), (3, .int (nI (t0))), (4, .int (nI (r)))] → va_P D classes ws H → va_D A ws → va_S A s.heap H locs → W p l e (mg_rm 5) s m args below meth c H locs 0 0 Q (F0 m 3 ls []) := by
    intro d
    induction d using Nat.strongRecOn with
    | _ d ih_outer =>
      intro r st1 my1 ge1 fn1 S1 G1 k1 ws H locs ls hd hmg hmh hmt hsm hmin hpr hr hfm fs fy fg fnn hl hP hD hS
      have fx := (hfm (52) (by omega)).trans zx
      have fi := (hfm (53) (by omega)).trans zi
      refine lv_iload (pc := 3) C0.1 C0.2.1 d_MO_close_3 (lv_at hl 4 rfl) ?_
      refine lv_aload_n (pc := 5) C0.1 C0.2.1 d_MO_close_5 rfl (lv_at hl 0 rfl) ?_
      refine mg_get (pc := 6) C0 in_MO hK hP (52) fx rfl 1 (by decide) fl_MO_39 rfl d_MO_close_6 ?_
      refine mb_ge (pc := 9) (tgt := 71) C0 (by omega) (by omega) d_MO_close_9 (by decide) (fun hc => ?_) (fun hc => ?_)
      · exact hret _ _ _ 71 _ (⟨hfm, st1, my1, ge1, fn1, fs, fy, fg, fnn, hsm, S1, G1, k1, hmt, gp_cloM g0 hmt.2.2.2.1.1 hgenG.1 hgenH (fun x i hx hi => hpr x i (by have := hgenG.1.2.1 x hx; omega) hx hi) hmin⟩) hP hD hS d_MO_close_71
      · have hrN := hc
        refine lv_iconst (pc := 12) (v := nI (0)) C0.1 C0.2.1 d_MO_close_12 (by decide +kernel) ?_
        refine lv_istore (pc := 13) (lv' := [(5, .int (nI (0))), (0, .ref (ad 52)), (1, .int (nI (g))), (2, .int (nI (h))), (3, .int (nI (t0))), (4, .int (nI (r)))]) C0.1 C0.2.1 d_MO_close_13 hl (by decide) rfl (fun ls hl => ?_)
        have inner : ∀ (d : Nat) (u : Nat) (st1 : Nat → Int64) (my1 : Nat → Int32) (ge1 : Nat → Int32) (fn1 : Nat → Int32) (S1 : Nat → Bool) (G1 : Nat → Nat) (k1 : Nat) (ws : va_W) (H : Heap) (locs : List Loc) (ls : Array Slot), kH - u = d → (mo_g n st1 my1 ge1 g SG GG kG) → (mo_g n st1 my1 ge1 h SH GH kH) → (mo_g n st1 my1 ge1 t0 S1 G1 k1) → (mo_sm st my ge st1 my1 ge1 t0) → (∀ U, gp_sg (pm_fc n) (pm_mu n) (pm_iv n) U → (∀ x i, SG x = true → i < kH → U (ga_cj (pm_mu n) (pm_iv n) (GH i) x)) → ∀ x, S1 x = true → U x) → (∀ x i, x < r → SG x = true → i < kH → S1 (ga_cj (pm_mu n) (pm_iv n) (GH i) x) = true) → (SG r = true → ∀ i, i < u → S1 (ga_cj (pm_mu n) (pm_iv n) (GH i) r) = true) → (u ≤ kH) → (∀ j, j ≠ 55 ∧ j ≠ 56 ∧ j ≠ 57 ∧ j ≠ 58 → ws[j]? = ws0[j]?) → ws[55]? = some (ad 55, .inl (ca 2, 180, .inr (.inl (st1)))) → ws[56]? = some (ad 56, .inl (ca 1, 15, .inl (my1))) → ws[57]? = some (ad 57, .inl (ca 1, 300, .inl (ge1))) → ws[58]? = some (ad 58, .inl (ca 1, 720, .inl (fn1))) → lv_has ls 6 [(0, .ref (ad 52)), (1, .int (nI (g))), (2, .int (nI (h))), (3, .int (nI (t0))), (4, .int (nI (r))), (5, .int (nI (u)))] → va_P D classes ws H → va_D A ws → va_S A s.heap H locs → W p l e (mg_rm 5) s m args below meth c H locs 0 0 Q (F0 m 15 ls []) := by
          intro d
          induction d using Nat.strongRecOn with
          | _ d ih_inner =>
            intro u st1 my1 ge1 fn1 S1 G1 k1 ws H locs ls hd hmg hmh hmt hsm hmin hpr hin hu hfm fs fy fg fnn hl hP hD hS
            have fx := (hfm (52) (by omega)).trans zx
            have fi := (hfm (53) (by omega)).trans zi
            refine lv_iload (pc := 15) C0.1 C0.2.1 d_MO_close_15 (lv_at hl 5 rfl) ?_
            refine lv_aload_n (pc := 17) C0.1 C0.2.1 d_MO_close_17 rfl (lv_at hl 0 rfl) ?_
            refine mg_get (pc := 18) C0 in_MO hK hP (52) fx rfl 7 (by decide) fl_MO_24 rfl d_MO_close_18 ?_
            refine lv_iload_n (pc := 21) C0.1 C0.2.1 d_MO_close_21 rfl (lv_at hl 2 rfl) ?_
            refine mg_ild (pc := 22) C0 hK hP (56) 1 fy rfl (j := h) (by omega) (by omega) d_MO_close_22 ?_
            refine mg_top (show my1 (h) = nI (kH) from hmh.2.1) ?_
            refine mb_ge (pc := 23) (tgt := 65) C0 (by omega) (by omega) d_MO_close_23 (by decide) (fun hc => ?_) (fun hc => ?_)
            · refine lv_iinc (pc := 65) (k := 4) (v := nI (r + 1)) (lv' := [(4, .int (nI (r + 1))), (0, .ref (ad 52)), (1, .int (nI (g))), (2, .int (nI (h))), (3, .int (nI (t0))), (5, .int (nI (u)))]) C0.1 C0.2.1 d_MO_close_65 hl rfl (nb_p1 _) (by decide) rfl (fun ls hl => ?_)
              refine lv_goto (pc := 68) (tgt := 3) C0.1 C0.2.1 d_MO_close_68 (by decide) ?_
              exact ih_outer _ (by omega) (r + 1) _ _ _ _ S1 G1 k1 _ _ _ _ rfl hmg hmh hmt hsm hmin (fun x i hx hs9 hi => by
                by_cases e : x = r
                · subst e; exact hin hs9 i (by omega)
                · exact hpr x i (by omega) hs9 hi) (by omega) hfm fs fy fg fnn (lv_sub hl [1, 2, 3, 4, 0] rfl) hP hD hS
            · have hu1 := hc
              refine lv_aload_n (pc := 26) C0.1 C0.2.1 d_MO_close_26 rfl (lv_at hl 0 rfl) ?_
              refine lv_iload_n (pc := 27) C0.1 C0.2.1 d_MO_close_27 rfl (lv_at hl 1 rfl) ?_
              refine lv_iload (pc := 28) C0.1 C0.2.1 d_MO_close_28 (lv_at hl 4 rfl) ?_
              refine mg_ci (pc := 30) (As := [.int (nI (g)), .int (nI (r))]) (rest := []) C0 (c_MO_has l D ca ad h2 h6 (by omega) hrN hmg.1 ws fx fs) lk_MO_57 (by decide) fx rfl hK hP hD hS hA rfl hl.1 rfl (Nat.le_of_ble_eq_true rfl) d_MO_close_30 (fun rv ws1 H locs hpost hP hD hS => ?_)
              obtain ⟨hr1, hw⟩ := hpost
              rw [hw] at hP hD
              cases hs : SG r with
              | true =>
                  rw [hs, if_pos rfl] at hr1
                  refine mg_top (show rv = nI (1) from hr1) ?_
                  refine mz_eq (pc := 33) (tgt := 65) C0 (by decide) d_MO_close_33 (by decide) (fun h9 => absurd h9 (by decide)) (fun _ => ?_)
                  have hGu := gp_gen_lt hgenH hu1
                  have hcj := gp_cjl g0 hGu hrN
                  refine lv_aload_n (pc := 36) C0.1 C0.2.1 d_MO_close_36 rfl (lv_at hl 0 rfl) ?_
                  refine lv_iload_n (pc := 37) C0.1 C0.2.1 d_MO_close_37 rfl (lv_at hl 3 rfl) ?_
                  refine lv_aload_n (pc := 38) C0.1 C0.2.1 d_MO_close_38 rfl (lv_at hl 0 rfl) ?_
                  refine lv_iload (pc := 39) C0.1 C0.2.1 d_MO_close_39 (lv_at hl 4 rfl) ?_
                  refine lv_aload_n (pc := 41) C0.1 C0.2.1 d_MO_close_41 rfl (lv_at hl 0 rfl) ?_
                  refine mg_get (pc := 42) C0 in_MO hK hP (52) fx rfl 8 (by decide) fl_MO_27 rfl d_MO_close_42 ?_
                  refine lv_bipush (pc := 45) (v := nI (20)) C0.1 C0.2.1 d_MO_close_45 (by decide +kernel) ?_
                  refine lv_iload_n (pc := 47) C0.1 C0.2.1 d_MO_close_47 rfl (lv_at hl 2 rfl) ?_
                  refine mn_mul (pc := 48) C0 d_MO_close_48 ?_
                  refine lv_iload (pc := 49) C0.1 C0.2.1 d_MO_close_49 (lv_at hl 5 rfl) ?_
                  refine mn_add (pc := 51) C0 d_MO_close_51 ?_
                  refine mg_ild (pc := 52) C0 hK hP (57) 1 fg rfl (j := (20 * h) + u) (by omega) (by omega) d_MO_close_52 ?_
                  refine mg_top (show ge1 ((20 * h) + u) = nI (GH u) from hmh.2.2.1 u hu1) ?_
                  refine mg_ci (pc := 53) (As := [.int (nI (r)), .int (nI (GH u))]) (rest := [.int (nI (t0)), .ref (ad 52)]) C0 (c_MO_turned l D ca ad h2 h6 him hrN hGu ws fx fi) lk_MO_75 (by decide) fx rfl hK hP hD hS hA rfl hl.1 rfl (Nat.le_of_ble_eq_true rfl) d_MO_close_53 (fun rv ws1 H locs hpost hP hD hS => ?_)
                  obtain ⟨hr1, hw⟩ := hpost
                  rw [hw] at hP hD
                  refine mg_top (show rv = nI (ga_cj (pm_mu n) (pm_iv n) (GH u) r) from hr1) ?_
                  refine mg_cv (pc := 56) (As := [.int (nI (t0)), .int (nI (ga_cj (pm_mu n) (pm_iv n) (GH u) r))]) (rest := []) C0 (c_MO_enlarge l D ca ad h2 h6 him ht14 hcj hmt ws fx fi fs fy fg fnn) lk_MO_78 (by decide) fx rfl hK hP hD hS hA rfl hl.1 rfl (Nat.le_of_ble_eq_true rfl) d_MO_close_56 (fun ws H locs hpost hP hD hS => ?_)
                  obtain ⟨hfr, st2, my2, ge2, fn2, fs, fy, fg, fnn, hsm2, S2, G2, k2, hmt2, hext⟩ := hpost
                  have fx := (hfr (52) (by omega)).trans fx
                  have fi := (hfr (53) (by omega)).trans fi
                  have hfm : ∀ j, j ≠ 55 ∧ j ≠ 56 ∧ j ≠ 57 ∧ j ≠ 58 → ws[j]? = ws0[j]? := fun j hj => (hfr j (by omega)).trans (hfm j hj)
                  refine lv_iinc (pc := 59) (k := 5) (v := nI (u + 1)) (lv' := [(5, .int (nI (u + 1))), (0, .ref (ad 52)), (1, .int (nI (g))), (2, .int (nI (h))), (3, .int (nI (t0))), (4, .int (nI (r)))]) C0.1 C0.2.1 d_MO_close_59 hl rfl (nb_p1 _) (by decide) rfl (fun ls hl => ?_)
                  refine lv_goto (pc := 62) (tgt := 15) C0.1 C0.2.1 d_MO_close_62 (by decide) ?_
                  exact ih_inner _ (by omega) (u + 1) st2 my2 ge2 fn2 S2 G2 k2 _ _ _ _ rfl (mo_g_fr h6 hsm2 hgt (by omega) (by omega) hmg) (mo_g_fr h6 hsm2 hht (by omega) (by omega) hmh) hmt2 (mo_smt hsm hsm2) (fun U hU hv => hext.2.2.2 U hU (hmin U hU hv) (hv r u hs hu1)) (fun x i hx hs9 hi => hext.2.1 _ (hpr x i hx hs9 hi)) (fun hs9 i hi => by
                    by_cases e : i = u
                    · subst e; exact hext.2.2.1
                    · exact hext.2.1 _ (hin hs9 i (by omega))) (by omega) hfm fs fy fg fnn (lv_sub hl [1, 2, 3, 4, 5, 0] rfl) hP hD hS
              | false =>
                  rw [hs, if_neg (by decide)] at hr1
                  refine mg_top (show rv = nI (0) from hr1) ?_
                  refine mz_eq (pc := 33) (tgt := 65) C0 (by decide) d_MO_close_33 (by decide) (fun _ => ?_) (fun h9 => absurd rfl h9)
                  refine lv_iinc (pc := 65) (k := 4) (v := nI (r + 1)) (lv' := [(4, .int (nI (r + 1))), (0, .ref (ad 52)), (1, .int (nI (g))), (2, .int (nI (h))), (3, .int (nI (t0))), (5, .int (nI (u)))]) C0.1 C0.2.1 d_MO_close_65 hl rfl (nb_p1 _) (by decide) rfl (fun ls hl => ?_)
                  refine lv_goto (pc := 68) (tgt := 3) C0.1 C0.2.1 d_MO_close_68 (by decide) ?_
                  exact ih_outer _ (by omega) (r + 1) _ _ _ _ S1 G1 k1 _ _ _ _ rfl hmg hmh hmt hsm hmin (fun x i hx hs9 hi => by
                    by_cases e : x = r
                    · subst e; rw [hs] at hs9; exact absurd hs9 (by decide)
                    · exact hpr x i (by omega) hs9 hi) (by omega) hfm fs fy fg fnn (lv_sub hl [1, 2, 3, 4, 0] rfl) hP hD hS
        exact inner _ 0 _ _ _ _ S1 G1 k1 _ _ _ _ rfl hmg hmh hmt hsm hmin hpr (fun _ i hi => absurd hi (by omega)) (by omega) hfm fs fy fg fnn (lv_sub hl [1, 2, 3, 4, 5, 0] rfl) hP hD hS
  exact outer _ 0 st my ge _ su_one G0 0 _ _ _ _ rfl hmg hmh hmt (mo_sm0 _ _ _ _) (fun U hU _ x hx => by
    rw [(su_one_iff x).mp hx]; exact hU.1) (fun x i hx => absurd hx (by omega)) (by omega) hfm fs fy fg fnn (lv_sub hl [1, 2, 3, 4, 0] rfl) hP hD hS
set_option maxHeartbeats 4000000 in
set_option maxRecDepth 100000 in
theorem c_MO_derive (l : Launch) (D : va_G) (ca : Nat → ClassId) (ad : Nat → Nat) {n : Nat} (h2 : 2 ≤ n) (h6 : n ≤ 6) {pcx gcx lenx : Int32} {im : Nat → Int32} (him : ∀ r, r < pm_fc n → im r = nI (qk_p (pm_im n r) n)) {st : Nat → Int64} {my ge fn : Nat → Int32} {g t0 kG : Nat} {SG : Nat → Bool} {GG : Nat → Nat} (hgt : g ≠ t0) (hg14 : g < 14) (ht14 : t0 < 14) (hmg : mo_g n st my ge g SG GG kG) (ws0 : va_W) (zx : ws0[52]? = some (ad 52, .inr (4, [.int (nI (n)), .int (nI (pm_fc n)), .ref (ad 53), .int (pcx), .ref (ad 54), .int (gcx), .ref (ad 55), .ref (ad 56), .ref (ad 57), .ref (ad 58), .ref (ad 59), .int (lenx)]))) (zi : ws0[53]? = some (ad 53, .inl (ca 1, 720, .inl (im)))) (zs : ws0[55]? = some (ad 55, .inl (ca 2, 180, .inr (.inl (st))))) (zy : ws0[56]? = some (ad 56, .inl (ca 1, 15, .inl (my)))) (zg : ws0[57]? = some (ad 57, .inl (ca 1, 300, .inl (ge)))) (znn : ws0[58]? = some (ad 58, .inl (ca 1, 720, .inl (fn)))) : mg_V l y_MO_derive b_MO_derive 6 5 D classes (tys_ ca) [.ref (ad 52), .int (nI (g)), .int (nI (t0))] ws0 (fun w => (∀ j, j ≠ 55 ∧ j ≠ 56 ∧ j ≠ 57 ∧ j ≠ 58 → w[j]? = ws0[j]?) ∧ ∃ (st1 : Nat → Int64) (my1 ge1 fn1 : Nat → Int32), w[55]? = some (ad 55, .inl (ca 2, 180, .inr (.inl (st1)))) ∧ w[56]? = some (ad 56, .inl (ca 1, 15, .inl (my1))) ∧ w[57]? = some (ad 57, .inl (ca 1, 300, .inl (ge1))) ∧ w[58]? = some (ad 58, .inl (ca 1, 720, .inl (fn1))) ∧ mo_sm st my ge st1 my1 ge1 t0 ∧ ∃ (S1 : Nat → Bool) (G1 : Nat → Nat) (k1 : Nat), mo_g n st1 my1 ge1 t0 S1 G1 k1 ∧ gp_der (pm_fc n) (pm_mu n) (pm_iv n) (fun x => SG x = true) (fun x => S1 x = true)) := by
  have hN := pm_fc_le h6
  have g0 := pm_gp h2 h6
  have hN0 := pm_fc_pos n
  have hkG := mo_k9 h6 hmg
  have hgenG := hmg.2.2.2.1
  refine mg_openV (own := R_MO) rfl (by decide) (Nat.le_of_ble_eq_true rfl) ?_
  intro p e s m args below meth c A Q ls C0 hK hA hP hD hS hl hret
  have hl : lv_has ls 6 [(0, .ref (ad 52)), (1, .int (nI (g))), (2, .int (nI (t0)))] := hl
  have fx := zx
  have fi := zi
  have fs := zs
  have fy := zy
  have fg := zg
  have fnn := znn
  have hfm : ∀ j, j ≠ 55 ∧ j ≠ 56 ∧ j ≠ 57 ∧ j ≠ 58 → ws0[j]? = ws0[j]? := fun _ _ => rfl
  refine lv_aload_n (pc := 0) C0.1 C0.2.1 d_MO_derive_0 rfl (lv_at hl 0 rfl) ?_
  refine lv_iload_n (pc := 1) C0.1 C0.2.1 d_MO_derive_1 rfl (lv_at hl 2 rfl) ?_
  refine mg_cv (pc := 2) (As := [.int (nI (t0))]) (rest := []) C0 (c_MO_trivial l D ca ad h2 h6 (show t0 < 15 by omega) ws0 fx fs fy) lk_MO_81 (by decide) fx rfl hK hP hD hS hA rfl hl.1 rfl (Nat.le_of_ble_eq_true rfl) d_MO_derive_2 (fun ws H locs hpost hP hD hS => ?_)
  obtain ⟨hfr, st2, fs, fy, hw1, hoc⟩ := hpost
  have fx := (hfr (52) (by omega)).trans fx
  have fi := (hfr (53) (by omega)).trans fi
  have fg := (hfr (57) (by omega)).trans fg
  have fnn := (hfr (58) (by omega)).trans fnn
  have hfm : ∀ j, j ≠ 55 ∧ j ≠ 56 ∧ j ≠ 57 ∧ j ≠ 58 → ws[j]? = ws0[j]? := fun j hj => (hfr j (by omega)).trans (hfm j hj)
  have hsm2 : mo_sm st my ge st2 (upd my t0 (nI 0)) ge t0 := fun h h1 h3 h4 => ⟨fun i hi => hoc h i h1 hi, pk_un h1, fun _ _ => rfl⟩
  have hmt : mo_g n st2 (upd my t0 (nI 0)) ge t0 su_one (fun _ => 0) 0 := ⟨hw1, pk_us, fun j hj => absurd hj (by omega), su_one_gen g0 _, by rw [su_one_cn hN0]; decide⟩
  refine lv_iconst (pc := 5) (v := nI (0)) C0.1 C0.2.1 d_MO_derive_5 (by decide +kernel) ?_
  refine lv_istore_n (pc := 6) (lv' := [(3, .int (nI (0))), (0, .ref (ad 52)), (1, .int (nI (g))), (2, .int (nI (t0)))]) C0.1 C0.2.1 d_MO_derive_6 rfl hl (by decide) rfl (fun ls hl => ?_)
  have outer : ∀ (d : Nat) (r : Nat) (st1 : Nat → Int64) (my1 : Nat → Int32) (ge1 : Nat → Int32) (fn1 : Nat → Int32) (S1 : Nat → Bool) (G1 : Nat → Nat) (k1 : Nat) (ws : va_W) (H : Heap) (locs : List Loc) (ls : Array Slot), pm_fc n - r = d → (mo_g n st1 my1 ge1 g SG GG kG) → (mo_g n st1 my1 ge1 t0 S1 G1 k1) → (mo_sm st my ge st1 my1 ge1 t0) → (∀ U, gp_sg (pm_fc n) (pm_mu n) (pm_iv n) U → (∀ x i, SG x = true → i < kG → U (ga_cm (pm_mu n) (pm_iv n) x (GG i))) → ∀ x, S1 x = true → U x) → (∀ x i, x < r → SG x = true → i < kG → S1 (ga_cm (pm_mu n) (pm_iv n) x (GG i)) = true) → (r ≤ pm_fc n) → (∀ j, j ≠ 55 ∧ j ≠ 56 ∧ j ≠ 57 ∧ j ≠ 58 → ws[j]? = ws0[j]?) → ws[55]? = some (ad 55, .inl (ca 2, 180, .inr (.inl (st1)))) → ws[56]? = some (ad 56, .inl (ca 1, 15, .inl (my1))) → ws[57]? = some (ad 57, .inl (ca 1, 300, .inl (ge1))) → ws[58]? = some (ad 58, .inl (ca 1, 720, .inl (fn1))) → lv_has ls 6 [(0, .ref (ad 52)), (1, .int (nI (g))), (2, .int (nI (t0))), (3, .int (nI (r)))] → va_P D classes ws H → va_D A ws → va_S A s.heap H locs → W p l e (mg_rm 5) s m args below meth c H locs 0 0 Q (F0 m 7 ls []) := by
    intro d
    induction d using Nat.strongRecOn with
    | _ d ih_outer =>
      intro r st1 my1 ge1 fn1 S1 G1 k1 ws H locs ls hd hmg hmt hsm hmin hpr hr hfm fs fy fg fnn hl hP hD hS
      have fx := (hfm (52) (by omega)).trans zx
      have fi := (hfm (53) (by omega)).trans zi
      refine lv_iload_n (pc := 7) C0.1 C0.2.1 d_MO_derive_7 rfl (lv_at hl 3 rfl) ?_
      refine lv_aload_n (pc := 8) C0.1 C0.2.1 d_MO_derive_8 rfl (lv_at hl 0 rfl) ?_
      refine mg_get (pc := 9) C0 in_MO hK hP (52) fx rfl 1 (by decide) fl_MO_39 rfl d_MO_derive_9 ?_
      refine mb_ge (pc := 12) (tgt := 95) C0 (by omega) (by omega) d_MO_derive_12 (by decide) (fun hc => ?_) (fun hc => ?_)
      · exact hret _ _ _ 95 _ (⟨hfm, st1, my1, ge1, fn1, fs, fy, fg, fnn, hsm, S1, G1, k1, hmt, gp_derM g0 hmt.2.2.2.1.1 hgenG (fun x i hx hi => hpr x i (by have := hgenG.1.2.1 x hx; omega) hx hi) hmin⟩) hP hD hS d_MO_derive_95
      · have hrN := hc
        refine lv_iconst (pc := 15) (v := nI (0)) C0.1 C0.2.1 d_MO_derive_15 (by decide +kernel) ?_
        refine lv_istore (pc := 16) (lv' := [(4, .int (nI (0))), (0, .ref (ad 52)), (1, .int (nI (g))), (2, .int (nI (t0))), (3, .int (nI (r)))]) C0.1 C0.2.1 d_MO_derive_16 hl (by decide) rfl (fun ls hl => ?_)
        have inner : ∀ (d : Nat) (u : Nat) (st1 : Nat → Int64) (my1 : Nat → Int32) (ge1 : Nat → Int32) (fn1 : Nat → Int32) (S1 : Nat → Bool) (G1 : Nat → Nat) (k1 : Nat) (ws : va_W) (H : Heap) (locs : List Loc) (ls : Array Slot), kG - u = d → (mo_g n st1 my1 ge1 g SG GG kG) → (mo_g n st1 my1 ge1 t0 S1 G1 k1) → (mo_sm st my ge st1 my1 ge1 t0) → (∀ U, gp_sg (pm_fc n) (pm_mu n) (pm_iv n) U → (∀ x i, SG x = true → i < kG → U (ga_cm (pm_mu n) (pm_iv n) x (GG i))) → ∀ x, S1 x = true → U x) → (∀ x i, x < r → SG x = true → i < kG → S1 (ga_cm (pm_mu n) (pm_iv n) x (GG i)) = true) → (SG r = true → ∀ i, i < u → S1 (ga_cm (pm_mu n) (pm_iv n) r (GG i)) = true) → (u ≤ kG) → (∀ j, j ≠ 55 ∧ j ≠ 56 ∧ j ≠ 57 ∧ j ≠ 58 → ws[j]? = ws0[j]?) → ws[55]? = some (ad 55, .inl (ca 2, 180, .inr (.inl (st1)))) → ws[56]? = some (ad 56, .inl (ca 1, 15, .inl (my1))) → ws[57]? = some (ad 57, .inl (ca 1, 300, .inl (ge1))) → ws[58]? = some (ad 58, .inl (ca 1, 720, .inl (fn1))) → lv_has ls 6 [(0, .ref (ad 52)), (1, .int (nI (g))), (2, .int (nI (t0))), (3, .int (nI (r))), (4, .int (nI (u)))] → va_P D classes ws H → va_D A ws → va_S A s.heap H locs → W p l e (mg_rm 5) s m args below meth c H locs 0 0 Q (F0 m 18 ls []) := by
          intro d
          induction d using Nat.strongRecOn with
          | _ d ih_inner =>
            intro u st1 my1 ge1 fn1 S1 G1 k1 ws H locs ls hd hmg hmt hsm hmin hpr hin hu hfm fs fy fg fnn hl hP hD hS
            have fx := (hfm (52) (by omega)).trans zx
            have fi := (hfm (53) (by omega)).trans zi
            refine lv_iload (pc := 18) C0.1 C0.2.1 d_MO_derive_18 (lv_at hl 4 rfl) ?_
            refine lv_aload_n (pc := 20) C0.1 C0.2.1 d_MO_derive_20 rfl (lv_at hl 0 rfl) ?_
            refine mg_get (pc := 21) C0 in_MO hK hP (52) fx rfl 7 (by decide) fl_MO_24 rfl d_MO_derive_21 ?_
            refine lv_iload_n (pc := 24) C0.1 C0.2.1 d_MO_derive_24 rfl (lv_at hl 1 rfl) ?_
            refine mg_ild (pc := 25) C0 hK hP (56) 1 fy rfl (j := g) (by omega) (by omega) d_MO_derive_25 ?_
            refine mg_top (show my1 (g) = nI (kG) from hmg.2.1) ?_
            refine mb_ge (pc := 26) (tgt := 89) C0 (by omega) (by omega) d_MO_derive_26 (by decide) (fun hc => ?_) (fun hc => ?_)
            · refine lv_iinc (pc := 89) (k := 3) (v := nI (r + 1)) (lv' := [(3, .int (nI (r + 1))), (0, .ref (ad 52)), (1, .int (nI (g))), (2, .int (nI (t0))), (4, .int (nI (u)))]) C0.1 C0.2.1 d_MO_derive_89 hl rfl (nb_p1 _) (by decide) rfl (fun ls hl => ?_)
              refine lv_goto (pc := 92) (tgt := 7) C0.1 C0.2.1 d_MO_derive_92 (by decide) ?_
              exact ih_outer _ (by omega) (r + 1) _ _ _ _ S1 G1 k1 _ _ _ _ rfl hmg hmt hsm hmin (fun x i hx hs9 hi => by
                by_cases e : x = r
                · subst e; exact hin hs9 i (by omega)
                · exact hpr x i (by omega) hs9 hi) (by omega) hfm fs fy fg fnn (lv_sub hl [1, 2, 3, 0] rfl) hP hD hS
            · have hu1 := hc
              refine lv_aload_n (pc := 29) C0.1 C0.2.1 d_MO_derive_29 rfl (lv_at hl 0 rfl) ?_
              refine lv_iload_n (pc := 30) C0.1 C0.2.1 d_MO_derive_30 rfl (lv_at hl 1 rfl) ?_
              refine lv_iload_n (pc := 31) C0.1 C0.2.1 d_MO_derive_31 rfl (lv_at hl 3 rfl) ?_
              refine mg_ci (pc := 32) (As := [.int (nI (g)), .int (nI (r))]) (rest := []) C0 (c_MO_has l D ca ad h2 h6 (by omega) hrN hmg.1 ws fx fs) lk_MO_57 (by decide) fx rfl hK hP hD hS hA rfl hl.1 rfl (Nat.le_of_ble_eq_true rfl) d_MO_derive_32 (fun rv ws1 H locs hpost hP hD hS => ?_)
              obtain ⟨hr1, hw⟩ := hpost
              rw [hw] at hP hD
              cases hs : SG r with
              | true =>
                  rw [hs, if_pos rfl] at hr1
                  refine mg_top (show rv = nI (1) from hr1) ?_
                  refine mz_eq (pc := 35) (tgt := 89) C0 (by decide) d_MO_derive_35 (by decide) (fun h9 => absurd h9 (by decide)) (fun _ => ?_)
                  have hGu := gp_gen_lt hgenG hu1
                  have hcm := gp_cml g0 hrN hGu
                  refine lv_aload_n (pc := 38) C0.1 C0.2.1 d_MO_derive_38 rfl (lv_at hl 0 rfl) ?_
                  refine mg_get (pc := 39) C0 in_MO hK hP (52) fx rfl 8 (by decide) fl_MO_27 rfl d_MO_derive_39 ?_
                  refine lv_bipush (pc := 42) (v := nI (20)) C0.1 C0.2.1 d_MO_derive_42 (by decide +kernel) ?_
                  refine lv_iload_n (pc := 44) C0.1 C0.2.1 d_MO_derive_44 rfl (lv_at hl 1 rfl) ?_
                  refine mn_mul (pc := 45) C0 d_MO_derive_45 ?_
                  refine lv_iload (pc := 46) C0.1 C0.2.1 d_MO_derive_46 (lv_at hl 4 rfl) ?_
                  refine mn_add (pc := 48) C0 d_MO_derive_48 ?_
                  refine mg_ild (pc := 49) C0 hK hP (57) 1 fg rfl (j := (20 * g) + u) (by omega) (by omega) d_MO_derive_49 ?_
                  refine mg_top (show ge1 ((20 * g) + u) = nI (GG u) from hmg.2.2.1 u hu1) ?_
                  refine lv_istore (pc := 50) (lv' := [(5, .int (nI (GG u))), (0, .ref (ad 52)), (1, .int (nI (g))), (2, .int (nI (t0))), (3, .int (nI (r))), (4, .int (nI (u)))]) C0.1 C0.2.1 d_MO_derive_50 hl (by decide) rfl (fun ls hl => ?_)
                  refine lv_aload_n (pc := 52) C0.1 C0.2.1 d_MO_derive_52 rfl (lv_at hl 1 rfl) ?_
                  refine lv_iload_n (pc := 53) C0.1 C0.2.1 d_MO_derive_53 rfl (lv_at hl 3 rfl) ?_
                  refine lv_aload_n (pc := 54) C0.1 C0.2.1 d_MO_derive_54 rfl (lv_at hl 1 rfl) ?_
                  refine lv_aload_n (pc := 55) C0.1 C0.2.1 d_MO_derive_55 rfl (lv_at hl 1 rfl) ?_
                  refine lv_aload_n (pc := 56) C0.1 C0.2.1 d_MO_derive_56 rfl (lv_at hl 1 rfl) ?_
                  refine lv_iload_n (pc := 57) C0.1 C0.2.1 d_MO_derive_57 rfl (lv_at hl 4 rfl) ?_
                  refine mg_ci (pc := 58) (As := [.int (nI (r))]) (rest := [.ref (ad 52), .ref (ad 52), .int (nI (t0)), .ref (ad 52)]) C0 (c_MO_inverted l D ca ad h2 h6 him hrN ws fx fi) lk_MO_72 (by decide) fx rfl hK hP hD hS hA rfl hl.1 rfl (Nat.le_of_ble_eq_true rfl) d_MO_derive_58 (fun rv ws1 H locs hpost hP hD hS => ?_)
                  obtain ⟨hr1, hw⟩ := hpost
                  rw [hw] at hP hD
                  refine mg_top (show rv = nI (pm_iv n r) from hr1) ?_
                  refine lv_aload_n (pc := 61) C0.1 C0.2.1 d_MO_derive_61 rfl (lv_at hl 1 rfl) ?_
                  refine lv_iload (pc := 62) C0.1 C0.2.1 d_MO_derive_62 (lv_at hl 0 rfl) ?_
                  refine mg_ci (pc := 64) (As := [.int (nI (GG u))]) (rest := [.int (nI (pm_iv n r)), .ref (ad 52), .ref (ad 52), .int (nI (t0)), .ref (ad 52)]) C0 (c_MO_inverted l D ca ad h2 h6 him hGu ws fx fi) lk_MO_72 (by decide) fx rfl hK hP hD hS hA rfl hl.1 rfl (Nat.le_of_ble_eq_true rfl) d_MO_derive_64 (fun rv ws1 H locs hpost hP hD hS => ?_)
                  obtain ⟨hr1, hw⟩ := hpost
                  rw [hw] at hP hD
                  refine mg_top (show rv = nI (pm_iv n (GG u)) from hr1) ?_
                  refine mg_ci (pc := 67) (As := [.int (nI (pm_iv n r)), .int (nI (pm_iv n (GG u)))]) (rest := [.ref (ad 52), .int (nI (t0)), .ref (ad 52)]) C0 (c_MO_times l D ca ad h2 h6 him (gp_i g0 hrN) (gp_i g0 hGu) ws fx fi) lk_MO_64 (by decide) fx rfl hK hP hD hS hA rfl hl.1 rfl (Nat.le_of_ble_eq_true rfl) d_MO_derive_67 (fun rv ws1 H locs hpost hP hD hS => ?_)
                  obtain ⟨hr1, hw⟩ := hpost
                  rw [hw] at hP hD
                  refine mg_top (show rv = nI (pm_mu n (pm_iv n r) (pm_iv n (GG u))) from hr1) ?_
                  refine lv_aload_n (pc := 70) C0.1 C0.2.1 d_MO_derive_70 rfl (lv_at hl 1 rfl) ?_
                  refine lv_iload_n (pc := 71) C0.1 C0.2.1 d_MO_derive_71 rfl (lv_at hl 4 rfl) ?_
                  refine lv_iload (pc := 72) C0.1 C0.2.1 d_MO_derive_72 (lv_at hl 0 rfl) ?_
                  refine mg_ci (pc := 74) (As := [.int (nI (r)), .int (nI (GG u))]) (rest := [.int (nI (pm_mu n (pm_iv n r) (pm_iv n (GG u)))), .ref (ad 52), .int (nI (t0)), .ref (ad 52)]) C0 (c_MO_times l D ca ad h2 h6 him hrN hGu ws fx fi) lk_MO_64 (by decide) fx rfl hK hP hD hS hA rfl hl.1 rfl (Nat.le_of_ble_eq_true rfl) d_MO_derive_74 (fun rv ws1 H locs hpost hP hD hS => ?_)
                  obtain ⟨hr1, hw⟩ := hpost
                  rw [hw] at hP hD
                  refine mg_top (show rv = nI (pm_mu n r (GG u)) from hr1) ?_
                  refine mg_ci (pc := 77) (As := [.int (nI (pm_mu n (pm_iv n r) (pm_iv n (GG u)))), .int (nI (pm_mu n r (GG u)))]) (rest := [.int (nI (t0)), .ref (ad 52)]) C0 (c_MO_times l D ca ad h2 h6 him (gp_m g0 (gp_i g0 hrN) (gp_i g0 hGu)) (gp_m g0 hrN hGu) ws fx fi) lk_MO_64 (by decide) fx rfl hK hP hD hS hA rfl hl.1 rfl (Nat.le_of_ble_eq_true rfl) d_MO_derive_77 (fun rv ws1 H locs hpost hP hD hS => ?_)
                  obtain ⟨hr1, hw⟩ := hpost
                  rw [hw] at hP hD
                  refine mg_top (show rv = nI (ga_cm (pm_mu n) (pm_iv n) r (GG u)) from hr1) ?_
                  refine mg_cv (pc := 80) (As := [.int (nI (t0)), .int (nI (ga_cm (pm_mu n) (pm_iv n) r (GG u)))]) (rest := []) C0 (c_MO_enlarge l D ca ad h2 h6 him ht14 hcm hmt ws fx fi fs fy fg fnn) lk_MO_78 (by decide) fx rfl hK hP hD hS hA rfl hl.1 rfl (Nat.le_of_ble_eq_true rfl) d_MO_derive_80 (fun ws H locs hpost hP hD hS => ?_)
                  obtain ⟨hfr, st3, my3, ge3, fn3, fs, fy, fg, fnn, hsm3, S2, G2, k2, hmt2, hext⟩ := hpost
                  have fx := (hfr (52) (by omega)).trans fx
                  have fi := (hfr (53) (by omega)).trans fi
                  have hfm : ∀ j, j ≠ 55 ∧ j ≠ 56 ∧ j ≠ 57 ∧ j ≠ 58 → ws[j]? = ws0[j]? := fun j hj => (hfr j (by omega)).trans (hfm j hj)
                  refine lv_iinc (pc := 83) (k := 5) (v := nI (u + 1)) (lv' := [(4, .int (nI (u + 1))), (5, .int (nI (GG u))), (0, .ref (ad 52)), (1, .int (nI (g))), (2, .int (nI (t0))), (3, .int (nI (r)))]) C0.1 C0.2.1 d_MO_derive_83 hl rfl (nb_p1 _) (by decide) rfl (fun ls hl => ?_)
                  refine lv_goto (pc := 86) (tgt := 18) C0.1 C0.2.1 d_MO_derive_86 (by decide) ?_
                  exact ih_inner _ (by omega) (u + 1) st3 my3 ge3 fn3 S2 G2 k2 _ _ _ _ rfl (mo_g_fr h6 hsm3 hgt (by omega) (by omega) hmg) hmt2 (mo_smt hsm hsm3) (fun U hU hv => hext.2.2.2 U hU (hmin U hU hv) (hv r u hs hu1)) (fun x i hx hs9 hi => hext.2.1 _ (hpr x i hx hs9 hi)) (fun hs9 i hi => by
                    by_cases e : i = u
                    · subst e; exact hext.2.2.1
                    · exact hext.2.1 _ (hin hs9 i (by omega))) (by omega) hfm fs fy fg fnn (lv_sub hl [2, 3, 4, 5, 0] rfl) hP hD hS
              | false =>
                  rw [hs, if_neg (by decide)] at hr1
                  refine mg_top (show rv = nI (0) from hr1) ?_
                  refine mz_eq (pc := 35) (tgt := 89) C0 (by decide) d_MO_derive_35 (by decide) (fun _ => ?_) (fun h9 => absurd rfl h9)
                  refine lv_iinc (pc := 89) (k := 3) (v := nI (r + 1)) (lv' := [(3, .int (nI (r + 1))), (0, .ref (ad 52)), (1, .int (nI (g))), (2, .int (nI (t0))), (4, .int (nI (u)))]) C0.1 C0.2.1 d_MO_derive_89 hl rfl (nb_p1 _) (by decide) rfl (fun ls hl => ?_)
                  refine lv_goto (pc := 92) (tgt := 7) C0.1 C0.2.1 d_MO_derive_92 (by decide) ?_
                  exact ih_outer _ (by omega) (r + 1) _ _ _ _ S1 G1 k1 _ _ _ _ rfl hmg hmt hsm hmin (fun x i hx hs9 hi => by
                    by_cases e : x = r
                    · subst e; rw [hs] at hs9; exact absurd hs9 (by decide)
                    · exact hpr x i (by omega) hs9 hi) (by omega) hfm fs fy fg fnn (lv_sub hl [1, 2, 3, 0] rfl) hP hD hS
        exact inner _ 0 _ _ _ _ S1 G1 k1 _ _ _ _ rfl hmg hmt hsm hmin hpr (fun _ i hi => absurd hi (by omega)) (by omega) hfm fs fy fg fnn (lv_sub hl [1, 2, 3, 4, 0] rfl) hP hD hS
  exact outer _ 0 st2 _ _ _ su_one (fun _ => 0) 0 _ _ _ _ rfl (mo_g_fr h6 hsm2 hgt (by omega) (by omega) hmg) hmt hsm2 (fun U hU _ x hx => by
    rw [(su_one_iff x).mp hx]; exact hU.1) (fun x i hx => absurd hx (by omega)) (by omega) hfm fs fy fg fnn (lv_sub hl [1, 2, 3, 0] rfl) hP hD hS
