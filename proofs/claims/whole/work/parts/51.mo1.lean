/-! The reference: contracts, numbers and questions -/
set_option maxHeartbeats 4000000 in
set_option maxRecDepth 100000 in
theorem c_MO_in (l : Launch) (D : va_G) (ca : Nat → ClassId) (ad : Nat → Nat) {x lo hi : Int32} (ws0 : va_W) : mg_I l y_MO_in b_MO_in 3 (.boolean) 1 D classes (tys_ ca) [.int (x), .int (lo), .int (hi)] ws0 (fun v w => ((x < lo ∨ hi < x) ∧ v = nI 0 ∨ (¬ x < lo ∧ ¬ hi < x) ∧ v = nI 1) ∧ w = ws0) := by
  refine mg_openI (own := R_MO) rfl (by decide) (Nat.le_of_ble_eq_true rfl) ?_
  intro p e s m args below meth c A Q ls C0 hK hA hP hD hS hl hret
  have hl : lv_has ls 3 [(0, .int (x)), (1, .int (lo)), (2, .int (hi))] := hl
  refine lv_iload_n (pc := 0) C0.1 C0.2.1 d_MO_in_0 rfl (lv_at hl 0 rfl) ?_
  refine lv_iload_n (pc := 1) C0.1 C0.2.1 d_MO_in_1 rfl (lv_at hl 1 rfl) ?_
  refine lv_icmp_lt (pc := 2) (tgt := 14) C0.1 C0.2.1 d_MO_in_2 (by decide) (fun hc => ?_) (fun hc => ?_)
  · refine lv_iconst (pc := 14) (v := nI (0)) C0.1 C0.2.1 d_MO_in_14 (by decide +kernel) ?_
    exact hret _ _ _ _ 15 _ (rfl) (⟨Or.inl ⟨Or.inl hc, rfl⟩, rfl⟩) hP hD hS d_MO_in_15
  · refine lv_iload_n (pc := 5) C0.1 C0.2.1 d_MO_in_5 rfl (lv_at hl 0 rfl) ?_
    refine lv_iload_n (pc := 6) C0.1 C0.2.1 d_MO_in_6 rfl (lv_at hl 2 rfl) ?_
    refine lv_icmp_gt (pc := 7) (tgt := 14) C0.1 C0.2.1 d_MO_in_7 (by decide) (fun hc2 => ?_) (fun hc2 => ?_)
    · refine lv_iconst (pc := 14) (v := nI (0)) C0.1 C0.2.1 d_MO_in_14 (by decide +kernel) ?_
      exact hret _ _ _ _ 15 _ (rfl) (⟨Or.inl ⟨Or.inr hc2, rfl⟩, rfl⟩) hP hD hS d_MO_in_15
    · refine lv_iconst (pc := 10) (v := nI (1)) C0.1 C0.2.1 d_MO_in_10 (by decide +kernel) ?_
      refine lv_goto (pc := 11) (tgt := 15) C0.1 C0.2.1 d_MO_in_11 (by decide) ?_
      exact hret _ _ _ _ 15 _ (rfl) (⟨Or.inr ⟨⟨hc, hc2⟩, rfl⟩, rfl⟩) hP hD hS d_MO_in_15
set_option maxHeartbeats 4000000 in
set_option maxRecDepth 100000 in
theorem c_MO_imagesOf (l : Launch) (D : va_G) (ca : Nat → ClassId) (ad : Nat → Nat) {n : Nat} (h2 : 2 ≤ n) (h6 : n ≤ 6) {pcx gcx lenx : Int32} {r : Nat} (hr : r < pm_fc n) (ws0 : va_W) (zx : ws0[52]? = some (ad 52, .inr (4, [.int (nI (n)), .int (nI (pm_fc n)), .ref (ad 53), .int (pcx), .ref (ad 54), .int (gcx), .ref (ad 55), .ref (ad 56), .ref (ad 57), .ref (ad 58), .ref (ad 59), .int (lenx)]))) : mg_I l y_MO_imagesOf b_MO_imagesOf 9 (.int) 1 D classes (tys_ ca) [.ref (ad 52), .int (nI (r))] ws0 (fun v w => v = nI (qk_p (pm_im n r) n) ∧ w = ws0) := by
  refine mg_openI (own := R_MO) rfl (by decide) (Nat.le_of_ble_eq_true rfl) ?_
  intro p e s m args below meth c A Q ls C0 hK hA hP hD hS hl hret
  have hl : lv_has ls 9 [(0, .ref (ad 52)), (1, .int (nI (r)))] := hl
  have fx := zx
  have hN := pm_fc_le h6
  have hr0 : r % pm_fc n = r := Nat.mod_eq_of_lt hr
  refine lv_iload_n (pc := 0) C0.1 C0.2.1 d_MO_imagesOf_0 rfl (lv_at hl 1 rfl) ?_
  refine lv_istore_n (pc := 1) (lv' := [(2, .int (nI (r))), (0, .ref (ad 52)), (1, .int (nI (r)))]) C0.1 C0.2.1 d_MO_imagesOf_1 rfl hl (by decide) rfl (fun ls hl => ?_)
  refine lv_aload_n (pc := 2) C0.1 C0.2.1 d_MO_imagesOf_2 rfl (lv_at hl 1 rfl) ?_
  refine mg_get (pc := 3) C0 in_MO hK hP (52) fx rfl 1 (by decide) fl_MO_39 rfl d_MO_imagesOf_3 ?_
  refine lv_istore_n (pc := 6) (lv' := [(3, .int (nI (pm_fc n))), (2, .int (nI (r))), (0, .ref (ad 52)), (1, .int (nI (r)))]) C0.1 C0.2.1 d_MO_imagesOf_6 rfl hl (by decide) rfl (fun ls hl => ?_)
  refine lv_iconst (pc := 7) (v := nI (0)) C0.1 C0.2.1 d_MO_imagesOf_7 (by decide +kernel) ?_
  refine lv_istore (pc := 8) (lv' := [(4, .int (nI (0))), (3, .int (nI (pm_fc n))), (2, .int (nI (r))), (0, .ref (ad 52)), (1, .int (nI (r)))]) C0.1 C0.2.1 d_MO_imagesOf_8 hl (by decide) rfl (fun ls hl => ?_)
  refine lv_iconst (pc := 10) (v := nI (0)) C0.1 C0.2.1 d_MO_imagesOf_10 (by decide +kernel) ?_
  refine lv_istore (pc := 11) (lv' := [(5, .int (nI (0))), (4, .int (nI (0))), (3, .int (nI (pm_fc n))), (2, .int (nI (r))), (0, .ref (ad 52)), (1, .int (nI (r)))]) C0.1 C0.2.1 d_MO_imagesOf_11 hl (by decide) rfl (fun ls hl => ?_)
  refine lv_iconst (pc := 13) (v := nI (0)) C0.1 C0.2.1 d_MO_imagesOf_13 (by decide +kernel) ?_
  refine lv_istore (pc := 14) (lv' := [(6, .int (nI (0))), (5, .int (nI (0))), (4, .int (nI (0))), (3, .int (nI (pm_fc n))), (2, .int (nI (r))), (0, .ref (ad 52)), (1, .int (nI (r)))]) C0.1 C0.2.1 d_MO_imagesOf_14 hl (by decide) rfl (fun ls hl => ?_)
  have outer : ∀ (d : Nat) (x : Nat) (H : Heap) (locs : List Loc) (ls : Array Slot), n - x = d → (x ≤ n) → lv_has ls 9 [(0, .ref (ad 52)), (2, .int (nI (r % pm_fc (n - x)))), (3, .int (nI (pm_fc (n - x)))), (4, .int (nI (pm_us n r x))), (5, .int (nI (qk_p (pm_im n r) x))), (6, .int (nI (x)))] → va_P D classes ws0 H → va_D A ws0 → va_S A s.heap H locs → W p l e (mg_rm 1) s m args below meth c H locs 0 0 Q (F0 m 16 ls []) := by
    intro d
    induction d using Nat.strongRecOn with
    | _ d ih_outer =>
      intro x H locs ls hd hx hl hP hD hS
      refine lv_iload (pc := 16) C0.1 C0.2.1 d_MO_imagesOf_16 (lv_at hl 5 rfl) ?_
      refine lv_aload_n (pc := 18) C0.1 C0.2.1 d_MO_imagesOf_18 rfl (lv_at hl 0 rfl) ?_
      refine mg_get (pc := 19) C0 in_MO hK hP (52) fx rfl 0 (by decide) fl_MO_36 rfl d_MO_imagesOf_19 ?_
      refine mb_ge (pc := 22) (tgt := 132) C0 (by omega) (by omega) d_MO_imagesOf_22 (by decide) (fun hc => ?_) (fun hc => ?_)
      · have hxn : x = n := by omega
        subst hxn
        refine lv_iload (pc := 132) C0.1 C0.2.1 d_MO_imagesOf_132 (lv_at hl 4 rfl) ?_
        exact hret _ _ _ _ 134 _ (rfl) (⟨rfl, rfl⟩) hP hD hS d_MO_imagesOf_134
      · have hxn := hc
        have hf1 := pm_fc_le (n := n - x) (by omega)
        have hf2 := pm_fc_le (n := n - (x + 1)) (by omega)
        have hf3 := pm_fc_pos (n - (x + 1))
        have hu := pm_us_64 h2 h6 hr hx
        have hdg := pm_dg_lt (r := r) hxn
        have hmo := mo_im h2 h6 hr hxn
        have him := pm_lt h2 h6 hr hxn
        refine lv_iload_n (pc := 25) C0.1 C0.2.1 d_MO_imagesOf_25 rfl (lv_at hl 2 rfl) ?_
        refine lv_aload_n (pc := 26) C0.1 C0.2.1 d_MO_imagesOf_26 rfl (lv_at hl 0 rfl) ?_
        refine mg_get (pc := 27) C0 in_MO hK hP (52) fx rfl 0 (by decide) fl_MO_36 rfl d_MO_imagesOf_27 ?_
        refine lv_iload (pc := 30) C0.1 C0.2.1 d_MO_imagesOf_30 (lv_at hl 5 rfl) ?_
        refine mn_sub (pc := 32) C0 (by omega) d_MO_imagesOf_32 ?_
        refine mn_div (pc := 33) C0 (by omega) (by omega) (by omega) d_MO_imagesOf_33 ?_
        refine mg_top (show nI ((pm_fc (n - x)) / (n - x)) = nI (pm_fc (n - (x + 1))) from congrArg nI (mo_blk hxn)) ?_
        refine lv_istore_n (pc := 34) (lv' := [(3, .int (nI (pm_fc (n - (x + 1))))), (0, .ref (ad 52)), (2, .int (nI (r % pm_fc (n - x)))), (4, .int (nI (pm_us n r x))), (5, .int (nI (qk_p (pm_im n r) x))), (6, .int (nI (x)))]) C0.1 C0.2.1 d_MO_imagesOf_34 rfl hl (by decide) rfl (fun ls hl => ?_)
        refine lv_iload_n (pc := 35) C0.1 C0.2.1 d_MO_imagesOf_35 rfl (lv_at hl 2 rfl) ?_
        refine lv_iload_n (pc := 36) C0.1 C0.2.1 d_MO_imagesOf_36 rfl (lv_at hl 0 rfl) ?_
        refine mn_div (pc := 37) C0 (Nat.lt_of_le_of_lt (Nat.mod_le _ _) (by omega)) (hf3) (by omega) d_MO_imagesOf_37 ?_
        refine mg_top (show nI ((r % pm_fc (n - x)) / (pm_fc (n - (x + 1)))) = nI (pm_dg n r x) from congrArg nI (mo_lft hxn)) ?_
        refine lv_istore (pc := 38) (lv' := [(7, .int (nI (pm_dg n r x))), (3, .int (nI (pm_fc (n - (x + 1))))), (0, .ref (ad 52)), (2, .int (nI (r % pm_fc (n - x)))), (4, .int (nI (pm_us n r x))), (5, .int (nI (qk_p (pm_im n r) x))), (6, .int (nI (x)))]) C0.1 C0.2.1 d_MO_imagesOf_38 hl (by decide) rfl (fun ls hl => ?_)
        refine lv_iload_n (pc := 40) C0.1 C0.2.1 d_MO_imagesOf_40 rfl (lv_at hl 3 rfl) ?_
        refine lv_iload_n (pc := 41) C0.1 C0.2.1 d_MO_imagesOf_41 rfl (lv_at hl 1 rfl) ?_
        refine mn_rem (pc := 42) C0 (Nat.lt_of_le_of_lt (Nat.mod_le _ _) (by omega)) (hf3) (by omega) d_MO_imagesOf_42 ?_
        refine mg_top (show nI ((r % pm_fc (n - x)) % (pm_fc (n - (x + 1)))) = nI (r % pm_fc (n - (x + 1))) from congrArg nI (mo_rst hxn)) ?_
        refine lv_istore_n (pc := 43) (lv' := [(2, .int (nI (r % pm_fc (n - (x + 1))))), (7, .int (nI (pm_dg n r x))), (3, .int (nI (pm_fc (n - (x + 1))))), (0, .ref (ad 52)), (4, .int (nI (pm_us n r x))), (5, .int (nI (qk_p (pm_im n r) x))), (6, .int (nI (x)))]) C0.1 C0.2.1 d_MO_imagesOf_43 rfl hl (by decide) rfl (fun ls hl => ?_)
        refine lv_iconst (pc := 44) (v := nI (0)) C0.1 C0.2.1 d_MO_imagesOf_44 (by decide +kernel) ?_
        refine lv_istore (pc := 45) (lv' := [(8, .int (nI (0))), (2, .int (nI (r % pm_fc (n - (x + 1))))), (7, .int (nI (pm_dg n r x))), (3, .int (nI (pm_fc (n - (x + 1))))), (0, .ref (ad 52)), (4, .int (nI (pm_us n r x))), (5, .int (nI (qk_p (pm_im n r) x))), (6, .int (nI (x)))]) C0.1 C0.2.1 d_MO_imagesOf_45 hl (by decide) rfl (fun ls hl => ?_)
        have inner : ∀ (d : Nat) (le : Nat) (y : Nat) (H : Heap) (locs : List Loc) (ls : Array Slot), n - y = d → (le < 64) → (y ≤ n - 1) → (mo_w (pm_us n r x) n (n - y) le y = pm_im n r x) → lv_has ls 9 [(0, .ref (ad 52)), (2, .int (nI (r % pm_fc (n - (x + 1))))), (3, .int (nI (pm_fc (n - (x + 1))))), (4, .int (nI (pm_us n r x))), (5, .int (nI (qk_p (pm_im n r) x))), (6, .int (nI (x))), (7, .int (nI (le))), (8, .int (nI (y)))] → va_P D classes ws0 H → va_D A ws0 → va_S A s.heap H locs → W p l e (mg_rm 1) s m args below meth c H locs 0 0 Q (F0 m 47 ls []) := by
          intro d
          induction d using Nat.strongRecOn with
          | _ d ih_inner =>
            intro le y H locs ls hd hle hy hw hl hP hD hS
            obtain ⟨f, hf⟩ : ∃ f, n - y = f + 1 := ⟨n - y - 1, by omega⟩
            have hf9 : n - (y + 1) = f := by omega
            rw [hf] at hw
            refine lv_iload (pc := 47) C0.1 C0.2.1 d_MO_imagesOf_47 (lv_at hl 7 rfl) ?_
            refine lv_aload_n (pc := 49) C0.1 C0.2.1 d_MO_imagesOf_49 rfl (lv_at hl 0 rfl) ?_
            refine mg_get (pc := 50) C0 in_MO hK hP (52) fx rfl 0 (by decide) fl_MO_36 rfl d_MO_imagesOf_50 ?_
            refine lv_iconst (pc := 53) (v := nI (1)) C0.1 C0.2.1 d_MO_imagesOf_53 (by decide +kernel) ?_
            refine mn_sub (pc := 54) C0 (by omega) d_MO_imagesOf_54 ?_
            refine mb_ge (pc := 55) (tgt := 105) C0 (by omega) (by omega) d_MO_imagesOf_55 (by decide) (fun hc => ?_) (fun hc => ?_)
            · rw [mo_w0 (fun h9 => absurd h9.1 (by omega))] at hw
              subst hw
              refine lv_iload (pc := 105) C0.1 C0.2.1 d_MO_imagesOf_105 (lv_at hl 3 rfl) ?_
              refine lv_iconst (pc := 107) (v := nI (1)) C0.1 C0.2.1 d_MO_imagesOf_107 (by decide +kernel) ?_
              refine lv_iload (pc := 108) C0.1 C0.2.1 d_MO_imagesOf_108 (lv_at hl 7 rfl) ?_
              refine mn_shl1 (pc := 110) C0 (by omega) d_MO_imagesOf_110 ?_
              refine mn_or (pc := 111) C0 d_MO_imagesOf_111 ?_
              refine lv_istore (pc := 112) (lv' := [(4, .int (nI ((pm_us n r x) ||| (2 ^ (pm_im n r x))))), (0, .ref (ad 52)), (2, .int (nI (r % pm_fc (n - (x + 1))))), (3, .int (nI (pm_fc (n - (x + 1))))), (5, .int (nI (qk_p (pm_im n r) x))), (6, .int (nI (x))), (7, .int (nI (le))), (8, .int (nI (pm_im n r x)))]) C0.1 C0.2.1 d_MO_imagesOf_112 hl (by decide) rfl (fun ls hl => ?_)
              refine lv_iload (pc := 114) C0.1 C0.2.1 d_MO_imagesOf_114 (lv_at hl 4 rfl) ?_
              refine lv_iload (pc := 116) C0.1 C0.2.1 d_MO_imagesOf_116 (lv_at hl 7 rfl) ?_
              refine lv_iconst (pc := 118) (v := nI (3)) C0.1 C0.2.1 d_MO_imagesOf_118 (by decide +kernel) ?_
              refine lv_iload (pc := 119) C0.1 C0.2.1 d_MO_imagesOf_119 (lv_at hl 5 rfl) ?_
              refine mn_mul (pc := 121) C0 d_MO_imagesOf_121 ?_
              refine mn_shl (pc := 122) C0 (by omega) (mo_sh (by omega) (by omega)) d_MO_imagesOf_122 ?_
              refine mn_or (pc := 123) C0 d_MO_imagesOf_123 ?_
              refine lv_istore (pc := 124) (lv' := [(5, .int (nI ((qk_p (pm_im n r) x) ||| ((pm_im n r x) * 2 ^ (3 * x))))), (4, .int (nI ((pm_us n r x) ||| (2 ^ (pm_im n r x))))), (0, .ref (ad 52)), (2, .int (nI (r % pm_fc (n - (x + 1))))), (3, .int (nI (pm_fc (n - (x + 1))))), (6, .int (nI (x))), (7, .int (nI (le))), (8, .int (nI (pm_im n r x)))]) C0.1 C0.2.1 d_MO_imagesOf_124 hl (by decide) rfl (fun ls hl => ?_)
              refine lv_iinc (pc := 126) (k := 5) (v := nI (x + 1)) (lv' := [(6, .int (nI (x + 1))), (5, .int (nI ((qk_p (pm_im n r) x) ||| ((pm_im n r x) * 2 ^ (3 * x))))), (4, .int (nI ((pm_us n r x) ||| (2 ^ (pm_im n r x))))), (0, .ref (ad 52)), (2, .int (nI (r % pm_fc (n - (x + 1))))), (3, .int (nI (pm_fc (n - (x + 1))))), (7, .int (nI (le))), (8, .int (nI (pm_im n r x)))]) C0.1 C0.2.1 d_MO_imagesOf_126 hl rfl (nb_p1 _) (by decide) rfl (fun ls hl => ?_)
              refine lv_goto (pc := 129) (tgt := 16) C0.1 C0.2.1 d_MO_imagesOf_129 (by decide) ?_
              exact ih_outer _ (by omega) (x + 1) _ _ _ rfl (by omega) (lv_sub hl [3, 4, 5, 2, 1, 0] rfl) hP hD hS
            · have hy1 := hc
              refine lv_iload (pc := 58) C0.1 C0.2.1 d_MO_imagesOf_58 (lv_at hl 6 rfl) ?_
              refine mz_gt (pc := 60) (tgt := 74) C0 (by omega) d_MO_imagesOf_60 (by decide) (fun hle0 => ?_) (fun hle0 => ?_)
              · refine lv_iload (pc := 74) C0.1 C0.2.1 d_MO_imagesOf_74 (lv_at hl 3 rfl) ?_
                refine lv_iload (pc := 76) C0.1 C0.2.1 d_MO_imagesOf_76 (lv_at hl 7 rfl) ?_
                refine mn_shr (pc := 78) C0 (by omega) (by omega) d_MO_imagesOf_78 ?_
                refine lv_iconst (pc := 79) (v := nI (1)) C0.1 C0.2.1 d_MO_imagesOf_79 (by decide +kernel) ?_
                refine mn_bit (pc := 80) C0 d_MO_imagesOf_80 ?_
                refine lv_iconst (pc := 81) (v := nI (1)) C0.1 C0.2.1 d_MO_imagesOf_81 (by decide +kernel) ?_
                refine mb_ne (pc := 82) (tgt := 90) C0 (by omega) (by omega) d_MO_imagesOf_82 (by decide) (fun hb2 => ?_) (fun hb2 => ?_)
                · have hbb : (pm_us n r x).testBit y = false := by
                    cases h9 : (pm_us n r x).testBit y with
                    | false => rfl
                    | true => exact absurd (nb_tb1.mpr h9) hb2
                  refine lv_iload (pc := 90) C0.1 C0.2.1 d_MO_imagesOf_90 (lv_at hl 6 rfl) ?_
                  refine lv_iconst (pc := 92) (v := nI (1)) C0.1 C0.2.1 d_MO_imagesOf_92 (by decide +kernel) ?_
                  refine mn_sub (pc := 93) C0 (by omega) d_MO_imagesOf_93 ?_
                  refine lv_istore (pc := 94) (lv' := [(7, .int (nI (le - 1))), (0, .ref (ad 52)), (2, .int (nI (r % pm_fc (n - (x + 1))))), (3, .int (nI (pm_fc (n - (x + 1))))), (4, .int (nI (pm_us n r x))), (5, .int (nI (qk_p (pm_im n r) x))), (6, .int (nI (x))), (8, .int (nI (y)))]) C0.1 C0.2.1 d_MO_imagesOf_94 hl (by decide) rfl (fun ls hl => ?_)
                  refine lv_iload (pc := 96) C0.1 C0.2.1 d_MO_imagesOf_96 (lv_at hl 7 rfl) ?_
                  refine lv_iconst (pc := 98) (v := nI (1)) C0.1 C0.2.1 d_MO_imagesOf_98 (by decide +kernel) ?_
                  refine mn_add (pc := 99) C0 d_MO_imagesOf_99 ?_
                  refine lv_istore (pc := 100) (lv' := [(8, .int (nI (y + 1))), (7, .int (nI (le - 1))), (0, .ref (ad 52)), (2, .int (nI (r % pm_fc (n - (x + 1))))), (3, .int (nI (pm_fc (n - (x + 1))))), (4, .int (nI (pm_us n r x))), (5, .int (nI (qk_p (pm_im n r) x))), (6, .int (nI (x)))]) C0.1 C0.2.1 d_MO_imagesOf_100 hl (by decide) rfl (fun ls hl => ?_)
                  refine lv_goto (pc := 102) (tgt := 47) C0.1 C0.2.1 d_MO_imagesOf_102 (by decide) ?_
                  exact ih_inner _ (by omega) (le - 1) (y + 1) _ _ _ rfl (by omega) (by omega) (by
                    rw [mo_w1 hy1 (Or.inl hle0)] at hw
                    rw [hf9]
                    rw [hbb] at hw
                    exact hw) (lv_sub hl [2, 3, 4, 5, 6, 7, 1, 0] rfl) hP hD hS
                · have hbb : (pm_us n r x).testBit y = true := nb_tb1.mp hb2
                  refine lv_iload (pc := 85) C0.1 C0.2.1 d_MO_imagesOf_85 (lv_at hl 6 rfl) ?_
                  refine lv_goto (pc := 87) (tgt := 94) C0.1 C0.2.1 d_MO_imagesOf_87 (by decide) ?_
                  refine lv_istore (pc := 94) (lv' := [(7, .int (nI (le))), (0, .ref (ad 52)), (2, .int (nI (r % pm_fc (n - (x + 1))))), (3, .int (nI (pm_fc (n - (x + 1))))), (4, .int (nI (pm_us n r x))), (5, .int (nI (qk_p (pm_im n r) x))), (6, .int (nI (x))), (8, .int (nI (y)))]) C0.1 C0.2.1 d_MO_imagesOf_94 hl (by decide) rfl (fun ls hl => ?_)
                  refine lv_iload (pc := 96) C0.1 C0.2.1 d_MO_imagesOf_96 (lv_at hl 7 rfl) ?_
                  refine lv_iconst (pc := 98) (v := nI (1)) C0.1 C0.2.1 d_MO_imagesOf_98 (by decide +kernel) ?_
                  refine mn_add (pc := 99) C0 d_MO_imagesOf_99 ?_
                  refine lv_istore (pc := 100) (lv' := [(8, .int (nI (y + 1))), (7, .int (nI (le))), (0, .ref (ad 52)), (2, .int (nI (r % pm_fc (n - (x + 1))))), (3, .int (nI (pm_fc (n - (x + 1))))), (4, .int (nI (pm_us n r x))), (5, .int (nI (qk_p (pm_im n r) x))), (6, .int (nI (x)))]) C0.1 C0.2.1 d_MO_imagesOf_100 hl (by decide) rfl (fun ls hl => ?_)
                  refine lv_goto (pc := 102) (tgt := 47) C0.1 C0.2.1 d_MO_imagesOf_102 (by decide) ?_
                  exact ih_inner _ (by omega) le (y + 1) _ _ _ rfl (by omega) (by omega) (by
                    rw [mo_w1 hy1 (Or.inl hle0)] at hw
                    rw [hf9]
                    rw [hbb] at hw
                    exact hw) (lv_sub hl [2, 3, 4, 5, 6, 7, 1, 0] rfl) hP hD hS
              · refine lv_iload (pc := 63) C0.1 C0.2.1 d_MO_imagesOf_63 (lv_at hl 3 rfl) ?_
                refine lv_iload (pc := 65) C0.1 C0.2.1 d_MO_imagesOf_65 (lv_at hl 7 rfl) ?_
                refine mn_shr (pc := 67) C0 (by omega) (by omega) d_MO_imagesOf_67 ?_
                refine lv_iconst (pc := 68) (v := nI (1)) C0.1 C0.2.1 d_MO_imagesOf_68 (by decide +kernel) ?_
                refine mn_bit (pc := 69) C0 d_MO_imagesOf_69 ?_
                refine lv_iconst (pc := 70) (v := nI (1)) C0.1 C0.2.1 d_MO_imagesOf_70 (by decide +kernel) ?_
                refine mb_ne (pc := 71) (tgt := 105) C0 (by omega) (by omega) d_MO_imagesOf_71 (by decide) (fun hb1 => ?_) (fun hb1 => ?_)
                · have hbit : (pm_us n r x).testBit y = false := by
                    cases h9 : (pm_us n r x).testBit y with
                    | false => rfl
                    | true => exact absurd (nb_tb1.mpr h9) hb1
                  rw [mo_w0 (fun h9 => h9.2.elim (fun h8 => absurd h8 (by omega)) (fun h8 => by rw [hbit] at h8; exact absurd h8 (by decide)))] at hw
                  subst hw
                  refine lv_iload (pc := 105) C0.1 C0.2.1 d_MO_imagesOf_105 (lv_at hl 3 rfl) ?_
                  refine lv_iconst (pc := 107) (v := nI (1)) C0.1 C0.2.1 d_MO_imagesOf_107 (by decide +kernel) ?_
                  refine lv_iload (pc := 108) C0.1 C0.2.1 d_MO_imagesOf_108 (lv_at hl 7 rfl) ?_
                  refine mn_shl1 (pc := 110) C0 (by omega) d_MO_imagesOf_110 ?_
                  refine mn_or (pc := 111) C0 d_MO_imagesOf_111 ?_
                  refine lv_istore (pc := 112) (lv' := [(4, .int (nI ((pm_us n r x) ||| (2 ^ (pm_im n r x))))), (0, .ref (ad 52)), (2, .int (nI (r % pm_fc (n - (x + 1))))), (3, .int (nI (pm_fc (n - (x + 1))))), (5, .int (nI (qk_p (pm_im n r) x))), (6, .int (nI (x))), (7, .int (nI (le))), (8, .int (nI (pm_im n r x)))]) C0.1 C0.2.1 d_MO_imagesOf_112 hl (by decide) rfl (fun ls hl => ?_)
                  refine lv_iload (pc := 114) C0.1 C0.2.1 d_MO_imagesOf_114 (lv_at hl 4 rfl) ?_
                  refine lv_iload (pc := 116) C0.1 C0.2.1 d_MO_imagesOf_116 (lv_at hl 7 rfl) ?_
                  refine lv_iconst (pc := 118) (v := nI (3)) C0.1 C0.2.1 d_MO_imagesOf_118 (by decide +kernel) ?_
                  refine lv_iload (pc := 119) C0.1 C0.2.1 d_MO_imagesOf_119 (lv_at hl 5 rfl) ?_
                  refine mn_mul (pc := 121) C0 d_MO_imagesOf_121 ?_
                  refine mn_shl (pc := 122) C0 (by omega) (mo_sh (by omega) (by omega)) d_MO_imagesOf_122 ?_
                  refine mn_or (pc := 123) C0 d_MO_imagesOf_123 ?_
                  refine lv_istore (pc := 124) (lv' := [(5, .int (nI ((qk_p (pm_im n r) x) ||| ((pm_im n r x) * 2 ^ (3 * x))))), (4, .int (nI ((pm_us n r x) ||| (2 ^ (pm_im n r x))))), (0, .ref (ad 52)), (2, .int (nI (r % pm_fc (n - (x + 1))))), (3, .int (nI (pm_fc (n - (x + 1))))), (6, .int (nI (x))), (7, .int (nI (le))), (8, .int (nI (pm_im n r x)))]) C0.1 C0.2.1 d_MO_imagesOf_124 hl (by decide) rfl (fun ls hl => ?_)
                  refine lv_iinc (pc := 126) (k := 5) (v := nI (x + 1)) (lv' := [(6, .int (nI (x + 1))), (5, .int (nI ((qk_p (pm_im n r) x) ||| ((pm_im n r x) * 2 ^ (3 * x))))), (4, .int (nI ((pm_us n r x) ||| (2 ^ (pm_im n r x))))), (0, .ref (ad 52)), (2, .int (nI (r % pm_fc (n - (x + 1))))), (3, .int (nI (pm_fc (n - (x + 1))))), (7, .int (nI (le))), (8, .int (nI (pm_im n r x)))]) C0.1 C0.2.1 d_MO_imagesOf_126 hl rfl (nb_p1 _) (by decide) rfl (fun ls hl => ?_)
                  refine lv_goto (pc := 129) (tgt := 16) C0.1 C0.2.1 d_MO_imagesOf_129 (by decide) ?_
                  exact ih_outer _ (by omega) (x + 1) _ _ _ rfl (by omega) (lv_sub hl [3, 4, 5, 2, 1, 0] rfl) hP hD hS
                · have hbit : (pm_us n r x).testBit y = true := nb_tb1.mp hb1
                  refine lv_iload (pc := 74) C0.1 C0.2.1 d_MO_imagesOf_74 (lv_at hl 3 rfl) ?_
                  refine lv_iload (pc := 76) C0.1 C0.2.1 d_MO_imagesOf_76 (lv_at hl 7 rfl) ?_
                  refine mn_shr (pc := 78) C0 (by omega) (by omega) d_MO_imagesOf_78 ?_
                  refine lv_iconst (pc := 79) (v := nI (1)) C0.1 C0.2.1 d_MO_imagesOf_79 (by decide +kernel) ?_
                  refine mn_bit (pc := 80) C0 d_MO_imagesOf_80 ?_
                  refine lv_iconst (pc := 81) (v := nI (1)) C0.1 C0.2.1 d_MO_imagesOf_81 (by decide +kernel) ?_
                  refine mb_ne (pc := 82) (tgt := 90) C0 (by omega) (by omega) d_MO_imagesOf_82 (by decide) (fun hb2 => ?_) (fun hb2 => ?_)
                  · have hbb : (pm_us n r x).testBit y = false := by
                      cases h9 : (pm_us n r x).testBit y with
                      | false => rfl
                      | true => exact absurd (nb_tb1.mpr h9) hb2
                    rw [hbb] at hbit; exact absurd hbit (by decide)
                  · have hbb : (pm_us n r x).testBit y = true := nb_tb1.mp hb2
                    refine lv_iload (pc := 85) C0.1 C0.2.1 d_MO_imagesOf_85 (lv_at hl 6 rfl) ?_
                    refine lv_goto (pc := 87) (tgt := 94) C0.1 C0.2.1 d_MO_imagesOf_87 (by decide) ?_
                    refine lv_istore (pc := 94) (lv' := [(7, .int (nI (le))), (0, .ref (ad 52)), (2, .int (nI (r % pm_fc (n - (x + 1))))), (3, .int (nI (pm_fc (n - (x + 1))))), (4, .int (nI (pm_us n r x))), (5, .int (nI (qk_p (pm_im n r) x))), (6, .int (nI (x))), (8, .int (nI (y)))]) C0.1 C0.2.1 d_MO_imagesOf_94 hl (by decide) rfl (fun ls hl => ?_)
                    refine lv_iload (pc := 96) C0.1 C0.2.1 d_MO_imagesOf_96 (lv_at hl 7 rfl) ?_
                    refine lv_iconst (pc := 98) (v := nI (1)) C0.1 C0.2.1 d_MO_imagesOf_98 (by decide +kernel) ?_
                    refine mn_add (pc := 99) C0 d_MO_imagesOf_99 ?_
                    refine lv_istore (pc := 100) (lv' := [(8, .int (nI (y + 1))), (7, .int (nI (le))), (0, .ref (ad 52)), (2, .int (nI (r % pm_fc (n - (x + 1))))), (3, .int (nI (pm_fc (n - (x + 1))))), (4, .int (nI (pm_us n r x))), (5, .int (nI (qk_p (pm_im n r) x))), (6, .int (nI (x)))]) C0.1 C0.2.1 d_MO_imagesOf_100 hl (by decide) rfl (fun ls hl => ?_)
                    refine lv_goto (pc := 102) (tgt := 47) C0.1 C0.2.1 d_MO_imagesOf_102 (by decide) ?_
                    exact ih_inner _ (by omega) le (y + 1) _ _ _ rfl (by omega) (by omega) (by
                      rw [mo_w1 hy1 (Or.inr hbit)] at hw
                      rw [hf9]
                      rw [hbb] at hw
                      exact hw) (lv_sub hl [2, 3, 4, 5, 6, 7, 1, 0] rfl) hP hD hS
        exact inner _ (pm_dg n r x) 0 _ _ _ rfl (by omega) (by omega) hmo (lv_sub hl [4, 1, 3, 5, 6, 7, 2, 0] rfl) hP hD hS
  exact outer _ 0 _ _ _ rfl (by omega) (by rw [Nat.sub_zero, hr0]; exact lv_sub hl [5, 4, 3, 2, 1, 0] rfl) hP hD hS
set_option maxHeartbeats 4000000 in
set_option maxRecDepth 100000 in
theorem c_MO_image (l : Launch) (D : va_G) (ca : Nat → ClassId) (ad : Nat → Nat) {n : Nat} (h2 : 2 ≤ n) (h6 : n ≤ 6) {pcx gcx lenx : Int32} {im : Nat → Int32} (him : ∀ r, r < pm_fc n → im r = nI (qk_p (pm_im n r) n)) {r x : Nat} (hr : r < pm_fc n) (hx : x < n) (ws0 : va_W) (zx : ws0[52]? = some (ad 52, .inr (4, [.int (nI (n)), .int (nI (pm_fc n)), .ref (ad 53), .int (pcx), .ref (ad 54), .int (gcx), .ref (ad 55), .ref (ad 56), .ref (ad 57), .ref (ad 58), .ref (ad 59), .int (lenx)]))) (zi : ws0[53]? = some (ad 53, .inl (ca 1, 720, .inl (im)))) : mg_I l y_MO_image b_MO_image 3 (.int) 1 D classes (tys_ ca) [.ref (ad 52), .int (nI (r)), .int (nI (x))] ws0 (fun v w => v = nI (pm_im n r x) ∧ w = ws0) := by
  refine mg_openI (own := R_MO) rfl (by decide) (Nat.le_of_ble_eq_true rfl) ?_
  intro p e s m args below meth c A Q ls C0 hK hA hP hD hS hl hret
  have hl : lv_has ls 3 [(0, .ref (ad 52)), (1, .int (nI (r))), (2, .int (nI (x)))] := hl
  have fx := zx
  have fi := zi
  have hN := pm_fc_le h6
  have h8 : ∀ r, r < pm_fc n → ∀ x, x < n → pm_im n r x < 8 := fun r hr x hx => by have := pm_lt h2 h6 hr hx; omega
  refine lv_aload_n (pc := 0) C0.1 C0.2.1 d_MO_image_0 rfl (lv_at hl 0 rfl) ?_
  refine mg_get (pc := 1) C0 in_MO hK hP (52) fx rfl 2 (by decide) fl_MO_7 rfl d_MO_image_1 ?_
  refine lv_iload_n (pc := 4) C0.1 C0.2.1 d_MO_image_4 rfl (lv_at hl 1 rfl) ?_
  refine mg_ild (pc := 5) C0 hK hP (53) 1 fi rfl (j := r) (by omega) (by omega) d_MO_image_5 ?_
  refine mg_top (show im (r) = nI (qk_p (pm_im n r) n) from him r hr) ?_
  refine lv_iconst (pc := 6) (v := nI (3)) C0.1 C0.2.1 d_MO_image_6 (by decide +kernel) ?_
  refine lv_iload_n (pc := 7) C0.1 C0.2.1 d_MO_image_7 rfl (lv_at hl 2 rfl) ?_
  refine mn_mul (pc := 8) C0 d_MO_image_8 ?_
  refine mn_shr (pc := 9) C0 (mo_qlt h6 (h8 r hr)) (by omega) d_MO_image_9 ?_
  refine lv_bipush (pc := 10) (v := nI (7)) C0.1 C0.2.1 d_MO_image_10 (by decide +kernel) ?_
  refine mn_and (pc := 12) C0 d_MO_image_12 ?_
  refine mg_top (show nI (((qk_p (pm_im n r) n) / 2 ^ (3 * x)) &&& 7) = nI (pm_im n r x) from by rw [mo_and7, qk_dig (h8 r hr) hx]) ?_
  exact hret _ _ _ _ 13 _ (rfl) (⟨rfl, rfl⟩) hP hD hS d_MO_image_13
set_option maxHeartbeats 4000000 in
set_option maxRecDepth 100000 in
theorem c_MO_placeOf (l : Launch) (D : va_G) (ca : Nat → ClassId) (ad : Nat → Nat) {n : Nat} (h2 : 2 ≤ n) (h6 : n ≤ 6) {pcx gcx lenx : Int32} {P : Nat} {F : Nat → Nat} (hP0 : P < 2 ^ 31) (hdig : ∀ x, x < n → P / 2 ^ (3 * x) % 8 = F x) (hF : ∀ x, x < n → F x < n) (ws0 : va_W) (zx : ws0[52]? = some (ad 52, .inr (4, [.int (nI (n)), .int (nI (pm_fc n)), .ref (ad 53), .int (pcx), .ref (ad 54), .int (gcx), .ref (ad 55), .ref (ad 56), .ref (ad 57), .ref (ad 58), .ref (ad 59), .int (lenx)]))) : mg_I l y_MO_placeOf b_MO_placeOf 8 (.int) 1 D classes (tys_ ca) [.ref (ad 52), .int (nI (P))] ws0 (fun v w => v = nI (pm_rk n F) ∧ w = ws0) := by
  refine mg_openI (own := R_MO) rfl (by decide) (Nat.le_of_ble_eq_true rfl) ?_
  intro p e s m args below meth c A Q ls C0 hK hA hP hD hS hl hret
  have hl : lv_has ls 8 [(0, .ref (ad 52)), (1, .int (nI (P)))] := hl
  have fx := zx
  refine lv_iconst (pc := 0) (v := nI (0)) C0.1 C0.2.1 d_MO_placeOf_0 (by decide +kernel) ?_
  refine lv_istore_n (pc := 1) (lv' := [(2, .int (nI (0))), (0, .ref (ad 52)), (1, .int (nI (P)))]) C0.1 C0.2.1 d_MO_placeOf_1 rfl hl (by decide) rfl (fun ls hl => ?_)
  refine lv_iconst (pc := 2) (v := nI (0)) C0.1 C0.2.1 d_MO_placeOf_2 (by decide +kernel) ?_
  refine lv_istore_n (pc := 3) (lv' := [(3, .int (nI (0))), (2, .int (nI (0))), (0, .ref (ad 52)), (1, .int (nI (P)))]) C0.1 C0.2.1 d_MO_placeOf_3 rfl hl (by decide) rfl (fun ls hl => ?_)
  refine lv_iconst (pc := 4) (v := nI (0)) C0.1 C0.2.1 d_MO_placeOf_4 (by decide +kernel) ?_
  refine lv_istore (pc := 5) (lv' := [(4, .int (nI (0))), (3, .int (nI (0))), (2, .int (nI (0))), (0, .ref (ad 52)), (1, .int (nI (P)))]) C0.1 C0.2.1 d_MO_placeOf_5 hl (by decide) rfl (fun ls hl => ?_)
  have outer : ∀ (d : Nat) (x : Nat) (H : Heap) (locs : List Loc) (ls : Array Slot), n - x = d → (x ≤ n) → lv_has ls 8 [(0, .ref (ad 52)), (1, .int (nI (P))), (2, .int (nI (pm_rr n F x))), (3, .int (nI (pm_ru F x))), (4, .int (nI (x)))] → va_P D classes ws0 H → va_D A ws0 → va_S A s.heap H locs → W p l e (mg_rm 1) s m args below meth c H locs 0 0 Q (F0 m 7 ls []) := by
    intro d
    induction d using Nat.strongRecOn with
    | _ d ih_outer =>
      intro x H locs ls hd hx hl hP hD hS
      refine lv_iload (pc := 7) C0.1 C0.2.1 d_MO_placeOf_7 (lv_at hl 4 rfl) ?_
      refine lv_aload_n (pc := 9) C0.1 C0.2.1 d_MO_placeOf_9 rfl (lv_at hl 0 rfl) ?_
      refine mg_get (pc := 10) C0 in_MO hK hP (52) fx rfl 0 (by decide) fl_MO_36 rfl d_MO_placeOf_10 ?_
      refine mb_ge (pc := 13) (tgt := 84) C0 (by omega) (by omega) d_MO_placeOf_13 (by decide) (fun hc => ?_) (fun hc => ?_)
      · have hxn : x = n := by omega
        subst hxn
        refine lv_iload_n (pc := 84) C0.1 C0.2.1 d_MO_placeOf_84 rfl (lv_at hl 2 rfl) ?_
        exact hret _ _ _ _ 85 _ (rfl) (⟨rfl, rfl⟩) hP hD hS d_MO_placeOf_85
      · have hxn := hc
        have hFx := hF x hxn
        have hru := pm_ru_64 h6 hF hx
        refine lv_iload_n (pc := 16) C0.1 C0.2.1 d_MO_placeOf_16 rfl (lv_at hl 1 rfl) ?_
        refine lv_iconst (pc := 17) (v := nI (3)) C0.1 C0.2.1 d_MO_placeOf_17 (by decide +kernel) ?_
        refine lv_iload (pc := 18) C0.1 C0.2.1 d_MO_placeOf_18 (lv_at hl 4 rfl) ?_
        refine mn_mul (pc := 20) C0 d_MO_placeOf_20 ?_
        refine mn_shr (pc := 21) C0 (hP0) (by omega) d_MO_placeOf_21 ?_
        refine lv_bipush (pc := 22) (v := nI (7)) C0.1 C0.2.1 d_MO_placeOf_22 (by decide +kernel) ?_
        refine mn_and (pc := 24) C0 d_MO_placeOf_24 ?_
        refine mg_top (show nI ((P / 2 ^ (3 * x)) &&& 7) = nI (F x) from by rw [mo_and7, hdig x hxn]) ?_
        refine lv_istore (pc := 25) (lv' := [(5, .int (nI (F x))), (0, .ref (ad 52)), (1, .int (nI (P))), (2, .int (nI (pm_rr n F x))), (3, .int (nI (pm_ru F x))), (4, .int (nI (x)))]) C0.1 C0.2.1 d_MO_placeOf_25 hl (by decide) rfl (fun ls hl => ?_)
        refine lv_iload (pc := 27) C0.1 C0.2.1 d_MO_placeOf_27 (lv_at hl 0 rfl) ?_
        refine lv_istore (pc := 29) (lv' := [(6, .int (nI (F x))), (5, .int (nI (F x))), (0, .ref (ad 52)), (1, .int (nI (P))), (2, .int (nI (pm_rr n F x))), (3, .int (nI (pm_ru F x))), (4, .int (nI (x)))]) C0.1 C0.2.1 d_MO_placeOf_29 hl (by decide) rfl (fun ls hl => ?_)
        refine lv_iconst (pc := 31) (v := nI (0)) C0.1 C0.2.1 d_MO_placeOf_31 (by decide +kernel) ?_
        refine lv_istore (pc := 32) (lv' := [(7, .int (nI (0))), (6, .int (nI (F x))), (5, .int (nI (F x))), (0, .ref (ad 52)), (1, .int (nI (P))), (2, .int (nI (pm_rr n F x))), (3, .int (nI (pm_ru F x))), (4, .int (nI (x)))]) C0.1 C0.2.1 d_MO_placeOf_32 hl (by decide) rfl (fun ls hl => ?_)
        have inner : ∀ (d : Nat) (z : Nat) (H : Heap) (locs : List Loc) (ls : Array Slot), F x - z = d → (z ≤ F x) → lv_has ls 8 [(0, .ref (ad 52)), (1, .int (nI (P))), (2, .int (nI (pm_rr n F x))), (3, .int (nI (pm_ru F x))), (4, .int (nI (x))), (5, .int (nI (F x))), (6, .int (nI (F x - pm_ct (pm_ru F x) z))), (7, .int (nI (z)))] → va_P D classes ws0 H → va_D A ws0 → va_S A s.heap H locs → W p l e (mg_rm 1) s m args below meth c H locs 0 0 Q (F0 m 34 ls []) := by
          intro d
          induction d using Nat.strongRecOn with
          | _ d ih_inner =>
            intro z H locs ls hd hz hl hP hD hS
            have hct := pm_ct_le (pm_ru F x) z
            refine lv_iload (pc := 34) C0.1 C0.2.1 d_MO_placeOf_34 (lv_at hl 7 rfl) ?_
            refine lv_iload (pc := 36) C0.1 C0.2.1 d_MO_placeOf_36 (lv_at hl 5 rfl) ?_
            refine mb_ge (pc := 38) (tgt := 58) C0 (by omega) (by omega) d_MO_placeOf_38 (by decide) (fun hc => ?_) (fun hc => ?_)
            · have hzF : z = F x := by omega
              rw [hzF] at hl
              have hcF := pm_ct_le (pm_ru F x) (F x)
              refine lv_iload_n (pc := 58) C0.1 C0.2.1 d_MO_placeOf_58 rfl (lv_at hl 3 rfl) ?_
              refine lv_iconst (pc := 59) (v := nI (1)) C0.1 C0.2.1 d_MO_placeOf_59 (by decide +kernel) ?_
              refine lv_iload (pc := 60) C0.1 C0.2.1 d_MO_placeOf_60 (lv_at hl 5 rfl) ?_
              refine mn_shl1 (pc := 62) C0 (by omega) d_MO_placeOf_62 ?_
              refine mn_or (pc := 63) C0 d_MO_placeOf_63 ?_
              refine lv_istore_n (pc := 64) (lv' := [(3, .int (nI ((pm_ru F x) ||| (2 ^ (F x))))), (0, .ref (ad 52)), (1, .int (nI (P))), (2, .int (nI (pm_rr n F x))), (4, .int (nI (x))), (5, .int (nI (F x))), (6, .int (nI (F x - pm_ct (pm_ru F x) (F x)))), (7, .int (nI (F x)))]) C0.1 C0.2.1 d_MO_placeOf_64 rfl hl (by decide) rfl (fun ls hl => ?_)
              refine lv_iload_n (pc := 65) C0.1 C0.2.1 d_MO_placeOf_65 rfl (lv_at hl 3 rfl) ?_
              refine lv_aload_n (pc := 66) C0.1 C0.2.1 d_MO_placeOf_66 rfl (lv_at hl 1 rfl) ?_
              refine mg_get (pc := 67) C0 in_MO hK hP (52) fx rfl 0 (by decide) fl_MO_36 rfl d_MO_placeOf_67 ?_
              refine lv_iload (pc := 70) C0.1 C0.2.1 d_MO_placeOf_70 (lv_at hl 4 rfl) ?_
              refine mn_sub (pc := 72) C0 (by omega) d_MO_placeOf_72 ?_
              refine mn_mul (pc := 73) C0 d_MO_placeOf_73 ?_
              refine lv_iload (pc := 74) C0.1 C0.2.1 d_MO_placeOf_74 (lv_at hl 6 rfl) ?_
              refine mn_add (pc := 76) C0 d_MO_placeOf_76 ?_
              refine mg_top (show nI (((pm_rr n F x) * (n - x)) + (F x - pm_ct (pm_ru F x) (F x))) = nI (pm_rr n F (x + 1)) from congrArg nI (by
                show _ = pm_rr n F x * (n - x) + F x - pm_ct (pm_ru F x) (F x)
                omega)) ?_
              refine lv_istore_n (pc := 77) (lv' := [(2, .int (nI (pm_rr n F (x + 1)))), (3, .int (nI ((pm_ru F x) ||| (2 ^ (F x))))), (0, .ref (ad 52)), (1, .int (nI (P))), (4, .int (nI (x))), (5, .int (nI (F x))), (6, .int (nI (F x - pm_ct (pm_ru F x) (F x)))), (7, .int (nI (F x)))]) C0.1 C0.2.1 d_MO_placeOf_77 rfl hl (by decide) rfl (fun ls hl => ?_)
              refine lv_iinc (pc := 78) (k := 4) (v := nI (x + 1)) (lv' := [(4, .int (nI (x + 1))), (2, .int (nI (pm_rr n F (x + 1)))), (3, .int (nI ((pm_ru F x) ||| (2 ^ (F x))))), (0, .ref (ad 52)), (1, .int (nI (P))), (5, .int (nI (F x))), (6, .int (nI (F x - pm_ct (pm_ru F x) (F x)))), (7, .int (nI (F x)))]) C0.1 C0.2.1 d_MO_placeOf_78 hl rfl (nb_p1 _) (by decide) rfl (fun ls hl => ?_)
              refine lv_goto (pc := 81) (tgt := 7) C0.1 C0.2.1 d_MO_placeOf_81 (by decide) ?_
              exact ih_outer _ (by omega) (x + 1) _ _ _ rfl (by omega) (lv_sub hl [3, 4, 1, 2, 0] rfl) hP hD hS
            · have hct1 := pm_ct_le (pm_ru F x) (z + 1)
              have hcs : pm_ct (pm_ru F x) (z + 1) = pm_ct (pm_ru F x) z + pm_ru F x / 2 ^ z % 2 := by rw [nb_tbi]; rfl
              have hz1 := hc
              refine lv_iload (pc := 41) C0.1 C0.2.1 d_MO_placeOf_41 (lv_at hl 6 rfl) ?_
              refine lv_iload_n (pc := 43) C0.1 C0.2.1 d_MO_placeOf_43 rfl (lv_at hl 3 rfl) ?_
              refine lv_iload (pc := 44) C0.1 C0.2.1 d_MO_placeOf_44 (lv_at hl 7 rfl) ?_
              refine mn_shr (pc := 46) C0 (by omega) (by omega) d_MO_placeOf_46 ?_
              refine lv_iconst (pc := 47) (v := nI (1)) C0.1 C0.2.1 d_MO_placeOf_47 (by decide +kernel) ?_
              refine mn_bit (pc := 48) C0 d_MO_placeOf_48 ?_
              refine mn_sub (pc := 49) C0 (by omega) d_MO_placeOf_49 ?_
              refine mg_top (show nI ((F x - pm_ct (pm_ru F x) z) - (((pm_ru F x) / 2 ^ z) % 2)) = nI (F x - pm_ct (pm_ru F x) (z + 1)) from congrArg nI (by omega)) ?_
              refine lv_istore (pc := 50) (lv' := [(6, .int (nI (F x - pm_ct (pm_ru F x) (z + 1)))), (0, .ref (ad 52)), (1, .int (nI (P))), (2, .int (nI (pm_rr n F x))), (3, .int (nI (pm_ru F x))), (4, .int (nI (x))), (5, .int (nI (F x))), (7, .int (nI (z)))]) C0.1 C0.2.1 d_MO_placeOf_50 hl (by decide) rfl (fun ls hl => ?_)
              refine lv_iinc (pc := 52) (k := 7) (v := nI (z + 1)) (lv' := [(7, .int (nI (z + 1))), (6, .int (nI (F x - pm_ct (pm_ru F x) (z + 1)))), (0, .ref (ad 52)), (1, .int (nI (P))), (2, .int (nI (pm_rr n F x))), (3, .int (nI (pm_ru F x))), (4, .int (nI (x))), (5, .int (nI (F x)))]) C0.1 C0.2.1 d_MO_placeOf_52 hl rfl (nb_p1 _) (by decide) rfl (fun ls hl => ?_)
              refine lv_goto (pc := 55) (tgt := 34) C0.1 C0.2.1 d_MO_placeOf_55 (by decide) ?_
              exact ih_inner _ (by omega) (z + 1) _ _ _ rfl (by omega) (lv_sub hl [2, 3, 4, 5, 6, 7, 1, 0] rfl) hP hD hS
        exact inner _ 0 _ _ _ rfl (by omega) (lv_sub hl [3, 4, 5, 6, 7, 2, 1, 0] rfl) hP hD hS
  exact outer _ 0 _ _ _ rfl (by omega) (lv_sub hl [3, 4, 2, 1, 0] rfl) hP hD hS
set_option maxHeartbeats 4000000 in
set_option maxRecDepth 100000 in
theorem c_MO_times (l : Launch) (D : va_G) (ca : Nat → ClassId) (ad : Nat → Nat) {n : Nat} (h2 : 2 ≤ n) (h6 : n ≤ 6) {pcx gcx lenx : Int32} {im : Nat → Int32} (him : ∀ r, r < pm_fc n → im r = nI (qk_p (pm_im n r) n)) {a b : Nat} (ha : a < pm_fc n) (hb : b < pm_fc n) (ws0 : va_W) (zx : ws0[52]? = some (ad 52, .inr (4, [.int (nI (n)), .int (nI (pm_fc n)), .ref (ad 53), .int (pcx), .ref (ad 54), .int (gcx), .ref (ad 55), .ref (ad 56), .ref (ad 57), .ref (ad 58), .ref (ad 59), .int (lenx)]))) (zi : ws0[53]? = some (ad 53, .inl (ca 1, 720, .inl (im)))) : mg_I l y_MO_times b_MO_times 5 (.int) 2 D classes (tys_ ca) [.ref (ad 52), .int (nI (a)), .int (nI (b))] ws0 (fun v w => v = nI (pm_mu n a b) ∧ w = ws0) := by
  refine mg_openI (own := R_MO) rfl (by decide) (Nat.le_of_ble_eq_true rfl) ?_
  intro p e s m args below meth c A Q ls C0 hK hA hP hD hS hl hret
  have hl : lv_has ls 5 [(0, .ref (ad 52)), (1, .int (nI (a))), (2, .int (nI (b)))] := hl
  have fx := zx
  have fi := zi
  have hN := pm_fc_le h6
  have hF : ∀ x, x < n → pm_im n b (pm_im n a x) < n := fun x hx => pm_lt h2 h6 hb (pm_lt h2 h6 ha hx)
  have hF8 : ∀ x, x < n → pm_im n b (pm_im n a x) < 8 := fun x hx => by have := hF x hx; omega
  refine lv_iconst (pc := 0) (v := nI (0)) C0.1 C0.2.1 d_MO_times_0 (by decide +kernel) ?_
  refine lv_istore_n (pc := 1) (lv' := [(3, .int (nI (0))), (0, .ref (ad 52)), (1, .int (nI (a))), (2, .int (nI (b)))]) C0.1 C0.2.1 d_MO_times_1 rfl hl (by decide) rfl (fun ls hl => ?_)
  refine lv_iconst (pc := 2) (v := nI (0)) C0.1 C0.2.1 d_MO_times_2 (by decide +kernel) ?_
  refine lv_istore (pc := 3) (lv' := [(4, .int (nI (0))), (3, .int (nI (0))), (0, .ref (ad 52)), (1, .int (nI (a))), (2, .int (nI (b)))]) C0.1 C0.2.1 d_MO_times_3 hl (by decide) rfl (fun ls hl => ?_)
  have loop : ∀ (d : Nat) (x : Nat) (H : Heap) (locs : List Loc) (ls : Array Slot), n - x = d → (x ≤ n) → lv_has ls 5 [(0, .ref (ad 52)), (1, .int (nI (a))), (2, .int (nI (b))), (3, .int (nI (qk_p (fun x => pm_im n b (pm_im n a x)) x))), (4, .int (nI (x)))] → va_P D classes ws0 H → va_D A ws0 → va_S A s.heap H locs → W p l e (mg_rm 2) s m args below meth c H locs 0 0 Q (F0 m 5 ls []) := by
    intro d
    induction d using Nat.strongRecOn with
    | _ d ih_loop =>
      intro x H locs ls hd hx hl hP hD hS
      refine lv_iload (pc := 5) C0.1 C0.2.1 d_MO_times_5 (lv_at hl 4 rfl) ?_
      refine lv_aload_n (pc := 7) C0.1 C0.2.1 d_MO_times_7 rfl (lv_at hl 0 rfl) ?_
      refine mg_get (pc := 8) C0 in_MO hK hP (52) fx rfl 0 (by decide) fl_MO_36 rfl d_MO_times_8 ?_
      refine mb_ge (pc := 11) (tgt := 40) C0 (by omega) (by omega) d_MO_times_11 (by decide) (fun hc => ?_) (fun hc => ?_)
      · have hxn : x = n := by omega
        rw [hxn] at hl
        refine lv_aload_n (pc := 40) C0.1 C0.2.1 d_MO_times_40 rfl (lv_at hl 0 rfl) ?_
        refine lv_iload_n (pc := 41) C0.1 C0.2.1 d_MO_times_41 rfl (lv_at hl 3 rfl) ?_
        refine mg_ci (pc := 42) (As := [.int (nI (qk_p (fun x => pm_im n b (pm_im n a x)) n))]) (rest := []) C0 (c_MO_placeOf l D ca ad h2 h6 (F := fun y => pm_im n b (pm_im n a y)) (mo_qlt h6 hF8) (fun y hy => qk_dig hF8 hy) hF ws0 fx) lk_MO_50 (by decide) fx rfl hK hP hD hS hA rfl hl.1 rfl (Nat.le_of_ble_eq_true rfl) d_MO_times_42 (fun rv ws1 H locs hpost hP hD hS => ?_)
        obtain ⟨hr1, hw⟩ := hpost
        rw [hw] at hP hD
        exact hret _ _ _ _ 45 _ (rfl) (⟨hr1, rfl⟩) hP hD hS d_MO_times_45
      · have hxn := hc
        refine lv_iload_n (pc := 14) C0.1 C0.2.1 d_MO_times_14 rfl (lv_at hl 3 rfl) ?_
        refine lv_aload_n (pc := 15) C0.1 C0.2.1 d_MO_times_15 rfl (lv_at hl 0 rfl) ?_
        refine lv_iload_n (pc := 16) C0.1 C0.2.1 d_MO_times_16 rfl (lv_at hl 2 rfl) ?_
        refine lv_aload_n (pc := 17) C0.1 C0.2.1 d_MO_times_17 rfl (lv_at hl 0 rfl) ?_
        refine lv_iload_n (pc := 18) C0.1 C0.2.1 d_MO_times_18 rfl (lv_at hl 1 rfl) ?_
        refine lv_iload (pc := 19) C0.1 C0.2.1 d_MO_times_19 (lv_at hl 4 rfl) ?_
        refine mg_ci (pc := 21) (As := [.int (nI (a)), .int (nI (x))]) (rest := [.int (nI (b)), .ref (ad 52), .int (nI (qk_p (fun x => pm_im n b (pm_im n a x)) x))]) C0 (c_MO_image l D ca ad h2 h6 him ha hxn ws0 fx fi) lk_MO_46 (by decide) fx rfl hK hP hD hS hA rfl hl.1 rfl (Nat.le_of_ble_eq_true rfl) d_MO_times_21 (fun rv ws1 H locs hpost hP hD hS => ?_)
        obtain ⟨hr1, hw⟩ := hpost
        rw [hw] at hP hD
        refine mg_top (show rv = nI (pm_im n a x) from hr1) ?_
        refine mg_ci (pc := 24) (As := [.int (nI (b)), .int (nI (pm_im n a x))]) (rest := [.int (nI (qk_p (fun x => pm_im n b (pm_im n a x)) x))]) C0 (c_MO_image l D ca ad h2 h6 him hb (pm_lt h2 h6 ha hxn) ws0 fx fi) lk_MO_46 (by decide) fx rfl hK hP hD hS hA rfl hl.1 rfl (Nat.le_of_ble_eq_true rfl) d_MO_times_24 (fun rv ws1 H locs hpost hP hD hS => ?_)
        obtain ⟨hr1, hw⟩ := hpost
        rw [hw] at hP hD
        refine mg_top (show rv = nI (pm_im n b (pm_im n a x)) from hr1) ?_
        have h9 := hF8 x hxn
        refine lv_iconst (pc := 27) (v := nI (3)) C0.1 C0.2.1 d_MO_times_27 (by decide +kernel) ?_
        refine lv_iload (pc := 28) C0.1 C0.2.1 d_MO_times_28 (lv_at hl 4 rfl) ?_
        refine mn_mul (pc := 30) C0 d_MO_times_30 ?_
        refine mn_shl (pc := 31) C0 (by omega) (mo_sh h9 (by omega)) d_MO_times_31 ?_
        refine mn_or (pc := 32) C0 d_MO_times_32 ?_
        refine lv_istore_n (pc := 33) (lv' := [(3, .int (nI ((qk_p (fun x => pm_im n b (pm_im n a x)) x) ||| ((pm_im n b (pm_im n a x)) * 2 ^ (3 * x))))), (0, .ref (ad 52)), (1, .int (nI (a))), (2, .int (nI (b))), (4, .int (nI (x)))]) C0.1 C0.2.1 d_MO_times_33 rfl hl (by decide) rfl (fun ls hl => ?_)
        refine lv_iinc (pc := 34) (k := 4) (v := nI (x + 1)) (lv' := [(4, .int (nI (x + 1))), (3, .int (nI ((qk_p (fun x => pm_im n b (pm_im n a x)) x) ||| ((pm_im n b (pm_im n a x)) * 2 ^ (3 * x))))), (0, .ref (ad 52)), (1, .int (nI (a))), (2, .int (nI (b)))]) C0.1 C0.2.1 d_MO_times_34 hl rfl (nb_p1 _) (by decide) rfl (fun ls hl => ?_)
        refine lv_goto (pc := 37) (tgt := 5) C0.1 C0.2.1 d_MO_times_37 (by decide) ?_
        exact ih_loop _ (by omega) (x + 1) _ _ _ rfl (by omega) (lv_sub hl [2, 3, 4, 1, 0] rfl) hP hD hS
  exact loop _ 0 _ _ _ rfl (by omega) (lv_sub hl [2, 3, 4, 1, 0] rfl) hP hD hS
set_option maxHeartbeats 4000000 in
set_option maxRecDepth 100000 in
theorem c_MO_inverted (l : Launch) (D : va_G) (ca : Nat → ClassId) (ad : Nat → Nat) {n : Nat} (h2 : 2 ≤ n) (h6 : n ≤ 6) {pcx gcx lenx : Int32} {im : Nat → Int32} (him : ∀ r, r < pm_fc n → im r = nI (qk_p (pm_im n r) n)) {a : Nat} (ha : a < pm_fc n) (ws0 : va_W) (zx : ws0[52]? = some (ad 52, .inr (4, [.int (nI (n)), .int (nI (pm_fc n)), .ref (ad 53), .int (pcx), .ref (ad 54), .int (gcx), .ref (ad 55), .ref (ad 56), .ref (ad 57), .ref (ad 58), .ref (ad 59), .int (lenx)]))) (zi : ws0[53]? = some (ad 53, .inl (ca 1, 720, .inl (im)))) : mg_I l y_MO_inverted b_MO_inverted 4 (.int) 2 D classes (tys_ ca) [.ref (ad 52), .int (nI (a))] ws0 (fun v w => v = nI (pm_iv n a) ∧ w = ws0) := by
  refine mg_openI (own := R_MO) rfl (by decide) (Nat.le_of_ble_eq_true rfl) ?_
  intro p e s m args below meth c A Q ls C0 hK hA hP hD hS hl hret
  have hl : lv_has ls 4 [(0, .ref (ad 52)), (1, .int (nI (a)))] := hl
  have fx := zx
  have fi := zi
  have hN := pm_fc_le h6
  refine lv_iconst (pc := 0) (v := nI (0)) C0.1 C0.2.1 d_MO_inverted_0 (by decide +kernel) ?_
  refine lv_istore_n (pc := 1) (lv' := [(2, .int (nI (0))), (0, .ref (ad 52)), (1, .int (nI (a)))]) C0.1 C0.2.1 d_MO_inverted_1 rfl hl (by decide) rfl (fun ls hl => ?_)
  refine lv_iconst (pc := 2) (v := nI (0)) C0.1 C0.2.1 d_MO_inverted_2 (by decide +kernel) ?_
  refine lv_istore_n (pc := 3) (lv' := [(3, .int (nI (0))), (2, .int (nI (0))), (0, .ref (ad 52)), (1, .int (nI (a)))]) C0.1 C0.2.1 d_MO_inverted_3 rfl hl (by decide) rfl (fun ls hl => ?_)
  have loop : ∀ (d : Nat) (x : Nat) (H : Heap) (locs : List Loc) (ls : Array Slot), n - x = d → (x ≤ n) → lv_has ls 4 [(0, .ref (ad 52)), (1, .int (nI (a))), (2, .int (nI (mo_qi n a x))), (3, .int (nI (x)))] → va_P D classes ws0 H → va_D A ws0 → va_S A s.heap H locs → W p l e (mg_rm 2) s m args below meth c H locs 0 0 Q (F0 m 4 ls []) := by
    intro d
    induction d using Nat.strongRecOn with
    | _ d ih_loop =>
      intro x H locs ls hd hx hl hP hD hS
      refine lv_iload_n (pc := 4) C0.1 C0.2.1 d_MO_inverted_4 rfl (lv_at hl 3 rfl) ?_
      refine lv_aload_n (pc := 5) C0.1 C0.2.1 d_MO_inverted_5 rfl (lv_at hl 0 rfl) ?_
      refine mg_get (pc := 6) C0 in_MO hK hP (52) fx rfl 0 (by decide) fl_MO_36 rfl d_MO_inverted_6 ?_
      refine mb_ge (pc := 9) (tgt := 31) C0 (by omega) (by omega) d_MO_inverted_9 (by decide) (fun hc => ?_) (fun hc => ?_)
      · have hxn : x = n := by omega
        rw [hxn] at hl
        refine lv_aload_n (pc := 31) C0.1 C0.2.1 d_MO_inverted_31 rfl (lv_at hl 0 rfl) ?_
        refine lv_iload_n (pc := 32) C0.1 C0.2.1 d_MO_inverted_32 rfl (lv_at hl 2 rfl) ?_
        refine mg_ci (pc := 33) (As := [.int (nI (mo_qi n a n))]) (rest := []) C0 (c_MO_placeOf l D ca ad h2 h6 (F := pm_ii n a) (mo_qi_lt h2 h6 ha n (Nat.le_refl _)) (fun y hy => by rw [mo_qi_dig h2 h6 ha hy n (Nat.le_refl _), if_pos (pm_ii_lt h2 h6 ha hy)]) (fun y hy => pm_ii_lt h2 h6 ha hy) ws0 fx) lk_MO_50 (by decide) fx rfl hK hP hD hS hA rfl hl.1 rfl (Nat.le_of_ble_eq_true rfl) d_MO_inverted_33 (fun rv ws1 H locs hpost hP hD hS => ?_)
        obtain ⟨hr1, hw⟩ := hpost
        rw [hw] at hP hD
        exact hret _ _ _ _ 36 _ (rfl) (⟨hr1, rfl⟩) hP hD hS d_MO_inverted_36
      · have hxn := hc
        refine lv_iload_n (pc := 12) C0.1 C0.2.1 d_MO_inverted_12 rfl (lv_at hl 2 rfl) ?_
        refine lv_iload_n (pc := 13) C0.1 C0.2.1 d_MO_inverted_13 rfl (lv_at hl 3 rfl) ?_
        refine lv_iconst (pc := 14) (v := nI (3)) C0.1 C0.2.1 d_MO_inverted_14 (by decide +kernel) ?_
        refine lv_aload_n (pc := 15) C0.1 C0.2.1 d_MO_inverted_15 rfl (lv_at hl 0 rfl) ?_
        refine lv_iload_n (pc := 16) C0.1 C0.2.1 d_MO_inverted_16 rfl (lv_at hl 1 rfl) ?_
        refine lv_iload_n (pc := 17) C0.1 C0.2.1 d_MO_inverted_17 rfl (lv_at hl 3 rfl) ?_
        refine mg_ci (pc := 18) (As := [.int (nI (a)), .int (nI (x))]) (rest := [.int (nI (3)), .int (nI (x)), .int (nI (mo_qi n a x))]) C0 (c_MO_image l D ca ad h2 h6 him ha hxn ws0 fx fi) lk_MO_46 (by decide) fx rfl hK hP hD hS hA rfl hl.1 rfl (Nat.le_of_ble_eq_true rfl) d_MO_inverted_18 (fun rv ws1 H locs hpost hP hD hS => ?_)
        obtain ⟨hr1, hw⟩ := hpost
        rw [hw] at hP hD
        refine mg_top (show rv = nI (pm_im n a x) from hr1) ?_
        have hlt := pm_lt h2 h6 ha hxn
        refine mn_mul (pc := 21) C0 d_MO_inverted_21 ?_
        refine mn_shl (pc := 22) C0 (by omega) (mo_sh (by omega) (by omega)) d_MO_inverted_22 ?_
        refine mn_or (pc := 23) C0 d_MO_inverted_23 ?_
        refine lv_istore_n (pc := 24) (lv' := [(2, .int (nI ((mo_qi n a x) ||| (x * 2 ^ (3 * (pm_im n a x)))))), (0, .ref (ad 52)), (1, .int (nI (a))), (3, .int (nI (x)))]) C0.1 C0.2.1 d_MO_inverted_24 rfl hl (by decide) rfl (fun ls hl => ?_)
        refine lv_iinc (pc := 25) (k := 3) (v := nI (x + 1)) (lv' := [(3, .int (nI (x + 1))), (2, .int (nI ((mo_qi n a x) ||| (x * 2 ^ (3 * (pm_im n a x)))))), (0, .ref (ad 52)), (1, .int (nI (a)))]) C0.1 C0.2.1 d_MO_inverted_25 hl rfl (nb_p1 _) (by decide) rfl (fun ls hl => ?_)
        refine lv_goto (pc := 28) (tgt := 4) C0.1 C0.2.1 d_MO_inverted_28 (by decide) ?_
        exact ih_loop _ (by omega) (x + 1) _ _ _ rfl (by omega) (lv_sub hl [2, 3, 1, 0] rfl) hP hD hS
  exact loop _ 0 _ _ _ rfl (by omega) (lv_sub hl [2, 3, 1, 0] rfl) hP hD hS
set_option maxHeartbeats 4000000 in
set_option maxRecDepth 100000 in
theorem c_MO_turned (l : Launch) (D : va_G) (ca : Nat → ClassId) (ad : Nat → Nat) {n : Nat} (h2 : 2 ≤ n) (h6 : n ≤ 6) {pcx gcx lenx : Int32} {im : Nat → Int32} (him : ∀ r, r < pm_fc n → im r = nI (qk_p (pm_im n r) n)) {a b : Nat} (ha : a < pm_fc n) (hb : b < pm_fc n) (ws0 : va_W) (zx : ws0[52]? = some (ad 52, .inr (4, [.int (nI (n)), .int (nI (pm_fc n)), .ref (ad 53), .int (pcx), .ref (ad 54), .int (gcx), .ref (ad 55), .ref (ad 56), .ref (ad 57), .ref (ad 58), .ref (ad 59), .int (lenx)]))) (zi : ws0[53]? = some (ad 53, .inl (ca 1, 720, .inl (im)))) : mg_I l y_MO_turned b_MO_turned 3 (.int) 3 D classes (tys_ ca) [.ref (ad 52), .int (nI (a)), .int (nI (b))] ws0 (fun v w => v = nI (ga_cj (pm_mu n) (pm_iv n) b a) ∧ w = ws0) := by
  refine mg_openI (own := R_MO) rfl (by decide) (Nat.le_of_ble_eq_true rfl) ?_
  intro p e s m args below meth c A Q ls C0 hK hA hP hD hS hl hret
  have hl : lv_has ls 3 [(0, .ref (ad 52)), (1, .int (nI (a))), (2, .int (nI (b)))] := hl
  have fx := zx
  have fi := zi
  have g0 := pm_gp h2 h6
  refine lv_aload_n (pc := 0) C0.1 C0.2.1 d_MO_turned_0 rfl (lv_at hl 0 rfl) ?_
  refine lv_aload_n (pc := 1) C0.1 C0.2.1 d_MO_turned_1 rfl (lv_at hl 0 rfl) ?_
  refine lv_aload_n (pc := 2) C0.1 C0.2.1 d_MO_turned_2 rfl (lv_at hl 0 rfl) ?_
  refine lv_iload_n (pc := 3) C0.1 C0.2.1 d_MO_turned_3 rfl (lv_at hl 1 rfl) ?_
  refine mg_ci (pc := 4) (As := [.int (nI (a))]) (rest := [.ref (ad 52), .ref (ad 52)]) C0 (c_MO_inverted l D ca ad h2 h6 him ha ws0 fx fi) lk_MO_72 (by decide) fx rfl hK hP hD hS hA rfl hl.1 rfl (Nat.le_of_ble_eq_true rfl) d_MO_turned_4 (fun rv ws1 H locs hpost hP hD hS => ?_)
  obtain ⟨hr1, hw⟩ := hpost
  rw [hw] at hP hD
  refine mg_top (show rv = nI (pm_iv n a) from hr1) ?_
  refine lv_iload_n (pc := 7) C0.1 C0.2.1 d_MO_turned_7 rfl (lv_at hl 2 rfl) ?_
  refine mg_ci (pc := 8) (As := [.int (nI (pm_iv n a)), .int (nI (b))]) (rest := [.ref (ad 52)]) C0 (c_MO_times l D ca ad h2 h6 him (gp_i g0 ha) hb ws0 fx fi) lk_MO_64 (by decide) fx rfl hK hP hD hS hA rfl hl.1 rfl (Nat.le_of_ble_eq_true rfl) d_MO_turned_8 (fun rv ws1 H locs hpost hP hD hS => ?_)
  obtain ⟨hr1, hw⟩ := hpost
  rw [hw] at hP hD
  refine mg_top (show rv = nI (pm_mu n (pm_iv n a) b) from hr1) ?_
  refine lv_iload_n (pc := 11) C0.1 C0.2.1 d_MO_turned_11 rfl (lv_at hl 1 rfl) ?_
  refine mg_ci (pc := 12) (As := [.int (nI (pm_mu n (pm_iv n a) b)), .int (nI (a))]) (rest := []) C0 (c_MO_times l D ca ad h2 h6 him (gp_m g0 (gp_i g0 ha) hb) ha ws0 fx fi) lk_MO_64 (by decide) fx rfl hK hP hD hS hA rfl hl.1 rfl (Nat.le_of_ble_eq_true rfl) d_MO_turned_12 (fun rv ws1 H locs hpost hP hD hS => ?_)
  obtain ⟨hr1, hw⟩ := hpost
  rw [hw] at hP hD
  exact hret _ _ _ _ 15 _ (rfl) (⟨hr1, rfl⟩) hP hD hS d_MO_turned_15
set_option maxHeartbeats 4000000 in
set_option maxRecDepth 100000 in
theorem c_MO_has (l : Launch) (D : va_G) (ca : Nat → ClassId) (ad : Nat → Nat) {n : Nat} (h2 : 2 ≤ n) (h6 : n ≤ 6) {pcx gcx lenx : Int32} {st : Nat → Int64} {q r : Nat} {S : Nat → Bool} (hq : q < 15) (hr : r < pm_fc n) (hwd : mo_wd st q S) (ws0 : va_W) (zx : ws0[52]? = some (ad 52, .inr (4, [.int (nI (n)), .int (nI (pm_fc n)), .ref (ad 53), .int (pcx), .ref (ad 54), .int (gcx), .ref (ad 55), .ref (ad 56), .ref (ad 57), .ref (ad 58), .ref (ad 59), .int (lenx)]))) (zs : ws0[55]? = some (ad 55, .inl (ca 2, 180, .inr (.inl (st))))) : mg_I l y_MO_has b_MO_has 3 (.boolean) 1 D classes (tys_ ca) [.ref (ad 52), .int (nI (q)), .int (nI (r))] ws0 (fun v w => v = nI (if S r = true then 1 else 0) ∧ w = ws0) := by
  refine mg_openI (own := R_MO) rfl (by decide) (Nat.le_of_ble_eq_true rfl) ?_
  intro p e s m args below meth c A Q ls C0 hK hA hP hD hS hl hret
  have hl : lv_has ls 3 [(0, .ref (ad 52)), (1, .int (nI (q))), (2, .int (nI (r)))] := hl
  have fx := zx
  have fs := zs
  have hN := pm_fc_le h6
  refine lv_aload_n (pc := 0) C0.1 C0.2.1 d_MO_has_0 rfl (lv_at hl 0 rfl) ?_
  refine mg_get (pc := 1) C0 in_MO hK hP (52) fx rfl 6 (by decide) fl_MO_20 rfl d_MO_has_1 ?_
  refine lv_bipush (pc := 4) (v := nI (12)) C0.1 C0.2.1 d_MO_has_4 (by decide +kernel) ?_
  refine lv_iload_n (pc := 6) C0.1 C0.2.1 d_MO_has_6 rfl (lv_at hl 1 rfl) ?_
  refine mn_mul (pc := 7) C0 d_MO_has_7 ?_
  refine lv_iload_n (pc := 8) C0.1 C0.2.1 d_MO_has_8 rfl (lv_at hl 2 rfl) ?_
  refine lv_bipush (pc := 9) (v := nI (64)) C0.1 C0.2.1 d_MO_has_9 (by decide +kernel) ?_
  refine mn_div (pc := 11) C0 (by omega) (by omega) (by omega) d_MO_has_11 ?_
  refine mn_add (pc := 12) C0 d_MO_has_12 ?_
  refine mg_lld (pc := 13) C0 hK hP (55) 2 fs rfl (j := (12 * q) + (r / 64)) (by omega) (by omega) d_MO_has_13 ?_
  refine lv_iload_n (pc := 14) C0.1 C0.2.1 d_MO_has_14 rfl (lv_at hl 2 rfl) ?_
  refine lv_bipush (pc := 15) (v := nI (64)) C0.1 C0.2.1 d_MO_has_15 (by decide +kernel) ?_
  refine mn_rem (pc := 17) C0 (by omega) (by omega) (by omega) d_MO_has_17 ?_
  refine lv_lshr (pc := 18) (v := (st ((12 * q) + (r / 64))) >>> ((nI (r % 64)).toInt64 &&& 63)) C0.1 C0.2.1 d_MO_has_18 rfl ?_
  refine lv_lconst (pc := 19) (v := 1) C0.1 C0.2.1 d_MO_has_19 (by decide +kernel) ?_
  refine lv_land (pc := 20) C0.1 C0.2.1 d_MO_has_20 ?_
  refine lv_lconst (pc := 21) (v := 1) C0.1 C0.2.1 d_MO_has_21 (by decide +kernel) ?_
  refine W.lcmp (pc := 22) C0.1 C0.2.1 d_MO_has_22 ?_
  refine lv_if_ne (pc := 23) (tgt := 30) C0.1 C0.2.1 d_MO_has_23 (by decide) (fun hc => ?_) (fun hc => ?_)
  · have hs : S r = false := by
      cases h9 : S r with
      | false => rfl
      | true => exact absurd ((mo_hasE hwd (by omega)).mpr h9) hc
    refine lv_iconst (pc := 30) (v := nI (0)) C0.1 C0.2.1 d_MO_has_30 (by decide +kernel) ?_
    exact hret _ _ _ _ 31 _ (rfl) (⟨by rw [if_neg (by rw [hs]; decide)], rfl⟩) hP hD hS d_MO_has_31
  · have hs := (mo_hasE hwd (by omega)).mp hc
    refine lv_iconst (pc := 26) (v := nI (1)) C0.1 C0.2.1 d_MO_has_26 (by decide +kernel) ?_
    refine lv_goto (pc := 27) (tgt := 31) C0.1 C0.2.1 d_MO_has_27 (by decide) ?_
    exact hret _ _ _ _ 31 _ (rfl) (⟨by rw [if_pos hs], rfl⟩) hP hD hS d_MO_has_31
set_option maxHeartbeats 4000000 in
set_option maxRecDepth 100000 in
theorem c_MO_orderOf (l : Launch) (D : va_G) (ca : Nat → ClassId) (ad : Nat → Nat) {n : Nat} (h2 : 2 ≤ n) (h6 : n ≤ 6) {pcx gcx lenx : Int32} {st : Nat → Int64} {q : Nat} {S : Nat → Bool} (hq : q < 15) (hwd : mo_wd st q S) (ws0 : va_W) (zx : ws0[52]? = some (ad 52, .inr (4, [.int (nI (n)), .int (nI (pm_fc n)), .ref (ad 53), .int (pcx), .ref (ad 54), .int (gcx), .ref (ad 55), .ref (ad 56), .ref (ad 57), .ref (ad 58), .ref (ad 59), .int (lenx)]))) (zs : ws0[55]? = some (ad 55, .inl (ca 2, 180, .inr (.inl (st))))) : mg_I l y_MO_orderOf b_MO_orderOf 4 (.int) 2 D classes (tys_ ca) [.ref (ad 52), .int (nI (q))] ws0 (fun v w => v = nI (ma_cn S (pm_fc n)) ∧ w = ws0) := by
  refine mg_openI (own := R_MO) rfl (by decide) (Nat.le_of_ble_eq_true rfl) ?_
  intro p e s m args below meth c A Q ls C0 hK hA hP hD hS hl hret
  have hl : lv_has ls 4 [(0, .ref (ad 52)), (1, .int (nI (q)))] := hl
  have fx := zx
  have fs := zs
  have hN := pm_fc_le h6
  refine lv_iconst (pc := 0) (v := nI (0)) C0.1 C0.2.1 d_MO_orderOf_0 (by decide +kernel) ?_
  refine lv_istore_n (pc := 1) (lv' := [(2, .int (nI (0))), (0, .ref (ad 52)), (1, .int (nI (q)))]) C0.1 C0.2.1 d_MO_orderOf_1 rfl hl (by decide) rfl (fun ls hl => ?_)
  refine lv_iconst (pc := 2) (v := nI (0)) C0.1 C0.2.1 d_MO_orderOf_2 (by decide +kernel) ?_
  refine lv_istore_n (pc := 3) (lv' := [(3, .int (nI (0))), (2, .int (nI (0))), (0, .ref (ad 52)), (1, .int (nI (q)))]) C0.1 C0.2.1 d_MO_orderOf_3 rfl hl (by decide) rfl (fun ls hl => ?_)
  have loop : ∀ (d : Nat) (r : Nat) (H : Heap) (locs : List Loc) (ls : Array Slot), pm_fc n - r = d → (r ≤ pm_fc n) → lv_has ls 4 [(0, .ref (ad 52)), (1, .int (nI (q))), (2, .int (nI (ma_cn S r))), (3, .int (nI (r)))] → va_P D classes ws0 H → va_D A ws0 → va_S A s.heap H locs → W p l e (mg_rm 2) s m args below meth c H locs 0 0 Q (F0 m 4 ls []) := by
    intro d
    induction d using Nat.strongRecOn with
    | _ d ih_loop =>
      intro r H locs ls hd hr hl hP hD hS
      refine lv_iload_n (pc := 4) C0.1 C0.2.1 d_MO_orderOf_4 rfl (lv_at hl 3 rfl) ?_
      refine lv_aload_n (pc := 5) C0.1 C0.2.1 d_MO_orderOf_5 rfl (lv_at hl 0 rfl) ?_
      refine mg_get (pc := 6) C0 in_MO hK hP (52) fx rfl 1 (by decide) fl_MO_39 rfl d_MO_orderOf_6 ?_
      refine mb_ge (pc := 9) (tgt := 35) C0 (by omega) (by omega) d_MO_orderOf_9 (by decide) (fun hc => ?_) (fun hc => ?_)
      · have hrr : r = pm_fc n := by omega
        rw [hrr] at hl
        refine lv_iload_n (pc := 35) C0.1 C0.2.1 d_MO_orderOf_35 rfl (lv_at hl 2 rfl) ?_
        exact hret _ _ _ _ 36 _ (rfl) (⟨rfl, rfl⟩) hP hD hS d_MO_orderOf_36
      · have hrN := hc
        refine lv_aload_n (pc := 12) C0.1 C0.2.1 d_MO_orderOf_12 rfl (lv_at hl 0 rfl) ?_
        refine lv_iload_n (pc := 13) C0.1 C0.2.1 d_MO_orderOf_13 rfl (lv_at hl 1 rfl) ?_
        refine lv_iload_n (pc := 14) C0.1 C0.2.1 d_MO_orderOf_14 rfl (lv_at hl 3 rfl) ?_
        refine mg_ci (pc := 15) (As := [.int (nI (q)), .int (nI (r))]) (rest := []) C0 (c_MO_has l D ca ad h2 h6 hq hrN hwd ws0 fx fs) lk_MO_57 (by decide) fx rfl hK hP hD hS hA rfl hl.1 rfl (Nat.le_of_ble_eq_true rfl) d_MO_orderOf_15 (fun rv ws1 H locs hpost hP hD hS => ?_)
        obtain ⟨hr1, hw⟩ := hpost
        rw [hw] at hP hD
        cases hs : S r with
        | true =>
            rw [hs, if_pos rfl] at hr1
            refine mg_top (show rv = nI (1) from hr1) ?_
            refine mz_eq (pc := 18) (tgt := 27) C0 (by decide) d_MO_orderOf_18 (by decide) (fun h9 => absurd h9 (by decide)) (fun _ => ?_)
            refine lv_iload_n (pc := 21) C0.1 C0.2.1 d_MO_orderOf_21 rfl (lv_at hl 2 rfl) ?_
            refine lv_iconst (pc := 22) (v := nI (1)) C0.1 C0.2.1 d_MO_orderOf_22 (by decide +kernel) ?_
            refine mn_add (pc := 23) C0 d_MO_orderOf_23 ?_
            refine lv_goto (pc := 24) (tgt := 28) C0.1 C0.2.1 d_MO_orderOf_24 (by decide) ?_
            refine lv_istore_n (pc := 28) (lv' := [(2, .int (nI ((ma_cn S r) + 1))), (0, .ref (ad 52)), (1, .int (nI (q))), (3, .int (nI (r)))]) C0.1 C0.2.1 d_MO_orderOf_28 rfl hl (by decide) rfl (fun ls hl => ?_)
            refine lv_iinc (pc := 29) (k := 3) (v := nI (r + 1)) (lv' := [(3, .int (nI (r + 1))), (2, .int (nI ((ma_cn S r) + 1))), (0, .ref (ad 52)), (1, .int (nI (q)))]) C0.1 C0.2.1 d_MO_orderOf_29 hl rfl (nb_p1 _) (by decide) rfl (fun ls hl => ?_)
            refine lv_goto (pc := 32) (tgt := 4) C0.1 C0.2.1 d_MO_orderOf_32 (by decide) ?_
            have e1 : ma_cn S (r + 1) = ma_cn S r + 1 := by show ma_cn S r + (if S r = true then 1 else 0) = _; rw [if_pos hs]
            rw [← e1] at hl
            exact ih_loop _ (by omega) (r + 1) _ _ _ rfl (by omega) (lv_sub hl [2, 3, 1, 0] rfl) hP hD hS
        | false =>
            rw [hs, if_neg (by decide)] at hr1
            refine mg_top (show rv = nI (0) from hr1) ?_
            refine mz_eq (pc := 18) (tgt := 27) C0 (by decide) d_MO_orderOf_18 (by decide) (fun _ => ?_) (fun h9 => absurd rfl h9)
            refine lv_iload_n (pc := 27) C0.1 C0.2.1 d_MO_orderOf_27 rfl (lv_at hl 2 rfl) ?_
            refine lv_istore_n (pc := 28) (lv' := [(2, .int (nI (ma_cn S r))), (0, .ref (ad 52)), (1, .int (nI (q))), (3, .int (nI (r)))]) C0.1 C0.2.1 d_MO_orderOf_28 rfl hl (by decide) rfl (fun ls hl => ?_)
            refine lv_iinc (pc := 29) (k := 3) (v := nI (r + 1)) (lv' := [(3, .int (nI (r + 1))), (2, .int (nI (ma_cn S r))), (0, .ref (ad 52)), (1, .int (nI (q)))]) C0.1 C0.2.1 d_MO_orderOf_29 hl rfl (nb_p1 _) (by decide) rfl (fun ls hl => ?_)
            refine lv_goto (pc := 32) (tgt := 4) C0.1 C0.2.1 d_MO_orderOf_32 (by decide) ?_
            have e1 : ma_cn S (r + 1) = ma_cn S r := by show ma_cn S r + (if S r = true then 1 else 0) = _; rw [hs, if_neg (by decide)]; exact Nat.add_zero _
            rw [← e1] at hl
            exact ih_loop _ (by omega) (r + 1) _ _ _ rfl (by omega) (lv_sub hl [2, 3, 1, 0] rfl) hP hD hS
  exact loop _ 0 _ _ _ rfl (by omega) (lv_sub hl [2, 3, 1, 0] rfl) hP hD hS
set_option maxHeartbeats 4000000 in
set_option maxRecDepth 100000 in
theorem c_MO_holds (l : Launch) (D : va_G) (ca : Nat → ClassId) (ad : Nat → Nat) {n : Nat} (h2 : 2 ≤ n) (h6 : n ≤ 6) {pcx gcx lenx : Int32} {im : Nat → Int32} (him : ∀ r, r < pm_fc n → im r = nI (qk_p (pm_im n r) n)) {r pts : Nat} (hr : r < pm_fc n) (hp : pts < 64) (ws0 : va_W) (zx : ws0[52]? = some (ad 52, .inr (4, [.int (nI (n)), .int (nI (pm_fc n)), .ref (ad 53), .int (pcx), .ref (ad 54), .int (gcx), .ref (ad 55), .ref (ad 56), .ref (ad 57), .ref (ad 58), .ref (ad 59), .int (lenx)]))) (zi : ws0[53]? = some (ad 53, .inl (ca 1, 720, .inl (im)))) : mg_I l y_MO_holds b_MO_holds 5 (.boolean) 2 D classes (tys_ ca) [.ref (ad 52), .int (nI (r)), .int (nI (pts))] ws0 (fun v w => v = nI (if pm_hd n r pts = true then 1 else 0) ∧ w = ws0) := by
  refine mg_openI (own := R_MO) rfl (by decide) (Nat.le_of_ble_eq_true rfl) ?_
  intro p e s m args below meth c A Q ls C0 hK hA hP hD hS hl hret
  have hl : lv_has ls 5 [(0, .ref (ad 52)), (1, .int (nI (r))), (2, .int (nI (pts)))] := hl
  have fx := zx
  have fi := zi
  refine lv_iconst (pc := 0) (v := nI (1)) C0.1 C0.2.1 d_MO_holds_0 (by decide +kernel) ?_
  refine lv_istore_n (pc := 1) (lv' := [(3, .int (nI (1))), (0, .ref (ad 52)), (1, .int (nI (r))), (2, .int (nI (pts)))]) C0.1 C0.2.1 d_MO_holds_1 rfl hl (by decide) rfl (fun ls hl => ?_)
  refine lv_iconst (pc := 2) (v := nI (0)) C0.1 C0.2.1 d_MO_holds_2 (by decide +kernel) ?_
  refine lv_istore (pc := 3) (lv' := [(4, .int (nI (0))), (3, .int (nI (1))), (0, .ref (ad 52)), (1, .int (nI (r))), (2, .int (nI (pts)))]) C0.1 C0.2.1 d_MO_holds_3 hl (by decide) rfl (fun ls hl => ?_)
  have loop : ∀ (d : Nat) (x : Nat) (hv : Nat) (H : Heap) (locs : List Loc) (ls : Array Slot), n - x = d → (x ≤ n) → ((hv = 1 ∧ ∀ y, y < x → pts.testBit y = true → pm_im n r y = y) ∨ (hv = 0 ∧ ∃ y, y < n ∧ pts.testBit y = true ∧ pm_im n r y ≠ y)) → lv_has ls 5 [(0, .ref (ad 52)), (1, .int (nI (r))), (2, .int (nI (pts))), (3, .int (nI (hv))), (4, .int (nI (x)))] → va_P D classes ws0 H → va_D A ws0 → va_S A s.heap H locs → W p l e (mg_rm 2) s m args below meth c H locs 0 0 Q (F0 m 5 ls []) := by
    intro d
    induction d using Nat.strongRecOn with
    | _ d ih_loop =>
      intro x hv H locs ls hd hx hh hl hP hD hS
      refine lv_iload (pc := 5) C0.1 C0.2.1 d_MO_holds_5 (lv_at hl 4 rfl) ?_
      refine lv_aload_n (pc := 7) C0.1 C0.2.1 d_MO_holds_7 rfl (lv_at hl 0 rfl) ?_
      refine mg_get (pc := 8) C0 in_MO hK hP (52) fx rfl 0 (by decide) fl_MO_36 rfl d_MO_holds_8 ?_
      refine mb_ge (pc := 11) (tgt := 51) C0 (by omega) (by omega) d_MO_holds_11 (by decide) (fun hc => ?_) (fun hc => ?_)
      · rcases hh with ⟨rfl, hh⟩ | ⟨rfl, y, hy, hb, hne⟩
        · have hhd := pm_hd1 (n := n) (r := r) (pts := pts) (fun y hy => hh y (by omega))
          refine lv_iload_n (pc := 51) C0.1 C0.2.1 d_MO_holds_51 rfl (lv_at hl 3 rfl) ?_
          exact hret _ _ _ _ 52 _ (rfl) (⟨by rw [if_pos hhd], rfl⟩) hP hD hS d_MO_holds_52
        · have hhd := pm_hd0 hy hb hne
          refine lv_iload_n (pc := 51) C0.1 C0.2.1 d_MO_holds_51 rfl (lv_at hl 3 rfl) ?_
          exact hret _ _ _ _ 52 _ (rfl) (⟨by rw [if_neg (by rw [hhd]; decide)], rfl⟩) hP hD hS d_MO_holds_52
      · have hxn := hc
        rcases hh with ⟨rfl, hh⟩ | ⟨rfl, hh⟩
        · refine lv_iload_n (pc := 14) C0.1 C0.2.1 d_MO_holds_14 rfl (lv_at hl 3 rfl) ?_
          refine mz_eq (pc := 15) (tgt := 43) C0 (by decide) d_MO_holds_15 (by decide) (fun h9 => absurd h9 (by decide)) (fun _ => ?_)
          refine lv_iload_n (pc := 18) C0.1 C0.2.1 d_MO_holds_18 rfl (lv_at hl 2 rfl) ?_
          refine lv_iload (pc := 19) C0.1 C0.2.1 d_MO_holds_19 (lv_at hl 4 rfl) ?_
          refine mn_shr (pc := 21) C0 (by omega) (by omega) d_MO_holds_21 ?_
          refine lv_iconst (pc := 22) (v := nI (1)) C0.1 C0.2.1 d_MO_holds_22 (by decide +kernel) ?_
          refine mn_bit (pc := 23) C0 d_MO_holds_23 ?_
          refine mz_eq (pc := 24) (tgt := 39) C0 (by omega) d_MO_holds_24 (by decide) (fun hc => ?_) (fun hc => ?_)
          · have hb := nb_t0 hc
            refine lv_iconst (pc := 39) (v := nI (1)) C0.1 C0.2.1 d_MO_holds_39 (by decide +kernel) ?_
            refine lv_goto (pc := 40) (tgt := 44) C0.1 C0.2.1 d_MO_holds_40 (by decide) ?_
            refine lv_istore_n (pc := 44) (lv' := [(3, .int (nI (1))), (0, .ref (ad 52)), (1, .int (nI (r))), (2, .int (nI (pts))), (4, .int (nI (x)))]) C0.1 C0.2.1 d_MO_holds_44 rfl hl (by decide) rfl (fun ls hl => ?_)
            refine lv_iinc (pc := 45) (k := 4) (v := nI (x + 1)) (lv' := [(4, .int (nI (x + 1))), (3, .int (nI (1))), (0, .ref (ad 52)), (1, .int (nI (r))), (2, .int (nI (pts)))]) C0.1 C0.2.1 d_MO_holds_45 hl rfl (nb_p1 _) (by decide) rfl (fun ls hl => ?_)
            refine lv_goto (pc := 48) (tgt := 5) C0.1 C0.2.1 d_MO_holds_48 (by decide) ?_
            exact ih_loop _ (by omega) (x + 1) 1 _ _ _ rfl (by omega) (Or.inl ⟨rfl, fun y hy h => by
              by_cases e : y = x
              · subst e; rw [hb] at h; exact absurd h (by decide)
              · exact hh y (by omega) h⟩) (lv_sub hl [2, 3, 4, 1, 0] rfl) hP hD hS
          · have hb := nb_t1 hc
            refine lv_aload_n (pc := 27) C0.1 C0.2.1 d_MO_holds_27 rfl (lv_at hl 0 rfl) ?_
            refine lv_iload_n (pc := 28) C0.1 C0.2.1 d_MO_holds_28 rfl (lv_at hl 1 rfl) ?_
            refine lv_iload (pc := 29) C0.1 C0.2.1 d_MO_holds_29 (lv_at hl 4 rfl) ?_
            refine mg_ci (pc := 31) (As := [.int (nI (r)), .int (nI (x))]) (rest := []) C0 (c_MO_image l D ca ad h2 h6 him hr hxn ws0 fx fi) lk_MO_46 (by decide) fx rfl hK hP hD hS hA rfl hl.1 rfl (Nat.le_of_ble_eq_true rfl) d_MO_holds_31 (fun rv ws1 H locs hpost hP hD hS => ?_)
            obtain ⟨hr1, hw⟩ := hpost
            rw [hw] at hP hD
            refine mg_top (show rv = nI (pm_im n r x) from hr1) ?_
            have hlt := pm_lt h2 h6 hr hxn
            refine lv_iload (pc := 34) C0.1 C0.2.1 d_MO_holds_34 (lv_at hl 4 rfl) ?_
            refine mb_ne (pc := 36) (tgt := 43) C0 (by omega) (by omega) d_MO_holds_36 (by decide) (fun hne => ?_) (fun hne => ?_)
            · refine lv_iconst (pc := 43) (v := nI (0)) C0.1 C0.2.1 d_MO_holds_43 (by decide +kernel) ?_
              refine lv_istore_n (pc := 44) (lv' := [(3, .int (nI (0))), (0, .ref (ad 52)), (1, .int (nI (r))), (2, .int (nI (pts))), (4, .int (nI (x)))]) C0.1 C0.2.1 d_MO_holds_44 rfl hl (by decide) rfl (fun ls hl => ?_)
              refine lv_iinc (pc := 45) (k := 4) (v := nI (x + 1)) (lv' := [(4, .int (nI (x + 1))), (3, .int (nI (0))), (0, .ref (ad 52)), (1, .int (nI (r))), (2, .int (nI (pts)))]) C0.1 C0.2.1 d_MO_holds_45 hl rfl (nb_p1 _) (by decide) rfl (fun ls hl => ?_)
              refine lv_goto (pc := 48) (tgt := 5) C0.1 C0.2.1 d_MO_holds_48 (by decide) ?_
              exact ih_loop _ (by omega) (x + 1) 0 _ _ _ rfl (by omega) (Or.inr ⟨rfl, x, hxn, hb, hne⟩) (lv_sub hl [2, 3, 4, 1, 0] rfl) hP hD hS
            · refine lv_iconst (pc := 39) (v := nI (1)) C0.1 C0.2.1 d_MO_holds_39 (by decide +kernel) ?_
              refine lv_goto (pc := 40) (tgt := 44) C0.1 C0.2.1 d_MO_holds_40 (by decide) ?_
              refine lv_istore_n (pc := 44) (lv' := [(3, .int (nI (1))), (0, .ref (ad 52)), (1, .int (nI (r))), (2, .int (nI (pts))), (4, .int (nI (x)))]) C0.1 C0.2.1 d_MO_holds_44 rfl hl (by decide) rfl (fun ls hl => ?_)
              refine lv_iinc (pc := 45) (k := 4) (v := nI (x + 1)) (lv' := [(4, .int (nI (x + 1))), (3, .int (nI (1))), (0, .ref (ad 52)), (1, .int (nI (r))), (2, .int (nI (pts)))]) C0.1 C0.2.1 d_MO_holds_45 hl rfl (nb_p1 _) (by decide) rfl (fun ls hl => ?_)
              refine lv_goto (pc := 48) (tgt := 5) C0.1 C0.2.1 d_MO_holds_48 (by decide) ?_
              exact ih_loop _ (by omega) (x + 1) 1 _ _ _ rfl (by omega) (Or.inl ⟨rfl, fun y hy h => by
                by_cases e : y = x
                · subst e; exact hne
                · exact hh y (by omega) h⟩) (lv_sub hl [2, 3, 4, 1, 0] rfl) hP hD hS
        · refine lv_iload_n (pc := 14) C0.1 C0.2.1 d_MO_holds_14 rfl (lv_at hl 3 rfl) ?_
          refine mz_eq (pc := 15) (tgt := 43) C0 (by decide) d_MO_holds_15 (by decide) (fun _ => ?_) (fun h9 => absurd rfl h9)
          refine lv_iconst (pc := 43) (v := nI (0)) C0.1 C0.2.1 d_MO_holds_43 (by decide +kernel) ?_
          refine lv_istore_n (pc := 44) (lv' := [(3, .int (nI (0))), (0, .ref (ad 52)), (1, .int (nI (r))), (2, .int (nI (pts))), (4, .int (nI (x)))]) C0.1 C0.2.1 d_MO_holds_44 rfl hl (by decide) rfl (fun ls hl => ?_)
          refine lv_iinc (pc := 45) (k := 4) (v := nI (x + 1)) (lv' := [(4, .int (nI (x + 1))), (3, .int (nI (0))), (0, .ref (ad 52)), (1, .int (nI (r))), (2, .int (nI (pts)))]) C0.1 C0.2.1 d_MO_holds_45 hl rfl (nb_p1 _) (by decide) rfl (fun ls hl => ?_)
          refine lv_goto (pc := 48) (tgt := 5) C0.1 C0.2.1 d_MO_holds_48 (by decide) ?_
          exact ih_loop _ (by omega) (x + 1) 0 _ _ _ rfl (by omega) (Or.inr ⟨rfl, hh⟩) (lv_sub hl [2, 3, 4, 1, 0] rfl) hP hD hS
  exact loop _ 0 1 _ _ _ rfl (by omega) (Or.inl ⟨rfl, fun y hy => absurd hy (by omega)⟩) (lv_sub hl [2, 3, 4, 1, 0] rfl) hP hD hS
set_option maxHeartbeats 4000000 in
set_option maxRecDepth 100000 in
theorem c_MO_lies (l : Launch) (D : va_G) (ca : Nat → ClassId) (ad : Nat → Nat) {n : Nat} (h2 : 2 ≤ n) (h6 : n ≤ 6) {pcx gcx lenx : Int32} {st : Nat → Int64} {q r : Nat} {S T : Nat → Bool} (hq : q < 15) (hr : r < 15) (hS0 : mo_wd st q S) (hT0 : mo_wd st r T) (hSN : ∀ x, S x = true → x < pm_fc n) (ws0 : va_W) (zx : ws0[52]? = some (ad 52, .inr (4, [.int (nI (n)), .int (nI (pm_fc n)), .ref (ad 53), .int (pcx), .ref (ad 54), .int (gcx), .ref (ad 55), .ref (ad 56), .ref (ad 57), .ref (ad 58), .ref (ad 59), .int (lenx)]))) (zs : ws0[55]? = some (ad 55, .inl (ca 2, 180, .inr (.inl (st))))) : mg_I l y_MO_lies b_MO_lies 5 (.boolean) 1 D classes (tys_ ca) [.ref (ad 52), .int (nI (q)), .int (nI (r))] ws0 (fun v w => ((v = nI 1 ∧ ∀ x, S x = true → T x = true) ∨ (v = nI 0 ∧ ∃ x, S x = true ∧ T x = false)) ∧ w = ws0) := by
  refine mg_openI (own := R_MO) rfl (by decide) (Nat.le_of_ble_eq_true rfl) ?_
  intro p e s m args below meth c A Q ls C0 hK hA hP hD hS hl hret
  have hl : lv_has ls 5 [(0, .ref (ad 52)), (1, .int (nI (q))), (2, .int (nI (r)))] := hl
  have fx := zx
  have fs := zs
  have hN := pm_fc_le h6
  refine lv_iconst (pc := 0) (v := nI (1)) C0.1 C0.2.1 d_MO_lies_0 (by decide +kernel) ?_
  refine lv_istore_n (pc := 1) (lv' := [(3, .int (nI (1))), (0, .ref (ad 52)), (1, .int (nI (q))), (2, .int (nI (r)))]) C0.1 C0.2.1 d_MO_lies_1 rfl hl (by decide) rfl (fun ls hl => ?_)
  refine lv_iconst (pc := 2) (v := nI (0)) C0.1 C0.2.1 d_MO_lies_2 (by decide +kernel) ?_
  refine lv_istore (pc := 3) (lv' := [(4, .int (nI (0))), (3, .int (nI (1))), (0, .ref (ad 52)), (1, .int (nI (q))), (2, .int (nI (r)))]) C0.1 C0.2.1 d_MO_lies_3 hl (by decide) rfl (fun ls hl => ?_)
  have loop : ∀ (d : Nat) (a : Nat) (hv : Nat) (H : Heap) (locs : List Loc) (ls : Array Slot), 12 - a = d → (a ≤ 12) → ((hv = 1 ∧ ∀ x, x < 64 * a → S x = true → T x = true) ∨ (hv = 0 ∧ ∃ x, S x = true ∧ T x = false)) → lv_has ls 5 [(0, .ref (ad 52)), (1, .int (nI (q))), (2, .int (nI (r))), (3, .int (nI (hv))), (4, .int (nI (a)))] → va_P D classes ws0 H → va_D A ws0 → va_S A s.heap H locs → W p l e (mg_rm 1) s m args below meth c H locs 0 0 Q (F0 m 5 ls []) := by
    intro d
    induction d using Nat.strongRecOn with
    | _ d ih_loop =>
      intro a hv H locs ls hd ha hh hl hP hD hS
      refine lv_iload (pc := 5) C0.1 C0.2.1 d_MO_lies_5 (lv_at hl 4 rfl) ?_
      refine lv_bipush (pc := 7) (v := nI (12)) C0.1 C0.2.1 d_MO_lies_7 (by decide +kernel) ?_
      refine mb_ge (pc := 9) (tgt := 62) C0 (by omega) (by omega) d_MO_lies_9 (by decide) (fun hc => ?_) (fun hc => ?_)
      · rcases hh with ⟨rfl, hh⟩ | ⟨rfl, hh⟩
        · refine lv_iload_n (pc := 62) C0.1 C0.2.1 d_MO_lies_62 rfl (lv_at hl 3 rfl) ?_
          exact hret _ _ _ _ 63 _ (rfl) (⟨Or.inl ⟨rfl, fun x hx => hh x (by have := hSN x hx; omega) hx⟩, rfl⟩) hP hD hS d_MO_lies_63
        · refine lv_iload_n (pc := 62) C0.1 C0.2.1 d_MO_lies_62 rfl (lv_at hl 3 rfl) ?_
          exact hret _ _ _ _ 63 _ (rfl) (⟨Or.inr ⟨rfl, hh⟩, rfl⟩) hP hD hS d_MO_lies_63
      · have ha1 := hc
        rcases hh with ⟨rfl, hh⟩ | ⟨rfl, hh⟩
        · refine lv_iload_n (pc := 12) C0.1 C0.2.1 d_MO_lies_12 rfl (lv_at hl 3 rfl) ?_
          refine mz_eq (pc := 13) (tgt := 54) C0 (by decide) d_MO_lies_13 (by decide) (fun h9 => absurd h9 (by decide)) (fun _ => ?_)
          refine lv_aload_n (pc := 16) C0.1 C0.2.1 d_MO_lies_16 rfl (lv_at hl 0 rfl) ?_
          refine mg_get (pc := 17) C0 in_MO hK hP (52) fx rfl 6 (by decide) fl_MO_20 rfl d_MO_lies_17 ?_
          refine lv_bipush (pc := 20) (v := nI (12)) C0.1 C0.2.1 d_MO_lies_20 (by decide +kernel) ?_
          refine lv_iload_n (pc := 22) C0.1 C0.2.1 d_MO_lies_22 rfl (lv_at hl 1 rfl) ?_
          refine mn_mul (pc := 23) C0 d_MO_lies_23 ?_
          refine lv_iload (pc := 24) C0.1 C0.2.1 d_MO_lies_24 (lv_at hl 4 rfl) ?_
          refine mn_add (pc := 26) C0 d_MO_lies_26 ?_
          refine mg_lld (pc := 27) C0 hK hP (55) 2 fs rfl (j := (12 * q) + a) (by omega) (by omega) d_MO_lies_27 ?_
          refine lv_aload_n (pc := 28) C0.1 C0.2.1 d_MO_lies_28 rfl (lv_at hl 0 rfl) ?_
          refine mg_get (pc := 29) C0 in_MO hK hP (52) fx rfl 6 (by decide) fl_MO_20 rfl d_MO_lies_29 ?_
          refine lv_bipush (pc := 32) (v := nI (12)) C0.1 C0.2.1 d_MO_lies_32 (by decide +kernel) ?_
          refine lv_iload_n (pc := 34) C0.1 C0.2.1 d_MO_lies_34 rfl (lv_at hl 2 rfl) ?_
          refine mn_mul (pc := 35) C0 d_MO_lies_35 ?_
          refine lv_iload (pc := 36) C0.1 C0.2.1 d_MO_lies_36 (lv_at hl 4 rfl) ?_
          refine mn_add (pc := 38) C0 d_MO_lies_38 ?_
          refine mg_lld (pc := 39) C0 hK hP (55) 2 fs rfl (j := (12 * r) + a) (by omega) (by omega) d_MO_lies_39 ?_
          refine lv_ldc2 (pc := 40) (v := (-1)) C0.1 C0.2.1 C0.2.2.2.1 (C0.2.2.2.2 _ (List.mem_cons_of_mem _ cn_MO_70)) d_MO_lies_40 ?_
          refine lv_lxor (pc := 43) C0.1 C0.2.1 d_MO_lies_43 ?_
          refine lv_land (pc := 44) C0.1 C0.2.1 d_MO_lies_44 ?_
          refine lv_lconst (pc := 45) (v := 0) C0.1 C0.2.1 d_MO_lies_45 (by decide +kernel) ?_
          refine W.lcmp (pc := 46) C0.1 C0.2.1 d_MO_lies_46 ?_
          refine lv_if_ne (pc := 47) (tgt := 54) C0.1 C0.2.1 d_MO_lies_47 (by decide) (fun hc => ?_) (fun hc => ?_)
          · have hb : ∃ j, j < 64 ∧ (st (12 * q + a)).toBitVec.getLsbD j = true ∧ (st (12 * r + a)).toBitVec.getLsbD j = false := by
              apply Classical.byContradiction
              intro hn
              apply hc
              refine (nb_cmp0 _).mpr (bw_sub.mpr (fun j hj h => ?_))
              cases h3 : (st (12 * r + a)).toBitVec.getLsbD j with
              | true => rfl
              | false => exact absurd ⟨j, hj, h, h3⟩ hn
            obtain ⟨j, hj, h3, h4⟩ := hb
            have e2 : (64 * a + j) / 64 = a := by omega
            have e3 : (64 * a + j) % 64 = j := by omega
            refine lv_iconst (pc := 54) (v := nI (0)) C0.1 C0.2.1 d_MO_lies_54 (by decide +kernel) ?_
            refine lv_istore_n (pc := 55) (lv' := [(3, .int (nI (0))), (0, .ref (ad 52)), (1, .int (nI (q))), (2, .int (nI (r))), (4, .int (nI (a)))]) C0.1 C0.2.1 d_MO_lies_55 rfl hl (by decide) rfl (fun ls hl => ?_)
            refine lv_iinc (pc := 56) (k := 4) (v := nI (a + 1)) (lv' := [(4, .int (nI (a + 1))), (3, .int (nI (0))), (0, .ref (ad 52)), (1, .int (nI (q))), (2, .int (nI (r)))]) C0.1 C0.2.1 d_MO_lies_56 hl rfl (nb_p1 _) (by decide) rfl (fun ls hl => ?_)
            refine lv_goto (pc := 59) (tgt := 5) C0.1 C0.2.1 d_MO_lies_59 (by decide) ?_
            exact ih_loop _ (by omega) (a + 1) 0 _ _ _ rfl (by omega) (Or.inr ⟨rfl, 64 * a + j, by
              rw [← hS0 _ (by omega)]
              unfold bw_t
              dsimp only
              rw [e2, e3]; exact h3, by
              rw [← hT0 _ (by omega)]
              unfold bw_t
              dsimp only
              rw [e2, e3]; exact h4⟩) (lv_sub hl [2, 3, 4, 1, 0] rfl) hP hD hS
          · have hb := bw_sub.mp ((nb_cmp0 _).mp hc)
            refine lv_iconst (pc := 50) (v := nI (1)) C0.1 C0.2.1 d_MO_lies_50 (by decide +kernel) ?_
            refine lv_goto (pc := 51) (tgt := 55) C0.1 C0.2.1 d_MO_lies_51 (by decide) ?_
            refine lv_istore_n (pc := 55) (lv' := [(3, .int (nI (1))), (0, .ref (ad 52)), (1, .int (nI (q))), (2, .int (nI (r))), (4, .int (nI (a)))]) C0.1 C0.2.1 d_MO_lies_55 rfl hl (by decide) rfl (fun ls hl => ?_)
            refine lv_iinc (pc := 56) (k := 4) (v := nI (a + 1)) (lv' := [(4, .int (nI (a + 1))), (3, .int (nI (1))), (0, .ref (ad 52)), (1, .int (nI (q))), (2, .int (nI (r)))]) C0.1 C0.2.1 d_MO_lies_56 hl rfl (nb_p1 _) (by decide) rfl (fun ls hl => ?_)
            refine lv_goto (pc := 59) (tgt := 5) C0.1 C0.2.1 d_MO_lies_59 (by decide) ?_
            exact ih_loop _ (by omega) (a + 1) 1 _ _ _ rfl (by omega) (Or.inl ⟨rfl, fun x hx h => by
              by_cases e : x < 64 * a
              · exact hh x e h
              · have e2 : x / 64 = a := by omega
                rw [← hS0 x (by omega)] at h
                rw [← hT0 x (by omega)]
                unfold bw_t at h ⊢
                dsimp only at h ⊢
                rw [e2] at h ⊢
                exact hb (x % 64) (by omega) h⟩) (lv_sub hl [2, 3, 4, 1, 0] rfl) hP hD hS
        · refine lv_iload_n (pc := 12) C0.1 C0.2.1 d_MO_lies_12 rfl (lv_at hl 3 rfl) ?_
          refine mz_eq (pc := 13) (tgt := 54) C0 (by decide) d_MO_lies_13 (by decide) (fun _ => ?_) (fun h9 => absurd rfl h9)
          refine lv_iconst (pc := 54) (v := nI (0)) C0.1 C0.2.1 d_MO_lies_54 (by decide +kernel) ?_
          refine lv_istore_n (pc := 55) (lv' := [(3, .int (nI (0))), (0, .ref (ad 52)), (1, .int (nI (q))), (2, .int (nI (r))), (4, .int (nI (a)))]) C0.1 C0.2.1 d_MO_lies_55 rfl hl (by decide) rfl (fun ls hl => ?_)
          refine lv_iinc (pc := 56) (k := 4) (v := nI (a + 1)) (lv' := [(4, .int (nI (a + 1))), (3, .int (nI (0))), (0, .ref (ad 52)), (1, .int (nI (q))), (2, .int (nI (r)))]) C0.1 C0.2.1 d_MO_lies_56 hl rfl (nb_p1 _) (by decide) rfl (fun ls hl => ?_)
          refine lv_goto (pc := 59) (tgt := 5) C0.1 C0.2.1 d_MO_lies_59 (by decide) ?_
          exact ih_loop _ (by omega) (a + 1) 0 _ _ _ rfl (by omega) (Or.inr ⟨rfl, hh⟩) (lv_sub hl [2, 3, 4, 1, 0] rfl) hP hD hS
  exact loop _ 0 1 _ _ _ rfl (by omega) (Or.inl ⟨rfl, fun y hy => absurd hy (by omega)⟩) (lv_sub hl [2, 3, 4, 1, 0] rfl) hP hD hS
