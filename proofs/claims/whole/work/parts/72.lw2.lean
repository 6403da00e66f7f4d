/-! The arms of the law: each calls the class, then the reference, and the answers agree -/
section LWA
variable {p : Program} {l : Launch} {e : Env} {s : State} {m : MethodId} {below : List Frame} {meth : Method} {c : Code} {Q : State → Prop}
variable {b L : Nat} {xs : Nat → Int32} {D : va_G} {ca : Nat → ClassId} {ad : Nat → Nat} {n : Nat} {cd : Cond}
set_option maxHeartbeats 4000000 in
set_option maxRecDepth 100000 in
theorem lw_arm0 (C0 : CallFix p m c code 4 s #[Value.ref b] (cd :: gw_) R_LW) (hX : va_X b L xs s s.heap) (hbl : b < s.heap.size) (hL : L ≤ 1537) (h2 : 2 ≤ n) (h6 : n ≤ 6) (hK : va_K D classes (tys_ ca) s) {i : Nat} (hi : i + 3 ≤ L) {σ : sp_S} {ws : va_W} {H : Heap} {locs : List Loc} (hg : MGW ca ad n σ ws) (ho : MOW ca ad n σ ws) (hP : va_P D classes ws H) (hD : va_D (lw_A s) ws) (hS : va_S (lw_A s) s.heap H locs) {ls : Array Slot} (hl : lv_has ls 4 [(3, .int (nI (i))), (2, .ref (ad 52)), (1, .ref (ad 0)), (0, .ref (b))]) (kk : ∀ (σ : sp_S) (ws : va_W) (H : Heap) (locs : List Loc), MGW ca ad n σ ws → MOW ca ad n σ ws → va_P D classes ws H → va_D (lw_A s) ws → va_S (lw_A s) s.heap H locs → W p l e room_1 s m #[Value.ref b] below meth c H locs 600000 7302250 Q (F0 m 649 ls [])) : W p l e room_1 s m #[Value.ref b] below meth c H locs 600000 7302250 Q (F0 m 132 ls []) := by
  obtain ⟨len, tx, pc, rk, gc, gs⟩ := σ
  refine lv_aload_n (pc := 132) C0.1 C0.2.1 d_LW_law_132 rfl (lv_at hl 2 rfl) ?_
  refine lv_aload_n (pc := 133) C0.1 C0.2.1 d_LW_law_133 rfl (lv_at hl 3 rfl) ?_
  refine lv_iload_n (pc := 134) C0.1 C0.2.1 d_LW_law_134 rfl (lv_at hl 0 rfl) ?_
  refine lv_iconst (pc := 135) (v := nI (1)) C0.1 C0.2.1 d_LW_law_135 (by decide +kernel) ?_
  refine mn_add (pc := 136) C0 d_LW_law_136 ?_
  refine lw_sld (pc := 137) C0 hX hbl hS (j := i + 1) (by omega) (by omega) d_LW_law_137 ?_
  refine lv_aload_n (pc := 138) C0.1 C0.2.1 d_LW_law_138 rfl (lv_at hl 3 rfl) ?_
  refine lv_iload_n (pc := 139) C0.1 C0.2.1 d_LW_law_139 rfl (lv_at hl 0 rfl) ?_
  refine lv_iconst (pc := 140) (v := nI (2)) C0.1 C0.2.1 d_LW_law_140 (by decide +kernel) ?_
  refine mn_add (pc := 141) C0 d_LW_law_141 ?_
  refine lw_sld (pc := 142) C0 hX hbl hS (j := i + 2) (by omega) (by omega) d_LW_law_142 ?_
  obtain ⟨hz, -⟩ := (⟨hg.1, trivial⟩ : ws[0]? = some (ad 0, .inr (0, [.ref (ad 1), .ref (ad 4), .ref (ad 7), .int (nI (pc)), .ref (ad 9), .int (nI (gc)), .ref (ad 46), .ref (ad 49)])) ∧ True)
  refine mg_ciR (pc := 143) (As := [.int (xs (i + 1)), .int (xs (i + 2))]) (rest := []) C0 (c_MG_type l D ca ad h2 h6 ws hg) lk_LW_21 ⟨Nat.le_of_ble_eq_true rfl, Nat.le_of_ble_eq_true rfl⟩ ⟨Nat.le_refl _, Nat.le_refl _⟩ hz rfl hK hP hD hS (fun _ h => h) rfl hl.1 rfl (Nat.le_of_ble_eq_true rfl) d_LW_law_143 (fun rv ws H locs hpost hP hD hS => ?_)
  obtain ⟨hr, hg, hfr⟩ := hpost
  have ho := lw_ofr hfr ho
  refine lv_aload_n (pc := 146) C0.1 C0.2.1 d_LW_law_146 rfl (lv_at hl 1 rfl) ?_
  refine lv_aload_n (pc := 147) C0.1 C0.2.1 d_LW_law_147 rfl (lv_at hl 3 rfl) ?_
  refine lv_iload_n (pc := 148) C0.1 C0.2.1 d_LW_law_148 rfl (lv_at hl 0 rfl) ?_
  refine lv_iconst (pc := 149) (v := nI (1)) C0.1 C0.2.1 d_LW_law_149 (by decide +kernel) ?_
  refine mn_add (pc := 150) C0 d_LW_law_150 ?_
  refine lw_sld (pc := 151) C0 hX hbl hS (j := i + 1) (by omega) (by omega) d_LW_law_151 ?_
  refine lv_aload_n (pc := 152) C0.1 C0.2.1 d_LW_law_152 rfl (lv_at hl 3 rfl) ?_
  refine lv_iload_n (pc := 153) C0.1 C0.2.1 d_LW_law_153 rfl (lv_at hl 0 rfl) ?_
  refine lv_iconst (pc := 154) (v := nI (2)) C0.1 C0.2.1 d_LW_law_154 (by decide +kernel) ?_
  refine mn_add (pc := 155) C0 d_LW_law_155 ?_
  refine lw_sld (pc := 156) C0 hX hbl hS (j := i + 2) (by omega) (by omega) d_LW_law_156 ?_
  obtain ⟨hz, -⟩ := (⟨ho.1, trivial⟩ : ws[52]? = some (ad 52, .inr (4, [.int (nI (n)), .int (nI (pm_fc n)), .ref (ad 53), .int (nI (pc)), .ref (ad 54), .int (nI (gc)), .ref (ad 55), .ref (ad 56), .ref (ad 57), .ref (ad 58), .ref (ad 59), .int (nI (len))])) ∧ True)
  refine mg_ciR (pc := 157) (As := [.int (xs (i + 1)), .int (xs (i + 2))]) (rest := [.int (rv)]) C0 (c_MO_type l D ca ad h2 h6 ws ho) lk_LW_25 ⟨Nat.le_of_ble_eq_true rfl, Nat.le_of_ble_eq_true rfl⟩ ⟨Nat.le_refl _, Nat.le_refl _⟩ hz rfl hK hP hD hS (fun _ h => h) rfl hl.1 rfl (Nat.le_of_ble_eq_true rfl) d_LW_law_157 (fun ru ws H locs hpost hP hD hS => ?_)
  obtain ⟨hr2, ho, hfr⟩ := hpost
  have hg := lw_gfr hfr hg
  exact lv_icmp_eq (pc := 160) (tgt := 649) C0.1 C0.2.1 d_LW_law_160 (by decide) (fun _ => kk _ _ _ _ hg ho hP hD hS) (fun hc => absurd (hr.trans hr2.symm) hc)
set_option maxHeartbeats 4000000 in
set_option maxRecDepth 100000 in
theorem lw_arm1 (C0 : CallFix p m c code 4 s #[Value.ref b] (cd :: gw_) R_LW) (hX : va_X b L xs s s.heap) (hbl : b < s.heap.size) (hL : L ≤ 1537) (h2 : 2 ≤ n) (h6 : n ≤ 6) (hK : va_K D classes (tys_ ca) s) {i : Nat} (hi : i + 3 ≤ L) {σ : sp_S} {ws : va_W} {H : Heap} {locs : List Loc} (hg : MGW ca ad n σ ws) (ho : MOW ca ad n σ ws) (hP : va_P D classes ws H) (hD : va_D (lw_A s) ws) (hS : va_S (lw_A s) s.heap H locs) {ls : Array Slot} (hl : lv_has ls 4 [(3, .int (nI (i))), (2, .ref (ad 52)), (1, .ref (ad 0)), (0, .ref (b))]) (kk : ∀ (σ : sp_S) (ws : va_W) (H : Heap) (locs : List Loc), MGW ca ad n σ ws → MOW ca ad n σ ws → va_P D classes ws H → va_D (lw_A s) ws → va_S (lw_A s) s.heap H locs → W p l e room_1 s m #[Value.ref b] below meth c H locs 600000 7302250 Q (F0 m 649 ls [])) : W p l e room_1 s m #[Value.ref b] below meth c H locs 600000 7302250 Q (F0 m 165 ls []) := by
  obtain ⟨len, tx, pc, rk, gc, gs⟩ := σ
  refine lv_aload_n (pc := 165) C0.1 C0.2.1 d_LW_law_165 rfl (lv_at hl 2 rfl) ?_
  obtain ⟨hz, -⟩ := (⟨hg.1, trivial⟩ : ws[0]? = some (ad 0, .inr (0, [.ref (ad 1), .ref (ad 4), .ref (ad 7), .int (nI (pc)), .ref (ad 9), .int (nI (gc)), .ref (ad 46), .ref (ad 49)])) ∧ True)
  refine mg_ciR (pc := 166) (As := []) (rest := []) C0 (c_MG_read l D ca ad h2 h6 ws hg) lk_LW_26 ⟨Nat.le_of_ble_eq_true rfl, Nat.le_of_ble_eq_true rfl⟩ ⟨Nat.le_refl _, Nat.le_refl _⟩ hz rfl hK hP hD hS (fun _ h => h) rfl hl.1 rfl (Nat.le_of_ble_eq_true rfl) d_LW_law_166 (fun rv ws H locs hpost hP hD hS => ?_)
  obtain ⟨hr, hg, hfr⟩ := hpost
  have ho := lw_ofr hfr ho
  refine lv_aload_n (pc := 169) C0.1 C0.2.1 d_LW_law_169 rfl (lv_at hl 1 rfl) ?_
  obtain ⟨hz, -⟩ := (⟨ho.1, trivial⟩ : ws[52]? = some (ad 52, .inr (4, [.int (nI (n)), .int (nI (pm_fc n)), .ref (ad 53), .int (nI (pc)), .ref (ad 54), .int (nI (gc)), .ref (ad 55), .ref (ad 56), .ref (ad 57), .ref (ad 58), .ref (ad 59), .int (nI (len))])) ∧ True)
  refine mg_ciR (pc := 170) (As := []) (rest := [.int (rv)]) C0 (c_MO_read l D ca ad h2 h6 ws ho) lk_LW_30 ⟨Nat.le_of_ble_eq_true rfl, Nat.le_of_ble_eq_true rfl⟩ ⟨Nat.le_refl _, Nat.le_refl _⟩ hz rfl hK hP hD hS (fun _ h => h) rfl hl.1 rfl (Nat.le_of_ble_eq_true rfl) d_LW_law_170 (fun ru ws H locs hpost hP hD hS => ?_)
  obtain ⟨hr2, ho, hfr⟩ := hpost
  have hg := lw_gfr hfr hg
  exact lv_icmp_eq (pc := 173) (tgt := 649) C0.1 C0.2.1 d_LW_law_173 (by decide) (fun _ => kk _ _ _ _ hg ho hP hD hS) (fun hc => absurd (hr.trans hr2.symm) hc)
set_option maxHeartbeats 4000000 in
set_option maxRecDepth 100000 in
theorem lw_arm2 (C0 : CallFix p m c code 4 s #[Value.ref b] (cd :: gw_) R_LW) (hX : va_X b L xs s s.heap) (hbl : b < s.heap.size) (hL : L ≤ 1537) (h2 : 2 ≤ n) (h6 : n ≤ 6) (hK : va_K D classes (tys_ ca) s) {i : Nat} (hi : i + 3 ≤ L) {σ : sp_S} {ws : va_W} {H : Heap} {locs : List Loc} (hg : MGW ca ad n σ ws) (ho : MOW ca ad n σ ws) (hP : va_P D classes ws H) (hD : va_D (lw_A s) ws) (hS : va_S (lw_A s) s.heap H locs) {ls : Array Slot} (hl : lv_has ls 4 [(3, .int (nI (i))), (2, .ref (ad 52)), (1, .ref (ad 0)), (0, .ref (b))]) (kk : ∀ (σ : sp_S) (ws : va_W) (H : Heap) (locs : List Loc), MGW ca ad n σ ws → MOW ca ad n σ ws → va_P D classes ws H → va_D (lw_A s) ws → va_S (lw_A s) s.heap H locs → W p l e room_1 s m #[Value.ref b] below meth c H locs 600000 7302250 Q (F0 m 649 ls [])) : W p l e room_1 s m #[Value.ref b] below meth c H locs 600000 7302250 Q (F0 m 178 ls []) := by
  obtain ⟨len, tx, pc, rk, gc, gs⟩ := σ
  refine lv_aload_n (pc := 178) C0.1 C0.2.1 d_LW_law_178 rfl (lv_at hl 2 rfl) ?_
  refine lv_aload_n (pc := 179) C0.1 C0.2.1 d_LW_law_179 rfl (lv_at hl 3 rfl) ?_
  refine lv_iload_n (pc := 180) C0.1 C0.2.1 d_LW_law_180 rfl (lv_at hl 0 rfl) ?_
  refine lv_iconst (pc := 181) (v := nI (1)) C0.1 C0.2.1 d_LW_law_181 (by decide +kernel) ?_
  refine mn_add (pc := 182) C0 d_LW_law_182 ?_
  refine lw_sld (pc := 183) C0 hX hbl hS (j := i + 1) (by omega) (by omega) d_LW_law_183 ?_
  refine lv_aload_n (pc := 184) C0.1 C0.2.1 d_LW_law_184 rfl (lv_at hl 3 rfl) ?_
  refine lv_iload_n (pc := 185) C0.1 C0.2.1 d_LW_law_185 rfl (lv_at hl 0 rfl) ?_
  refine lv_iconst (pc := 186) (v := nI (2)) C0.1 C0.2.1 d_LW_law_186 (by decide +kernel) ?_
  refine mn_add (pc := 187) C0 d_LW_law_187 ?_
  refine lw_sld (pc := 188) C0 hX hbl hS (j := i + 2) (by omega) (by omega) d_LW_law_188 ?_
  obtain ⟨hz, -⟩ := (⟨hg.1, trivial⟩ : ws[0]? = some (ad 0, .inr (0, [.ref (ad 1), .ref (ad 4), .ref (ad 7), .int (nI (pc)), .ref (ad 9), .int (nI (gc)), .ref (ad 46), .ref (ad 49)])) ∧ True)
  refine mg_ciR (pc := 189) (As := [.int (xs (i + 1)), .int (xs (i + 2))]) (rest := []) C0 (c_MG_product l D ca ad h2 h6 ws hg) lk_LW_31 ⟨Nat.le_of_ble_eq_true rfl, Nat.le_of_ble_eq_true rfl⟩ ⟨Nat.le_refl _, Nat.le_refl _⟩ hz rfl hK hP hD hS (fun _ h => h) rfl hl.1 rfl (Nat.le_of_ble_eq_true rfl) d_LW_law_189 (fun rv ws H locs hpost hP hD hS => ?_)
  obtain ⟨hr, hg, hfr⟩ := hpost
  have ho := lw_ofr hfr ho
  refine lv_aload_n (pc := 192) C0.1 C0.2.1 d_LW_law_192 rfl (lv_at hl 1 rfl) ?_
  refine lv_aload_n (pc := 193) C0.1 C0.2.1 d_LW_law_193 rfl (lv_at hl 3 rfl) ?_
  refine lv_iload_n (pc := 194) C0.1 C0.2.1 d_LW_law_194 rfl (lv_at hl 0 rfl) ?_
  refine lv_iconst (pc := 195) (v := nI (1)) C0.1 C0.2.1 d_LW_law_195 (by decide +kernel) ?_
  refine mn_add (pc := 196) C0 d_LW_law_196 ?_
  refine lw_sld (pc := 197) C0 hX hbl hS (j := i + 1) (by omega) (by omega) d_LW_law_197 ?_
  refine lv_aload_n (pc := 198) C0.1 C0.2.1 d_LW_law_198 rfl (lv_at hl 3 rfl) ?_
  refine lv_iload_n (pc := 199) C0.1 C0.2.1 d_LW_law_199 rfl (lv_at hl 0 rfl) ?_
  refine lv_iconst (pc := 200) (v := nI (2)) C0.1 C0.2.1 d_LW_law_200 (by decide +kernel) ?_
  refine mn_add (pc := 201) C0 d_LW_law_201 ?_
  refine lw_sld (pc := 202) C0 hX hbl hS (j := i + 2) (by omega) (by omega) d_LW_law_202 ?_
  obtain ⟨hz, -⟩ := (⟨ho.1, trivial⟩ : ws[52]? = some (ad 52, .inr (4, [.int (nI (n)), .int (nI (pm_fc n)), .ref (ad 53), .int (nI (pc)), .ref (ad 54), .int (nI (gc)), .ref (ad 55), .ref (ad 56), .ref (ad 57), .ref (ad 58), .ref (ad 59), .int (nI (len))])) ∧ True)
  refine mg_ciR (pc := 203) (As := [.int (xs (i + 1)), .int (xs (i + 2))]) (rest := [.int (rv)]) C0 (c_MO_product l D ca ad h2 h6 ws ho) lk_LW_35 ⟨Nat.le_of_ble_eq_true rfl, Nat.le_of_ble_eq_true rfl⟩ ⟨Nat.le_refl _, Nat.le_refl _⟩ hz rfl hK hP hD hS (fun _ h => h) rfl hl.1 rfl (Nat.le_of_ble_eq_true rfl) d_LW_law_203 (fun ru ws H locs hpost hP hD hS => ?_)
  obtain ⟨hr2, ho, hfr⟩ := hpost
  have hg := lw_gfr hfr hg
  exact lv_icmp_eq (pc := 206) (tgt := 649) C0.1 C0.2.1 d_LW_law_206 (by decide) (fun _ => kk _ _ _ _ hg ho hP hD hS) (fun hc => absurd (hr.trans hr2.symm) hc)
set_option maxHeartbeats 4000000 in
set_option maxRecDepth 100000 in
theorem lw_arm3 (C0 : CallFix p m c code 4 s #[Value.ref b] (cd :: gw_) R_LW) (hX : va_X b L xs s s.heap) (hbl : b < s.heap.size) (hL : L ≤ 1537) (h2 : 2 ≤ n) (h6 : n ≤ 6) (hK : va_K D classes (tys_ ca) s) {i : Nat} (hi : i + 3 ≤ L) {σ : sp_S} {ws : va_W} {H : Heap} {locs : List Loc} (hg : MGW ca ad n σ ws) (ho : MOW ca ad n σ ws) (hP : va_P D classes ws H) (hD : va_D (lw_A s) ws) (hS : va_S (lw_A s) s.heap H locs) {ls : Array Slot} (hl : lv_has ls 4 [(3, .int (nI (i))), (2, .ref (ad 52)), (1, .ref (ad 0)), (0, .ref (b))]) (kk : ∀ (σ : sp_S) (ws : va_W) (H : Heap) (locs : List Loc), MGW ca ad n σ ws → MOW ca ad n σ ws → va_P D classes ws H → va_D (lw_A s) ws → va_S (lw_A s) s.heap H locs → W p l e room_1 s m #[Value.ref b] below meth c H locs 600000 7302250 Q (F0 m 649 ls [])) : W p l e room_1 s m #[Value.ref b] below meth c H locs 600000 7302250 Q (F0 m 211 ls []) := by
  obtain ⟨len, tx, pc, rk, gc, gs⟩ := σ
  refine lv_aload_n (pc := 211) C0.1 C0.2.1 d_LW_law_211 rfl (lv_at hl 2 rfl) ?_
  refine lv_aload_n (pc := 212) C0.1 C0.2.1 d_LW_law_212 rfl (lv_at hl 3 rfl) ?_
  refine lv_iload_n (pc := 213) C0.1 C0.2.1 d_LW_law_213 rfl (lv_at hl 0 rfl) ?_
  refine lv_iconst (pc := 214) (v := nI (1)) C0.1 C0.2.1 d_LW_law_214 (by decide +kernel) ?_
  refine mn_add (pc := 215) C0 d_LW_law_215 ?_
  refine lw_sld (pc := 216) C0 hX hbl hS (j := i + 1) (by omega) (by omega) d_LW_law_216 ?_
  obtain ⟨hz, -⟩ := (⟨hg.1, trivial⟩ : ws[0]? = some (ad 0, .inr (0, [.ref (ad 1), .ref (ad 4), .ref (ad 7), .int (nI (pc)), .ref (ad 9), .int (nI (gc)), .ref (ad 46), .ref (ad 49)])) ∧ True)
  refine mg_ciR (pc := 217) (As := [.int (xs (i + 1))]) (rest := []) C0 (c_MG_inverse l D ca ad h2 h6 ws hg) lk_LW_36 ⟨Nat.le_of_ble_eq_true rfl, Nat.le_of_ble_eq_true rfl⟩ ⟨Nat.le_refl _, Nat.le_refl _⟩ hz rfl hK hP hD hS (fun _ h => h) rfl hl.1 rfl (Nat.le_of_ble_eq_true rfl) d_LW_law_217 (fun rv ws H locs hpost hP hD hS => ?_)
  obtain ⟨hr, hg, hfr⟩ := hpost
  have ho := lw_ofr hfr ho
  refine lv_aload_n (pc := 220) C0.1 C0.2.1 d_LW_law_220 rfl (lv_at hl 1 rfl) ?_
  refine lv_aload_n (pc := 221) C0.1 C0.2.1 d_LW_law_221 rfl (lv_at hl 3 rfl) ?_
  refine lv_iload_n (pc := 222) C0.1 C0.2.1 d_LW_law_222 rfl (lv_at hl 0 rfl) ?_
  refine lv_iconst (pc := 223) (v := nI (1)) C0.1 C0.2.1 d_LW_law_223 (by decide +kernel) ?_
  refine mn_add (pc := 224) C0 d_LW_law_224 ?_
  refine lw_sld (pc := 225) C0 hX hbl hS (j := i + 1) (by omega) (by omega) d_LW_law_225 ?_
  obtain ⟨hz, -⟩ := (⟨ho.1, trivial⟩ : ws[52]? = some (ad 52, .inr (4, [.int (nI (n)), .int (nI (pm_fc n)), .ref (ad 53), .int (nI (pc)), .ref (ad 54), .int (nI (gc)), .ref (ad 55), .ref (ad 56), .ref (ad 57), .ref (ad 58), .ref (ad 59), .int (nI (len))])) ∧ True)
  refine mg_ciR (pc := 226) (As := [.int (xs (i + 1))]) (rest := [.int (rv)]) C0 (c_MO_inverse l D ca ad h2 h6 ws ho) lk_LW_40 ⟨Nat.le_of_ble_eq_true rfl, Nat.le_of_ble_eq_true rfl⟩ ⟨Nat.le_refl _, Nat.le_refl _⟩ hz rfl hK hP hD hS (fun _ h => h) rfl hl.1 rfl (Nat.le_of_ble_eq_true rfl) d_LW_law_226 (fun ru ws H locs hpost hP hD hS => ?_)
  obtain ⟨hr2, ho, hfr⟩ := hpost
  have hg := lw_gfr hfr hg
  exact lv_icmp_eq (pc := 229) (tgt := 649) C0.1 C0.2.1 d_LW_law_229 (by decide) (fun _ => kk _ _ _ _ hg ho hP hD hS) (fun hc => absurd (hr.trans hr2.symm) hc)
set_option maxHeartbeats 4000000 in
set_option maxRecDepth 100000 in
theorem lw_arm4 (C0 : CallFix p m c code 4 s #[Value.ref b] (cd :: gw_) R_LW) (hX : va_X b L xs s s.heap) (hbl : b < s.heap.size) (hL : L ≤ 1537) (h2 : 2 ≤ n) (h6 : n ≤ 6) (hK : va_K D classes (tys_ ca) s) {i : Nat} (hi : i + 3 ≤ L) {σ : sp_S} {ws : va_W} {H : Heap} {locs : List Loc} (hg : MGW ca ad n σ ws) (ho : MOW ca ad n σ ws) (hP : va_P D classes ws H) (hD : va_D (lw_A s) ws) (hS : va_S (lw_A s) s.heap H locs) {ls : Array Slot} (hl : lv_has ls 4 [(3, .int (nI (i))), (2, .ref (ad 52)), (1, .ref (ad 0)), (0, .ref (b))]) (kk : ∀ (σ : sp_S) (ws : va_W) (H : Heap) (locs : List Loc), MGW ca ad n σ ws → MOW ca ad n σ ws → va_P D classes ws H → va_D (lw_A s) ws → va_S (lw_A s) s.heap H locs → W p l e room_1 s m #[Value.ref b] below meth c H locs 600000 7302250 Q (F0 m 649 ls [])) : W p l e room_1 s m #[Value.ref b] below meth c H locs 600000 7302250 Q (F0 m 234 ls []) := by
  obtain ⟨len, tx, pc, rk, gc, gs⟩ := σ
  refine lv_aload_n (pc := 234) C0.1 C0.2.1 d_LW_law_234 rfl (lv_at hl 2 rfl) ?_
  refine lv_aload_n (pc := 235) C0.1 C0.2.1 d_LW_law_235 rfl (lv_at hl 3 rfl) ?_
  refine lv_iload_n (pc := 236) C0.1 C0.2.1 d_LW_law_236 rfl (lv_at hl 0 rfl) ?_
  refine lv_iconst (pc := 237) (v := nI (1)) C0.1 C0.2.1 d_LW_law_237 (by decide +kernel) ?_
  refine mn_add (pc := 238) C0 d_LW_law_238 ?_
  refine lw_sld (pc := 239) C0 hX hbl hS (j := i + 1) (by omega) (by omega) d_LW_law_239 ?_
  obtain ⟨hz, -⟩ := (⟨hg.1, trivial⟩ : ws[0]? = some (ad 0, .inr (0, [.ref (ad 1), .ref (ad 4), .ref (ad 7), .int (nI (pc)), .ref (ad 9), .int (nI (gc)), .ref (ad 46), .ref (ad 49)])) ∧ True)
  refine mg_ciR (pc := 240) (As := [.int (xs (i + 1))]) (rest := []) C0 (c_MG_images l D ca ad h2 h6 ws hg) lk_LW_41 ⟨Nat.le_of_ble_eq_true rfl, Nat.le_of_ble_eq_true rfl⟩ ⟨Nat.le_refl _, Nat.le_refl _⟩ hz rfl hK hP hD hS (fun _ h => h) rfl hl.1 rfl (Nat.le_of_ble_eq_true rfl) d_LW_law_240 (fun rv ws H locs hpost hP hD hS => ?_)
  obtain ⟨hr, hg, hfr⟩ := hpost
  have ho := lw_ofr hfr ho
  refine lv_aload_n (pc := 243) C0.1 C0.2.1 d_LW_law_243 rfl (lv_at hl 1 rfl) ?_
  refine lv_aload_n (pc := 244) C0.1 C0.2.1 d_LW_law_244 rfl (lv_at hl 3 rfl) ?_
  refine lv_iload_n (pc := 245) C0.1 C0.2.1 d_LW_law_245 rfl (lv_at hl 0 rfl) ?_
  refine lv_iconst (pc := 246) (v := nI (1)) C0.1 C0.2.1 d_LW_law_246 (by decide +kernel) ?_
  refine mn_add (pc := 247) C0 d_LW_law_247 ?_
  refine lw_sld (pc := 248) C0 hX hbl hS (j := i + 1) (by omega) (by omega) d_LW_law_248 ?_
  obtain ⟨hz, -⟩ := (⟨ho.1, trivial⟩ : ws[52]? = some (ad 52, .inr (4, [.int (nI (n)), .int (nI (pm_fc n)), .ref (ad 53), .int (nI (pc)), .ref (ad 54), .int (nI (gc)), .ref (ad 55), .ref (ad 56), .ref (ad 57), .ref (ad 58), .ref (ad 59), .int (nI (len))])) ∧ True)
  refine mg_ciR (pc := 249) (As := [.int (xs (i + 1))]) (rest := [.int (rv)]) C0 (c_MO_images l D ca ad h2 h6 ws ho) lk_LW_44 ⟨Nat.le_of_ble_eq_true rfl, Nat.le_of_ble_eq_true rfl⟩ ⟨Nat.le_refl _, Nat.le_refl _⟩ hz rfl hK hP hD hS (fun _ h => h) rfl hl.1 rfl (Nat.le_of_ble_eq_true rfl) d_LW_law_249 (fun ru ws H locs hpost hP hD hS => ?_)
  obtain ⟨hr2, ho, hfr⟩ := hpost
  have hg := lw_gfr hfr hg
  exact lv_icmp_eq (pc := 252) (tgt := 649) C0.1 C0.2.1 d_LW_law_252 (by decide) (fun _ => kk _ _ _ _ hg ho hP hD hS) (fun hc => absurd (hr.trans hr2.symm) hc)
set_option maxHeartbeats 4000000 in
set_option maxRecDepth 100000 in
theorem lw_arm5 (C0 : CallFix p m c code 4 s #[Value.ref b] (cd :: gw_) R_LW) (hX : va_X b L xs s s.heap) (hbl : b < s.heap.size) (hL : L ≤ 1537) (h2 : 2 ≤ n) (h6 : n ≤ 6) (hK : va_K D classes (tys_ ca) s) {i : Nat} (hi : i + 3 ≤ L) {σ : sp_S} {ws : va_W} {H : Heap} {locs : List Loc} (hg : MGW ca ad n σ ws) (ho : MOW ca ad n σ ws) (hP : va_P D classes ws H) (hD : va_D (lw_A s) ws) (hS : va_S (lw_A s) s.heap H locs) {ls : Array Slot} (hl : lv_has ls 4 [(3, .int (nI (i))), (2, .ref (ad 52)), (1, .ref (ad 0)), (0, .ref (b))]) (kk : ∀ (σ : sp_S) (ws : va_W) (H : Heap) (locs : List Loc), MGW ca ad n σ ws → MOW ca ad n σ ws → va_P D classes ws H → va_D (lw_A s) ws → va_S (lw_A s) s.heap H locs → W p l e room_1 s m #[Value.ref b] below meth c H locs 600000 7302250 Q (F0 m 649 ls [])) : W p l e room_1 s m #[Value.ref b] below meth c H locs 600000 7302250 Q (F0 m 257 ls []) := by
  obtain ⟨len, tx, pc, rk, gc, gs⟩ := σ
  refine lv_aload_n (pc := 257) C0.1 C0.2.1 d_LW_law_257 rfl (lv_at hl 2 rfl) ?_
  obtain ⟨hz, -⟩ := (⟨hg.1, trivial⟩ : ws[0]? = some (ad 0, .inr (0, [.ref (ad 1), .ref (ad 4), .ref (ad 7), .int (nI (pc)), .ref (ad 9), .int (nI (gc)), .ref (ad 46), .ref (ad 49)])) ∧ True)
  refine mg_ciR (pc := 258) (As := []) (rest := []) C0 (c_MG_group l D ca ad h2 h6 ws hg) lk_LW_45 ⟨Nat.le_of_ble_eq_true rfl, Nat.le_of_ble_eq_true rfl⟩ ⟨Nat.le_refl _, Nat.le_refl _⟩ hz rfl hK hP hD hS (fun _ h => h) rfl hl.1 rfl (Nat.le_of_ble_eq_true rfl) d_LW_law_258 (fun rv ws H locs hpost hP hD hS => ?_)
  obtain ⟨hr, hg, hfr⟩ := hpost
  have ho := lw_ofr hfr ho
  refine lv_aload_n (pc := 261) C0.1 C0.2.1 d_LW_law_261 rfl (lv_at hl 1 rfl) ?_
  obtain ⟨hz, -⟩ := (⟨ho.1, trivial⟩ : ws[52]? = some (ad 52, .inr (4, [.int (nI (n)), .int (nI (pm_fc n)), .ref (ad 53), .int (nI (pc)), .ref (ad 54), .int (nI (gc)), .ref (ad 55), .ref (ad 56), .ref (ad 57), .ref (ad 58), .ref (ad 59), .int (nI (len))])) ∧ True)
  refine mg_ciR (pc := 262) (As := []) (rest := [.int (rv)]) C0 (c_MO_group l D ca ad h2 h6 ws ho) lk_LW_48 ⟨Nat.le_of_ble_eq_true rfl, Nat.le_of_ble_eq_true rfl⟩ ⟨Nat.le_refl _, Nat.le_refl _⟩ hz rfl hK hP hD hS (fun _ h => h) rfl hl.1 rfl (Nat.le_of_ble_eq_true rfl) d_LW_law_262 (fun ru ws H locs hpost hP hD hS => ?_)
  obtain ⟨hr2, ho, hfr⟩ := hpost
  have hg := lw_gfr hfr hg
  exact lv_icmp_eq (pc := 265) (tgt := 649) C0.1 C0.2.1 d_LW_law_265 (by decide) (fun _ => kk _ _ _ _ hg ho hP hD hS) (fun hc => absurd (hr.trans hr2.symm) hc)
set_option maxHeartbeats 4000000 in
set_option maxRecDepth 100000 in
theorem lw_arm6 (C0 : CallFix p m c code 4 s #[Value.ref b] (cd :: gw_) R_LW) (hX : va_X b L xs s s.heap) (hbl : b < s.heap.size) (hL : L ≤ 1537) (h2 : 2 ≤ n) (h6 : n ≤ 6) (hK : va_K D classes (tys_ ca) s) {i : Nat} (hi : i + 3 ≤ L) {σ : sp_S} {ws : va_W} {H : Heap} {locs : List Loc} (hg : MGW ca ad n σ ws) (ho : MOW ca ad n σ ws) (hP : va_P D classes ws H) (hD : va_D (lw_A s) ws) (hS : va_S (lw_A s) s.heap H locs) {ls : Array Slot} (hl : lv_has ls 4 [(3, .int (nI (i))), (2, .ref (ad 52)), (1, .ref (ad 0)), (0, .ref (b))]) (kk : ∀ (σ : sp_S) (ws : va_W) (H : Heap) (locs : List Loc), MGW ca ad n σ ws → MOW ca ad n σ ws → va_P D classes ws H → va_D (lw_A s) ws → va_S (lw_A s) s.heap H locs → W p l e room_1 s m #[Value.ref b] below meth c H locs 600000 7302250 Q (F0 m 649 ls [])) : W p l e room_1 s m #[Value.ref b] below meth c H locs 600000 7302250 Q (F0 m 270 ls []) := by
  obtain ⟨len, tx, pc, rk, gc, gs⟩ := σ
  refine lv_aload_n (pc := 270) C0.1 C0.2.1 d_LW_law_270 rfl (lv_at hl 2 rfl) ?_
  refine lv_aload_n (pc := 271) C0.1 C0.2.1 d_LW_law_271 rfl (lv_at hl 3 rfl) ?_
  refine lv_iload_n (pc := 272) C0.1 C0.2.1 d_LW_law_272 rfl (lv_at hl 0 rfl) ?_
  refine lv_iconst (pc := 273) (v := nI (1)) C0.1 C0.2.1 d_LW_law_273 (by decide +kernel) ?_
  refine mn_add (pc := 274) C0 d_LW_law_274 ?_
  refine lw_sld (pc := 275) C0 hX hbl hS (j := i + 1) (by omega) (by omega) d_LW_law_275 ?_
  refine lv_aload_n (pc := 276) C0.1 C0.2.1 d_LW_law_276 rfl (lv_at hl 3 rfl) ?_
  refine lv_iload_n (pc := 277) C0.1 C0.2.1 d_LW_law_277 rfl (lv_at hl 0 rfl) ?_
  refine lv_iconst (pc := 278) (v := nI (2)) C0.1 C0.2.1 d_LW_law_278 (by decide +kernel) ?_
  refine mn_add (pc := 279) C0 d_LW_law_279 ?_
  refine lw_sld (pc := 280) C0 hX hbl hS (j := i + 2) (by omega) (by omega) d_LW_law_280 ?_
  obtain ⟨hz, -⟩ := (⟨hg.1, trivial⟩ : ws[0]? = some (ad 0, .inr (0, [.ref (ad 1), .ref (ad 4), .ref (ad 7), .int (nI (pc)), .ref (ad 9), .int (nI (gc)), .ref (ad 46), .ref (ad 49)])) ∧ True)
  refine mg_ciR (pc := 281) (As := [.int (xs (i + 1)), .int (xs (i + 2))]) (rest := []) C0 (c_MG_generate l D ca ad h2 h6 ws hg) lk_LW_49 ⟨Nat.le_of_ble_eq_true rfl, Nat.le_of_ble_eq_true rfl⟩ ⟨Nat.le_refl _, Nat.le_refl _⟩ hz rfl hK hP hD hS (fun _ h => h) rfl hl.1 rfl (Nat.le_of_ble_eq_true rfl) d_LW_law_281 (fun rv ws H locs hpost hP hD hS => ?_)
  obtain ⟨hr, hg, hfr⟩ := hpost
  have ho := lw_ofr hfr ho
  refine lv_aload_n (pc := 284) C0.1 C0.2.1 d_LW_law_284 rfl (lv_at hl 1 rfl) ?_
  refine lv_aload_n (pc := 285) C0.1 C0.2.1 d_LW_law_285 rfl (lv_at hl 3 rfl) ?_
  refine lv_iload_n (pc := 286) C0.1 C0.2.1 d_LW_law_286 rfl (lv_at hl 0 rfl) ?_
  refine lv_iconst (pc := 287) (v := nI (1)) C0.1 C0.2.1 d_LW_law_287 (by decide +kernel) ?_
  refine mn_add (pc := 288) C0 d_LW_law_288 ?_
  refine lw_sld (pc := 289) C0 hX hbl hS (j := i + 1) (by omega) (by omega) d_LW_law_289 ?_
  refine lv_aload_n (pc := 290) C0.1 C0.2.1 d_LW_law_290 rfl (lv_at hl 3 rfl) ?_
  refine lv_iload_n (pc := 291) C0.1 C0.2.1 d_LW_law_291 rfl (lv_at hl 0 rfl) ?_
  refine lv_iconst (pc := 292) (v := nI (2)) C0.1 C0.2.1 d_LW_law_292 (by decide +kernel) ?_
  refine mn_add (pc := 293) C0 d_LW_law_293 ?_
  refine lw_sld (pc := 294) C0 hX hbl hS (j := i + 2) (by omega) (by omega) d_LW_law_294 ?_
  obtain ⟨hz, -⟩ := (⟨ho.1, trivial⟩ : ws[52]? = some (ad 52, .inr (4, [.int (nI (n)), .int (nI (pm_fc n)), .ref (ad 53), .int (nI (pc)), .ref (ad 54), .int (nI (gc)), .ref (ad 55), .ref (ad 56), .ref (ad 57), .ref (ad 58), .ref (ad 59), .int (nI (len))])) ∧ True)
  refine mg_ciR (pc := 295) (As := [.int (xs (i + 1)), .int (xs (i + 2))]) (rest := [.int (rv)]) C0 (c_MO_generate l D ca ad h2 h6 ws ho) lk_LW_52 ⟨Nat.le_of_ble_eq_true rfl, Nat.le_of_ble_eq_true rfl⟩ ⟨Nat.le_refl _, Nat.le_refl _⟩ hz rfl hK hP hD hS (fun _ h => h) rfl hl.1 rfl (Nat.le_of_ble_eq_true rfl) d_LW_law_295 (fun ru ws H locs hpost hP hD hS => ?_)
  obtain ⟨hr2, ho, hfr⟩ := hpost
  have hg := lw_gfr hfr hg
  exact lv_icmp_eq (pc := 298) (tgt := 649) C0.1 C0.2.1 d_LW_law_298 (by decide) (fun _ => kk _ _ _ _ hg ho hP hD hS) (fun hc => absurd (hr.trans hr2.symm) hc)
set_option maxHeartbeats 4000000 in
set_option maxRecDepth 100000 in
theorem lw_arm7 (C0 : CallFix p m c code 4 s #[Value.ref b] (cd :: gw_) R_LW) (hX : va_X b L xs s s.heap) (hbl : b < s.heap.size) (hL : L ≤ 1537) (h2 : 2 ≤ n) (h6 : n ≤ 6) (hK : va_K D classes (tys_ ca) s) {i : Nat} (hi : i + 3 ≤ L) {σ : sp_S} {ws : va_W} {H : Heap} {locs : List Loc} (hg : MGW ca ad n σ ws) (ho : MOW ca ad n σ ws) (hP : va_P D classes ws H) (hD : va_D (lw_A s) ws) (hS : va_S (lw_A s) s.heap H locs) {ls : Array Slot} (hl : lv_has ls 4 [(3, .int (nI (i))), (2, .ref (ad 52)), (1, .ref (ad 0)), (0, .ref (b))]) (kk : ∀ (σ : sp_S) (ws : va_W) (H : Heap) (locs : List Loc), MGW ca ad n σ ws → MOW ca ad n σ ws → va_P D classes ws H → va_D (lw_A s) ws → va_S (lw_A s) s.heap H locs → W p l e room_1 s m #[Value.ref b] below meth c H locs 600000 7302250 Q (F0 m 649 ls [])) : W p l e room_1 s m #[Value.ref b] below meth c H locs 600000 7302250 Q (F0 m 303 ls []) := by
  obtain ⟨len, tx, pc, rk, gc, gs⟩ := σ
  refine lv_aload_n (pc := 303) C0.1 C0.2.1 d_LW_law_303 rfl (lv_at hl 2 rfl) ?_
  refine lv_aload_n (pc := 304) C0.1 C0.2.1 d_LW_law_304 rfl (lv_at hl 3 rfl) ?_
  refine lv_iload_n (pc := 305) C0.1 C0.2.1 d_LW_law_305 rfl (lv_at hl 0 rfl) ?_
  refine lv_iconst (pc := 306) (v := nI (1)) C0.1 C0.2.1 d_LW_law_306 (by decide +kernel) ?_
  refine mn_add (pc := 307) C0 d_LW_law_307 ?_
  refine lw_sld (pc := 308) C0 hX hbl hS (j := i + 1) (by omega) (by omega) d_LW_law_308 ?_
  obtain ⟨hz, -⟩ := (⟨hg.1, trivial⟩ : ws[0]? = some (ad 0, .inr (0, [.ref (ad 1), .ref (ad 4), .ref (ad 7), .int (nI (pc)), .ref (ad 9), .int (nI (gc)), .ref (ad 46), .ref (ad 49)])) ∧ True)
  refine mg_ciR (pc := 309) (As := [.int (xs (i + 1))]) (rest := []) C0 (c_MG_order l D ca ad h2 h6 ws hg) lk_LW_53 ⟨Nat.le_of_ble_eq_true rfl, Nat.le_of_ble_eq_true rfl⟩ ⟨Nat.le_refl _, Nat.le_refl _⟩ hz rfl hK hP hD hS (fun _ h => h) rfl hl.1 rfl (Nat.le_of_ble_eq_true rfl) d_LW_law_309 (fun rv ws H locs hpost hP hD hS => ?_)
  obtain ⟨hr, hg, hfr⟩ := hpost
  have ho := lw_ofr hfr ho
  refine lv_aload_n (pc := 312) C0.1 C0.2.1 d_LW_law_312 rfl (lv_at hl 1 rfl) ?_
  refine lv_aload_n (pc := 313) C0.1 C0.2.1 d_LW_law_313 rfl (lv_at hl 3 rfl) ?_
  refine lv_iload_n (pc := 314) C0.1 C0.2.1 d_LW_law_314 rfl (lv_at hl 0 rfl) ?_
  refine lv_iconst (pc := 315) (v := nI (1)) C0.1 C0.2.1 d_LW_law_315 (by decide +kernel) ?_
  refine mn_add (pc := 316) C0 d_LW_law_316 ?_
  refine lw_sld (pc := 317) C0 hX hbl hS (j := i + 1) (by omega) (by omega) d_LW_law_317 ?_
  obtain ⟨hz, -⟩ := (⟨ho.1, trivial⟩ : ws[52]? = some (ad 52, .inr (4, [.int (nI (n)), .int (nI (pm_fc n)), .ref (ad 53), .int (nI (pc)), .ref (ad 54), .int (nI (gc)), .ref (ad 55), .ref (ad 56), .ref (ad 57), .ref (ad 58), .ref (ad 59), .int (nI (len))])) ∧ True)
  refine mg_ciR (pc := 318) (As := [.int (xs (i + 1))]) (rest := [.int (rv)]) C0 (c_MO_order l D ca ad h2 h6 ws ho) lk_LW_56 ⟨Nat.le_of_ble_eq_true rfl, Nat.le_of_ble_eq_true rfl⟩ ⟨Nat.le_refl _, Nat.le_refl _⟩ hz rfl hK hP hD hS (fun _ h => h) rfl hl.1 rfl (Nat.le_of_ble_eq_true rfl) d_LW_law_318 (fun ru ws H locs hpost hP hD hS => ?_)
  obtain ⟨hr2, ho, hfr⟩ := hpost
  have hg := lw_gfr hfr hg
  exact lv_icmp_eq (pc := 321) (tgt := 649) C0.1 C0.2.1 d_LW_law_321 (by decide) (fun _ => kk _ _ _ _ hg ho hP hD hS) (fun hc => absurd (hr.trans hr2.symm) hc)
set_option maxHeartbeats 4000000 in
set_option maxRecDepth 100000 in
theorem lw_arm8 (C0 : CallFix p m c code 4 s #[Value.ref b] (cd :: gw_) R_LW) (hX : va_X b L xs s s.heap) (hbl : b < s.heap.size) (hL : L ≤ 1537) (h2 : 2 ≤ n) (h6 : n ≤ 6) (hK : va_K D classes (tys_ ca) s) {i : Nat} (hi : i + 3 ≤ L) {σ : sp_S} {ws : va_W} {H : Heap} {locs : List Loc} (hg : MGW ca ad n σ ws) (ho : MOW ca ad n σ ws) (hP : va_P D classes ws H) (hD : va_D (lw_A s) ws) (hS : va_S (lw_A s) s.heap H locs) {ls : Array Slot} (hl : lv_has ls 4 [(3, .int (nI (i))), (2, .ref (ad 52)), (1, .ref (ad 0)), (0, .ref (b))]) (kk : ∀ (σ : sp_S) (ws : va_W) (H : Heap) (locs : List Loc), MGW ca ad n σ ws → MOW ca ad n σ ws → va_P D classes ws H → va_D (lw_A s) ws → va_S (lw_A s) s.heap H locs → W p l e room_1 s m #[Value.ref b] below meth c H locs 600000 7302250 Q (F0 m 649 ls [])) : W p l e room_1 s m #[Value.ref b] below meth c H locs 600000 7302250 Q (F0 m 326 ls []) := by
  obtain ⟨len, tx, pc, rk, gc, gs⟩ := σ
  refine lv_aload_n (pc := 326) C0.1 C0.2.1 d_LW_law_326 rfl (lv_at hl 2 rfl) ?_
  refine lv_aload_n (pc := 327) C0.1 C0.2.1 d_LW_law_327 rfl (lv_at hl 3 rfl) ?_
  refine lv_iload_n (pc := 328) C0.1 C0.2.1 d_LW_law_328 rfl (lv_at hl 0 rfl) ?_
  refine lv_iconst (pc := 329) (v := nI (1)) C0.1 C0.2.1 d_LW_law_329 (by decide +kernel) ?_
  refine mn_add (pc := 330) C0 d_LW_law_330 ?_
  refine lw_sld (pc := 331) C0 hX hbl hS (j := i + 1) (by omega) (by omega) d_LW_law_331 ?_
  refine lv_aload_n (pc := 332) C0.1 C0.2.1 d_LW_law_332 rfl (lv_at hl 3 rfl) ?_
  refine lv_iload_n (pc := 333) C0.1 C0.2.1 d_LW_law_333 rfl (lv_at hl 0 rfl) ?_
  refine lv_iconst (pc := 334) (v := nI (2)) C0.1 C0.2.1 d_LW_law_334 (by decide +kernel) ?_
  refine mn_add (pc := 335) C0 d_LW_law_335 ?_
  refine lw_sld (pc := 336) C0 hX hbl hS (j := i + 2) (by omega) (by omega) d_LW_law_336 ?_
  obtain ⟨hz, -⟩ := (⟨hg.1, trivial⟩ : ws[0]? = some (ad 0, .inr (0, [.ref (ad 1), .ref (ad 4), .ref (ad 7), .int (nI (pc)), .ref (ad 9), .int (nI (gc)), .ref (ad 46), .ref (ad 49)])) ∧ True)
  refine mg_ciR (pc := 337) (As := [.int (xs (i + 1)), .int (xs (i + 2))]) (rest := []) C0 (c_MG_contains l D ca ad h2 h6 ws hg) lk_LW_57 ⟨Nat.le_of_ble_eq_true rfl, Nat.le_of_ble_eq_true rfl⟩ ⟨Nat.le_refl _, Nat.le_refl _⟩ hz rfl hK hP hD hS (fun _ h => h) rfl hl.1 rfl (Nat.le_of_ble_eq_true rfl) d_LW_law_337 (fun rv ws H locs hpost hP hD hS => ?_)
  obtain ⟨hr, hg, hfr⟩ := hpost
  have ho := lw_ofr hfr ho
  refine lv_aload_n (pc := 340) C0.1 C0.2.1 d_LW_law_340 rfl (lv_at hl 1 rfl) ?_
  refine lv_aload_n (pc := 341) C0.1 C0.2.1 d_LW_law_341 rfl (lv_at hl 3 rfl) ?_
  refine lv_iload_n (pc := 342) C0.1 C0.2.1 d_LW_law_342 rfl (lv_at hl 0 rfl) ?_
  refine lv_iconst (pc := 343) (v := nI (1)) C0.1 C0.2.1 d_LW_law_343 (by decide +kernel) ?_
  refine mn_add (pc := 344) C0 d_LW_law_344 ?_
  refine lw_sld (pc := 345) C0 hX hbl hS (j := i + 1) (by omega) (by omega) d_LW_law_345 ?_
  refine lv_aload_n (pc := 346) C0.1 C0.2.1 d_LW_law_346 rfl (lv_at hl 3 rfl) ?_
  refine lv_iload_n (pc := 347) C0.1 C0.2.1 d_LW_law_347 rfl (lv_at hl 0 rfl) ?_
  refine lv_iconst (pc := 348) (v := nI (2)) C0.1 C0.2.1 d_LW_law_348 (by decide +kernel) ?_
  refine mn_add (pc := 349) C0 d_LW_law_349 ?_
  refine lw_sld (pc := 350) C0 hX hbl hS (j := i + 2) (by omega) (by omega) d_LW_law_350 ?_
  obtain ⟨hz, -⟩ := (⟨ho.1, trivial⟩ : ws[52]? = some (ad 52, .inr (4, [.int (nI (n)), .int (nI (pm_fc n)), .ref (ad 53), .int (nI (pc)), .ref (ad 54), .int (nI (gc)), .ref (ad 55), .ref (ad 56), .ref (ad 57), .ref (ad 58), .ref (ad 59), .int (nI (len))])) ∧ True)
  refine mg_ciR (pc := 351) (As := [.int (xs (i + 1)), .int (xs (i + 2))]) (rest := [.int (rv)]) C0 (c_MO_contains l D ca ad h2 h6 ws ho) lk_LW_60 ⟨Nat.le_of_ble_eq_true rfl, Nat.le_of_ble_eq_true rfl⟩ ⟨Nat.le_refl _, Nat.le_refl _⟩ hz rfl hK hP hD hS (fun _ h => h) rfl hl.1 rfl (Nat.le_of_ble_eq_true rfl) d_LW_law_351 (fun ru ws H locs hpost hP hD hS => ?_)
  obtain ⟨hr2, ho, hfr⟩ := hpost
  have hg := lw_gfr hfr hg
  exact lv_icmp_eq (pc := 354) (tgt := 649) C0.1 C0.2.1 d_LW_law_354 (by decide) (fun _ => kk _ _ _ _ hg ho hP hD hS) (fun hc => absurd (hr.trans hr2.symm) hc)
set_option maxHeartbeats 4000000 in
set_option maxRecDepth 100000 in
theorem lw_arm9 (C0 : CallFix p m c code 4 s #[Value.ref b] (cd :: gw_) R_LW) (hX : va_X b L xs s s.heap) (hbl : b < s.heap.size) (hL : L ≤ 1537) (h2 : 2 ≤ n) (h6 : n ≤ 6) (hK : va_K D classes (tys_ ca) s) {i : Nat} (hi : i + 3 ≤ L) {σ : sp_S} {ws : va_W} {H : Heap} {locs : List Loc} (hg : MGW ca ad n σ ws) (ho : MOW ca ad n σ ws) (hP : va_P D classes ws H) (hD : va_D (lw_A s) ws) (hS : va_S (lw_A s) s.heap H locs) {ls : Array Slot} (hl : lv_has ls 4 [(3, .int (nI (i))), (2, .ref (ad 52)), (1, .ref (ad 0)), (0, .ref (b))]) (kk : ∀ (σ : sp_S) (ws : va_W) (H : Heap) (locs : List Loc), MGW ca ad n σ ws → MOW ca ad n σ ws → va_P D classes ws H → va_D (lw_A s) ws → va_S (lw_A s) s.heap H locs → W p l e room_1 s m #[Value.ref b] below meth c H locs 600000 7302250 Q (F0 m 649 ls [])) : W p l e room_1 s m #[Value.ref b] below meth c H locs 600000 7302250 Q (F0 m 359 ls []) := by
  obtain ⟨len, tx, pc, rk, gc, gs⟩ := σ
  refine lv_aload_n (pc := 359) C0.1 C0.2.1 d_LW_law_359 rfl (lv_at hl 2 rfl) ?_
  refine lv_aload_n (pc := 360) C0.1 C0.2.1 d_LW_law_360 rfl (lv_at hl 3 rfl) ?_
  refine lv_iload_n (pc := 361) C0.1 C0.2.1 d_LW_law_361 rfl (lv_at hl 0 rfl) ?_
  refine lv_iconst (pc := 362) (v := nI (1)) C0.1 C0.2.1 d_LW_law_362 (by decide +kernel) ?_
  refine mn_add (pc := 363) C0 d_LW_law_363 ?_
  refine lw_sld (pc := 364) C0 hX hbl hS (j := i + 1) (by omega) (by omega) d_LW_law_364 ?_
  refine lv_aload_n (pc := 365) C0.1 C0.2.1 d_LW_law_365 rfl (lv_at hl 3 rfl) ?_
  refine lv_iload_n (pc := 366) C0.1 C0.2.1 d_LW_law_366 rfl (lv_at hl 0 rfl) ?_
  refine lv_iconst (pc := 367) (v := nI (2)) C0.1 C0.2.1 d_LW_law_367 (by decide +kernel) ?_
  refine mn_add (pc := 368) C0 d_LW_law_368 ?_
  refine lw_sld (pc := 369) C0 hX hbl hS (j := i + 2) (by omega) (by omega) d_LW_law_369 ?_
  obtain ⟨hz, -⟩ := (⟨hg.1, trivial⟩ : ws[0]? = some (ad 0, .inr (0, [.ref (ad 1), .ref (ad 4), .ref (ad 7), .int (nI (pc)), .ref (ad 9), .int (nI (gc)), .ref (ad 46), .ref (ad 49)])) ∧ True)
  refine mg_ciR (pc := 370) (As := [.int (xs (i + 1)), .int (xs (i + 2))]) (rest := []) C0 (c_MG_element l D ca ad h2 h6 ws hg) lk_LW_61 ⟨Nat.le_of_ble_eq_true rfl, Nat.le_of_ble_eq_true rfl⟩ ⟨Nat.le_refl _, Nat.le_refl _⟩ hz rfl hK hP hD hS (fun _ h => h) rfl hl.1 rfl (Nat.le_of_ble_eq_true rfl) d_LW_law_370 (fun rv ws H locs hpost hP hD hS => ?_)
  obtain ⟨hr, hg, hfr⟩ := hpost
  have ho := lw_ofr hfr ho
  refine lv_aload_n (pc := 373) C0.1 C0.2.1 d_LW_law_373 rfl (lv_at hl 1 rfl) ?_
  refine lv_aload_n (pc := 374) C0.1 C0.2.1 d_LW_law_374 rfl (lv_at hl 3 rfl) ?_
  refine lv_iload_n (pc := 375) C0.1 C0.2.1 d_LW_law_375 rfl (lv_at hl 0 rfl) ?_
  refine lv_iconst (pc := 376) (v := nI (1)) C0.1 C0.2.1 d_LW_law_376 (by decide +kernel) ?_
  refine mn_add (pc := 377) C0 d_LW_law_377 ?_
  refine lw_sld (pc := 378) C0 hX hbl hS (j := i + 1) (by omega) (by omega) d_LW_law_378 ?_
  refine lv_aload_n (pc := 379) C0.1 C0.2.1 d_LW_law_379 rfl (lv_at hl 3 rfl) ?_
  refine lv_iload_n (pc := 380) C0.1 C0.2.1 d_LW_law_380 rfl (lv_at hl 0 rfl) ?_
  refine lv_iconst (pc := 381) (v := nI (2)) C0.1 C0.2.1 d_LW_law_381 (by decide +kernel) ?_
  refine mn_add (pc := 382) C0 d_LW_law_382 ?_
  refine lw_sld (pc := 383) C0 hX hbl hS (j := i + 2) (by omega) (by omega) d_LW_law_383 ?_
  obtain ⟨hz, -⟩ := (⟨ho.1, trivial⟩ : ws[52]? = some (ad 52, .inr (4, [.int (nI (n)), .int (nI (pm_fc n)), .ref (ad 53), .int (nI (pc)), .ref (ad 54), .int (nI (gc)), .ref (ad 55), .ref (ad 56), .ref (ad 57), .ref (ad 58), .ref (ad 59), .int (nI (len))])) ∧ True)
  refine mg_ciR (pc := 384) (As := [.int (xs (i + 1)), .int (xs (i + 2))]) (rest := [.int (rv)]) C0 (c_MO_element l D ca ad h2 h6 ws ho) lk_LW_64 ⟨Nat.le_of_ble_eq_true rfl, Nat.le_of_ble_eq_true rfl⟩ ⟨Nat.le_refl _, Nat.le_refl _⟩ hz rfl hK hP hD hS (fun _ h => h) rfl hl.1 rfl (Nat.le_of_ble_eq_true rfl) d_LW_law_384 (fun ru ws H locs hpost hP hD hS => ?_)
  obtain ⟨hr2, ho, hfr⟩ := hpost
  have hg := lw_gfr hfr hg
  exact lv_icmp_eq (pc := 387) (tgt := 649) C0.1 C0.2.1 d_LW_law_387 (by decide) (fun _ => kk _ _ _ _ hg ho hP hD hS) (fun hc => absurd (hr.trans hr2.symm) hc)
end LWA
