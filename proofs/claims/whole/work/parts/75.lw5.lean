/-! THE CLAIM OUT OF ONE WALK OF THE LAW'S BODY. Your part is whole_start (and what it stands on); all else here is the same for every law, but numbers. -/
def R_law : String := "MotionGroupsLaw"
def lw_P (b : Addr) (xs : List Int32) (args : Array Value) (s : State) : Prop := args = #[.ref b] ∧ s.IntsAt b xs ∧ xs.length ≤ 1537 ∧ (Jvm.Cond.and given_1 narrow_1).before args s = true
def lw_Q (_ : Array Value) (s : State) (o : Outcome) (t : State) : Prop := o = .returned (some (.int 1)) ∧ Framed s o t [] 600000 7302250
def lw_Z (below : List Frame) (a : Array Value) (s : State) : State → Prop := fun t => ∃ o, t.status = .running ∧ Ended t below o ∧ lw_Q a s o t
/-- the law's own end, with 1 on the stack, nothing written that was there before, its room as the claim has it -/
theorem lw_ret {p : Program} {l : Launch} {e : Env} {s : State} {m : MethodId} {below : List Frame} {meth : Method} {c : Code} {b : Nat} (hx : p.tables.exec = Jvm.exec) (hb : c.code = code) (hr : meth.sig.returnType = ret) (hlocks : meth.locks = false) {pc : Nat} {H : Heap} {ls : Array Slot} (hdg : decode code pc = .ok (.ireturn, 1)) : W p l e room_1 s m #[Value.ref b] below meth c H [] 600000 7302250 (lw_Z below #[Value.ref b] s) (F0 m pc ls [.int 1]) := by
  intro T hT X
  obtain ⟨fs, hret, hrun, hended, hW, hframe⟩ := X.leave (v := some (.int 1)) (hlocks := hlocks) (fun h => by rw [hr] at h; cases h)
  have hmeth' : T.vm.method? m = some meth := X.method'
  refine ⟨T.setFrames fs, ?_, .returned (some (.int 1)), hrun, hended, rfl, ⟨_, rfl⟩, hW, hframe⟩
  jvm_step X.here [X.here.top, hx, hb, hdg, hmeth', hr, ret, narrow_b1]
  (try refine ⟨rfl, ?_⟩); (try refine ⟨rfl, ?_⟩)
  first | (intro acts; rw [hret _ acts rfl rfl rfl]) | rw [hret _ _ rfl rfl rfl]
  exact Steps.refl _
/-- what holds at the law's entry: the machine, the code, the tables' words (any of lw_tbl by 'hts w (by decide +kernel)'), the script of L ints xs at the cell b, what the Statement gives of the start (any of its parts by flat_of_before) -/
def lw_At (p : Program) (s : State) (m : MethodId) (meth : Method) (c : Code) (b L : Nat) (xs : Nat → Int32) : Prop :=
  p.tables.exec = Jvm.exec ∧ c.code = code ∧ meth.sig.returnType = ret ∧ c.maxLocals = 4 ∧ s.vm.findClass R_law = some m.cls ∧ (∀ w ∈ lw_tbl, w.before #[Value.ref b] s = true) ∧ va_X b L xs s s.heap ∧ b < s.heap.size ∧ meth.locks = false ∧ (Jvm.Cond.and given_1 narrow_1).before #[Value.ref b] s = true
set_option maxHeartbeats 4000000 in
set_option maxRecDepth 100000 in
theorem whole_start {p : Program} {e : Env} {s : State} {m : MethodId} {below : List Frame} {meth : Method} {c : Code} (l : Launch) {b L : Nat} {xs : Nat → Int32} (hL : L ≤ 1537) (C0 : lw_At p s m meth c b L xs) : W p l e room_1 s m #[Value.ref b] below meth c s.heap [] 0 0 (lw_Z below #[Value.ref b] s) (entryFrame m ([Value.ref b] : List Value).toArray 4) := by
  obtain ⟨hx, hb, hr, hml, hown, hts, hX, hbl, hlocks, hgv⟩ := C0
  have hw : ∀ w ∈ gw_, w.before #[Value.ref b] s = true := fun w h => hts w (gw_sub w h)
  have C0 : CallFix p m c code 4 s #[Value.ref b] (Cond.initialized R_LW :: gw_) R_LW := ⟨hx, hb, hml, hown, fun w h => by
    rcases List.mem_cons.mp h with rfl | h
    · exact hw _ (gw_t1 0 rfl rfl)
    · exact hw _ h⟩
  have hao : va_AO R_SU s := va_AO.of (hts _ (List.mem_append_right _ (List.mem_append_left _ (List.mem_of_getElem? (i := 86) rfl))))
  obtain ⟨D, ca, hK⟩ := lw_known hw hao
  obtain ⟨n, h2, h6, hMG, hMO⟩ := lw_init l D ca (lw_x L xs) (fun _ => 0) (fun _ _ => false)
  have hl := lv_entry [Value.ref b] (n := 4) (Nat.le_of_ble_eq_true rfl)
  rw [lg_entry_eq]
  generalize (lg_sl [Value.ref b] ++ List.replicate (4 - (lg_sl [Value.ref b]).length) Slot.unset).toArray = ls at hl ⊢
  have hl : lv_has ls 4 [(0, .ref (b))] := hl
  have hA : ∀ q, s.heap.size ≤ q → lw_A s q := fun _ h => h
  have hS : va_S (lw_A s) s.heap s.heap [] := va_S.rf
  have hP : va_P D classes [] s.heap := fun k q h => by cases h
  have hD : va_D (lw_A s) [] := ⟨(fun i j x y h => by cases h), (fun k q h => by cases h)⟩
  refine mg_new (pc := 0) (k := 0) (ci := 0) (fs := [.null, .null, .null, .int (nI 0), .null, .int (nI 0), .null, .null]) C0 in_MG t_MG_ok (gw_t1 9 rfl rfl) (gw_t1 10 rfl rfl) (gw_t1 1 rfl rfl) hK hP hD hS hA rfl (fun j hj => by
    rcases (show j = 0 ∨ j = 1 ∨ j = 2 ∨ j = 3 ∨ j = 4 ∨ j = 5 ∨ j = 6 ∨ j = 7 by omega) with rfl | rfl | rfl | rfl | rfl | rfl | rfl | rfl <;> rfl) (rfl) (show 0 + 1 ≤ 600000 by omega) (show 0 + 8 ≤ 7302250 by omega) d_LW_law_0 (fun q0 ws H hfr f0 hP hD hS => ?_)
  have hz : ∀ j, 1 ≤ j → ws[j]? = none := fun j hj => (hfr j (by omega)).trans rfl
  refine lv_dup (pc := 3) C0.1 C0.2.1 d_LW_law_3 rfl ?_
  refine lv_aload_n (pc := 4) C0.1 C0.2.1 d_LW_law_4 rfl (lv_at hl 0 rfl) ?_
  refine lv_iconst (pc := 5) (v := nI (0)) C0.1 C0.2.1 d_LW_law_5 (by decide +kernel) ?_
  refine lw_cell (pc := 6) (rest := [.ref (q0), .ref (q0)]) C0 hX hbl (by omega) ⟨Nat.le_of_ble_eq_true rfl, Nat.le_of_ble_eq_true rfl⟩ ⟨show 0 + 1 ≤ 600000 by omega, show 0 + 8 ≤ 7302250 by omega⟩ hP hS hl.1 (Nat.le_of_ble_eq_true rfl) d_LW_law_6 (fun H locs hP hS => ?_)
  refine mg_inRA hao (pc := 9) (As := [.int (lw_x L xs)]) (rest := [.ref (q0)]) C0 (hMG q0 ws f0 hz) lk_LW_15 rfl ⟨Nat.le_of_ble_eq_true rfl, Nat.le_of_ble_eq_true rfl⟩ ⟨show 0 + 1 + 51 ≤ 600000 by omega, show 0 + 8 + 5548 ≤ 7302250 by omega⟩ hK hP hD hS hA rfl hl.1 rfl (Nat.le_of_ble_eq_true rfl) d_LW_law_9 (fun ws H locs hpost hP hD hS => ?_)
  obtain ⟨hz, ad, had, hg⟩ := hpost
  subst had
  refine lv_astore_n (pc := 12) (lv' := [(1, .ref (ad 0)), (0, .ref (b))]) C0.1 C0.2.1 d_LW_law_12 rfl hl (by decide) rfl (fun ls hl => ?_)
  have hln : ws.length = 52 := by
    obtain ⟨-, -, -, -, -, -, hraw, -⟩ := hg
    obtain ⟨x1, x2, x3, x4, -, -, h51⟩ := hraw 13 (by decide)
    exact mg_len (k := 51) (hz 52 (by decide)) h51
  refine mg_new (pc := 13) (k := 52) (ci := 4) (fs := [.int (nI 0), .int (nI 0), .null, .int (nI 0), .null, .int (nI 0), .null, .null, .null, .null, .null, .int (nI 0)]) C0 in_MO t_MO_ok (gw_t2 135 rfl rfl) (gw_t2 136 rfl rfl) (gw_t1 5 rfl rfl) hK hP hD hS hA rfl (fun j hj => by
    rcases (show j = 0 ∨ j = 1 ∨ j = 2 ∨ j = 3 ∨ j = 4 ∨ j = 5 ∨ j = 6 ∨ j = 7 ∨ j = 8 ∨ j = 9 ∨ j = 10 ∨ j = 11 by omega) with rfl | rfl | rfl | rfl | rfl | rfl | rfl | rfl | rfl | rfl | rfl | rfl <;> rfl) (hln) (show 0 + 1 + 51 + 1 ≤ 600000 by omega) (show 0 + 8 + 5548 + 12 ≤ 7302250 by omega) d_LW_law_13 (fun q52 ws H hfr f52 hP hD hS => ?_)
  have hg := lw_gfr (fun j hj => hfr j (by omega)) hg
  have hz : ∀ j, 53 ≤ j → ws[j]? = none := fun j hj => (hfr j (by omega)).trans (hz j (by omega))
  refine lv_dup (pc := 16) C0.1 C0.2.1 d_LW_law_16 rfl ?_
  refine lv_aload_n (pc := 17) C0.1 C0.2.1 d_LW_law_17 rfl (lv_at hl 1 rfl) ?_
  refine lv_iconst (pc := 18) (v := nI (0)) C0.1 C0.2.1 d_LW_law_18 (by decide +kernel) ?_
  refine lw_cell (pc := 19) (rest := [.ref (q52), .ref (q52)]) C0 hX hbl (by omega) ⟨Nat.le_of_ble_eq_true rfl, Nat.le_of_ble_eq_true rfl⟩ ⟨show 0 + 1 + 51 + 1 ≤ 600000 by omega, show 0 + 8 + 5548 + 12 ≤ 7302250 by omega⟩ hP hS hl.1 (Nat.le_of_ble_eq_true rfl) d_LW_law_19 (fun H locs hP hS => ?_)
  refine mg_inR (pc := 22) (As := [.int (lw_x L xs)]) (rest := [.ref (q52)]) C0 (hMO q52 ws f52 hz) lk_LW_20 rfl ⟨Nat.le_of_ble_eq_true rfl, Nat.le_of_ble_eq_true rfl⟩ ⟨show 0 + 1 + 51 + 1 + 7 ≤ 600000 by omega, show 0 + 8 + 5548 + 12 + 2015 ≤ 7302250 by omega⟩ hK hP hD hS hA rfl hl.1 rfl (Nat.le_of_ble_eq_true rfl) d_LW_law_22 (fun ws H locs hpost hP hD hS => ?_)
  obtain ⟨hfr, q53, q54, q55, q56, q57, q58, q59, ho⟩ := hpost
  have hg := lw_gfr (fun j hj => hfr j (by omega)) hg
  refine lv_astore_n (pc := 25) (lv' := [(2, .ref (q52)), (1, .ref (ad 0)), (0, .ref (b))]) C0.1 C0.2.1 d_LW_law_25 rfl hl (by decide) rfl (fun ls hl => ?_)
  refine lv_iconst (pc := 26) (v := nI (1)) C0.1 C0.2.1 d_LW_law_26 (by decide +kernel) ?_
  refine lv_istore_n (pc := 27) (lv' := [(3, .int (nI (1))), (2, .ref (q52)), (1, .ref (ad 0)), (0, .ref (b))]) C0.1 C0.2.1 d_LW_law_27 rfl hl (by decide) rfl (fun ls hl => ?_)
  obtain ⟨ad1, ha, hb1⟩ : ∃ ad1 : Nat → Nat, (∀ j, j < 52 → ad1 j = ad j) ∧ ∀ j, 52 ≤ j → ad1 j = mg_ad8 q52 q53 q54 q55 q56 q57 q58 q59 j := ⟨fun j => if j < 52 then ad j else mg_ad8 q52 q53 q54 q55 q56 q57 q58 q59 j, fun j hj => if_pos hj, fun j hj => if_neg (by omega)⟩
  have hg := mgw_ad ha hg
  have ho := mow_ad hb1 ho
  have hl : lv_has ls 4 [(3, .int (nI (1))), (2, .ref (ad1 52)), (1, .ref (ad1 0)), (0, .ref (b))] := by
    rw [ha 0 (by decide), hb1 52 (by decide)]
    exact hl
  refine W.widen (k := 600000) (n := 7302250) (by omega) (by omega) ?_
  refine lw_loop (D := D) (ca := ca) (ad := ad1) C0 hX hbl hL h2 h6 hK (fun H locs ls hS => ?_) _ 1 _ _ _ _ _ rfl (by omega) hg ho hP hD hS hl
  refine lv_iconst (pc := 655) (v := 1) C0.1 C0.2.1 d_LW_law_655 (by decide +kernel) ?_
  refine va_forget hS.2.2 ?_
  exact lw_ret hx hb hr hlocks d_LW_law_656
