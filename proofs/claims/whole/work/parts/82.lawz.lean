/-! the law from its start -/
theorem code_law : code = cL_law := rfl
theorem code_1872 : decode code 1872 = .ok (.ireturn, 1) := by decide +kernel
set_option maxHeartbeats 4000000 in
set_option maxRecDepth 100000 in
theorem whole_start {p : Program} {e : Env} {s : State} {m : MethodId} {below : List Frame} {meth : Method} {c : Code} (l : Launch) (hflags : l.flags = flags0) {b L : Nat} {xs : Nat → Int32} (hL : L ≤ 2560) (C0 : lw_At p s m meth c b L xs) : W p l e room_1 s m #[Value.ref b] below meth c s.heap [] 0 0 (lw_Z below #[Value.ref b] s) (entryFrame m ([Value.ref b] : List Value).toArray 7) := by
  obtain ⟨hx, hcb, hret, hml, hown, htb, hXs, hbl, hlocks, hgv⟩ := C0
  have hb : c.code = cL_law := hcb.trans code_law
  have hown : s.vm.findClass RL = some m.cls := hown
  have hst : l.stackTraces = false := by
    unfold Launch.stackTraces
    rw [hflags]
    decide
  have hts : ∀ w ∈ wsL_law, w.before #[Value.ref b] s = true := fun w hw => htb w (wi_law w hw)
  obtain ⟨D, T, dE, mi, hev⟩ := st_EV htb hgv
  have hK := hev.1
  have hS : va_S (fun q : Nat => s.heap.size ≤ q) s.heap s.heap [] := va_S.rf
  rw [lg_entry_eq]
  have hl := lv_entry [Value.ref b] (n := 7) (Nat.le_of_ble_eq_true rfl)
  generalize ((lg_sl [Value.ref b] ++ List.replicate (7 - (lg_sl [Value.ref b]).length) Slot.unset).toArray) = ls at hl ⊢
  have hl : lv_has ls 7 [(0, .ref b)] := hl
  have hcx : RX6 = "Archeloft" := rfl
  refine x_new (C := RX6) (TT := TX6) (N := 6) (ci := 9) (fs := [.null, .null, .null, .null, .null, .int 0]) hx hb htb wi_wsX60 tyX6 tyX6_ok hown (hts (.classLink RL 8 RX6) (by decide +kernel)) (hts (.instantiable RX6 6) (by decide +kernel)) (hts (.initialized RX6) (by decide +kernel)) hK hS rfl (by decide) (Nat.le_of_ble_eq_true rfl) (Nat.le_of_ble_eq_true rfl) dL_law_0 (fun H1 ho1 hz1 hq1 hS => ?_)
  refine lv_dup hx hb dL_law_3 rfl ?_
  refine k_vA (k_I (As := []) (rest := [.ref s.heap.size]) ⟨hx, hb, hml, hown, hts⟩ hev hS (c_X6_init l hst ho1 (fun q h => h) hz1) (cwI 0 hts gL_law_X6_init rfl rfl rfl (hts (.initialized RX6) (by decide +kernel)) (hts (.methodLink RL 100 yX6_init) (by decide +kernel)) (hts (.instanceMethod yX6_init) (by decide +kernel)) rfl (by decide +kernel) ⟨Nat.le_of_ble_eq_true rfl, Nat.le_of_ble_eq_true rfl⟩) rfl hl.1 (Nat.le_of_ble_eq_true rfl) dL_law_4 (Nat.le_of_ble_eq_true rfl) (Nat.le_of_ble_eq_true rfl)) hS (fun _ h => h) (fun H2 locs2 hP hz2 _ hS => ?_)
  obtain ⟨hR, hz101, -⟩ := hP
  refine lv_astore_n (lv' := [(1, .ref s.heap.size), (0, .ref b)]) hx hb dL_law_7 rfl hl (by decide) rfl (fun ls hl => ?_)
  refine x_new (C := RX7) (TT := TX7) (N := 31) (ci := 10) (fs := [.int 0, .int 0, .null, .null, .null, .null, .null, .null, .null, .null, .null, .null, .int 0, .null, .null, .null, .int 0, .int 0, .null, .int 0, .int 0, .null, .null, .null, .null, .int 0, .null, .null, .null, .int 0, .null]) hx hb htb wi_wsX70 tyX7 tyX7_ok hown (hts (.classLink RL 101 RX7) (by decide +kernel)) (hts (.instantiable RX7 31) (by decide +kernel)) (hts (.initialized RX7) (by decide +kernel)) hK hS rfl (by decide) (Nat.le_of_ble_eq_true rfl) (Nat.le_of_ble_eq_true rfl) dL_law_8 (fun H3 ho3 hz3 hq3 hS => ?_)
  refine lv_dup hx hb dL_law_11 rfl ?_
  have hga : s.heap.size ≤ H2.size := by omega
  have hAM : ∀ q, AM H2.size q → (fun q : Nat => s.heap.size ≤ q) q := fun q z => Nat.le_trans hga z.1
  refine k_vA (k_IA (As := []) (rest := [.ref H2.size]) ⟨hx, hb, hml, hown, hts⟩ hev hS hAM (c_X7_init l (show RI D T H2.size 0 H3 from ⟨ho3, fun j h1 h2 => absurd (Nat.le_trans h1 h2) (by decide), hz3⟩)) (cwI 0 hts gL_law_X7_init rfl rfl rfl (hts (.initialized RX7) (by decide +kernel)) (hts (.methodLink RL 103 yX7_init) (by decide +kernel)) (hts (.instanceMethod yX7_init) (by decide +kernel)) rfl (by decide +kernel) ⟨Nat.le_of_ble_eq_true rfl, Nat.le_of_ble_eq_true rfl⟩) rfl hl.1 (Nat.le_of_ble_eq_true rfl) dL_law_12 (Nat.le_of_ble_eq_true rfl) (Nat.le_of_ble_eq_true rfl)) hS hAM (fun H4 locs4 hP hz4 hk4 hS => ?_)
  obtain ⟨S0, Y0, hM, hr, h00⟩ := hP
  refine lv_astore_n (lv' := [(2, .ref H2.size), (1, .ref s.heap.size), (0, .ref b)]) hx hb dL_law_15 rfl hl (by decide) rfl (fun ls hl => ?_)
  refine lv_iconst (v := nI 1) hx hb dL_law_16 (by decide) ?_
  refine x_newj hx hb (hts (.arrayClass .long) (by decide +kernel)) hK hS (by decide) (Nat.le_of_ble_eq_true rfl) (Nat.le_of_ble_eq_true rfl) dL_law_17 (fun H5 hj hz5 hq5 hS => ?_)
  refine lv_astore_n (lv' := [(3, .ref H4.size), (2, .ref H2.size), (1, .ref s.heap.size), (0, .ref b)]) hx hb dL_law_19 rfl hl (by decide) rfl (fun ls hl => ?_)
  refine lv_iconst (v := nI 0) hx hb dL_law_20 (by decide) ?_
  refine lv_istore (lv' := [(4, .int (nI 0)), (3, .ref H4.size), (2, .ref H2.size), (1, .ref s.heap.size), (0, .ref b)]) hx hb dL_law_21 hl (by decide) rfl (fun ls hl => ?_)
  have hg4 : H2.size + 23 ≤ H4.size := hM.2.2.2.2.2.2.2.2.2.2.2.2.2.2.2.2.2.2.2.2.2.2.lt
  obtain ⟨tg, hRt, htg⟩ := hR.rt (H1 := H5) (by omega) (fun q hq => (hq5 q (by omega)).trans ((hk4 q (by omega) (fun z => by have := z.1; omega)).trans (hq3 q hq))) (fun q => if q = H4.size then 7 else if q < H2.size + 23 then 8 else 0) (fun q hq => by
    by_cases h1 : q = H4.size
    · omega
    · by_cases h2 : q < H2.size + 23
      · omega
      · exact absurd ((if_neg h1).trans (if_neg h2)) hq)
  have hLI : LI D T dE s.heap.size H2.size H4.size (fun q : Nat => s.heap.size ≤ q) H5 mSt0 0 := ⟨tg, S0, Y0, _, hRt, hM.kept (fun q h1 h2 => hq5 q (by omega)), hr, inv0, hj, (htg _ (by omega)).trans (if_pos rfl), fun q h1 h2 => (htg q h1).trans ((if_neg (by omega)).trans (if_pos h2)), by omega⟩
  refine W.widen (k := 125 + 281 * 0) (n := 3599 + 5166 * 0) (by decide) (by decide) ?_
  refine law_loop hst hx hb hml hown hts hXs hbl hev hga hL (fun k H6 locs6 ls6 hk6 hS6 => ?_) 513 0 (by omega) (by omega) hLI hS hl
  refine lv_iconst (v := nI 1) hx hb dL_law_1871 (by decide) ?_
  refine va_forget (fun q hq => hS6.2.2 q hq) ?_
  refine W.widen (k := 601024) (n := 7293034) (by omega) (by omega) ?_
  exact lw_ret hx hcb hret hlocks code_1872
