/-! the law from its start -/
theorem RepX.rt {D : va_G} {T : Nat → ClassId} {dE b : Nat} {A : Nat → Prop} {H H1 : Heap} {M : mSt} (h : RepX D T dE b A H M) (hz : H.size ≤ H1.size) (hk : ∀ q : Nat, q < H.size → H1[q]? = H[q]?) (f : Nat → Nat) (hf : ∀ q, f q ≠ 0 → q < H1.size) : ∃ tg1 : Nat → Nat, RepT D T dE b A tg1 H1 M ∧ ∀ q, H.size ≤ q → tg1 q = f q := by
  obtain ⟨tg, y, zq, zy, wo, h1, h2, h3, h4, h5⟩ := h
  have hT := h1.1
  have tx : TX tg H (fun q => if q < H.size then tg q else f q) := fun q hq => if_pos hq
  have fr : FR tg (fun _ => False) H H1 := ⟨hz, fun q hq _ => hk q hq⟩
  have lt : ∀ q, tg q ≠ 0 → (if q < H.size then tg q else f q) = tg q := fun q hq => if_pos (hT.1 q hq).2
  have hT1 : TG A b H1 (fun q => if q < H.size then tg q else f q) := by
    refine ⟨fun q hq => ?_, fun q hq => hT.2.1 q (by omega), ?_, ?_, fun q h1 h2 => ?_⟩
    · by_cases hqs : q < H.size
      · have e : (if q < H.size then tg q else f q) = tg q := if_pos hqs
        have hq : (if q < H.size then tg q else f q) ≠ 0 := hq
        rw [e] at hq
        exact ⟨(hT.1 q hq).1, by omega⟩
      · have e : (if q < H.size then tg q else f q) = f q := if_neg hqs
        have hq : (if q < H.size then tg q else f q) ≠ 0 := hq
        rw [e] at hq
        exact ⟨hT.2.1 q (by omega), hf q hq⟩
    · exact (lt b (by rw [hT.2.2.1]; decide)).trans hT.2.2.1
    · exact (lt (b + 1) (by rw [hT.2.2.2.1]; decide)).trans hT.2.2.2.1
    · exact (lt q (by rw [hT.2.2.2.2 q h1 h2]; decide)).trans (hT.2.2.2.2 q h1 h2)
  exact ⟨_, ⟨y, zq, zy, wo, h1.fr hT1 tx fr (fun _ z => z.elim), h2.kept tx fr id id id id, h3.kept tx fr id id id id, h4.kept tx fr id (fun _ z => z.elim), h5⟩, fun q hq => if_neg (by omega)⟩
theorem code_law : code = cL_law := rfl
theorem code_1848 : decode code 1848 = .ok (.ireturn, 1) := by decide +kernel
theorem code_1993 : decode code 1993 = .ok (.ireturn, 1) := by decide +kernel
theorem lrel0 : LRel (fun _ _ => 0) mSt0 := ⟨⟨⟨fun _ _ => rfl, fun _ _ => rfl, fun _ _ z => (nomatch z), fun _ _ z => (nomatch z), fun _ z => (nomatch z), fun _ _ _ _ => rfl, fun _ _ _ _ => rfl⟩, ⟨rfl, fun _ z => absurd z (Nat.not_lt_zero _)⟩, ⟨fun _ _ z => absurd z (Nat.not_lt_zero _), fun _ _ z => absurd z (Nat.not_lt_zero _), fun _ z => (nomatch z)⟩⟩, ⟨rfl, fun _ z => absurd z (Nat.not_lt_zero _)⟩, ⟨rfl, fun _ z => absurd z (Nat.not_lt_zero _)⟩, rfl, rfl, fun z => (nomatch z)⟩
set_option maxHeartbeats 4000000 in
set_option maxRecDepth 100000 in
theorem whole_start {p : Program} {e : Env} {s : State} {m : MethodId} {below : List Frame} {meth : Method} {c : Code} (l : Launch) (hflags : l.flags = flags0) {b L : Nat} {xs : Nat → Int32} (hL : L ≤ 260) (C0 : lw_At p s m meth c b L xs) : W p l e room_1 s m #[Value.ref b] below meth c s.heap [] 0 0 (lw_Z below #[Value.ref b] s) (entryFrame m ([Value.ref b] : List Value).toArray 26) := by
  obtain ⟨hx, hcb, hret, hml, hown, htb, hXs, hbl, hlocks, hgv⟩ := C0
  have hb : c.code = cL_law := hcb.trans code_law
  have hown : s.vm.findClass RL = some m.cls := hown
  have hst : l.stackTraces = false := by
    unfold Launch.stackTraces
    rw [hflags]
    decide
  have hts : ∀ w ∈ wsL_law, w.before #[Value.ref b] s = true := fun w hw => htb w (wi_law w hw)
  obtain ⟨D, T, dE, mi, hev⟩ := st_EV htb hgv
  have hK := hev.1
  have hS : va_S (fun q : Nat => s.heap.size ≤ q) s.heap s.heap [] := va_S.rf
  rw [lg_entry_eq]
  have hl := lv_entry [Value.ref b] (n := 26) (Nat.le_of_ble_eq_true rfl)
  generalize ((lg_sl [Value.ref b] ++ List.replicate (26 - (lg_sl [Value.ref b]).length) Slot.unset).toArray) = ls at hl ⊢
  have hl : lv_has ls 26 [(0, .ref b)] := hl
  refine x_new (C := RX6) (TT := TX6) (N := 6) (ci := 9) (fs := [.null, .null, .null, .null, .null, .int 0]) hx hb htb wi_wsX60 tyX6 tyX6_ok hown (hts (.classLink RL 33 RX6) (by decide +kernel)) (hts (.instantiable RX6 6) (by decide +kernel)) (hts (.initialized RX6) (by decide +kernel)) hK hS rfl (by decide) (Nat.le_of_ble_eq_true rfl) (Nat.le_of_ble_eq_true rfl) dL_law_0 (fun H1 ho1 hz1 hq1 hS => ?_)
  refine lv_dup hx hb dL_law_3 rfl ?_
  refine k_vA (k_I (As := []) (rest := [.ref s.heap.size]) ⟨hx, hb, hml, hown, hts⟩ hev hS (c_X6_init l hst ho1 (fun q h => h) hz1) (cwI 0 hts gL_law_X6_init rfl rfl rfl (hts (.initialized RX6) (by decide +kernel)) (hts (.methodLink RL 147 yX6_init) (by decide +kernel)) (hts (.instanceMethod yX6_init) (by decide +kernel)) rfl (by decide +kernel) ⟨Nat.le_of_ble_eq_true rfl, Nat.le_of_ble_eq_true rfl⟩) rfl hl.1 (Nat.le_of_ble_eq_true rfl) dL_law_4 (Nat.le_of_ble_eq_true rfl) (Nat.le_of_ble_eq_true rfl)) hS (fun _ h => h) (fun H2 locs2 hP hz2 _ hS => ?_)
  obtain ⟨hR, hz101, -⟩ := hP
  obtain ⟨g, hg⟩ : ∃ g, H2.size = g + 1 := ⟨H2.size - 1, by omega⟩
  refine lv_astore_n (lv' := [(1, .ref s.heap.size), (0, .ref b)]) hx hb dL_law_7 rfl hl (by decide) rfl (fun ls hl => ?_)
  refine lv_bipush (v := nI 60) hx hb dL_law_8 (by decide) ?_
  refine x_newi hx hb (hts (.arrayClass .int) (by decide +kernel)) hK hS (by decide) (Nat.le_of_ble_eq_true rfl) (Nat.le_of_ble_eq_true rfl) dL_law_10 (fun H3 hj3 hz3 hq3 hS => ?_)
  have e3 : H2.size = g + 1 := by omega
  rw [e3] at hj3
  refine x_tov (y := .ref (g + 1)) (by rw [e3]) ?_
  refine lv_astore_n (lv' := [(2, .ref (g + 1)), (1, .ref s.heap.size), (0, .ref b)]) hx hb dL_law_12 rfl hl (by decide) rfl (fun ls hl => ?_)
  refine lv_bipush (v := nI 60) hx hb dL_law_13 (by decide) ?_
  refine x_newi hx hb (hts (.arrayClass .int) (by decide +kernel)) hK hS (by decide) (Nat.le_of_ble_eq_true rfl) (Nat.le_of_ble_eq_true rfl) dL_law_15 (fun H4 hj4 hz4 hq4 hS => ?_)
  have e4 : H3.size = g + 2 := by omega
  rw [e4] at hj4
  refine x_tov (y := .ref (g + 2)) (by rw [e4]) ?_
  refine lv_astore_n (lv' := [(3, .ref (g + 2)), (2, .ref (g + 1)), (1, .ref s.heap.size), (0, .ref b)]) hx hb dL_law_17 rfl hl (by decide) rfl (fun ls hl => ?_)
  refine lv_bipush (v := nI 60) hx hb dL_law_18 (by decide) ?_
  refine x_newi hx hb (hts (.arrayClass .int) (by decide +kernel)) hK hS (by decide) (Nat.le_of_ble_eq_true rfl) (Nat.le_of_ble_eq_true rfl) dL_law_20 (fun H5 hj5 hz5 hq5 hS => ?_)
  have e5 : H4.size = g + 3 := by omega
  rw [e5] at hj5
  refine x_tov (y := .ref (g + 3)) (by rw [e5]) ?_
  refine lv_astore (lv' := [(4, .ref (g + 3)), (3, .ref (g + 2)), (2, .ref (g + 1)), (1, .ref s.heap.size), (0, .ref b)]) hx hb dL_law_22 hl (by decide) rfl (fun ls hl => ?_)
  refine lv_bipush (v := nI 64) hx hb dL_law_24 (by decide) ?_
  refine x_newi hx hb (hts (.arrayClass .int) (by decide +kernel)) hK hS (by decide) (Nat.le_of_ble_eq_true rfl) (Nat.le_of_ble_eq_true rfl) dL_law_26 (fun H6 hj6 hz6 hq6 hS => ?_)
  have e6 : H5.size = g + 4 := by omega
  rw [e6] at hj6
  refine x_tov (y := .ref (g + 4)) (by rw [e6]) ?_
  refine lv_astore (lv' := [(5, .ref (g + 4)), (4, .ref (g + 3)), (3, .ref (g + 2)), (2, .ref (g + 1)), (1, .ref s.heap.size), (0, .ref b)]) hx hb dL_law_28 hl (by decide) rfl (fun ls hl => ?_)
  refine lv_bipush (v := nI 24) hx hb dL_law_30 (by decide) ?_
  refine x_newi hx hb (hts (.arrayClass .int) (by decide +kernel)) hK hS (by decide) (Nat.le_of_ble_eq_true rfl) (Nat.le_of_ble_eq_true rfl) dL_law_32 (fun H7 hj7 hz7 hq7 hS => ?_)
  have e7 : H6.size = g + 5 := by omega
  rw [e7] at hj7
  refine x_tov (y := .ref (g + 5)) (by rw [e7]) ?_
  refine lv_astore (lv' := [(6, .ref (g + 5)), (5, .ref (g + 4)), (4, .ref (g + 3)), (3, .ref (g + 2)), (2, .ref (g + 1)), (1, .ref s.heap.size), (0, .ref b)]) hx hb dL_law_34 hl (by decide) rfl (fun ls hl => ?_)
  refine lv_bipush (v := nI 24) hx hb dL_law_36 (by decide) ?_
  refine x_newi hx hb (hts (.arrayClass .int) (by decide +kernel)) hK hS (by decide) (Nat.le_of_ble_eq_true rfl) (Nat.le_of_ble_eq_true rfl) dL_law_38 (fun H8 hj8 hz8 hq8 hS => ?_)
  have e8 : H7.size = g + 6 := by omega
  rw [e8] at hj8
  refine x_tov (y := .ref (g + 6)) (by rw [e8]) ?_
  refine lv_astore (lv' := [(7, .ref (g + 6)), (6, .ref (g + 5)), (5, .ref (g + 4)), (4, .ref (g + 3)), (3, .ref (g + 2)), (2, .ref (g + 1)), (1, .ref s.heap.size), (0, .ref b)]) hx hb dL_law_40 hl (by decide) rfl (fun ls hl => ?_)
  refine lv_bipush (v := nI 10) hx hb dL_law_42 (by decide) ?_
  refine x_newi hx hb (hts (.arrayClass .int) (by decide +kernel)) hK hS (by decide) (Nat.le_of_ble_eq_true rfl) (Nat.le_of_ble_eq_true rfl) dL_law_44 (fun H9 hj9 hz9 hq9 hS => ?_)
  have e9 : H8.size = g + 7 := by omega
  rw [e9] at hj9
  refine x_tov (y := .ref (g + 7)) (by rw [e9]) ?_
  refine lv_astore (lv' := [(8, .ref (g + 7)), (7, .ref (g + 6)), (6, .ref (g + 5)), (5, .ref (g + 4)), (4, .ref (g + 3)), (3, .ref (g + 2)), (2, .ref (g + 1)), (1, .ref s.heap.size), (0, .ref b)]) hx hb dL_law_46 hl (by decide) rfl (fun ls hl => ?_)
  refine lv_bipush (v := nI 64) hx hb dL_law_48 (by decide) ?_
  refine x_newi hx hb (hts (.arrayClass .int) (by decide +kernel)) hK hS (by decide) (Nat.le_of_ble_eq_true rfl) (Nat.le_of_ble_eq_true rfl) dL_law_50 (fun H10 hj10 hz10 hq10 hS => ?_)
  have e10 : H9.size = g + 8 := by omega
  rw [e10] at hj10
  refine x_tov (y := .ref (g + 8)) (by rw [e10]) ?_
  refine lv_astore (lv' := [(9, .ref (g + 8)), (8, .ref (g + 7)), (7, .ref (g + 6)), (6, .ref (g + 5)), (5, .ref (g + 4)), (4, .ref (g + 3)), (3, .ref (g + 2)), (2, .ref (g + 1)), (1, .ref s.heap.size), (0, .ref b)]) hx hb dL_law_52 hl (by decide) rfl (fun ls hl => ?_)
  refine lv_bipush (v := nI 8) hx hb dL_law_54 (by decide) ?_
  refine x_newi hx hb (hts (.arrayClass .int) (by decide +kernel)) hK hS (by decide) (Nat.le_of_ble_eq_true rfl) (Nat.le_of_ble_eq_true rfl) dL_law_56 (fun H11 hj11 hz11 hq11 hS => ?_)
  have e11 : H10.size = g + 9 := by omega
  rw [e11] at hj11
  refine x_tov (y := .ref (g + 9)) (by rw [e11]) ?_
  refine lv_astore (lv' := [(10, .ref (g + 9)), (9, .ref (g + 8)), (8, .ref (g + 7)), (7, .ref (g + 6)), (6, .ref (g + 5)), (5, .ref (g + 4)), (4, .ref (g + 3)), (3, .ref (g + 2)), (2, .ref (g + 1)), (1, .ref s.heap.size), (0, .ref b)]) hx hb dL_law_58 hl (by decide) rfl (fun ls hl => ?_)
  refine lv_iconst (v := nI 0) hx hb dL_law_60 (by decide) ?_
  refine lv_istore (lv' := [(11, .int (nI 0)), (10, .ref (g + 9)), (9, .ref (g + 8)), (8, .ref (g + 7)), (7, .ref (g + 6)), (6, .ref (g + 5)), (5, .ref (g + 4)), (4, .ref (g + 3)), (3, .ref (g + 2)), (2, .ref (g + 1)), (1, .ref s.heap.size), (0, .ref b)]) hx hb dL_law_61 hl (by decide) rfl (fun ls hl => ?_)
  have k11 : ∀ q : Nat, q < H11.size → H11[q]? = H11[q]? := fun q h => rfl
  have k10 : ∀ q : Nat, q < H10.size → H11[q]? = H10[q]? := fun q h => (k11 q (by omega)).trans (hq11 q h)
  have k9 : ∀ q : Nat, q < H9.size → H11[q]? = H9[q]? := fun q h => (k10 q (by omega)).trans (hq10 q h)
  have k8 : ∀ q : Nat, q < H8.size → H11[q]? = H8[q]? := fun q h => (k9 q (by omega)).trans (hq9 q h)
  have k7 : ∀ q : Nat, q < H7.size → H11[q]? = H7[q]? := fun q h => (k8 q (by omega)).trans (hq8 q h)
  have k6 : ∀ q : Nat, q < H6.size → H11[q]? = H6[q]? := fun q h => (k7 q (by omega)).trans (hq7 q h)
  have k5 : ∀ q : Nat, q < H5.size → H11[q]? = H5[q]? := fun q h => (k6 q (by omega)).trans (hq6 q h)
  have k4 : ∀ q : Nat, q < H4.size → H11[q]? = H4[q]? := fun q h => (k5 q (by omega)).trans (hq5 q h)
  have k3 : ∀ q : Nat, q < H3.size → H11[q]? = H3[q]? := fun q h => (k4 q (by omega)).trans (hq4 q h)
  have k2 : ∀ q : Nat, q < H2.size → H11[q]? = H2[q]? := fun q h => (k3 q (by omega)).trans (hq3 q h)
  have hSL : SL T g (fun _ _ => 0) H11 := ⟨hj3.kept (k3 _ (by omega)), hj4.kept (k4 _ (by omega)), hj5.kept (k5 _ (by omega)), hj6.kept (k6 _ (by omega)), hj7.kept (k7 _ (by omega)), hj8.kept (k8 _ (by omega)), hj9.kept (k9 _ (by omega)), hj10.kept (k10 _ (by omega)), hj11.kept (k11 _ (by omega))⟩
  obtain ⟨tg, hRt, htg⟩ := hR.rt (H1 := H11) (by omega) k2 (fun q => if q < g + 10 then 8 else 0) (fun q hq => by
    by_cases h1 : q < g + 10
    · omega
    · exact absurd (if_neg h1) hq)
  have hPK : PK D T dE s.heap.size (fun q : Nat => s.heap.size ≤ q) g (fun _ _ => 0) mSt0 H11 := ⟨tg, hRt, hSL, fun q hq => (htg q (by have := hq.1; omega)).trans (if_pos hq.2)⟩
  refine W.widen (k := 200 + 4400 * 0) (n := 5000 + 50000 * 0) (by decide) (by decide) ?_
  refine law_loop hst hx hb hml hown hts hev hXs hbl hL (fun k H6 locs6 ls6 hk6 hS6 => ?_) (fun k H6 locs6 ls6 hk6 hS6 => ?_) 70 0 rfl hPK lrel0 inv0 hS (lv_sub hl [0, 1, 2, 3, 4, 5, 6, 7, 8, 9, 10, 11] rfl)
  · refine lv_iconst (v := nI 1) hx hb dL_law_1992 (by decide) ?_
    refine va_forget (fun q hq => hS6.2.2 q hq) ?_
    refine W.widen (k := 704995) (n := 6986640) (by omega) (by omega) ?_
    exact lw_ret hx hcb hret hlocks code_1993
  · refine va_forget (fun q hq => hS6.2.2 q hq) ?_
    refine W.widen (k := 704995) (n := 6986640) (by omega) (by omega) ?_
    exact lw_ret hx hcb hret hlocks code_1848
