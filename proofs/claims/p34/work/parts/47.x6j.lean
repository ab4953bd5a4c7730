section KCW
variable {p : Program} {l : Launch} {e : Env} {R : Room} {s : State} {m : MethodId} {args : Array Value} {below : List Frame} {meth : Method} {c : Code} {H : Heap} {locs : List Loc} {cells slots : Nat} {Q : State → Prop}
variable {cc : ByteArray} {pc : Nat} {ls : Array Slot} {rest st0 : List Value} {D : va_G} {T : Nat → ClassId} {dE mi : Nat} {A : Nat → Prop} {H0 : Heap}
variable {y : MethodName} {bytes : ByteArray} {maxL nL mc ms n index : Nat} {ret : Option FieldType} {ws : List Cond} {rm : Room} {Qc : Array Value → State → Outcome → State → Prop} {XC : String → State → State → Prop} {Ts : List Cond} {own C : String} {b : Addr} {As : List Value}
variable {a : Array Value} {X9 : String → Heap → Prop} {MC MS : Nat}
theorem k_thrW {cls text : String} {ik is ic : Nat} (hx : p.tables.exec = Jvm.exec) (hb : c.code = cc) (hl : l.stackTraces = false) (hown : s.vm.findClass RX6 = some m.cls) (hev : EV D T dE mi A s) (hS : va_S A s.heap H locs) (hcls : Bundle.fit cls = true)
    (hk : (Cond.classLink RX6 ik cls).before args s = true) (hini : (Cond.initialized cls).before args s = true) (hstr : (is, text) ∈ evStr) (hcc : (cls, cls) ∈ evCast) (hat : ∀ w ∈ (vx_atS RX6 ic cls ["java/lang/RuntimeException", "java/lang/Exception"]).filter goodWord, w.before args s = true)
    (hng : ∀ w ∈ (vx_atS RX6 ic cls ["java/lang/RuntimeException", "java/lang/Exception"]).filter (fun w => !goodWord w), w ∈ [Cond.castable cls cls, .declares (Bundle.initS "java/lang/RuntimeException"), .declares (Bundle.initS "java/lang/Exception"), .declares (Bundle.initS Bundle.tN)])
    (hgood : ∀ w ∈ Cond.classLink RX6 ik cls :: Cond.initialized cls :: vx_atS RX6 ic cls ["java/lang/RuntimeException", "java/lang/Exception"], vx_ot w = true) (hsize : ls.size = c.maxLocals)
    (d0 : decode cc pc = .ok (.new ik, 3)) (d3 : decode cc (pc + 3) = .ok (.dup, 1)) (d4 : decode cc (pc + 4) = .ok (.ldc_w is, 3)) (d7 : decode cc (pc + 7) = .ok (.invokespecial ic, 3)) (d10 : decode cc (pc + 10) = .ok (.athrow, 1))
    (hnt : ∀ x ∈ c.exceptionTable.toList, False) (hRf : 5 < R.frames) (hRl : (rest.map fun v => v.category).sum + 82 ≤ R.locals) (hRc : cells + 1 ≤ R.cells) (hRs : slots + 6 ≤ R.slots) (hlk : meth.locks = false)
    (hX : ∀ H1 : Heap, H.size ≤ H1.size → (∀ q : Nat, q < H.size → H1[q]? = H[q]?) → X9 cls H1) (hc : cells + 1 ≤ MC) (hs : slots + 6 ≤ MS) :
    W p l e R s m args below meth c H locs cells slots (vx_MQ below Qc (XX A X9) args s MC MS A) (F0 m pc ls rest) := by
  obtain ⟨-, -, ⟨hU, hN⟩, hca, ⟨⟨-, hde⟩, -⟩, hst, -⟩ := hev
  obtain ⟨sa, hsa⟩ := hst _ hstr
  refine vx_throwSW hx hb hl hown hcls (fun n hn => ?_) hk hini hsa (vx_hat hat hng (vx_c (va_Nw.use rfl (hca _ hcc)) (vx_c (va_Nw.use rfl (hde _ (by decide +kernel))) (vx_c (va_Nw.use rfl (hde _ (by decide +kernel))) (vx_c (va_Nw.use rfl (hde _ (by decide +kernel))) vx_n))))) hgood hU hN hS hsize d0 d3 d4 d7 d10 (fun x hx => (hnt x hx).elim) hRf hRl hRc hRs hlk (fun t _ hz hk => ⟨t.heap, trivial, ⟨rfl, hX t.heap hz hk⟩, Nat.le_trans hS.1 hz, fun q h1 h2 => (hk q (Nat.lt_of_lt_of_le h1 hS.1)).trans (hS.2.1 q h1 h2)⟩) hS.2.2 hc hs
  rcases List.mem_cons.mp hn with rfl | hn
  · decide +kernel
  · rcases List.mem_cons.mp hn with rfl | hn
    · decide +kernel
    · cases hn
end KCW

set_option maxRecDepth 100000 in
theorem ta_X6_handleAt_217 : ∀ w ∈ (vx_atS RX6 217 "java/lang/IndexOutOfBoundsException" ["java/lang/RuntimeException", "java/lang/Exception"]).filter goodWord, w ∈ wsX6_handleAt := by decide +kernel
set_option maxRecDepth 100000 in
theorem in_X6_handleAt_RX1 : ∀ w ∈ wsX10, w ∈ wsX6_handleAt := by decide +kernel
set_option maxHeartbeats 4000000 in
set_option maxRecDepth 100000 in
theorem c_X6_handleAt (l : Launch) {D : va_G} {T : Nat → ClassId} {dE mi : Nat} (hst : l.stackTraces = false) {A : Nat → Prop} {H : Heap} {b0 al arr cap zn : Nat} {g9 : Nat → Nat} {E : mE} (hE : PE D T b0 H E) (hL : AL D T dE H al arr cap zn (fun j => ea b0 (g9 j))) (hg : ∀ j, j < zn → g9 j < 32) (hzn : zn < 1000) (x : Int32) : vx_Met l yX6_handleAt wsX6_handleAt (rmL 6 1 6) (PcE D T dE mi A H [.ref al, .int x]) (QI A (fun r H1 => H1 = H ∧ ∃ j, x = nI j ∧ j < zn ∧ r = handle E (g9 j))) (XX A (XE H (fun E9 => E9 = "java/lang/IndexOutOfBoundsException" ∧ inB x zn = false))) 1 6 A := by
  refine entry (cc := cX6_handleAt) (maxL := 2) (ret := (some .int)) (by decide) rfl (Nat.le_of_ble_eq_true rfl) ?_
  intro p e s m args below meth c hx hb hrt9 hml hown hts hlk hnt hnm hev hS ls hl
  have hown : s.vm.findClass RX6 = some m.cls := hown
  have hK := hev.1
  have hl : lv_has ls 2 [(0, .ref al), (1, .int x)] := hl
  refine lv_iload_n hx hb dX6_handleAt_0 rfl (lv_at hl 1 rfl) ?_
  refine lv_if_lt (tgt := 12) hx hb dX6_handleAt_1 (by decide) (fun c1 => ?_) (fun c1 => ?_)
  · exact k_thrW (cls := "java/lang/IndexOutOfBoundsException") (text := "there is no such place") (ik := 213) (is := 258) (ic := 217) hx hb hst hown hev hS (by decide +kernel) (hts (.classLink RX6 213 "java/lang/IndexOutOfBoundsException") (by decide +kernel)) (hts (.initialized "java/lang/IndexOutOfBoundsException") (by decide +kernel)) (by decide +kernel) (by decide +kernel) (fun w h => hts w (ta_X6_handleAt_217 w h)) (by decide +kernel) (by decide +kernel) (hl.1.trans hml.symm) dX6_handleAt_12 dX6_handleAt_15 dX6_handleAt_16 dX6_handleAt_19 dX6_handleAt_22 hnt (Nat.le_of_ble_eq_true rfl) (Nat.le_of_ble_eq_true rfl) (Nat.le_of_ble_eq_true rfl) (Nat.le_of_ble_eq_true rfl) hlk ((fun H1 h1 h2 => ⟨⟨rfl, inB_neg c1⟩, h1, h2⟩)) (Nat.le_of_ble_eq_true rfl) (Nat.le_of_ble_eq_true rfl)
  · refine lv_iload_n hx hb dX6_handleAt_4 rfl (lv_at hl 1 rfl) ?_
    refine lv_aload_n hx hb dX6_handleAt_5 rfl (lv_at hl 0 rfl) ?_
    refine k_ip (k_V (As := []) (rest := [.int x]) ⟨hx, hb, hml, hown, hts⟩ hev hS (c_Jx4a65c_size_8abf5 l hL) (cwV 0 hts gX6_handleAt_Jx4a65c_size_8abf5 rfl rfl rfl (by decide +kernel) ⟨Nat.le_of_ble_eq_true rfl, Nat.le_of_ble_eq_true rfl⟩) (x_recv hK ((hL.rec).choose_spec) rfl) rfl hl.1 (Nat.le_of_ble_eq_true rfl) dX6_handleAt_6 (Nat.le_of_ble_eq_true rfl) (Nat.le_of_ble_eq_true rfl)) hS hnt hlk (fun _ _ h _ => h.elim) (Nat.le_of_ble_eq_true rfl) (Nat.le_of_ble_eq_true rfl) (fun rq1_ H1 locs1 hP hz1 hS => ?_)
    refine W.widen (k := 0) (n := 0) (Nat.le_refl _) (Nat.le_refl _) ?_
    obtain ⟨eH, er⟩ := hP
    have eH := eH.symm
    subst eH
    refine x_top (y := (nI zn)) (er) ?_
    refine lv_icmp_lt (tgt := 23) hx hb dX6_handleAt_9 (by decide) (fun c9 => ?_) (fun c9 => ?_)
    · have hin : inB x zn = true := decide_eq_true ⟨i32_nlt c1, c9⟩
      obtain ⟨j1, hj1, hxj⟩ := inB_of (by omega) hin
      have hl : lv_has ls 2 [(0, .ref al), (1, .int (nI j1))] := by
        have e9 : x = (nI j1) := hxj
        rw [← e9]; exact hl
      have hj32 := hg j1 hj1
      refine lv_aload_n hx hb dX6_handleAt_23 rfl (lv_at hl 0 rfl) ?_
      refine lv_iload_n hx hb dX6_handleAt_24 rfl (lv_at hl 1 rfl) ?_
      refine k_qp (k_V (As := [.int (nI j1)]) (rest := []) ⟨hx, hb, hml, hown, hts⟩ hev hS (c_Jx4a65c_get_915e3 l hL (i := j1) hj1) (cwV 1 hts gX6_handleAt_Jx4a65c_get_915e3 rfl rfl rfl (by decide +kernel) ⟨Nat.le_of_ble_eq_true rfl, Nat.le_of_ble_eq_true rfl⟩) (x_recv hK ((hL.rec).choose_spec) rfl) rfl hl.1 (Nat.le_of_ble_eq_true rfl) dX6_handleAt_25 (Nat.le_of_ble_eq_true rfl) (Nat.le_of_ble_eq_true rfl)) hS hnt hlk (fun _ _ h _ => h.elim) (Nat.le_of_ble_eq_true rfl) (Nat.le_of_ble_eq_true rfl) (fun rq2_ H2 locs2 hP hz2 hS => ?_)
      refine W.widen (k := 0) (n := 0) (Nat.le_refl _) (Nat.le_refl _) ?_
      obtain ⟨eH, er⟩ := hP
      have eH := eH.symm
      subst eH
      refine x_tov (y := .ref ((ea b0 (g9 j1)))) (by rw [er]; rfl) ?_
      refine va_castE hx hb hown (hts (.classLink RX6 9 "Archeloft$Entity") (by decide +kernel)) (x_recv hK (hE (g9 j1) hj32).1 rfl) dX6_handleAt_28 ?_
      refine x_getN (C := RX1) (TT := TX1) (N := 6) (ci := 4) (v := .int ((handle E (g9 j1)))) hx hb hts in_X6_handleAt_RX1 hown hK ((hE (g9 j1) hj32).1) rfl 2 (by decide) (hev.2.2.2.2.1.2 ("Archeloft", 63, "Archeloft$Entity", "handle", "I") (by decide +kernel)) (fun _ h9 => h9) rfl dX6_handleAt_31 ?_
      exact r_i hx hb hrt9 hlk hS (Nat.le_of_ble_eq_true rfl) (Nat.le_of_ble_eq_true rfl) dX6_handleAt_34 (⟨rfl, j1, hxj, hj1, rfl⟩)
    · exact k_thrW (cls := "java/lang/IndexOutOfBoundsException") (text := "there is no such place") (ik := 213) (is := 258) (ic := 217) hx hb hst hown hev hS (by decide +kernel) (hts (.classLink RX6 213 "java/lang/IndexOutOfBoundsException") (by decide +kernel)) (hts (.initialized "java/lang/IndexOutOfBoundsException") (by decide +kernel)) (by decide +kernel) (by decide +kernel) (fun w h => hts w (ta_X6_handleAt_217 w h)) (by decide +kernel) (by decide +kernel) (hl.1.trans hml.symm) dX6_handleAt_12 dX6_handleAt_15 dX6_handleAt_16 dX6_handleAt_19 dX6_handleAt_22 hnt (Nat.le_of_ble_eq_true rfl) (Nat.le_of_ble_eq_true rfl) (Nat.le_of_ble_eq_true rfl) (Nat.le_of_ble_eq_true rfl) hlk ((fun H1 h1 h2 => ⟨⟨rfl, decide_eq_false (fun z => absurd z.2 c9)⟩, h1, h2⟩)) (Nat.le_of_ble_eq_true rfl) (Nat.le_of_ble_eq_true rfl)
