/-! the script's cells, the check behind an act, and one turn of the law -/
abbrev PcX (D : va_G) (T : Nat → ClassId) (dE mi : Nat) (A : Nat → Prop) (H : Heap) (b L : Nat) (xs : Nat → Int32) (as : List Value) : Array Value → State → Prop := va_Pc as (fun U => (U.heap = H ∧ EV D T dE mi A U) ∧ va_X b L xs U H ∧ b < H.size)
theorem PcX.blind {D : va_G} {T : Nat → ClassId} {dE mi : Nat} {A : Nat → Prop} {H : Heap} {b L : Nat} {xs : Nat → Int32} {as : List Value} : FrameBlind (PcX D T dE mi A H b L xs as) := fun a U g mk q => ⟨q.1, ⟨q.2.1.1, q.2.1.2.blind a g mk⟩, va_X.moved (U := U.calling g mk a) (State.WarmedH.refl U).alike q.2.2.1, q.2.2.2⟩
section KSX
variable {p : Program} {l : Launch} {e : Env} {R : Room} {s : State} {m : MethodId} {args : Array Value} {below : List Frame} {meth : Method} {c : Code} {H : Heap} {locs : List Loc} {cells slots : Nat} {Q : State → Prop}
variable {cc : ByteArray} {pc : Nat} {ls : Array Slot} {rest st0 : List Value} {D : va_G} {T : Nat → ClassId} {dE mi : Nat} {A : Nat → Prop}
variable {y : MethodName} {bytes : ByteArray} {maxL nL mc ms n index : Nat} {ret : Option FieldType} {ws : List Cond} {rm : Room} {Qc : Array Value → State → Outcome → State → Prop} {XC : String → State → State → Prop} {Ts : List Cond} {own C : String} {b L : Nat} {xs : Nat → Int32} {As : List Value}
theorem k_SX (S : CallFix p m c cc nL s args Ts own) (hev : EV D T dE mi A s) (hS : va_S A s.heap H locs) (hXs : va_X b L xs s s.heap) (hbl : b < s.heap.size) (hbA : ¬ A b) (hM : vx_Met l y ws rm (PcX D T dE mi A H b L xs As) Qc XC mc ms A) (cw : CallB R s args own index y bytes maxL ret ws rm mc ms n ∧ (Cond.static y).before args s = true)
    (hn : As.length = n) (hsize : ls.size = nL) (hW : (rest.map fun v => v.category).sum ≤ 8) (hdg : decode cc pc = .ok (.invokestatic index, 3)) (hc : cells + mc ≤ R.cells) (hs : slots + ms ≤ R.slots) :
    vx_Run p l e R s m args below meth c H locs cells slots mc ms (F0 m pc ls (As.reverse ++ rest)) rest (Qc As.toArray) XC A :=
  vx_runS S hM cw ⟨PcX.blind, fun U hU hW => ⟨rfl, ⟨hU, hev.go hS hU hW⟩, (va_X.moved hW.alike hXs).kept (hS.2.1 b hbl hbA), Nat.lt_of_lt_of_le hbl hS.1⟩⟩ rfl hn hsize rfl (lv_room hW) hdg ⟨hc, hs⟩
end KSX
theorem entryX {l : Launch} {y : MethodName} {ws ws' : List Cond} {k mc ms : Nat} {Qc : Array Value → State → Outcome → State → Prop} {XC : String → State → State → Prop} {D : va_G} {T : Nat → ClassId} {dE mi : Nat} {A : Nat → Prop} {H : Heap} {b L : Nat} {xs : Nat → Int32} {as : List Value} {cc : ByteArray} {maxL : Nat} {ret : Option FieldType}
    (hy : plainName y.cls = true) (hw : ws = Cond.code y cc maxL ret :: ws') (hle : (lg_sl as).length ≤ maxL)
    (body : ∀ (p : Program) (e : Env) (s : State) (m : MethodId) (args : Array Value) (below : List Frame) (meth : Method) (c : Code), p.tables.exec = Jvm.exec → c.code = cc → meth.sig.returnType = ret → c.maxLocals = maxL → s.vm.findClass y.cls = some m.cls → (∀ w ∈ ws, w.before args s = true) → meth.locks = false → (∀ x ∈ c.exceptionTable.toList, False) → meth.name = y.name → EV D T dE mi A s → va_S A s.heap H [] → va_X b L xs s s.heap → b < s.heap.size →
      ∀ ls : Array Slot, lv_has ls maxL (lv_args 0 as) → W p l e (rmL k mc ms) s m args below meth c H [] 0 0 (vx_MQ below Qc XC args s mc ms A) (F0 m 0 ls [])) : vx_Met l y ws (rmL k mc ms) (PcX D T dE mi A H b L xs as) Qc XC mc ms A := by
  refine vx_ofW hy hw ?_
  intro p e s m args below meth c s₁ B hml hnt hv
  obtain ⟨rfl, ⟨hsz, hev⟩, hX, hbl⟩ := hv
  subst hsz
  rw [lg_entry_eq]
  exact body p e s m _ below meth c B.exec B.bytes B.returns hml (findClass_of_methodNamed B.named) (atoms_spec (ws := ws) B.pre) B.notSynchronized hnt (name_of_methodNamed B.named B.method).1 hev va_S.rf hX hbl _ (lv_entry as hle)
set_option maxHeartbeats 4000000 in
set_option maxRecDepth 100000 in
theorem c_L_cell (l : Launch) {D : va_G} {T : Nat → ClassId} {dE mi : Nat} {A : Nat → Prop} {H : Heap} {b L : Nat} {xs : Nat → Int32} (hbA : ¬ A b) (hL9 : L < 2 ^ 31) {i : Nat} (hi : i < 2 ^ 31) : vx_Met l yL_cell wsL_cell (rmL 0 0 0) (PcX D T dE mi A H b L xs [.ref b, .int (nI i)]) (QI A (fun r H1 => H1 = H)) (XX A (XN)) 0 0 A := by
  refine entryX (cc := cL_cell) (maxL := 2) (ret := (some .int)) (by decide) rfl (Nat.le_of_ble_eq_true rfl) ?_
  intro p e s m args below meth c hx hb hrt9 hml hown hts hlk hnt hnm hev hS hXs hbl ls hl
  have hown : s.vm.findClass RL = some m.cls := hown
  have hK := hev.1
  have hl : lv_has ls 2 [(0, .ref b), (1, .int (nI i))] := hl
  refine lv_iload_n hx hb dL_cell_0 rfl (lv_at hl 1 rfl) ?_
  refine lv_aload_n hx hb dL_cell_1 rfl (lv_at hl 0 rfl) ?_
  refine va_slen hx hb hXs hbl hbA hS dL_cell_2 ?_
  refine y_icmp_ge hx hb (by omega) (by omega) (tgt := 12) dL_cell_3 (by decide) (fun c3 => ?_) (fun c3 => ?_)
  · refine lv_ldc (v := (nI 1000308217)) hx hb hown (hts (.constant RL 7 (1000308217)) (by decide +kernel)) dL_cell_12 ?_
    refine lv_iload_n hx hb dL_cell_14 rfl (lv_at hl 1 rfl) ?_
    refine lv_iconst (v := nI 1) hx hb dL_cell_15 (by decide) ?_
    refine y_iadd hx hb dL_cell_16 ?_
    refine y_imul hx hb dL_cell_17 ?_
    refine lv_ldc (v := (nI 751363391)) hx hb hown (hts (.constant RL 8 (751363391)) (by decide +kernel)) dL_cell_18 ?_
    refine y_iadd hx hb dL_cell_20 ?_
    exact r_i hx hb hrt9 hlk hS (Nat.le_of_ble_eq_true rfl) (Nat.le_of_ble_eq_true rfl) dL_cell_21 (rfl)
  · refine lv_aload_n hx hb dL_cell_6 rfl (lv_at hl 0 rfl) ?_
    refine lv_iload_n hx hb dL_cell_7 rfl (lv_at hl 1 rfl) ?_
    refine va_sld hx hb hXs hbl hbA hS (vp_in_nI (n := i) (by omega) (by omega)) dL_cell_8 ?_
    refine lv_goto (tgt := 21) hx hb dL_cell_9 (by decide) ?_
    exact r_i hx hb hrt9 hlk hS (Nat.le_of_ble_eq_true rfl) (Nat.le_of_ble_eq_true rfl) dL_cell_21 (rfl)
set_option maxHeartbeats 4000000 in
set_option maxRecDepth 100000 in
theorem law_check {p : Program} {l : Launch} {e : Env} {s : State} {m : MethodId} {below : List Frame} {meth : Method} {c : Code} {Q : State → Prop} {b : Nat} {D : va_G} {T : Nat → ClassId} {dE mi b0 g : Nat} (hst : l.stackTraces = false) (hx : p.tables.exec = Jvm.exec) (hb : c.code = cL_law) (hml : c.maxLocals = 26) (hown : s.vm.findClass RL = some m.cls) (hts : ∀ w ∈ wsL_law, w.before #[Value.ref b] s = true) (hev : EV D T dE mi (fun q : Nat => s.heap.size ≤ q) s) {k : Nat} (hk : k < 70) {H : Heap} {locs : List Loc} {M : mSt} {Y : Nat → Nat → Int32} (hPK : PK D T dE b0 (fun q : Nat => s.heap.size ≤ q) g Y M H) (hR : LRel Y M) (hI : Inv (800 * (k + 1)) M) (hS : va_S (fun q : Nat => s.heap.size ≤ q) s.heap H locs) {ls : Array Slot} (hl : lv_has ls 26 [(11, .int (nI k)), (10, .ref (g + 9)), (9, .ref (g + 8)), (8, .ref (g + 7)), (7, .ref (g + 6)), (6, .ref (g + 5)), (5, .ref (g + 4)), (4, .ref (g + 3)), (3, .ref (g + 2)), (2, .ref (g + 1)), (1, .ref b0), (0, .ref b)]) (hnxt : ∀ (H1 : Heap) (locs1 : List Loc) (M1 : mSt) (Y1 : Nat → Nat → Int32) (ls1 : Array Slot), PK D T dE b0 (fun q : Nat => s.heap.size ≤ q) g Y1 M1 H1 → LRel Y1 M1 → Inv (800 * (k + 1)) M1 → va_S (fun q : Nat => s.heap.size ≤ q) s.heap H1 locs1 → lv_has ls1 26 [(11, .int (nI k)), (10, .ref (g + 9)), (9, .ref (g + 8)), (8, .ref (g + 7)), (7, .ref (g + 6)), (6, .ref (g + 5)), (5, .ref (g + 4)), (4, .ref (g + 3)), (3, .ref (g + 2)), (2, .ref (g + 1)), (1, .ref b0), (0, .ref b)] → W p l e room_1 s m #[Value.ref b] below meth c H1 locs1 (200 + 4400 * (k + 1)) (5000 + 50000 * (k + 1)) Q (F0 m 1986 ls1 [])) : W p l e room_1 s m #[Value.ref b] below meth c H locs (200 + 4400 * k + 300) (5000 + 50000 * k + 5400) Q (F0 m 1955 ls []) := by
  have hK := hev.1
  have hL := hPK.sl
  have hT := hR.1
  refine lv_aload_n hx hb dL_law_1955 rfl (lv_at hl 10 rfl) ?_
  refine lv_aload_n hx hb dL_law_1956 rfl (lv_at hl 9 rfl) ?_
  refine lv_aload_n hx hb dL_law_1957 rfl (lv_at hl 8 rfl) ?_
  refine lv_aload hx hb dL_law_1958 (lv_at hl 7 rfl) ?_
  refine lv_aload hx hb dL_law_1960 (lv_at hl 1 rfl) ?_
  refine k_iN (k_S (As := [.ref b0, .ref (g + 1), .ref (g + 2), .ref (g + 3), .ref (g + 9)]) (rest := []) ⟨hx, hb, hml, hown, hts⟩ hev hS (c_L_same l hst hPK hI hT hR.2.2.2.1) (va_cwS 5 hts gL_law_L_same rfl rfl rfl (by decide +kernel) ⟨Nat.le_of_ble_eq_true rfl, Nat.le_of_ble_eq_true rfl⟩) rfl hl.1 (Nat.le_of_ble_eq_true rfl) dL_law_1962 (by show _ ≤ (704995 : Nat); omega) (by show _ ≤ (6986640 : Nat); omega)) hS (fun rq1_ H1 locs1 hP hz1 hS => ?_)
  have er := hP.1
  have hPK := hP.2
  have hL := hPK.sl
  refine x_top (y := (nI 1)) (er) ?_
  refine y_if_eq hx hb (by decide) (tgt := 1984) dL_law_1965 (by decide) (fun c1965 => ?_) (fun c1965 => ?_)
  · exact absurd c1965 (by decide)
  · refine lv_aload_n hx hb dL_law_1968 rfl (lv_at hl 10 rfl) ?_
    refine lv_aload_n hx hb dL_law_1969 rfl (lv_at hl 9 rfl) ?_
    refine lv_aload hx hb dL_law_1970 (lv_at hl 6 rfl) ?_
    refine lv_aload hx hb dL_law_1972 (lv_at hl 1 rfl) ?_
    refine lv_aload hx hb dL_law_1974 (lv_at hl 5 rfl) ?_
    refine lv_aload hx hb dL_law_1976 (lv_at hl 7 rfl) ?_
    refine k_iN (k_S (As := [.ref b0, .ref (g + 1), .ref (g + 4), .ref (g + 9), .ref (g + 5), .ref (g + 3)]) (rest := []) ⟨hx, hb, hml, hown, hts⟩ hev hS (c_L_rows l hst hPK hI hT hR.2.1 hR.2.2.2.1) (va_cwS 6 hts gL_law_L_rows rfl rfl rfl (by decide +kernel) ⟨Nat.le_of_ble_eq_true rfl, Nat.le_of_ble_eq_true rfl⟩) rfl hl.1 (Nat.le_of_ble_eq_true rfl) dL_law_1978 (by show _ ≤ (704995 : Nat); omega) (by show _ ≤ (6986640 : Nat); omega)) hS (fun rq2_ H2 locs2 hP hz2 hS => ?_)
    have er := hP.1
    have hPK := hP.2
    have hL := hPK.sl
    refine x_top (y := (nI 1)) (er) ?_
    refine y_if_ne hx hb (by decide) (tgt := 1986) dL_law_1981 (by decide) (fun c1981 => ?_) (fun c1981 => ?_)
    · refine W.widen (k := 200 + 4400 * (k + 1)) (n := 5000 + 50000 * (k + 1)) (by omega) (by omega) ?_
      exact hnxt _ _ _ _ ls hPK hR hI hS (lv_sub hl [0, 1, 2, 3, 4, 5, 6, 7, 8, 9, 10, 11] rfl)
    · exact absurd c1981 (by decide)
set_option maxHeartbeats 8000000 in
set_option maxRecDepth 100000 in
theorem law_head {p : Program} {l : Launch} {e : Env} {s : State} {m : MethodId} {below : List Frame} {meth : Method} {c : Code} {Q : State → Prop} {b : Nat} {D : va_G} {T : Nat → ClassId} {dE mi b0 g : Nat} (hst : l.stackTraces = false) (hx : p.tables.exec = Jvm.exec) (hb : c.code = cL_law) (hml : c.maxLocals = 26) (hown : s.vm.findClass RL = some m.cls) (hts : ∀ w ∈ wsL_law, w.before #[Value.ref b] s = true) (hev : EV D T dE mi (fun q : Nat => s.heap.size ≤ q) s) {k : Nat} (hk : k < 70) {L : Nat} {xs : Nat → Int32} (hXs : va_X b L xs s s.heap) (hbl : b < s.heap.size) (hL9 : L ≤ 260) {H : Heap} {locs : List Loc} {M : mSt} {Y : Nat → Nat → Int32} (hPK : PK D T dE b0 (fun q : Nat => s.heap.size ≤ q) g Y M H) (hR : LRel Y M) (hI : Inv (800 * k) M) (hS : va_S (fun q : Nat => s.heap.size ≤ q) s.heap H locs) {ls : Array Slot} (hl : lv_has ls 26 [(11, .int (nI k)), (10, .ref (g + 9)), (9, .ref (g + 8)), (8, .ref (g + 7)), (7, .ref (g + 6)), (6, .ref (g + 5)), (5, .ref (g + 4)), (4, .ref (g + 3)), (3, .ref (g + 2)), (2, .ref (g + 1)), (1, .ref b0), (0, .ref b)])
    (hchk : ∀ (H1 : Heap) (locs1 : List Loc) (M1 : mSt) (Y1 : Nat → Nat → Int32) (ls1 : Array Slot), PK D T dE b0 (fun q : Nat => s.heap.size ≤ q) g Y1 M1 H1 → LRel Y1 M1 → Inv (800 * (k + 1)) M1 → va_S (fun q : Nat => s.heap.size ≤ q) s.heap H1 locs1 → lv_has ls1 26 [(11, .int (nI k)), (10, .ref (g + 9)), (9, .ref (g + 8)), (8, .ref (g + 7)), (7, .ref (g + 6)), (6, .ref (g + 5)), (5, .ref (g + 4)), (4, .ref (g + 3)), (3, .ref (g + 2)), (2, .ref (g + 1)), (1, .ref b0), (0, .ref b)] → W p l e room_1 s m #[Value.ref b] below meth c H1 locs1 (200 + 4400 * k + 300) (5000 + 50000 * k + 5400) Q (F0 m 1955 ls1 [])) (hnxt : ∀ (H1 : Heap) (locs1 : List Loc) (M1 : mSt) (Y1 : Nat → Nat → Int32) (ls1 : Array Slot), PK D T dE b0 (fun q : Nat => s.heap.size ≤ q) g Y1 M1 H1 → LRel Y1 M1 → Inv (800 * (k + 1)) M1 → va_S (fun q : Nat => s.heap.size ≤ q) s.heap H1 locs1 → lv_has ls1 26 [(11, .int (nI k)), (10, .ref (g + 9)), (9, .ref (g + 8)), (8, .ref (g + 7)), (7, .ref (g + 6)), (6, .ref (g + 5)), (5, .ref (g + 4)), (4, .ref (g + 3)), (3, .ref (g + 2)), (2, .ref (g + 1)), (1, .ref b0), (0, .ref b)] → W p l e room_1 s m #[Value.ref b] below meth c H1 locs1 (200 + 4400 * (k + 1)) (5000 + 50000 * (k + 1)) Q (F0 m 1986 ls1 [])) (hrtn : ∀ (H1 : Heap) (locs1 : List Loc) (ls1 : Array Slot), va_S (fun q : Nat => s.heap.size ≤ q) s.heap H1 locs1 → W p l e room_1 s m #[Value.ref b] below meth c H1 locs1 (200 + 4400 * (k + 1)) (5000 + 50000 * (k + 1)) Q (F0 m 1848 ls1 [.int (nI 1)])) : W p l e room_1 s m #[Value.ref b] below meth c H locs (200 + 4400 * k) (5000 + 50000 * k) Q (F0 m 63 ls []) := by
  have hK := hev.1
  have hL := hPK.sl
  have hAS := hPK.as
  have hh := hI.had
  have iE := hI.1
  have hT := hR.1
  have hbA : ¬ (fun q : Nat => s.heap.size ≤ q) b := Nat.not_le.mpr hbl
  refine lv_iload hx hb dL_law_63 (lv_at hl 0 rfl) ?_
  refine lv_bipush (v := nI 70) hx hb dL_law_65 (by decide) ?_
  refine y_icmp_ge hx hb (by omega) (Nat.le_of_ble_eq_true rfl) (tgt := 1992) dL_law_67 (by decide) (fun c67 => ?_) (fun c67 => ?_)
  · omega
  · refine lv_aload_n hx hb dL_law_70 rfl (lv_at hl 11 rfl) ?_
    refine lv_iconst (v := nI 2) hx hb dL_law_71 (by decide) ?_
    refine lv_iload hx hb dL_law_72 (lv_at hl 0 rfl) ?_
    refine y_imul hx hb dL_law_74 ?_
    refine k_iN (k_SX (As := [.ref b, .int (nI (2 * k))]) (rest := []) ⟨hx, hb, hml, hown, hts⟩ hev hS hXs hbl hbA (c_L_cell l hbA (by omega) (by omega)) (va_cwS 2 hts gL_law_L_cell rfl rfl rfl (by decide +kernel) ⟨Nat.le_of_ble_eq_true rfl, Nat.le_of_ble_eq_true rfl⟩) rfl hl.1 (Nat.le_of_ble_eq_true rfl) dL_law_75 (by show _ ≤ (704995 : Nat); omega) (by show _ ≤ (6986640 : Nat); omega)) hS (fun xr H1 locs1 hP hz1 hS => ?_)
    refine W.widen (k := 200 + 4400 * k) (n := 5000 + 50000 * k) (Nat.le_refl _) (Nat.le_refl _) ?_
    have hPK : PK D T dE b0 (fun q : Nat => s.heap.size ≤ q) g Y M H1 := by rw [hP]; exact hPK
    have hL := hPK.sl
    refine lv_istore (lv' := [(12, .int xr), (11, .int (nI k)), (10, .ref (g + 9)), (9, .ref (g + 8)), (8, .ref (g + 7)), (7, .ref (g + 6)), (6, .ref (g + 5)), (5, .ref (g + 4)), (4, .ref (g + 3)), (3, .ref (g + 2)), (2, .ref (g + 1)), (1, .ref b0), (0, .ref b)]) hx hb dL_law_78 hl (by decide) rfl (fun ls hl => ?_)
    refine lv_aload_n hx hb dL_law_80 rfl (lv_at hl 12 rfl) ?_
    refine lv_iconst (v := nI 2) hx hb dL_law_81 (by decide) ?_
    refine lv_iload hx hb dL_law_82 (lv_at hl 1 rfl) ?_
    refine y_imul hx hb dL_law_84 ?_
    refine lv_iconst (v := nI 1) hx hb dL_law_85 (by decide) ?_
    refine y_iadd hx hb dL_law_86 ?_
    refine k_iN (k_SX (As := [.ref b, .int (nI ((2 * k) + 1))]) (rest := []) ⟨hx, hb, hml, hown, hts⟩ hev hS hXs hbl hbA (c_L_cell l hbA (by omega) (by omega)) (va_cwS 2 hts gL_law_L_cell rfl rfl rfl (by decide +kernel) ⟨Nat.le_of_ble_eq_true rfl, Nat.le_of_ble_eq_true rfl⟩) rfl hl.1 (Nat.le_of_ble_eq_true rfl) dL_law_87 (by show _ ≤ (704995 : Nat); omega) (by show _ ≤ (6986640 : Nat); omega)) hS (fun zr H2 locs2 hP hz2 hS => ?_)
    refine W.widen (k := 200 + 4400 * k) (n := 5000 + 50000 * k) (Nat.le_refl _) (Nat.le_refl _) ?_
    have hPK : PK D T dE b0 (fun q : Nat => s.heap.size ≤ q) g Y M H2 := by rw [hP]; exact hPK
    have hL := hPK.sl
    refine lv_istore (lv' := [(13, .int zr), (12, .int xr), (11, .int (nI k)), (10, .ref (g + 9)), (9, .ref (g + 8)), (8, .ref (g + 7)), (7, .ref (g + 6)), (6, .ref (g + 5)), (5, .ref (g + 4)), (4, .ref (g + 3)), (3, .ref (g + 2)), (2, .ref (g + 1)), (1, .ref b0), (0, .ref b)]) hx hb dL_law_90 hl (by decide) rfl (fun ls hl => ?_)
    refine lv_iload hx hb dL_law_92 (lv_at hl 2 rfl) ?_
    refine lv_iconst (v := nI 3) hx hb dL_law_94 (by decide) ?_
    refine y_icmp_ge hx hb (by omega) (Nat.le_of_ble_eq_true rfl) (tgt := 102) dL_law_95 (by decide) (fun c95 => ?_) (fun c95 => ?_)
    · refine lv_iload hx hb dL_law_102 (lv_at hl 1 rfl) ?_
      refine lv_bipush (v := nI 24) hx hb dL_law_104 (by decide) ?_
      refine k_iN (k_S (As := [.int xr, .int (nI 24)]) (rest := []) ⟨hx, hb, hml, hown, hts⟩ hev hS (c_L_low l (xr) (q := 24) (by decide) (by decide)) (va_cwS 2 hts gL_law_L_low rfl rfl rfl (by decide +kernel) ⟨Nat.le_of_ble_eq_true rfl, Nat.le_of_ble_eq_true rfl⟩) rfl hl.1 (Nat.le_of_ble_eq_true rfl) dL_law_106 (by show _ ≤ (704995 : Nat); omega) (by show _ ≤ (6986640 : Nat); omega)) hS (fun rq3_ H3 locs3 hP hz3 hS => ?_)
      refine W.widen (k := 200 + 4400 * k) (n := 5000 + 50000 * k) (Nat.le_refl _) (Nat.le_refl _) ?_
      have hPK : PK D T dE b0 (fun q : Nat => s.heap.size ≤ q) g Y M H3 := by rw [hP.1]; exact hPK
      have hL := hPK.sl
      obtain ⟨-, kd9, hkd9, ej3⟩ := hP
      refine x_top (y := (nI kd9)) (ej3) ?_
      refine lv_istore (lv' := [(14, .int (nI kd9)), (13, .int zr), (12, .int xr), (11, .int (nI k)), (10, .ref (g + 9)), (9, .ref (g + 8)), (8, .ref (g + 7)), (7, .ref (g + 6)), (6, .ref (g + 5)), (5, .ref (g + 4)), (4, .ref (g + 3)), (3, .ref (g + 2)), (2, .ref (g + 1)), (1, .ref b0), (0, .ref b)]) hx hb dL_law_109 hl (by decide) rfl (fun ls hl => ?_)
      refine lv_iload hx hb dL_law_111 (lv_at hl 2 rfl) ?_
      refine lv_iconst (v := nI 5) hx hb dL_law_113 (by decide) ?_
      refine lv_ishr hx hb dL_law_114 ?_
      refine lv_bipush (v := nI 10) hx hb dL_law_115 (by decide) ?_
      refine k_iN (k_S (As := [.int (xr >>> ((nI 5) &&& 31)), .int (nI 10)]) (rest := []) ⟨hx, hb, hml, hown, hts⟩ hev hS (c_L_low l (xr >>> ((nI 5) &&& 31)) (q := 10) (by decide) (by decide)) (va_cwS 2 hts gL_law_L_low rfl rfl rfl (by decide +kernel) ⟨Nat.le_of_ble_eq_true rfl, Nat.le_of_ble_eq_true rfl⟩) rfl hl.1 (Nat.le_of_ble_eq_true rfl) dL_law_117 (by show _ ≤ (704995 : Nat); omega) (by show _ ≤ (6986640 : Nat); omega)) hS (fun rq4_ H4 locs4 hP hz4 hS => ?_)
      refine W.widen (k := 200 + 4400 * k) (n := 5000 + 50000 * k) (Nat.le_refl _) (Nat.le_refl _) ?_
      have hPK : PK D T dE b0 (fun q : Nat => s.heap.size ≤ q) g Y M H4 := by rw [hP.1]; exact hPK
      have hL := hPK.sl
      obtain ⟨-, kx, hkx, ej4⟩ := hP
      refine x_top (y := (nI kx)) (ej4) ?_
      refine lv_istore (lv' := [(15, .int (nI kx)), (14, .int (nI kd9)), (13, .int zr), (12, .int xr), (11, .int (nI k)), (10, .ref (g + 9)), (9, .ref (g + 8)), (8, .ref (g + 7)), (7, .ref (g + 6)), (6, .ref (g + 5)), (5, .ref (g + 4)), (4, .ref (g + 3)), (3, .ref (g + 2)), (2, .ref (g + 1)), (1, .ref b0), (0, .ref b)]) hx hb dL_law_120 hl (by decide) rfl (fun ls hl => ?_)
      refine lv_iload hx hb dL_law_122 (lv_at hl 3 rfl) ?_
      refine lv_bipush (v := nI 9) hx hb dL_law_124 (by decide) ?_
      refine lv_ishr hx hb dL_law_126 ?_
      refine lv_bipush (v := nI 10) hx hb dL_law_127 (by decide) ?_
      refine k_iN (k_S (As := [.int (xr >>> ((nI 9) &&& 31)), .int (nI 10)]) (rest := []) ⟨hx, hb, hml, hown, hts⟩ hev hS (c_L_low l (xr >>> ((nI 9) &&& 31)) (q := 10) (by decide) (by decide)) (va_cwS 2 hts gL_law_L_low rfl rfl rfl (by decide +kernel) ⟨Nat.le_of_ble_eq_true rfl, Nat.le_of_ble_eq_true rfl⟩) rfl hl.1 (Nat.le_of_ble_eq_true rfl) dL_law_129 (by show _ ≤ (704995 : Nat); omega) (by show _ ≤ (6986640 : Nat); omega)) hS (fun rq5_ H5 locs5 hP hz5 hS => ?_)
      refine W.widen (k := 200 + 4400 * k) (n := 5000 + 50000 * k) (Nat.le_refl _) (Nat.le_refl _) ?_
      have hPK : PK D T dE b0 (fun q : Nat => s.heap.size ≤ q) g Y M H5 := by rw [hP.1]; exact hPK
      have hL := hPK.sl
      obtain ⟨-, ox, hox, ej5⟩ := hP
      refine x_top (y := (nI ox)) (ej5) ?_
      refine lv_istore (lv' := [(16, .int (nI ox)), (15, .int (nI kx)), (14, .int (nI kd9)), (13, .int zr), (12, .int xr), (11, .int (nI k)), (10, .ref (g + 9)), (9, .ref (g + 8)), (8, .ref (g + 7)), (7, .ref (g + 6)), (6, .ref (g + 5)), (5, .ref (g + 4)), (4, .ref (g + 3)), (3, .ref (g + 2)), (2, .ref (g + 1)), (1, .ref b0), (0, .ref b)]) hx hb dL_law_132 hl (by decide) rfl (fun ls hl => ?_)
      refine lv_iload hx hb dL_law_134 (lv_at hl 1 rfl) ?_
      refine lv_aload_n hx hb dL_law_136 rfl (lv_at hl 14 rfl) ?_
      refine k_iN (k_S (As := [.int (nI kx), .ref (g + 1)]) (rest := []) ⟨hx, hb, hml, hown, hts⟩ hev hS (c_L_handle l hL hT.1 hkx) (va_cwS 2 hts gL_law_L_handle rfl rfl rfl (by decide +kernel) ⟨Nat.le_of_ble_eq_true rfl, Nat.le_of_ble_eq_true rfl⟩) rfl hl.1 (Nat.le_of_ble_eq_true rfl) dL_law_137 (by show _ ≤ (704995 : Nat); omega) (by show _ ≤ (6986640 : Nat); omega)) hS (fun rq6_ H6 locs6 hP hz6 hS => ?_)
      refine W.widen (k := 200 + 4400 * k) (n := 5000 + 50000 * k) (Nat.le_refl _) (Nat.le_refl _) ?_
      have hPK : PK D T dE b0 (fun q : Nat => s.heap.size ≤ q) g Y M H6 := by rw [hP.1]; exact hPK
      have hL := hPK.sl
      refine x_top (y := (handle (sE M) kx)) (hP.2) ?_
      refine lv_istore (lv' := [(17, .int (handle (sE M) kx)), (16, .int (nI ox)), (15, .int (nI kx)), (14, .int (nI kd9)), (13, .int zr), (12, .int xr), (11, .int (nI k)), (10, .ref (g + 9)), (9, .ref (g + 8)), (8, .ref (g + 7)), (7, .ref (g + 6)), (6, .ref (g + 5)), (5, .ref (g + 4)), (4, .ref (g + 3)), (3, .ref (g + 2)), (2, .ref (g + 1)), (1, .ref b0), (0, .ref b)]) hx hb dL_law_140 hl (by decide) rfl (fun ls hl => ?_)
      refine lv_iload hx hb dL_law_142 (lv_at hl 4 rfl) ?_
      refine lv_bipush (v := nI 6) hx hb dL_law_144 (by decide) ?_
      refine k_iN (k_S (As := [.int zr, .int (nI 6)]) (rest := []) ⟨hx, hb, hml, hown, hts⟩ hev hS (c_L_low l (zr) (q := 6) (by decide) (by decide)) (va_cwS 2 hts gL_law_L_low rfl rfl rfl (by decide +kernel) ⟨Nat.le_of_ble_eq_true rfl, Nat.le_of_ble_eq_true rfl⟩) rfl hl.1 (Nat.le_of_ble_eq_true rfl) dL_law_146 (by show _ ≤ (704995 : Nat); omega) (by show _ ≤ (6986640 : Nat); omega)) hS (fun rq7_ H7 locs7 hP hz7 hS => ?_)
      refine W.widen (k := 200 + 4400 * k) (n := 5000 + 50000 * k) (Nat.le_refl _) (Nat.le_refl _) ?_
      have hPK : PK D T dE b0 (fun q : Nat => s.heap.size ≤ q) g Y M H7 := by rw [hP.1]; exact hPK
      have hL := hPK.sl
      obtain ⟨-, px, hpx, ej7⟩ := hP
      refine x_top (y := (nI px)) (ej7) ?_
      refine lv_istore (lv' := [(18, .int (nI px)), (17, .int (handle (sE M) kx)), (16, .int (nI ox)), (15, .int (nI kx)), (14, .int (nI kd9)), (13, .int zr), (12, .int xr), (11, .int (nI k)), (10, .ref (g + 9)), (9, .ref (g + 8)), (8, .ref (g + 7)), (7, .ref (g + 6)), (6, .ref (g + 5)), (5, .ref (g + 4)), (4, .ref (g + 3)), (3, .ref (g + 2)), (2, .ref (g + 1)), (1, .ref b0), (0, .ref b)]) hx hb dL_law_149 hl (by decide) rfl (fun ls hl => ?_)
      refine lv_iload hx hb dL_law_151 (lv_at hl 5 rfl) ?_
      refine lv_iconst (v := nI 3) hx hb dL_law_153 (by decide) ?_
      refine lv_ishr hx hb dL_law_154 ?_
      refine lv_istore (lv' := [(19, .int (zr >>> ((nI 3) &&& 31))), (18, .int (nI px)), (17, .int (handle (sE M) kx)), (16, .int (nI ox)), (15, .int (nI kx)), (14, .int (nI kd9)), (13, .int zr), (12, .int xr), (11, .int (nI k)), (10, .ref (g + 9)), (9, .ref (g + 8)), (8, .ref (g + 7)), (7, .ref (g + 6)), (6, .ref (g + 5)), (5, .ref (g + 4)), (4, .ref (g + 3)), (3, .ref (g + 2)), (2, .ref (g + 1)), (1, .ref b0), (0, .ref b)]) hx hb dL_law_155 hl (by decide) rfl (fun ls hl => ?_)
      refine lv_aload_n hx hb dL_law_157 rfl (lv_at hl 17 rfl) ?_
      refine lv_bipush (v := nI 6) hx hb dL_law_158 (by decide) ?_
      refine lv_iload hx hb dL_law_160 (lv_at hl 4 rfl) ?_
      refine y_imul hx hb dL_law_162 ?_
      refine n_ld1 (i := 6 * kx) hx hb hK hL (by omega) dL_law_163 ?_
      refine x_top (y := (bI (mAl (sE M) kx))) (hT.1.1 kx hkx) ?_
      refine lv_iconst (v := nI 1) hx hb dL_law_164 (by decide) ?_
      refine lv_icmp_ne (tgt := 172) hx hb dL_law_165 (by decide) (fun c165 => ?_) (fun c165 => ?_)
      · refine lv_iconst (v := nI 0) hx hb dL_law_172 (by decide) ?_
        refine x_top (y := (bI (mAl (sE M) kx))) (by rw [bI_n1 c165]; rfl) ?_
        refine lv_istore (lv' := [(20, .int (bI (mAl (sE M) kx))), (19, .int (zr >>> ((nI 3) &&& 31))), (18, .int (nI px)), (17, .int (handle (sE M) kx)), (16, .int (nI ox)), (15, .int (nI kx)), (14, .int (nI kd9)), (13, .int zr), (12, .int xr), (11, .int (nI k)), (10, .ref (g + 9)), (9, .ref (g + 8)), (8, .ref (g + 7)), (7, .ref (g + 6)), (6, .ref (g + 5)), (5, .ref (g + 4)), (4, .ref (g + 3)), (3, .ref (g + 2)), (2, .ref (g + 1)), (1, .ref b0), (0, .ref b)]) hx hb dL_law_173 hl (by decide) rfl (fun ls hl => ?_)
        refine lv_aload_n hx hb dL_law_175 rfl (lv_at hl 18 rfl) ?_
        refine lv_bipush (v := nI 6) hx hb dL_law_176 (by decide) ?_
        refine lv_iload hx hb dL_law_178 (lv_at hl 5 rfl) ?_
        refine y_imul hx hb dL_law_180 ?_
        refine lv_iconst (v := nI 2) hx hb dL_law_181 (by decide) ?_
        refine y_iadd hx hb dL_law_182 ?_
        refine n_ld1 (i := (6 * kx) + 2) hx hb hK hL (by omega) dL_law_183 ?_
        refine lv_iload hx hb dL_law_184 (lv_at hl 2 rfl) ?_
        refine lv_ishr hx hb dL_law_186 ?_
        refine lv_iconst (v := nI 1) hx hb dL_law_187 (by decide) ?_
        refine lv_iand hx hb dL_law_188 ?_
        refine lv_iconst (v := nI 1) hx hb dL_law_189 (by decide) ?_
        refine lv_icmp_ne (tgt := 197) hx hb dL_law_190 (by decide) (fun c190 => ?_) (fun c190 => ?_)
        · refine lv_iconst (v := nI 0) hx hb dL_law_197 (by decide) ?_
          obtain ⟨hv, hhv0⟩ : ∃ q : Bool, q = decide (((Y 1 (6 * kx + 2)) >>> (nI px &&& 31)) &&& nI 1 = nI 1) := ⟨_, rfl⟩
          refine x_top (y := (bI hv)) (by rw [hhv0, decide_eq_false c190]; rfl) ?_
          have hhv : mAl (sE M) kx = true → hv = bitS (mKd (sE M) kx) px := fun ha => by
            rw [hhv0, hT.1.2.2.1 kx hkx ha, bit_val _ (iE.1 kx) px hpx]
            cases bitS (mKd (sE M) kx) px <;> decide
          refine lv_istore (lv' := [(21, .int (bI hv)), (20, .int (bI (mAl (sE M) kx))), (19, .int (zr >>> ((nI 3) &&& 31))), (18, .int (nI px)), (17, .int (handle (sE M) kx)), (16, .int (nI ox)), (15, .int (nI kx)), (14, .int (nI kd9)), (13, .int zr), (12, .int xr), (11, .int (nI k)), (10, .ref (g + 9)), (9, .ref (g + 8)), (8, .ref (g + 7)), (7, .ref (g + 6)), (6, .ref (g + 5)), (5, .ref (g + 4)), (4, .ref (g + 3)), (3, .ref (g + 2)), (2, .ref (g + 1)), (1, .ref b0), (0, .ref b)]) hx hb dL_law_198 hl (by decide) rfl (fun ls hl => ?_)
          refine lv_iload hx hb dL_law_200 (lv_at hl 7 rfl) ?_
          refine lv_iconst (v := nI 3) hx hb dL_law_202 (by decide) ?_
          refine y_icmp_ge hx hb (by omega) (Nat.le_of_ble_eq_true rfl) (tgt := 260) dL_law_203 (by decide) (fun c203 => ?_) (fun c203 => ?_)
          · refine lv_iload hx hb dL_law_260 (lv_at hl 7 rfl) ?_
            refine lv_bipush (v := nI 9) hx hb dL_law_262 (by decide) ?_
            refine y_icmp_ge hx hb (by omega) (Nat.le_of_ble_eq_true rfl) (tgt := 395) dL_law_264 (by decide) (fun c264 => ?_) (fun c264 => ?_)
            · refine lv_iload hx hb dL_law_395 (lv_at hl 7 rfl) ?_
              refine lv_bipush (v := nI 9) hx hb dL_law_397 (by decide) ?_
              refine y_icmp_ne hx hb (by omega) (Nat.le_of_ble_eq_true rfl) (tgt := 504) dL_law_399 (by decide) (fun c399 => ?_) (fun c399 => ?_)
              · refine lv_iload hx hb dL_law_504 (lv_at hl 7 rfl) ?_
                refine lv_bipush (v := nI 10) hx hb dL_law_506 (by decide) ?_
                refine y_icmp_ne hx hb (by omega) (Nat.le_of_ble_eq_true rfl) (tgt := 583) dL_law_508 (by decide) (fun c508 => ?_) (fun c508 => ?_)
                · refine lv_iload hx hb dL_law_583 (lv_at hl 7 rfl) ?_
                  refine lv_bipush (v := nI 11) hx hb dL_law_585 (by decide) ?_
                  refine y_icmp_ne hx hb (by omega) (Nat.le_of_ble_eq_true rfl) (tgt := 652) dL_law_587 (by decide) (fun c587 => ?_) (fun c587 => ?_)
                  · refine lv_iload hx hb dL_law_652 (lv_at hl 7 rfl) ?_
                    refine lv_bipush (v := nI 14) hx hb dL_law_654 (by decide) ?_
                    refine y_icmp_ge hx hb (by omega) (Nat.le_of_ble_eq_true rfl) (tgt := 851) dL_law_656 (by decide) (fun c656 => ?_) (fun c656 => ?_)
                    · refine lv_iload hx hb dL_law_851 (lv_at hl 7 rfl) ?_
                      refine lv_bipush (v := nI 14) hx hb dL_law_853 (by decide) ?_
                      refine y_icmp_ne hx hb (by omega) (Nat.le_of_ble_eq_true rfl) (tgt := 1033) dL_law_855 (by decide) (fun c855 => ?_) (fun c855 => ?_)
                      · refine lv_iload hx hb dL_law_1033 (lv_at hl 7 rfl) ?_
                        refine lv_bipush (v := nI 15) hx hb dL_law_1035 (by decide) ?_
                        refine y_icmp_ne hx hb (by omega) (Nat.le_of_ble_eq_true rfl) (tgt := 1305) dL_law_1037 (by decide) (fun c1037 => ?_) (fun c1037 => ?_)
                        · refine lv_iload hx hb dL_law_1305 (lv_at hl 7 rfl) ?_
                          refine lv_bipush (v := nI 16) hx hb dL_law_1307 (by decide) ?_
                          refine y_icmp_ne hx hb (by omega) (Nat.le_of_ble_eq_true rfl) (tgt := 1354) dL_law_1309 (by decide) (fun c1309 => ?_) (fun c1309 => ?_)
                          · refine lv_iload hx hb dL_law_1354 (lv_at hl 7 rfl) ?_
                            refine lv_bipush (v := nI 17) hx hb dL_law_1356 (by decide) ?_
                            refine y_icmp_ne hx hb (by omega) (Nat.le_of_ble_eq_true rfl) (tgt := 1547) dL_law_1358 (by decide) (fun c1358 => ?_) (fun c1358 => ?_)
                            · refine lv_iload hx hb dL_law_1547 (lv_at hl 7 rfl) ?_
                              refine lv_bipush (v := nI 22) hx hb dL_law_1549 (by decide) ?_
                              refine y_icmp_ge hx hb (by omega) (Nat.le_of_ble_eq_true rfl) (tgt := 1767) dL_law_1551 (by decide) (fun c1551 => ?_) (fun c1551 => ?_)
                              · exact law_finish hst hx hb hml hown hts hev hk hPK hR hI hS hkx hox hpx hhv (ls := ls) (lv_sub hl [0, 1, 2, 3, 4, 5, 6, 7, 8, 9, 10, 11, 12, 13, 14, 15, 16, 17, 18, 19, 20, 21] rfl) hchk hnxt hrtn
                              · exact law_tell hst hx hb hml hown hts hev hk hPK hR hI hS hkx hox hpx hhv (by omega) (by omega) (ls := ls) (lv_sub hl [0, 1, 2, 3, 4, 5, 6, 7, 8, 9, 10, 11, 12, 13, 14, 15, 16, 17, 18, 19, 20, 21] rfl) hchk hnxt hrtn
                            · exact law_walk hst hx hb hml hown hts hev hk hPK hR hI hS hkx hox hpx hhv (ls := ls) (lv_sub hl [0, 1, 2, 3, 4, 5, 6, 7, 8, 9, 10, 11, 12, 13, 14, 15, 16, 17, 18, 19, 20, 21] rfl) hchk hnxt hrtn
                          · exact law_run hst hx hb hml hown hts hev hk hPK hR hI hS hkx hox hpx hhv (ls := ls) (lv_sub hl [0, 1, 2, 3, 4, 5, 6, 7, 8, 9, 10, 11, 12, 13, 14, 15, 16, 17, 18, 19, 20, 21] rfl) hchk hnxt hrtn
                        · exact law_system hst hx hb hml hown hts hev hk hPK hR hI hS hkx hox hpx hhv (ls := ls) (lv_sub hl [0, 1, 2, 3, 4, 5, 6, 7, 8, 9, 10, 11, 12, 13, 14, 15, 16, 17, 18, 19, 20, 21] rfl) hchk hnxt hrtn
                      · exact law_question hst hx hb hml hown hts hev hk hPK hR hI hS hkx hox hpx hhv (ls := ls) (lv_sub hl [0, 1, 2, 3, 4, 5, 6, 7, 8, 9, 10, 11, 12, 13, 14, 15, 16, 17, 18, 19, 20, 21] rfl) hchk hnxt hrtn
                    · exact law_adopt hst hx hb hml hown hts hev hk hPK hR hI hS hkx hox hpx hhv (ls := ls) (lv_sub hl [0, 1, 2, 3, 4, 5, 6, 7, 8, 9, 10, 11, 12, 13, 14, 15, 16, 17, 18, 19, 20, 21] rfl) hchk hnxt hrtn
                  · exact law_end hst hx hb hml hown hts hev hk hPK hR hI hS hkx hox hpx hhv (ls := ls) (lv_sub hl [0, 1, 2, 3, 4, 5, 6, 7, 8, 9, 10, 11, 12, 13, 14, 15, 16, 17, 18, 19, 20, 21] rfl) hchk hnxt hrtn
                · exact law_set hst hx hb hml hown hts hev hk hPK hR hI hS hkx hox hpx hhv (ls := ls) (lv_sub hl [0, 1, 2, 3, 4, 5, 6, 7, 8, 9, 10, 11, 12, 13, 14, 15, 16, 17, 18, 19, 20, 21] rfl) hchk hnxt hrtn
              · exact law_take hst hx hb hml hown hts hev hk hPK hR hI hS hkx hox hpx hhv (ls := ls) (lv_sub hl [0, 1, 2, 3, 4, 5, 6, 7, 8, 9, 10, 11, 12, 13, 14, 15, 16, 17, 18, 19, 20, 21] rfl) hchk hnxt hrtn
            · exact law_add hst hx hb hml hown hts hev hk hPK hR hI hS hkx hox hpx hhv (ls := ls) (lv_sub hl [0, 1, 2, 3, 4, 5, 6, 7, 8, 9, 10, 11, 12, 13, 14, 15, 16, 17, 18, 19, 20, 21] rfl) hchk hnxt hrtn
          · exact law_make hst hx hb hml hown hts hev hk hPK hR hI hS hkx hox hpx hhv (ls := ls) (lv_sub hl [0, 1, 2, 3, 4, 5, 6, 7, 8, 9, 10, 11, 12, 13, 14, 15, 16, 17, 18, 19, 20, 21] rfl) hchk hnxt hrtn
        · refine lv_iconst (v := nI 1) hx hb dL_law_193 (by decide) ?_
          refine lv_goto (tgt := 198) hx hb dL_law_194 (by decide) ?_
          obtain ⟨hv, hhv0⟩ : ∃ q : Bool, q = decide (((Y 1 (6 * kx + 2)) >>> (nI px &&& 31)) &&& nI 1 = nI 1) := ⟨_, rfl⟩
          refine x_top (y := (bI hv)) (by rw [hhv0, decide_eq_true c190]; rfl) ?_
          have hhv : mAl (sE M) kx = true → hv = bitS (mKd (sE M) kx) px := fun ha => by
            rw [hhv0, hT.1.2.2.1 kx hkx ha, bit_val _ (iE.1 kx) px hpx]
            cases bitS (mKd (sE M) kx) px <;> decide
          refine lv_istore (lv' := [(21, .int (bI hv)), (20, .int (bI (mAl (sE M) kx))), (19, .int (zr >>> ((nI 3) &&& 31))), (18, .int (nI px)), (17, .int (handle (sE M) kx)), (16, .int (nI ox)), (15, .int (nI kx)), (14, .int (nI kd9)), (13, .int zr), (12, .int xr), (11, .int (nI k)), (10, .ref (g + 9)), (9, .ref (g + 8)), (8, .ref (g + 7)), (7, .ref (g + 6)), (6, .ref (g + 5)), (5, .ref (g + 4)), (4, .ref (g + 3)), (3, .ref (g + 2)), (2, .ref (g + 1)), (1, .ref b0), (0, .ref b)]) hx hb dL_law_198 hl (by decide) rfl (fun ls hl => ?_)
          refine lv_iload hx hb dL_law_200 (lv_at hl 7 rfl) ?_
          refine lv_iconst (v := nI 3) hx hb dL_law_202 (by decide) ?_
          refine y_icmp_ge hx hb (by omega) (Nat.le_of_ble_eq_true rfl) (tgt := 260) dL_law_203 (by decide) (fun c203 => ?_) (fun c203 => ?_)
          · refine lv_iload hx hb dL_law_260 (lv_at hl 7 rfl) ?_
            refine lv_bipush (v := nI 9) hx hb dL_law_262 (by decide) ?_
            refine y_icmp_ge hx hb (by omega) (Nat.le_of_ble_eq_true rfl) (tgt := 395) dL_law_264 (by decide) (fun c264 => ?_) (fun c264 => ?_)
            · refine lv_iload hx hb dL_law_395 (lv_at hl 7 rfl) ?_
              refine lv_bipush (v := nI 9) hx hb dL_law_397 (by decide) ?_
              refine y_icmp_ne hx hb (by omega) (Nat.le_of_ble_eq_true rfl) (tgt := 504) dL_law_399 (by decide) (fun c399 => ?_) (fun c399 => ?_)
              · refine lv_iload hx hb dL_law_504 (lv_at hl 7 rfl) ?_
                refine lv_bipush (v := nI 10) hx hb dL_law_506 (by decide) ?_
                refine y_icmp_ne hx hb (by omega) (Nat.le_of_ble_eq_true rfl) (tgt := 583) dL_law_508 (by decide) (fun c508 => ?_) (fun c508 => ?_)
                · refine lv_iload hx hb dL_law_583 (lv_at hl 7 rfl) ?_
                  refine lv_bipush (v := nI 11) hx hb dL_law_585 (by decide) ?_
                  refine y_icmp_ne hx hb (by omega) (Nat.le_of_ble_eq_true rfl) (tgt := 652) dL_law_587 (by decide) (fun c587 => ?_) (fun c587 => ?_)
                  · refine lv_iload hx hb dL_law_652 (lv_at hl 7 rfl) ?_
                    refine lv_bipush (v := nI 14) hx hb dL_law_654 (by decide) ?_
                    refine y_icmp_ge hx hb (by omega) (Nat.le_of_ble_eq_true rfl) (tgt := 851) dL_law_656 (by decide) (fun c656 => ?_) (fun c656 => ?_)
                    · refine lv_iload hx hb dL_law_851 (lv_at hl 7 rfl) ?_
                      refine lv_bipush (v := nI 14) hx hb dL_law_853 (by decide) ?_
                      refine y_icmp_ne hx hb (by omega) (Nat.le_of_ble_eq_true rfl) (tgt := 1033) dL_law_855 (by decide) (fun c855 => ?_) (fun c855 => ?_)
                      · refine lv_iload hx hb dL_law_1033 (lv_at hl 7 rfl) ?_
                        refine lv_bipush (v := nI 15) hx hb dL_law_1035 (by decide) ?_
                        refine y_icmp_ne hx hb (by omega) (Nat.le_of_ble_eq_true rfl) (tgt := 1305) dL_law_1037 (by decide) (fun c1037 => ?_) (fun c1037 => ?_)
                        · refine lv_iload hx hb dL_law_1305 (lv_at hl 7 rfl) ?_
                          refine lv_bipush (v := nI 16) hx hb dL_law_1307 (by decide) ?_
                          refine y_icmp_ne hx hb (by omega) (Nat.le_of_ble_eq_true rfl) (tgt := 1354) dL_law_1309 (by decide) (fun c1309 => ?_) (fun c1309 => ?_)
                          · refine lv_iload hx hb dL_law_1354 (lv_at hl 7 rfl) ?_
                            refine lv_bipush (v := nI 17) hx hb dL_law_1356 (by decide) ?_
                            refine y_icmp_ne hx hb (by omega) (Nat.le_of_ble_eq_true rfl) (tgt := 1547) dL_law_1358 (by decide) (fun c1358 => ?_) (fun c1358 => ?_)
                            · refine lv_iload hx hb dL_law_1547 (lv_at hl 7 rfl) ?_
                              refine lv_bipush (v := nI 22) hx hb dL_law_1549 (by decide) ?_
                              refine y_icmp_ge hx hb (by omega) (Nat.le_of_ble_eq_true rfl) (tgt := 1767) dL_law_1551 (by decide) (fun c1551 => ?_) (fun c1551 => ?_)
                              · exact law_finish hst hx hb hml hown hts hev hk hPK hR hI hS hkx hox hpx hhv (ls := ls) (lv_sub hl [0, 1, 2, 3, 4, 5, 6, 7, 8, 9, 10, 11, 12, 13, 14, 15, 16, 17, 18, 19, 20, 21] rfl) hchk hnxt hrtn
                              · exact law_tell hst hx hb hml hown hts hev hk hPK hR hI hS hkx hox hpx hhv (by omega) (by omega) (ls := ls) (lv_sub hl [0, 1, 2, 3, 4, 5, 6, 7, 8, 9, 10, 11, 12, 13, 14, 15, 16, 17, 18, 19, 20, 21] rfl) hchk hnxt hrtn
                            · exact law_walk hst hx hb hml hown hts hev hk hPK hR hI hS hkx hox hpx hhv (ls := ls) (lv_sub hl [0, 1, 2, 3, 4, 5, 6, 7, 8, 9, 10, 11, 12, 13, 14, 15, 16, 17, 18, 19, 20, 21] rfl) hchk hnxt hrtn
                          · exact law_run hst hx hb hml hown hts hev hk hPK hR hI hS hkx hox hpx hhv (ls := ls) (lv_sub hl [0, 1, 2, 3, 4, 5, 6, 7, 8, 9, 10, 11, 12, 13, 14, 15, 16, 17, 18, 19, 20, 21] rfl) hchk hnxt hrtn
                        · exact law_system hst hx hb hml hown hts hev hk hPK hR hI hS hkx hox hpx hhv (ls := ls) (lv_sub hl [0, 1, 2, 3, 4, 5, 6, 7, 8, 9, 10, 11, 12, 13, 14, 15, 16, 17, 18, 19, 20, 21] rfl) hchk hnxt hrtn
                      · exact law_question hst hx hb hml hown hts hev hk hPK hR hI hS hkx hox hpx hhv (ls := ls) (lv_sub hl [0, 1, 2, 3, 4, 5, 6, 7, 8, 9, 10, 11, 12, 13, 14, 15, 16, 17, 18, 19, 20, 21] rfl) hchk hnxt hrtn
                    · exact law_adopt hst hx hb hml hown hts hev hk hPK hR hI hS hkx hox hpx hhv (ls := ls) (lv_sub hl [0, 1, 2, 3, 4, 5, 6, 7, 8, 9, 10, 11, 12, 13, 14, 15, 16, 17, 18, 19, 20, 21] rfl) hchk hnxt hrtn
                  · exact law_end hst hx hb hml hown hts hev hk hPK hR hI hS hkx hox hpx hhv (ls := ls) (lv_sub hl [0, 1, 2, 3, 4, 5, 6, 7, 8, 9, 10, 11, 12, 13, 14, 15, 16, 17, 18, 19, 20, 21] rfl) hchk hnxt hrtn
                · exact law_set hst hx hb hml hown hts hev hk hPK hR hI hS hkx hox hpx hhv (ls := ls) (lv_sub hl [0, 1, 2, 3, 4, 5, 6, 7, 8, 9, 10, 11, 12, 13, 14, 15, 16, 17, 18, 19, 20, 21] rfl) hchk hnxt hrtn
              · exact law_take hst hx hb hml hown hts hev hk hPK hR hI hS hkx hox hpx hhv (ls := ls) (lv_sub hl [0, 1, 2, 3, 4, 5, 6, 7, 8, 9, 10, 11, 12, 13, 14, 15, 16, 17, 18, 19, 20, 21] rfl) hchk hnxt hrtn
            · exact law_add hst hx hb hml hown hts hev hk hPK hR hI hS hkx hox hpx hhv (ls := ls) (lv_sub hl [0, 1, 2, 3, 4, 5, 6, 7, 8, 9, 10, 11, 12, 13, 14, 15, 16, 17, 18, 19, 20, 21] rfl) hchk hnxt hrtn
          · exact law_make hst hx hb hml hown hts hev hk hPK hR hI hS hkx hox hpx hhv (ls := ls) (lv_sub hl [0, 1, 2, 3, 4, 5, 6, 7, 8, 9, 10, 11, 12, 13, 14, 15, 16, 17, 18, 19, 20, 21] rfl) hchk hnxt hrtn
      · refine lv_iconst (v := nI 1) hx hb dL_law_168 (by decide) ?_
        refine lv_goto (tgt := 173) hx hb dL_law_169 (by decide) ?_
        refine x_top (y := (bI (mAl (sE M) kx))) (by rw [bI_e1 c165]; rfl) ?_
        refine lv_istore (lv' := [(20, .int (bI (mAl (sE M) kx))), (19, .int (zr >>> ((nI 3) &&& 31))), (18, .int (nI px)), (17, .int (handle (sE M) kx)), (16, .int (nI ox)), (15, .int (nI kx)), (14, .int (nI kd9)), (13, .int zr), (12, .int xr), (11, .int (nI k)), (10, .ref (g + 9)), (9, .ref (g + 8)), (8, .ref (g + 7)), (7, .ref (g + 6)), (6, .ref (g + 5)), (5, .ref (g + 4)), (4, .ref (g + 3)), (3, .ref (g + 2)), (2, .ref (g + 1)), (1, .ref b0), (0, .ref b)]) hx hb dL_law_173 hl (by decide) rfl (fun ls hl => ?_)
        refine lv_aload_n hx hb dL_law_175 rfl (lv_at hl 18 rfl) ?_
        refine lv_bipush (v := nI 6) hx hb dL_law_176 (by decide) ?_
        refine lv_iload hx hb dL_law_178 (lv_at hl 5 rfl) ?_
        refine y_imul hx hb dL_law_180 ?_
        refine lv_iconst (v := nI 2) hx hb dL_law_181 (by decide) ?_
        refine y_iadd hx hb dL_law_182 ?_
        refine n_ld1 (i := (6 * kx) + 2) hx hb hK hL (by omega) dL_law_183 ?_
        refine lv_iload hx hb dL_law_184 (lv_at hl 2 rfl) ?_
        refine lv_ishr hx hb dL_law_186 ?_
        refine lv_iconst (v := nI 1) hx hb dL_law_187 (by decide) ?_
        refine lv_iand hx hb dL_law_188 ?_
        refine lv_iconst (v := nI 1) hx hb dL_law_189 (by decide) ?_
        refine lv_icmp_ne (tgt := 197) hx hb dL_law_190 (by decide) (fun c190 => ?_) (fun c190 => ?_)
        · refine lv_iconst (v := nI 0) hx hb dL_law_197 (by decide) ?_
          obtain ⟨hv, hhv0⟩ : ∃ q : Bool, q = decide (((Y 1 (6 * kx + 2)) >>> (nI px &&& 31)) &&& nI 1 = nI 1) := ⟨_, rfl⟩
          refine x_top (y := (bI hv)) (by rw [hhv0, decide_eq_false c190]; rfl) ?_
          have hhv : mAl (sE M) kx = true → hv = bitS (mKd (sE M) kx) px := fun ha => by
            rw [hhv0, hT.1.2.2.1 kx hkx ha, bit_val _ (iE.1 kx) px hpx]
            cases bitS (mKd (sE M) kx) px <;> decide
          refine lv_istore (lv' := [(21, .int (bI hv)), (20, .int (bI (mAl (sE M) kx))), (19, .int (zr >>> ((nI 3) &&& 31))), (18, .int (nI px)), (17, .int (handle (sE M) kx)), (16, .int (nI ox)), (15, .int (nI kx)), (14, .int (nI kd9)), (13, .int zr), (12, .int xr), (11, .int (nI k)), (10, .ref (g + 9)), (9, .ref (g + 8)), (8, .ref (g + 7)), (7, .ref (g + 6)), (6, .ref (g + 5)), (5, .ref (g + 4)), (4, .ref (g + 3)), (3, .ref (g + 2)), (2, .ref (g + 1)), (1, .ref b0), (0, .ref b)]) hx hb dL_law_198 hl (by decide) rfl (fun ls hl => ?_)
          refine lv_iload hx hb dL_law_200 (lv_at hl 7 rfl) ?_
          refine lv_iconst (v := nI 3) hx hb dL_law_202 (by decide) ?_
          refine y_icmp_ge hx hb (by omega) (Nat.le_of_ble_eq_true rfl) (tgt := 260) dL_law_203 (by decide) (fun c203 => ?_) (fun c203 => ?_)
          · refine lv_iload hx hb dL_law_260 (lv_at hl 7 rfl) ?_
            refine lv_bipush (v := nI 9) hx hb dL_law_262 (by decide) ?_
            refine y_icmp_ge hx hb (by omega) (Nat.le_of_ble_eq_true rfl) (tgt := 395) dL_law_264 (by decide) (fun c264 => ?_) (fun c264 => ?_)
            · refine lv_iload hx hb dL_law_395 (lv_at hl 7 rfl) ?_
              refine lv_bipush (v := nI 9) hx hb dL_law_397 (by decide) ?_
              refine y_icmp_ne hx hb (by omega) (Nat.le_of_ble_eq_true rfl) (tgt := 504) dL_law_399 (by decide) (fun c399 => ?_) (fun c399 => ?_)
              · refine lv_iload hx hb dL_law_504 (lv_at hl 7 rfl) ?_
                refine lv_bipush (v := nI 10) hx hb dL_law_506 (by decide) ?_
                refine y_icmp_ne hx hb (by omega) (Nat.le_of_ble_eq_true rfl) (tgt := 583) dL_law_508 (by decide) (fun c508 => ?_) (fun c508 => ?_)
                · refine lv_iload hx hb dL_law_583 (lv_at hl 7 rfl) ?_
                  refine lv_bipush (v := nI 11) hx hb dL_law_585 (by decide) ?_
                  refine y_icmp_ne hx hb (by omega) (Nat.le_of_ble_eq_true rfl) (tgt := 652) dL_law_587 (by decide) (fun c587 => ?_) (fun c587 => ?_)
                  · refine lv_iload hx hb dL_law_652 (lv_at hl 7 rfl) ?_
                    refine lv_bipush (v := nI 14) hx hb dL_law_654 (by decide) ?_
                    refine y_icmp_ge hx hb (by omega) (Nat.le_of_ble_eq_true rfl) (tgt := 851) dL_law_656 (by decide) (fun c656 => ?_) (fun c656 => ?_)
                    · refine lv_iload hx hb dL_law_851 (lv_at hl 7 rfl) ?_
                      refine lv_bipush (v := nI 14) hx hb dL_law_853 (by decide) ?_
                      refine y_icmp_ne hx hb (by omega) (Nat.le_of_ble_eq_true rfl) (tgt := 1033) dL_law_855 (by decide) (fun c855 => ?_) (fun c855 => ?_)
                      · refine lv_iload hx hb dL_law_1033 (lv_at hl 7 rfl) ?_
                        refine lv_bipush (v := nI 15) hx hb dL_law_1035 (by decide) ?_
                        refine y_icmp_ne hx hb (by omega) (Nat.le_of_ble_eq_true rfl) (tgt := 1305) dL_law_1037 (by decide) (fun c1037 => ?_) (fun c1037 => ?_)
                        · refine lv_iload hx hb dL_law_1305 (lv_at hl 7 rfl) ?_
                          refine lv_bipush (v := nI 16) hx hb dL_law_1307 (by decide) ?_
                          refine y_icmp_ne hx hb (by omega) (Nat.le_of_ble_eq_true rfl) (tgt := 1354) dL_law_1309 (by decide) (fun c1309 => ?_) (fun c1309 => ?_)
                          · refine lv_iload hx hb dL_law_1354 (lv_at hl 7 rfl) ?_
                            refine lv_bipush (v := nI 17) hx hb dL_law_1356 (by decide) ?_
                            refine y_icmp_ne hx hb (by omega) (Nat.le_of_ble_eq_true rfl) (tgt := 1547) dL_law_1358 (by decide) (fun c1358 => ?_) (fun c1358 => ?_)
                            · refine lv_iload hx hb dL_law_1547 (lv_at hl 7 rfl) ?_
                              refine lv_bipush (v := nI 22) hx hb dL_law_1549 (by decide) ?_
                              refine y_icmp_ge hx hb (by omega) (Nat.le_of_ble_eq_true rfl) (tgt := 1767) dL_law_1551 (by decide) (fun c1551 => ?_) (fun c1551 => ?_)
                              · exact law_finish hst hx hb hml hown hts hev hk hPK hR hI hS hkx hox hpx hhv (ls := ls) (lv_sub hl [0, 1, 2, 3, 4, 5, 6, 7, 8, 9, 10, 11, 12, 13, 14, 15, 16, 17, 18, 19, 20, 21] rfl) hchk hnxt hrtn
                              · exact law_tell hst hx hb hml hown hts hev hk hPK hR hI hS hkx hox hpx hhv (by omega) (by omega) (ls := ls) (lv_sub hl [0, 1, 2, 3, 4, 5, 6, 7, 8, 9, 10, 11, 12, 13, 14, 15, 16, 17, 18, 19, 20, 21] rfl) hchk hnxt hrtn
                            · exact law_walk hst hx hb hml hown hts hev hk hPK hR hI hS hkx hox hpx hhv (ls := ls) (lv_sub hl [0, 1, 2, 3, 4, 5, 6, 7, 8, 9, 10, 11, 12, 13, 14, 15, 16, 17, 18, 19, 20, 21] rfl) hchk hnxt hrtn
                          · exact law_run hst hx hb hml hown hts hev hk hPK hR hI hS hkx hox hpx hhv (ls := ls) (lv_sub hl [0, 1, 2, 3, 4, 5, 6, 7, 8, 9, 10, 11, 12, 13, 14, 15, 16, 17, 18, 19, 20, 21] rfl) hchk hnxt hrtn
                        · exact law_system hst hx hb hml hown hts hev hk hPK hR hI hS hkx hox hpx hhv (ls := ls) (lv_sub hl [0, 1, 2, 3, 4, 5, 6, 7, 8, 9, 10, 11, 12, 13, 14, 15, 16, 17, 18, 19, 20, 21] rfl) hchk hnxt hrtn
                      · exact law_question hst hx hb hml hown hts hev hk hPK hR hI hS hkx hox hpx hhv (ls := ls) (lv_sub hl [0, 1, 2, 3, 4, 5, 6, 7, 8, 9, 10, 11, 12, 13, 14, 15, 16, 17, 18, 19, 20, 21] rfl) hchk hnxt hrtn
                    · exact law_adopt hst hx hb hml hown hts hev hk hPK hR hI hS hkx hox hpx hhv (ls := ls) (lv_sub hl [0, 1, 2, 3, 4, 5, 6, 7, 8, 9, 10, 11, 12, 13, 14, 15, 16, 17, 18, 19, 20, 21] rfl) hchk hnxt hrtn
                  · exact law_end hst hx hb hml hown hts hev hk hPK hR hI hS hkx hox hpx hhv (ls := ls) (lv_sub hl [0, 1, 2, 3, 4, 5, 6, 7, 8, 9, 10, 11, 12, 13, 14, 15, 16, 17, 18, 19, 20, 21] rfl) hchk hnxt hrtn
                · exact law_set hst hx hb hml hown hts hev hk hPK hR hI hS hkx hox hpx hhv (ls := ls) (lv_sub hl [0, 1, 2, 3, 4, 5, 6, 7, 8, 9, 10, 11, 12, 13, 14, 15, 16, 17, 18, 19, 20, 21] rfl) hchk hnxt hrtn
              · exact law_take hst hx hb hml hown hts hev hk hPK hR hI hS hkx hox hpx hhv (ls := ls) (lv_sub hl [0, 1, 2, 3, 4, 5, 6, 7, 8, 9, 10, 11, 12, 13, 14, 15, 16, 17, 18, 19, 20, 21] rfl) hchk hnxt hrtn
            · exact law_add hst hx hb hml hown hts hev hk hPK hR hI hS hkx hox hpx hhv (ls := ls) (lv_sub hl [0, 1, 2, 3, 4, 5, 6, 7, 8, 9, 10, 11, 12, 13, 14, 15, 16, 17, 18, 19, 20, 21] rfl) hchk hnxt hrtn
          · exact law_make hst hx hb hml hown hts hev hk hPK hR hI hS hkx hox hpx hhv (ls := ls) (lv_sub hl [0, 1, 2, 3, 4, 5, 6, 7, 8, 9, 10, 11, 12, 13, 14, 15, 16, 17, 18, 19, 20, 21] rfl) hchk hnxt hrtn
        · refine lv_iconst (v := nI 1) hx hb dL_law_193 (by decide) ?_
          refine lv_goto (tgt := 198) hx hb dL_law_194 (by decide) ?_
          obtain ⟨hv, hhv0⟩ : ∃ q : Bool, q = decide (((Y 1 (6 * kx + 2)) >>> (nI px &&& 31)) &&& nI 1 = nI 1) := ⟨_, rfl⟩
          refine x_top (y := (bI hv)) (by rw [hhv0, decide_eq_true c190]; rfl) ?_
          have hhv : mAl (sE M) kx = true → hv = bitS (mKd (sE M) kx) px := fun ha => by
            rw [hhv0, hT.1.2.2.1 kx hkx ha, bit_val _ (iE.1 kx) px hpx]
            cases bitS (mKd (sE M) kx) px <;> decide
          refine lv_istore (lv' := [(21, .int (bI hv)), (20, .int (bI (mAl (sE M) kx))), (19, .int (zr >>> ((nI 3) &&& 31))), (18, .int (nI px)), (17, .int (handle (sE M) kx)), (16, .int (nI ox)), (15, .int (nI kx)), (14, .int (nI kd9)), (13, .int zr), (12, .int xr), (11, .int (nI k)), (10, .ref (g + 9)), (9, .ref (g + 8)), (8, .ref (g + 7)), (7, .ref (g + 6)), (6, .ref (g + 5)), (5, .ref (g + 4)), (4, .ref (g + 3)), (3, .ref (g + 2)), (2, .ref (g + 1)), (1, .ref b0), (0, .ref b)]) hx hb dL_law_198 hl (by decide) rfl (fun ls hl => ?_)
          refine lv_iload hx hb dL_law_200 (lv_at hl 7 rfl) ?_
          refine lv_iconst (v := nI 3) hx hb dL_law_202 (by decide) ?_
          refine y_icmp_ge hx hb (by omega) (Nat.le_of_ble_eq_true rfl) (tgt := 260) dL_law_203 (by decide) (fun c203 => ?_) (fun c203 => ?_)
          · refine lv_iload hx hb dL_law_260 (lv_at hl 7 rfl) ?_
            refine lv_bipush (v := nI 9) hx hb dL_law_262 (by decide) ?_
            refine y_icmp_ge hx hb (by omega) (Nat.le_of_ble_eq_true rfl) (tgt := 395) dL_law_264 (by decide) (fun c264 => ?_) (fun c264 => ?_)
            · refine lv_iload hx hb dL_law_395 (lv_at hl 7 rfl) ?_
              refine lv_bipush (v := nI 9) hx hb dL_law_397 (by decide) ?_
              refine y_icmp_ne hx hb (by omega) (Nat.le_of_ble_eq_true rfl) (tgt := 504) dL_law_399 (by decide) (fun c399 => ?_) (fun c399 => ?_)
              · refine lv_iload hx hb dL_law_504 (lv_at hl 7 rfl) ?_
                refine lv_bipush (v := nI 10) hx hb dL_law_506 (by decide) ?_
                refine y_icmp_ne hx hb (by omega) (Nat.le_of_ble_eq_true rfl) (tgt := 583) dL_law_508 (by decide) (fun c508 => ?_) (fun c508 => ?_)
                · refine lv_iload hx hb dL_law_583 (lv_at hl 7 rfl) ?_
                  refine lv_bipush (v := nI 11) hx hb dL_law_585 (by decide) ?_
                  refine y_icmp_ne hx hb (by omega) (Nat.le_of_ble_eq_true rfl) (tgt := 652) dL_law_587 (by decide) (fun c587 => ?_) (fun c587 => ?_)
                  · refine lv_iload hx hb dL_law_652 (lv_at hl 7 rfl) ?_
                    refine lv_bipush (v := nI 14) hx hb dL_law_654 (by decide) ?_
                    refine y_icmp_ge hx hb (by omega) (Nat.le_of_ble_eq_true rfl) (tgt := 851) dL_law_656 (by decide) (fun c656 => ?_) (fun c656 => ?_)
                    · refine lv_iload hx hb dL_law_851 (lv_at hl 7 rfl) ?_
                      refine lv_bipush (v := nI 14) hx hb dL_law_853 (by decide) ?_
                      refine y_icmp_ne hx hb (by omega) (Nat.le_of_ble_eq_true rfl) (tgt := 1033) dL_law_855 (by decide) (fun c855 => ?_) (fun c855 => ?_)
                      · refine lv_iload hx hb dL_law_1033 (lv_at hl 7 rfl) ?_
                        refine lv_bipush (v := nI 15) hx hb dL_law_1035 (by decide) ?_
                        refine y_icmp_ne hx hb (by omega) (Nat.le_of_ble_eq_true rfl) (tgt := 1305) dL_law_1037 (by decide) (fun c1037 => ?_) (fun c1037 => ?_)
                        · refine lv_iload hx hb dL_law_1305 (lv_at hl 7 rfl) ?_
                          refine lv_bipush (v := nI 16) hx hb dL_law_1307 (by decide) ?_
                          refine y_icmp_ne hx hb (by omega) (Nat.le_of_ble_eq_true rfl) (tgt := 1354) dL_law_1309 (by decide) (fun c1309 => ?_) (fun c1309 => ?_)
                          · refine lv_iload hx hb dL_law_1354 (lv_at hl 7 rfl) ?_
                            refine lv_bipush (v := nI 17) hx hb dL_law_1356 (by decide) ?_
                            refine y_icmp_ne hx hb (by omega) (Nat.le_of_ble_eq_true rfl) (tgt := 1547) dL_law_1358 (by decide) (fun c1358 => ?_) (fun c1358 => ?_)
                            · refine lv_iload hx hb dL_law_1547 (lv_at hl 7 rfl) ?_
                              refine lv_bipush (v := nI 22) hx hb dL_law_1549 (by decide) ?_
                              refine y_icmp_ge hx hb (by omega) (Nat.le_of_ble_eq_true rfl) (tgt := 1767) dL_law_1551 (by decide) (fun c1551 => ?_) (fun c1551 => ?_)
                              · exact law_finish hst hx hb hml hown hts hev hk hPK hR hI hS hkx hox hpx hhv (ls := ls) (lv_sub hl [0, 1, 2, 3, 4, 5, 6, 7, 8, 9, 10, 11, 12, 13, 14, 15, 16, 17, 18, 19, 20, 21] rfl) hchk hnxt hrtn
                              · exact law_tell hst hx hb hml hown hts hev hk hPK hR hI hS hkx hox hpx hhv (by omega) (by omega) (ls := ls) (lv_sub hl [0, 1, 2, 3, 4, 5, 6, 7, 8, 9, 10, 11, 12, 13, 14, 15, 16, 17, 18, 19, 20, 21] rfl) hchk hnxt hrtn
                            · exact law_walk hst hx hb hml hown hts hev hk hPK hR hI hS hkx hox hpx hhv (ls := ls) (lv_sub hl [0, 1, 2, 3, 4, 5, 6, 7, 8, 9, 10, 11, 12, 13, 14, 15, 16, 17, 18, 19, 20, 21] rfl) hchk hnxt hrtn
                          · exact law_run hst hx hb hml hown hts hev hk hPK hR hI hS hkx hox hpx hhv (ls := ls) (lv_sub hl [0, 1, 2, 3, 4, 5, 6, 7, 8, 9, 10, 11, 12, 13, 14, 15, 16, 17, 18, 19, 20, 21] rfl) hchk hnxt hrtn
                        · exact law_system hst hx hb hml hown hts hev hk hPK hR hI hS hkx hox hpx hhv (ls := ls) (lv_sub hl [0, 1, 2, 3, 4, 5, 6, 7, 8, 9, 10, 11, 12, 13, 14, 15, 16, 17, 18, 19, 20, 21] rfl) hchk hnxt hrtn
                      · exact law_question hst hx hb hml hown hts hev hk hPK hR hI hS hkx hox hpx hhv (ls := ls) (lv_sub hl [0, 1, 2, 3, 4, 5, 6, 7, 8, 9, 10, 11, 12, 13, 14, 15, 16, 17, 18, 19, 20, 21] rfl) hchk hnxt hrtn
                    · exact law_adopt hst hx hb hml hown hts hev hk hPK hR hI hS hkx hox hpx hhv (ls := ls) (lv_sub hl [0, 1, 2, 3, 4, 5, 6, 7, 8, 9, 10, 11, 12, 13, 14, 15, 16, 17, 18, 19, 20, 21] rfl) hchk hnxt hrtn
                  · exact law_end hst hx hb hml hown hts hev hk hPK hR hI hS hkx hox hpx hhv (ls := ls) (lv_sub hl [0, 1, 2, 3, 4, 5, 6, 7, 8, 9, 10, 11, 12, 13, 14, 15, 16, 17, 18, 19, 20, 21] rfl) hchk hnxt hrtn
                · exact law_set hst hx hb hml hown hts hev hk hPK hR hI hS hkx hox hpx hhv (ls := ls) (lv_sub hl [0, 1, 2, 3, 4, 5, 6, 7, 8, 9, 10, 11, 12, 13, 14, 15, 16, 17, 18, 19, 20, 21] rfl) hchk hnxt hrtn
              · exact law_take hst hx hb hml hown hts hev hk hPK hR hI hS hkx hox hpx hhv (ls := ls) (lv_sub hl [0, 1, 2, 3, 4, 5, 6, 7, 8, 9, 10, 11, 12, 13, 14, 15, 16, 17, 18, 19, 20, 21] rfl) hchk hnxt hrtn
            · exact law_add hst hx hb hml hown hts hev hk hPK hR hI hS hkx hox hpx hhv (ls := ls) (lv_sub hl [0, 1, 2, 3, 4, 5, 6, 7, 8, 9, 10, 11, 12, 13, 14, 15, 16, 17, 18, 19, 20, 21] rfl) hchk hnxt hrtn
          · exact law_make hst hx hb hml hown hts hev hk hPK hR hI hS hkx hox hpx hhv (ls := ls) (lv_sub hl [0, 1, 2, 3, 4, 5, 6, 7, 8, 9, 10, 11, 12, 13, 14, 15, 16, 17, 18, 19, 20, 21] rfl) hchk hnxt hrtn
    · refine lv_iconst (v := nI 0) hx hb dL_law_98 (by decide) ?_
      refine lv_goto (tgt := 109) hx hb dL_law_99 (by decide) ?_
      refine lv_istore (lv' := [(14, .int (nI 0)), (13, .int zr), (12, .int xr), (11, .int (nI k)), (10, .ref (g + 9)), (9, .ref (g + 8)), (8, .ref (g + 7)), (7, .ref (g + 6)), (6, .ref (g + 5)), (5, .ref (g + 4)), (4, .ref (g + 3)), (3, .ref (g + 2)), (2, .ref (g + 1)), (1, .ref b0), (0, .ref b)]) hx hb dL_law_109 hl (by decide) rfl (fun ls hl => ?_)
      refine lv_iload hx hb dL_law_111 (lv_at hl 2 rfl) ?_
      refine lv_iconst (v := nI 5) hx hb dL_law_113 (by decide) ?_
      refine lv_ishr hx hb dL_law_114 ?_
      refine lv_bipush (v := nI 10) hx hb dL_law_115 (by decide) ?_
      refine k_iN (k_S (As := [.int (xr >>> ((nI 5) &&& 31)), .int (nI 10)]) (rest := []) ⟨hx, hb, hml, hown, hts⟩ hev hS (c_L_low l (xr >>> ((nI 5) &&& 31)) (q := 10) (by decide) (by decide)) (va_cwS 2 hts gL_law_L_low rfl rfl rfl (by decide +kernel) ⟨Nat.le_of_ble_eq_true rfl, Nat.le_of_ble_eq_true rfl⟩) rfl hl.1 (Nat.le_of_ble_eq_true rfl) dL_law_117 (by show _ ≤ (704995 : Nat); omega) (by show _ ≤ (6986640 : Nat); omega)) hS (fun rq8_ H8 locs8 hP hz8 hS => ?_)
      refine W.widen (k := 200 + 4400 * k) (n := 5000 + 50000 * k) (Nat.le_refl _) (Nat.le_refl _) ?_
      have hPK : PK D T dE b0 (fun q : Nat => s.heap.size ≤ q) g Y M H8 := by rw [hP.1]; exact hPK
      have hL := hPK.sl
      obtain ⟨-, kx, hkx, ej8⟩ := hP
      refine x_top (y := (nI kx)) (ej8) ?_
      refine lv_istore (lv' := [(15, .int (nI kx)), (14, .int (nI 0)), (13, .int zr), (12, .int xr), (11, .int (nI k)), (10, .ref (g + 9)), (9, .ref (g + 8)), (8, .ref (g + 7)), (7, .ref (g + 6)), (6, .ref (g + 5)), (5, .ref (g + 4)), (4, .ref (g + 3)), (3, .ref (g + 2)), (2, .ref (g + 1)), (1, .ref b0), (0, .ref b)]) hx hb dL_law_120 hl (by decide) rfl (fun ls hl => ?_)
      refine lv_iload hx hb dL_law_122 (lv_at hl 3 rfl) ?_
      refine lv_bipush (v := nI 9) hx hb dL_law_124 (by decide) ?_
      refine lv_ishr hx hb dL_law_126 ?_
      refine lv_bipush (v := nI 10) hx hb dL_law_127 (by decide) ?_
      refine k_iN (k_S (As := [.int (xr >>> ((nI 9) &&& 31)), .int (nI 10)]) (rest := []) ⟨hx, hb, hml, hown, hts⟩ hev hS (c_L_low l (xr >>> ((nI 9) &&& 31)) (q := 10) (by decide) (by decide)) (va_cwS 2 hts gL_law_L_low rfl rfl rfl (by decide +kernel) ⟨Nat.le_of_ble_eq_true rfl, Nat.le_of_ble_eq_true rfl⟩) rfl hl.1 (Nat.le_of_ble_eq_true rfl) dL_law_129 (by show _ ≤ (704995 : Nat); omega) (by show _ ≤ (6986640 : Nat); omega)) hS (fun rq9_ H9 locs9 hP hz9 hS => ?_)
      refine W.widen (k := 200 + 4400 * k) (n := 5000 + 50000 * k) (Nat.le_refl _) (Nat.le_refl _) ?_
      have hPK : PK D T dE b0 (fun q : Nat => s.heap.size ≤ q) g Y M H9 := by rw [hP.1]; exact hPK
      have hL := hPK.sl
      obtain ⟨-, ox, hox, ej9⟩ := hP
      refine x_top (y := (nI ox)) (ej9) ?_
      refine lv_istore (lv' := [(16, .int (nI ox)), (15, .int (nI kx)), (14, .int (nI 0)), (13, .int zr), (12, .int xr), (11, .int (nI k)), (10, .ref (g + 9)), (9, .ref (g + 8)), (8, .ref (g + 7)), (7, .ref (g + 6)), (6, .ref (g + 5)), (5, .ref (g + 4)), (4, .ref (g + 3)), (3, .ref (g + 2)), (2, .ref (g + 1)), (1, .ref b0), (0, .ref b)]) hx hb dL_law_132 hl (by decide) rfl (fun ls hl => ?_)
      refine lv_iload hx hb dL_law_134 (lv_at hl 1 rfl) ?_
      refine lv_aload_n hx hb dL_law_136 rfl (lv_at hl 14 rfl) ?_
      refine k_iN (k_S (As := [.int (nI kx), .ref (g + 1)]) (rest := []) ⟨hx, hb, hml, hown, hts⟩ hev hS (c_L_handle l hL hT.1 hkx) (va_cwS 2 hts gL_law_L_handle rfl rfl rfl (by decide +kernel) ⟨Nat.le_of_ble_eq_true rfl, Nat.le_of_ble_eq_true rfl⟩) rfl hl.1 (Nat.le_of_ble_eq_true rfl) dL_law_137 (by show _ ≤ (704995 : Nat); omega) (by show _ ≤ (6986640 : Nat); omega)) hS (fun rq10_ H10 locs10 hP hz10 hS => ?_)
      refine W.widen (k := 200 + 4400 * k) (n := 5000 + 50000 * k) (Nat.le_refl _) (Nat.le_refl _) ?_
      have hPK : PK D T dE b0 (fun q : Nat => s.heap.size ≤ q) g Y M H10 := by rw [hP.1]; exact hPK
      have hL := hPK.sl
      refine x_top (y := (handle (sE M) kx)) (hP.2) ?_
      refine lv_istore (lv' := [(17, .int (handle (sE M) kx)), (16, .int (nI ox)), (15, .int (nI kx)), (14, .int (nI 0)), (13, .int zr), (12, .int xr), (11, .int (nI k)), (10, .ref (g + 9)), (9, .ref (g + 8)), (8, .ref (g + 7)), (7, .ref (g + 6)), (6, .ref (g + 5)), (5, .ref (g + 4)), (4, .ref (g + 3)), (3, .ref (g + 2)), (2, .ref (g + 1)), (1, .ref b0), (0, .ref b)]) hx hb dL_law_140 hl (by decide) rfl (fun ls hl => ?_)
      refine lv_iload hx hb dL_law_142 (lv_at hl 4 rfl) ?_
      refine lv_bipush (v := nI 6) hx hb dL_law_144 (by decide) ?_
      refine k_iN (k_S (As := [.int zr, .int (nI 6)]) (rest := []) ⟨hx, hb, hml, hown, hts⟩ hev hS (c_L_low l (zr) (q := 6) (by decide) (by decide)) (va_cwS 2 hts gL_law_L_low rfl rfl rfl (by decide +kernel) ⟨Nat.le_of_ble_eq_true rfl, Nat.le_of_ble_eq_true rfl⟩) rfl hl.1 (Nat.le_of_ble_eq_true rfl) dL_law_146 (by show _ ≤ (704995 : Nat); omega) (by show _ ≤ (6986640 : Nat); omega)) hS (fun rq11_ H11 locs11 hP hz11 hS => ?_)
      refine W.widen (k := 200 + 4400 * k) (n := 5000 + 50000 * k) (Nat.le_refl _) (Nat.le_refl _) ?_
      have hPK : PK D T dE b0 (fun q : Nat => s.heap.size ≤ q) g Y M H11 := by rw [hP.1]; exact hPK
      have hL := hPK.sl
      obtain ⟨-, px, hpx, ej11⟩ := hP
      refine x_top (y := (nI px)) (ej11) ?_
      refine lv_istore (lv' := [(18, .int (nI px)), (17, .int (handle (sE M) kx)), (16, .int (nI ox)), (15, .int (nI kx)), (14, .int (nI 0)), (13, .int zr), (12, .int xr), (11, .int (nI k)), (10, .ref (g + 9)), (9, .ref (g + 8)), (8, .ref (g + 7)), (7, .ref (g + 6)), (6, .ref (g + 5)), (5, .ref (g + 4)), (4, .ref (g + 3)), (3, .ref (g + 2)), (2, .ref (g + 1)), (1, .ref b0), (0, .ref b)]) hx hb dL_law_149 hl (by decide) rfl (fun ls hl => ?_)
      refine lv_iload hx hb dL_law_151 (lv_at hl 5 rfl) ?_
      refine lv_iconst (v := nI 3) hx hb dL_law_153 (by decide) ?_
      refine lv_ishr hx hb dL_law_154 ?_
      refine lv_istore (lv' := [(19, .int (zr >>> ((nI 3) &&& 31))), (18, .int (nI px)), (17, .int (handle (sE M) kx)), (16, .int (nI ox)), (15, .int (nI kx)), (14, .int (nI 0)), (13, .int zr), (12, .int xr), (11, .int (nI k)), (10, .ref (g + 9)), (9, .ref (g + 8)), (8, .ref (g + 7)), (7, .ref (g + 6)), (6, .ref (g + 5)), (5, .ref (g + 4)), (4, .ref (g + 3)), (3, .ref (g + 2)), (2, .ref (g + 1)), (1, .ref b0), (0, .ref b)]) hx hb dL_law_155 hl (by decide) rfl (fun ls hl => ?_)
      refine lv_aload_n hx hb dL_law_157 rfl (lv_at hl 17 rfl) ?_
      refine lv_bipush (v := nI 6) hx hb dL_law_158 (by decide) ?_
      refine lv_iload hx hb dL_law_160 (lv_at hl 4 rfl) ?_
      refine y_imul hx hb dL_law_162 ?_
      refine n_ld1 (i := 6 * kx) hx hb hK hL (by omega) dL_law_163 ?_
      refine x_top (y := (bI (mAl (sE M) kx))) (hT.1.1 kx hkx) ?_
      refine lv_iconst (v := nI 1) hx hb dL_law_164 (by decide) ?_
      refine lv_icmp_ne (tgt := 172) hx hb dL_law_165 (by decide) (fun c165 => ?_) (fun c165 => ?_)
      · refine lv_iconst (v := nI 0) hx hb dL_law_172 (by decide) ?_
        refine x_top (y := (bI (mAl (sE M) kx))) (by rw [bI_n1 c165]; rfl) ?_
        refine lv_istore (lv' := [(20, .int (bI (mAl (sE M) kx))), (19, .int (zr >>> ((nI 3) &&& 31))), (18, .int (nI px)), (17, .int (handle (sE M) kx)), (16, .int (nI ox)), (15, .int (nI kx)), (14, .int (nI 0)), (13, .int zr), (12, .int xr), (11, .int (nI k)), (10, .ref (g + 9)), (9, .ref (g + 8)), (8, .ref (g + 7)), (7, .ref (g + 6)), (6, .ref (g + 5)), (5, .ref (g + 4)), (4, .ref (g + 3)), (3, .ref (g + 2)), (2, .ref (g + 1)), (1, .ref b0), (0, .ref b)]) hx hb dL_law_173 hl (by decide) rfl (fun ls hl => ?_)
        refine lv_aload_n hx hb dL_law_175 rfl (lv_at hl 18 rfl) ?_
        refine lv_bipush (v := nI 6) hx hb dL_law_176 (by decide) ?_
        refine lv_iload hx hb dL_law_178 (lv_at hl 5 rfl) ?_
        refine y_imul hx hb dL_law_180 ?_
        refine lv_iconst (v := nI 2) hx hb dL_law_181 (by decide) ?_
        refine y_iadd hx hb dL_law_182 ?_
        refine n_ld1 (i := (6 * kx) + 2) hx hb hK hL (by omega) dL_law_183 ?_
        refine lv_iload hx hb dL_law_184 (lv_at hl 2 rfl) ?_
        refine lv_ishr hx hb dL_law_186 ?_
        refine lv_iconst (v := nI 1) hx hb dL_law_187 (by decide) ?_
        refine lv_iand hx hb dL_law_188 ?_
        refine lv_iconst (v := nI 1) hx hb dL_law_189 (by decide) ?_
        refine lv_icmp_ne (tgt := 197) hx hb dL_law_190 (by decide) (fun c190 => ?_) (fun c190 => ?_)
        · refine lv_iconst (v := nI 0) hx hb dL_law_197 (by decide) ?_
          obtain ⟨hv, hhv0⟩ : ∃ q : Bool, q = decide (((Y 1 (6 * kx + 2)) >>> (nI px &&& 31)) &&& nI 1 = nI 1) := ⟨_, rfl⟩
          refine x_top (y := (bI hv)) (by rw [hhv0, decide_eq_false c190]; rfl) ?_
          have hhv : mAl (sE M) kx = true → hv = bitS (mKd (sE M) kx) px := fun ha => by
            rw [hhv0, hT.1.2.2.1 kx hkx ha, bit_val _ (iE.1 kx) px hpx]
            cases bitS (mKd (sE M) kx) px <;> decide
          refine lv_istore (lv' := [(21, .int (bI hv)), (20, .int (bI (mAl (sE M) kx))), (19, .int (zr >>> ((nI 3) &&& 31))), (18, .int (nI px)), (17, .int (handle (sE M) kx)), (16, .int (nI ox)), (15, .int (nI kx)), (14, .int (nI 0)), (13, .int zr), (12, .int xr), (11, .int (nI k)), (10, .ref (g + 9)), (9, .ref (g + 8)), (8, .ref (g + 7)), (7, .ref (g + 6)), (6, .ref (g + 5)), (5, .ref (g + 4)), (4, .ref (g + 3)), (3, .ref (g + 2)), (2, .ref (g + 1)), (1, .ref b0), (0, .ref b)]) hx hb dL_law_198 hl (by decide) rfl (fun ls hl => ?_)
          refine lv_iload hx hb dL_law_200 (lv_at hl 7 rfl) ?_
          refine lv_iconst (v := nI 3) hx hb dL_law_202 (by decide) ?_
          refine y_icmp_ge hx hb (by decide) (by decide) (tgt := 260) dL_law_203 (by decide) (fun c203 => ?_) (fun c203 => ?_)
          · exact absurd c203 (by decide)
          · exact law_make hst hx hb hml hown hts hev hk hPK hR hI hS hkx hox hpx hhv (ls := ls) (lv_sub hl [0, 1, 2, 3, 4, 5, 6, 7, 8, 9, 10, 11, 12, 13, 14, 15, 16, 17, 18, 19, 20, 21] rfl) hchk hnxt hrtn
        · refine lv_iconst (v := nI 1) hx hb dL_law_193 (by decide) ?_
          refine lv_goto (tgt := 198) hx hb dL_law_194 (by decide) ?_
          obtain ⟨hv, hhv0⟩ : ∃ q : Bool, q = decide (((Y 1 (6 * kx + 2)) >>> (nI px &&& 31)) &&& nI 1 = nI 1) := ⟨_, rfl⟩
          refine x_top (y := (bI hv)) (by rw [hhv0, decide_eq_true c190]; rfl) ?_
          have hhv : mAl (sE M) kx = true → hv = bitS (mKd (sE M) kx) px := fun ha => by
            rw [hhv0, hT.1.2.2.1 kx hkx ha, bit_val _ (iE.1 kx) px hpx]
            cases bitS (mKd (sE M) kx) px <;> decide
          refine lv_istore (lv' := [(21, .int (bI hv)), (20, .int (bI (mAl (sE M) kx))), (19, .int (zr >>> ((nI 3) &&& 31))), (18, .int (nI px)), (17, .int (handle (sE M) kx)), (16, .int (nI ox)), (15, .int (nI kx)), (14, .int (nI 0)), (13, .int zr), (12, .int xr), (11, .int (nI k)), (10, .ref (g + 9)), (9, .ref (g + 8)), (8, .ref (g + 7)), (7, .ref (g + 6)), (6, .ref (g + 5)), (5, .ref (g + 4)), (4, .ref (g + 3)), (3, .ref (g + 2)), (2, .ref (g + 1)), (1, .ref b0), (0, .ref b)]) hx hb dL_law_198 hl (by decide) rfl (fun ls hl => ?_)
          refine lv_iload hx hb dL_law_200 (lv_at hl 7 rfl) ?_
          refine lv_iconst (v := nI 3) hx hb dL_law_202 (by decide) ?_
          refine y_icmp_ge hx hb (by decide) (by decide) (tgt := 260) dL_law_203 (by decide) (fun c203 => ?_) (fun c203 => ?_)
          · exact absurd c203 (by decide)
          · exact law_make hst hx hb hml hown hts hev hk hPK hR hI hS hkx hox hpx hhv (ls := ls) (lv_sub hl [0, 1, 2, 3, 4, 5, 6, 7, 8, 9, 10, 11, 12, 13, 14, 15, 16, 17, 18, 19, 20, 21] rfl) hchk hnxt hrtn
      · refine lv_iconst (v := nI 1) hx hb dL_law_168 (by decide) ?_
        refine lv_goto (tgt := 173) hx hb dL_law_169 (by decide) ?_
        refine x_top (y := (bI (mAl (sE M) kx))) (by rw [bI_e1 c165]; rfl) ?_
        refine lv_istore (lv' := [(20, .int (bI (mAl (sE M) kx))), (19, .int (zr >>> ((nI 3) &&& 31))), (18, .int (nI px)), (17, .int (handle (sE M) kx)), (16, .int (nI ox)), (15, .int (nI kx)), (14, .int (nI 0)), (13, .int zr), (12, .int xr), (11, .int (nI k)), (10, .ref (g + 9)), (9, .ref (g + 8)), (8, .ref (g + 7)), (7, .ref (g + 6)), (6, .ref (g + 5)), (5, .ref (g + 4)), (4, .ref (g + 3)), (3, .ref (g + 2)), (2, .ref (g + 1)), (1, .ref b0), (0, .ref b)]) hx hb dL_law_173 hl (by decide) rfl (fun ls hl => ?_)
        refine lv_aload_n hx hb dL_law_175 rfl (lv_at hl 18 rfl) ?_
        refine lv_bipush (v := nI 6) hx hb dL_law_176 (by decide) ?_
        refine lv_iload hx hb dL_law_178 (lv_at hl 5 rfl) ?_
        refine y_imul hx hb dL_law_180 ?_
        refine lv_iconst (v := nI 2) hx hb dL_law_181 (by decide) ?_
        refine y_iadd hx hb dL_law_182 ?_
        refine n_ld1 (i := (6 * kx) + 2) hx hb hK hL (by omega) dL_law_183 ?_
        refine lv_iload hx hb dL_law_184 (lv_at hl 2 rfl) ?_
        refine lv_ishr hx hb dL_law_186 ?_
        refine lv_iconst (v := nI 1) hx hb dL_law_187 (by decide) ?_
        refine lv_iand hx hb dL_law_188 ?_
        refine lv_iconst (v := nI 1) hx hb dL_law_189 (by decide) ?_
        refine lv_icmp_ne (tgt := 197) hx hb dL_law_190 (by decide) (fun c190 => ?_) (fun c190 => ?_)
        · refine lv_iconst (v := nI 0) hx hb dL_law_197 (by decide) ?_
          obtain ⟨hv, hhv0⟩ : ∃ q : Bool, q = decide (((Y 1 (6 * kx + 2)) >>> (nI px &&& 31)) &&& nI 1 = nI 1) := ⟨_, rfl⟩
          refine x_top (y := (bI hv)) (by rw [hhv0, decide_eq_false c190]; rfl) ?_
          have hhv : mAl (sE M) kx = true → hv = bitS (mKd (sE M) kx) px := fun ha => by
            rw [hhv0, hT.1.2.2.1 kx hkx ha, bit_val _ (iE.1 kx) px hpx]
            cases bitS (mKd (sE M) kx) px <;> decide
          refine lv_istore (lv' := [(21, .int (bI hv)), (20, .int (bI (mAl (sE M) kx))), (19, .int (zr >>> ((nI 3) &&& 31))), (18, .int (nI px)), (17, .int (handle (sE M) kx)), (16, .int (nI ox)), (15, .int (nI kx)), (14, .int (nI 0)), (13, .int zr), (12, .int xr), (11, .int (nI k)), (10, .ref (g + 9)), (9, .ref (g + 8)), (8, .ref (g + 7)), (7, .ref (g + 6)), (6, .ref (g + 5)), (5, .ref (g + 4)), (4, .ref (g + 3)), (3, .ref (g + 2)), (2, .ref (g + 1)), (1, .ref b0), (0, .ref b)]) hx hb dL_law_198 hl (by decide) rfl (fun ls hl => ?_)
          refine lv_iload hx hb dL_law_200 (lv_at hl 7 rfl) ?_
          refine lv_iconst (v := nI 3) hx hb dL_law_202 (by decide) ?_
          refine y_icmp_ge hx hb (by decide) (by decide) (tgt := 260) dL_law_203 (by decide) (fun c203 => ?_) (fun c203 => ?_)
          · exact absurd c203 (by decide)
          · exact law_make hst hx hb hml hown hts hev hk hPK hR hI hS hkx hox hpx hhv (ls := ls) (lv_sub hl [0, 1, 2, 3, 4, 5, 6, 7, 8, 9, 10, 11, 12, 13, 14, 15, 16, 17, 18, 19, 20, 21] rfl) hchk hnxt hrtn
        · refine lv_iconst (v := nI 1) hx hb dL_law_193 (by decide) ?_
          refine lv_goto (tgt := 198) hx hb dL_law_194 (by decide) ?_
          obtain ⟨hv, hhv0⟩ : ∃ q : Bool, q = decide (((Y 1 (6 * kx + 2)) >>> (nI px &&& 31)) &&& nI 1 = nI 1) := ⟨_, rfl⟩
          refine x_top (y := (bI hv)) (by rw [hhv0, decide_eq_true c190]; rfl) ?_
          have hhv : mAl (sE M) kx = true → hv = bitS (mKd (sE M) kx) px := fun ha => by
            rw [hhv0, hT.1.2.2.1 kx hkx ha, bit_val _ (iE.1 kx) px hpx]
            cases bitS (mKd (sE M) kx) px <;> decide
          refine lv_istore (lv' := [(21, .int (bI hv)), (20, .int (bI (mAl (sE M) kx))), (19, .int (zr >>> ((nI 3) &&& 31))), (18, .int (nI px)), (17, .int (handle (sE M) kx)), (16, .int (nI ox)), (15, .int (nI kx)), (14, .int (nI 0)), (13, .int zr), (12, .int xr), (11, .int (nI k)), (10, .ref (g + 9)), (9, .ref (g + 8)), (8, .ref (g + 7)), (7, .ref (g + 6)), (6, .ref (g + 5)), (5, .ref (g + 4)), (4, .ref (g + 3)), (3, .ref (g + 2)), (2, .ref (g + 1)), (1, .ref b0), (0, .ref b)]) hx hb dL_law_198 hl (by decide) rfl (fun ls hl => ?_)
          refine lv_iload hx hb dL_law_200 (lv_at hl 7 rfl) ?_
          refine lv_iconst (v := nI 3) hx hb dL_law_202 (by decide) ?_
          refine y_icmp_ge hx hb (by decide) (by decide) (tgt := 260) dL_law_203 (by decide) (fun c203 => ?_) (fun c203 => ?_)
          · exact absurd c203 (by decide)
          · exact law_make hst hx hb hml hown hts hev hk hPK hR hI hS hkx hox hpx hhv (ls := ls) (lv_sub hl [0, 1, 2, 3, 4, 5, 6, 7, 8, 9, 10, 11, 12, 13, 14, 15, 16, 17, 18, 19, 20, 21] rfl) hchk hnxt hrtn
theorem law_loop {p : Program} {l : Launch} {e : Env} {s : State} {m : MethodId} {below : List Frame} {meth : Method} {c : Code} {Q : State → Prop} {b : Nat} {D : va_G} {T : Nat → ClassId} {dE mi b0 g : Nat} (hst : l.stackTraces = false) (hx : p.tables.exec = Jvm.exec) (hb : c.code = cL_law) (hml : c.maxLocals = 26) (hown : s.vm.findClass RL = some m.cls) (hts : ∀ w ∈ wsL_law, w.before #[Value.ref b] s = true) (hev : EV D T dE mi (fun q : Nat => s.heap.size ≤ q) s) {L : Nat} {xs : Nat → Int32} (hXs : va_X b L xs s s.heap) (hbl : b < s.heap.size) (hL9 : L ≤ 260) (hend : ∀ (k : Nat) (H1 : Heap) (locs1 : List Loc) (ls1 : Array Slot), k ≤ 70 → va_S (fun q : Nat => s.heap.size ≤ q) s.heap H1 locs1 → W p l e room_1 s m #[Value.ref b] below meth c H1 locs1 (200 + 4400 * k) (5000 + 50000 * k) Q (F0 m 1992 ls1 [])) (hret : ∀ (k : Nat) (H1 : Heap) (locs1 : List Loc) (ls1 : Array Slot), k ≤ 70 → va_S (fun q : Nat => s.heap.size ≤ q) s.heap H1 locs1 → W p l e room_1 s m #[Value.ref b] below meth c H1 locs1 (200 + 4400 * k) (5000 + 50000 * k) Q (F0 m 1848 ls1 [.int (nI 1)])) : ∀ (n k : Nat), k + n = 70 → ∀ {H : Heap} {locs : List Loc} {M : mSt} {Y : Nat → Nat → Int32}, PK D T dE b0 (fun q : Nat => s.heap.size ≤ q) g Y M H → LRel Y M → Inv (800 * k) M → va_S (fun q : Nat => s.heap.size ≤ q) s.heap H locs → ∀ {ls : Array Slot}, lv_has ls 26 [(11, .int (nI k)), (10, .ref (g + 9)), (9, .ref (g + 8)), (8, .ref (g + 7)), (7, .ref (g + 6)), (6, .ref (g + 5)), (5, .ref (g + 4)), (4, .ref (g + 3)), (3, .ref (g + 2)), (2, .ref (g + 1)), (1, .ref b0), (0, .ref b)] → W p l e room_1 s m #[Value.ref b] below meth c H locs (200 + 4400 * k) (5000 + 50000 * k) Q (F0 m 63 ls []) := by
  intro n
  induction n with
  | zero =>
    intro k hk H locs M Y hPK hR hI hS ls hl
    refine lv_iload hx hb dL_law_63 (lv_at hl 0 rfl) ?_
    refine lv_bipush (v := nI 70) hx hb dL_law_65 (by decide) ?_
    refine y_icmp_ge hx hb (by omega) (by omega) (tgt := 1992) dL_law_67 (by decide) (fun c67 => ?_) (fun c67 => ?_)
    · exact hend k H locs ls (by omega) hS
    · omega
  | succ n ih =>
    intro k hk H locs M Y hPK hR hI hS ls hl
    have hnx : ∀ (H1 : Heap) (locs1 : List Loc) (M1 : mSt) (Y1 : Nat → Nat → Int32) (ls1 : Array Slot), PK D T dE b0 (fun q : Nat => s.heap.size ≤ q) g Y1 M1 H1 → LRel Y1 M1 → Inv (800 * (k + 1)) M1 → va_S (fun q : Nat => s.heap.size ≤ q) s.heap H1 locs1 → lv_has ls1 26 [(11, .int (nI k)), (10, .ref (g + 9)), (9, .ref (g + 8)), (8, .ref (g + 7)), (7, .ref (g + 6)), (6, .ref (g + 5)), (5, .ref (g + 4)), (4, .ref (g + 3)), (3, .ref (g + 2)), (2, .ref (g + 1)), (1, .ref b0), (0, .ref b)] → W p l e room_1 s m #[Value.ref b] below meth c H1 locs1 (200 + 4400 * (k + 1)) (5000 + 50000 * (k + 1)) Q (F0 m 1986 ls1 []) := by
      intro H1 locs1 M1 Y1 ls1 hPK1 hR1 hI1 hS1 hl1
      refine lv_iinc (v := nI (k + 1)) (lv' := [(11, .int (nI (k + 1))), (10, .ref (g + 9)), (9, .ref (g + 8)), (8, .ref (g + 7)), (7, .ref (g + 6)), (6, .ref (g + 5)), (5, .ref (g + 4)), (4, .ref (g + 3)), (3, .ref (g + 2)), (2, .ref (g + 1)), (1, .ref b0), (0, .ref b)]) hx hb dL_law_1986 hl1 (k := 0) rfl (nI_inc _) (by decide) rfl (fun ls hl => ?_)
      refine lv_goto (tgt := 63) hx hb dL_law_1989 (by decide) ?_
      exact ih (k + 1) (by omega) hPK1 hR1 hI1 hS1 hl
    exact law_head hst hx hb hml hown hts hev (show k < 70 by omega) hXs hbl hL9 hPK hR hI hS hl (fun H1 locs1 M1 Y1 ls1 hPK1 hR1 hI1 hS1 hl1 => law_check hst hx hb hml hown hts hev (show k < 70 by omega) hPK1 hR1 hI1 hS1 hl1 hnx) hnx (fun H1 locs1 ls1 hS1 => hret (k + 1) H1 locs1 ls1 (by omega) hS1)
