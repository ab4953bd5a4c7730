/-! the law: its loop, its start -/
theorem RepX.rt {D : va_G} {T : Nat → ClassId} {dE b : Nat} {A : Nat → Prop} {H H1 : Heap} {M : mSt} (h : RepX D T dE b A H M) (hz : H.size ≤ H1.size) (hk : ∀ q : Nat, q < H.size → H1[q]? = H[q]?) (f : Nat → Nat) (hf : ∀ q, f q ≠ 0 → q < H1.size) : ∃ tg1 : Nat → Nat, RepT D T dE b A tg1 H1 M ∧ ∀ q, H.size ≤ q → tg1 q = f q := by
  obtain ⟨tg, y, zq, zy, wo, h1, h2, h3, h4, h5⟩ := h
  have hT := h1.1
  have tx : TX tg H (fun q => if q < H.size then tg q else f q) := fun q hq => if_pos hq
  have fr : FR tg (fun _ => False) H H1 := ⟨hz, fun q hq _ => hk q hq⟩
  have lt : ∀ q, tg q ≠ 0 → (if q < H.size then tg q else f q) = tg q := fun q hq => if_pos (hT.1 q hq).2
  have hT1 : TG A b H1 (fun q => if q < H.size then tg q else f q) := by
    refine ⟨fun q hq => ?_, fun q hq => hT.2.1 q (by omega), ?_, ?_, fun q h1 h2 => ?_⟩
    · by_cases hqs : q < H.size
      · have e : (if q < H.size then tg q else f q) = tg q := if_pos hqs
        have hq : (if q < H.size then tg q else f q) ≠ 0 := hq
        rw [e] at hq
        exact ⟨(hT.1 q hq).1, by omega⟩
      · have e : (if q < H.size then tg q else f q) = f q := if_neg hqs
        have hq : (if q < H.size then tg q else f q) ≠ 0 := hq
        rw [e] at hq
        exact ⟨hT.2.1 q (by omega), hf q hq⟩
    · exact (lt b (by rw [hT.2.2.1]; decide)).trans hT.2.2.1
    · exact (lt (b + 1) (by rw [hT.2.2.2.1]; decide)).trans hT.2.2.2.1
    · exact (lt q (by rw [hT.2.2.2.2 q h1 h2]; decide)).trans (hT.2.2.2.2 q h1 h2)
  exact ⟨_, ⟨y, zq, zy, wo, h1.fr hT1 tx fr (fun _ z => z.elim), h2.kept tx fr id id id id, h3.kept tx fr id id id id, h4.kept tx fr id (fun _ z => z.elim), h5⟩, fun q hq => if_neg (by omega)⟩
theorem LI.more {D : va_G} {T : Nat → ClassId} {dE b0 g ob : Nat} {A : Nat → Prop} {H : Heap} {M : mSt} {k : Nat} (hk : k ≤ 1000) (h : LI D T dE b0 g ob A H M k) : LI D T dE b0 g ob A H M (k + 1) := by
  obtain ⟨tg, S, Y, f, h1, h2, h3, h4, h5⟩ := h
  exact ⟨tg, S, Y, f, h1, h2, h3, h4.mono (by omega) (by omega), h5⟩
theorem law_gt {L i : Nat} (h1 : L < i + 5) (h2 : i ≤ L) (h3 : L ≤ 2560) : nI L - nI 5 < nI i := by
  by_cases h5 : 5 ≤ L
  · rw [pk_sub h5]
    exact (nI_ltI (by omega) (by omega)).mpr (by omega)
  · have ha : (nI L - nI 5).toInt = (L : Int) - 5 := by
      match L, h5 with
      | 0, _ => rfl
      | 1, _ => rfl
      | 2, _ => rfl
      | 3, _ => rfl
      | 4, _ => rfl
      | n + 5, h => exact absurd (by omega) h
    have hb : (nI i).toInt = (i : Int) := nI_toInt (by omega)
    rw [Int32.lt_iff_toInt_lt, ha, hb]
    omega
theorem law_le {L i : Nat} (h3 : L ≤ 2560) (h : i + 5 ≤ L) : ¬ nI L - nI 5 < nI i := by
  rw [pk_sub (by omega)]
  exact fun z => by
    have := (nI_ltI (by omega) (by omega)).mp z
    omega
set_option maxHeartbeats 4000000 in
set_option maxRecDepth 100000 in
theorem law_sw {p : Program} {l : Launch} {e : Env} {s : State} {m : MethodId} {below : List Frame} {meth : Method} {c : Code} {Q : State → Prop} {b L : Nat} {xs : Nat → Int32} {D : va_G} {T : Nat → ClassId} {dE mi b0 g ob : Nat} (hst : l.stackTraces = false) (hx : p.tables.exec = Jvm.exec) (hb : c.code = cL_law) (hml : c.maxLocals = 7) (hown : s.vm.findClass RL = some m.cls) (hts : ∀ w ∈ wsL_law, w.before #[Value.ref b] s = true) (hXs : va_X b L xs s s.heap) (hbl : b < s.heap.size) (hev : EV D T dE mi (fun q : Nat => s.heap.size ≤ q) s) (hga : s.heap.size ≤ g) (hL : L ≤ 2560) {k : Nat} (hk : 5 * k + 5 ≤ L) {H : Heap} {locs : List Loc} {M : mSt} (hLI : LI D T dE b0 g ob (fun q : Nat => s.heap.size ≤ q) H M k) (hS : va_S (fun q : Nat => s.heap.size ≤ q) s.heap H locs) {ls : Array Slot} (hl : lv_has ls 7 [(4, .int (nI (5 * k))), (3, .ref ob), (2, .ref g), (1, .ref b0), (0, .ref b)]) (hnx : ∀ (H1 : Heap) (locs1 : List Loc) (M1 : mSt) (ls1 : Array Slot), LI D T dE b0 g ob (fun q : Nat => s.heap.size ≤ q) H1 M1 (k + 1) → va_S (fun q : Nat => s.heap.size ≤ q) s.heap H1 locs1 → lv_has ls1 7 [(4, .int (nI (5 * k))), (3, .ref ob), (2, .ref g), (1, .ref b0), (0, .ref b)] → W p l e room_1 s m #[Value.ref b] below meth c H1 locs1 (125 + 281 * (k + 1)) (3599 + 5166 * (k + 1)) Q (F0 m 1865 ls1 [])) : ∀ d : Nat, d < 32 → W p l e room_1 s m #[Value.ref b] below meth c H locs (125 + 281 * k) (3599 + 5166 * k) Q (F0 m 39 ls [.int (nI d)]) := by
  intro d hd
  match d, hd with
  | 0, _ => exact lv_tableIn (off := 137) (tgt := 176) hx hb dL_law_39 (by decide) (by decide) (by decide) (by decide) (law_c0 hst hx hb hml hown hts hXs hbl hev hga hL hk hLI hS hl hnx)
  | 1, _ => exact lv_tableIn (off := 181) (tgt := 220) hx hb dL_law_39 (by decide) (by decide) (by decide) (by decide) (law_c1 hst hx hb hml hown hts hXs hbl hev hga hL hk hLI hS hl hnx)
  | 2, _ => exact lv_tableIn (off := 237) (tgt := 276) hx hb dL_law_39 (by decide) (by decide) (by decide) (by decide) (law_c2 hst hx hb hml hown hts hXs hbl hev hga hL hk hLI hS hl hnx)
  | 3, _ => exact lv_tableIn (off := 305) (tgt := 344) hx hb dL_law_39 (by decide) (by decide) (by decide) (by decide) (law_c3 hst hx hb hml hown hts hXs hbl hev hga hL hk hLI hS hl hnx)
  | 4, _ => exact lv_tableIn (off := 318) (tgt := 357) hx hb dL_law_39 (by decide) (by decide) (by decide) (by decide) (law_c4 hst hx hb hml hown hts hXs hbl hev hga hL hk hLI hS hl hnx)
  | 5, _ => exact lv_tableIn (off := 343) (tgt := 382) hx hb dL_law_39 (by decide) (by decide) (by decide) (by decide) (law_c5 hst hx hb hml hown hts hXs hbl hev hga hL hk hLI hS hl hnx)
  | 6, _ => exact lv_tableIn (off := 399) (tgt := 438) hx hb dL_law_39 (by decide) (by decide) (by decide) (by decide) (law_c6 hst hx hb hml hown hts hXs hbl hev hga hL hk hLI hS hl hnx)
  | 7, _ => exact lv_tableIn (off := 479) (tgt := 518) hx hb dL_law_39 (by decide) (by decide) (by decide) (by decide) (law_c7 hst hx hb hml hown hts hXs hbl hev hga hL hk hLI hS hl hnx)
  | 8, _ => exact lv_tableIn (off := 547) (tgt := 586) hx hb dL_law_39 (by decide) (by decide) (by decide) (by decide) (law_c8 hst hx hb hml hown hts hXs hbl hev hga hL hk hLI hS hl hnx)
  | 9, _ => exact lv_tableIn (off := 627) (tgt := 666) hx hb dL_law_39 (by decide) (by decide) (by decide) (by decide) (law_c9 hst hx hb hml hown hts hXs hbl hev hga hL hk hLI hS hl hnx)
  | 10, _ => exact lv_tableIn (off := 695) (tgt := 734) hx hb dL_law_39 (by decide) (by decide) (by decide) (by decide) (law_c10 hst hx hb hml hown hts hXs hbl hev hga hL hk hLI hS hl hnx)
  | 11, _ => exact lv_tableIn (off := 763) (tgt := 802) hx hb dL_law_39 (by decide) (by decide) (by decide) (by decide) (law_c11 hst hx hb hml hown hts hXs hbl hev hga hL hk hLI hS hl hnx)
  | 12, _ => exact lv_tableIn (off := 819) (tgt := 858) hx hb dL_law_39 (by decide) (by decide) (by decide) (by decide) (law_c12 hst hx hb hml hown hts hXs hbl hev hga hL hk hLI hS hl hnx)
  | 13, _ => exact lv_tableIn (off := 832) (tgt := 871) hx hb dL_law_39 (by decide) (by decide) (by decide) (by decide) (law_c13 hst hx hb hml hown hts hXs hbl hev hga hL hk hLI hS hl hnx)
  | 14, _ => exact lv_tableIn (off := 888) (tgt := 927) hx hb dL_law_39 (by decide) (by decide) (by decide) (by decide) (law_c14 hst hx hb hml hown hts hXs hbl hev hga hL hk hLI hS hl hnx)
  | 15, _ => exact lv_tableIn (off := 944) (tgt := 983) hx hb dL_law_39 (by decide) (by decide) (by decide) (by decide) (law_c15 hst hx hb hml hown hts hXs hbl hev hga hL hk hLI hS hl hnx)
  | 16, _ => exact lv_tableIn (off := 1012) (tgt := 1051) hx hb dL_law_39 (by decide) (by decide) (by decide) (by decide) (law_c16 hst hx hb hml hown hts hXs hbl hev hga hL hk hLI hS hl hnx)
  | 17, _ => exact lv_tableIn (off := 1092) (tgt := 1131) hx hb dL_law_39 (by decide) (by decide) (by decide) (by decide) (law_c17 hst hx hb hml hown hts hXs hbl hev hga hL hk hLI hS hl hnx)
  | 18, _ => exact lv_tableIn (off := 1148) (tgt := 1187) hx hb dL_law_39 (by decide) (by decide) (by decide) (by decide) (law_c18 hst hx hb hml hown hts hXs hbl hev hga hL hk hLI hS hl hnx)
  | 19, _ => exact lv_tableIn (off := 1204) (tgt := 1243) hx hb dL_law_39 (by decide) (by decide) (by decide) (by decide) (law_c19 hst hx hb hml hown hts hXs hbl hev hga hL hk hLI hS hl hnx)
  | 20, _ => exact lv_tableIn (off := 1272) (tgt := 1311) hx hb dL_law_39 (by decide) (by decide) (by decide) (by decide) (law_c20 hst hx hb hml hown hts hXs hbl hev hga hL hk hLI hS hl hnx)
  | 21, _ => exact lv_tableIn (off := 1328) (tgt := 1367) hx hb dL_law_39 (by decide) (by decide) (by decide) (by decide) (law_c21 hst hx hb hml hown hts hXs hbl hev hga hL hk hLI hS hl hnx)
  | 22, _ => exact lv_tableIn (off := 1396) (tgt := 1435) hx hb dL_law_39 (by decide) (by decide) (by decide) (by decide) (law_c22 hst hx hb hml hown hts hXs hbl hev hga hL hk hLI hS hl hnx)
  | 23, _ => exact lv_tableIn (off := 1452) (tgt := 1491) hx hb dL_law_39 (by decide) (by decide) (by decide) (by decide) (law_c23 hst hx hb hml hown hts hXs hbl hev hga hL hk hLI hS hl hnx)
  | 24, _ => exact lv_tableIn (off := 1496) (tgt := 1535) hx hb dL_law_39 (by decide) (by decide) (by decide) (by decide) (law_c24 hst hx hb hml hown hts hXs hbl hev hga hL hk hLI hS hl hnx)
  | 25, _ => exact lv_tableIn (off := 1588) (tgt := 1627) hx hb dL_law_39 (by decide) (by decide) (by decide) (by decide) (law_c25 hst hx hb hml hown hts hXs hbl hev hga hL hk hLI hS hl hnx)
  | 26, _ => exact lv_tableIn (off := 1632) (tgt := 1671) hx hb dL_law_39 (by decide) (by decide) (by decide) (by decide) (law_c26 hst hx hb hml hown hts hXs hbl hev hga hL hk hLI hS hl hnx)
  | 27, _ => exact lv_tableIn (off := 1700) (tgt := 1739) hx hb dL_law_39 (by decide) (by decide) (by decide) (by decide) (law_c27 hst hx hb hml hown hts hXs hbl hev hga hL hk hLI hS hl hnx)
  | 28, _ => exact lv_tableIn (off := 1756) (tgt := 1795) hx hb dL_law_39 (by decide) (by decide) (by decide) (by decide) (law_c28 hst hx hb hml hown hts hXs hbl hev hga hL hk hLI hS hl hnx)
  | 29, _ => exact lv_tableIn (off := 1769) (tgt := 1808) hx hb dL_law_39 (by decide) (by decide) (by decide) (by decide) (law_c29 hst hx hb hml hown hts hXs hbl hev hga hL hk hLI hS hl hnx)
  | 30, _ => exact lv_tableIn (off := 1813) (tgt := 1852) hx hb dL_law_39 (by decide) (by decide) (by decide) (by decide) (law_c30 hst hx hb hml hown hts hXs hbl hev hga hL hk hLI hS hl hnx)
  | 31, _ => exact lv_tableOut (tgt := 1865) hx hb dL_law_39 (by decide) (by decide) (W.widen (k := 125 + 281 * (k + 1)) (n := 3599 + 5166 * (k + 1)) (by omega) (by omega) (hnx _ _ _ ls (hLI.more (by omega)) hS hl))
  | d + 32, h => exact absurd h (by omega)
set_option maxHeartbeats 4000000 in
set_option maxRecDepth 100000 in
theorem law_loop {p : Program} {l : Launch} {e : Env} {s : State} {m : MethodId} {below : List Frame} {meth : Method} {c : Code} {Q : State → Prop} {b L : Nat} {xs : Nat → Int32} {D : va_G} {T : Nat → ClassId} {dE mi b0 g ob : Nat} (hst : l.stackTraces = false) (hx : p.tables.exec = Jvm.exec) (hb : c.code = cL_law) (hml : c.maxLocals = 7) (hown : s.vm.findClass RL = some m.cls) (hts : ∀ w ∈ wsL_law, w.before #[Value.ref b] s = true) (hXs : va_X b L xs s s.heap) (hbl : b < s.heap.size) (hev : EV D T dE mi (fun q : Nat => s.heap.size ≤ q) s) (hga : s.heap.size ≤ g) (hL : L ≤ 2560) (hend : ∀ (k : Nat) (H1 : Heap) (locs1 : List Loc) (ls1 : Array Slot), 5 * k ≤ L → va_S (fun q : Nat => s.heap.size ≤ q) s.heap H1 locs1 → W p l e room_1 s m #[Value.ref b] below meth c H1 locs1 (125 + 281 * k) (3599 + 5166 * k) Q (F0 m 1871 ls1 [])) : ∀ (n k : Nat), L < 5 * (k + n) + 5 → 5 * k ≤ L → ∀ {H : Heap} {locs : List Loc} {M : mSt}, LI D T dE b0 g ob (fun q : Nat => s.heap.size ≤ q) H M k → va_S (fun q : Nat => s.heap.size ≤ q) s.heap H locs → ∀ {ls : Array Slot}, lv_has ls 7 [(4, .int (nI (5 * k))), (3, .ref ob), (2, .ref g), (1, .ref b0), (0, .ref b)] → W p l e room_1 s m #[Value.ref b] below meth c H locs (125 + 281 * k) (3599 + 5166 * k) Q (F0 m 23 ls []) := by
  have hbA : ¬ (fun q : Nat => s.heap.size ≤ q) b := Nat.not_le.mpr hbl
  intro n
  induction n with
  | zero =>
    intro k h1 h2 H locs M hLI hS ls hl
    refine lv_iload hx hb dL_law_23 (lv_at hl 0 rfl) ?_
    refine lv_aload_n hx hb dL_law_25 rfl (lv_at hl 4 rfl) ?_
    refine va_slen hx hb hXs hbl hbA hS dL_law_26 ?_
    refine lv_iconst (v := nI 5) hx hb dL_law_27 (by decide) ?_
    refine lv_isub hx hb dL_law_28 ?_
    have hlt : nI L - nI 5 < nI (5 * k) := law_gt (by omega) (by omega) (by omega)
    exact lv_icmp_gt (tgt := 1871) hx hb dL_law_29 (by decide) (fun _ => hend k H locs ls h2 hS) (fun h => absurd hlt h)
  | succ n ih =>
    intro k h1 h2 H locs M hLI hS ls hl
    refine lv_iload hx hb dL_law_23 (lv_at hl 0 rfl) ?_
    refine lv_aload_n hx hb dL_law_25 rfl (lv_at hl 4 rfl) ?_
    refine va_slen hx hb hXs hbl hbA hS dL_law_26 ?_
    refine lv_iconst (v := nI 5) hx hb dL_law_27 (by decide) ?_
    refine lv_isub hx hb dL_law_28 ?_
    by_cases hk : 5 * k + 5 ≤ L
    · have hle : ¬ nI L - nI 5 < nI (5 * k) := law_le (by omega) hk
      refine lv_icmp_gt (tgt := 1871) hx hb dL_law_29 (by decide) (fun h => absurd h hle) (fun _ => ?_)
      refine lv_aload_n hx hb dL_law_32 rfl (lv_at hl 4 rfl) ?_
      refine lv_iload hx hb dL_law_33 (lv_at hl 0 rfl) ?_
      refine va_sld hx hb hXs hbl hbA hS (vp_in_nI (n := 5 * k) (by omega) (by omega)) dL_law_35 ?_
      refine lv_bipush (v := nI 31) hx hb dL_law_36 (by decide) ?_
      refine lv_iand hx hb dL_law_38 ?_
      refine x_top (and31 _) ?_
      refine law_sw hst hx hb hml hown hts hXs hbl hev hga hL hk hLI hS hl (fun H1 locs1 M1 ls1 hLI1 hS1 hl1 => ?_) _ (Nat.mod_lt _ (by decide))
      refine lv_iinc (v := nI (5 * (k + 1))) (k := 0) (lv' := [(4, .int (nI (5 * (k + 1)))), (3, .ref ob), (2, .ref g), (1, .ref b0), (0, .ref b)]) hx hb dL_law_1865 hl1 rfl (by rw [show Int32.ofInt 5 = nI 5 from rfl, nI_add, Nat.mul_succ]) (by decide) rfl (fun ls2 hl2 => ?_)
      refine lv_goto (tgt := 23) hx hb dL_law_1868 (by decide) ?_
      exact ih (k + 1) (by omega) (by omega) hLI1 hS1 hl2
    · have hlt : nI L - nI 5 < nI (5 * k) := law_gt (by omega) (by omega) (by omega)
      exact lv_icmp_gt (tgt := 1871) hx hb dL_law_29 (by decide) (fun _ => hend k H locs ls h2 hS) (fun h => absurd hlt h)
