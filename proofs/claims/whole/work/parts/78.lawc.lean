set_option maxHeartbeats 4000000 in
set_option maxRecDepth 100000 in
theorem law_c0 {p : Program} {l : Launch} {e : Env} {s : State} {m : MethodId} {below : List Frame} {meth : Method} {c : Code} {Q : State → Prop} {b L : Nat} {xs : Nat → Int32} {D : va_G} {T : Nat → ClassId} {dE mi b0 g ob : Nat} (hst : l.stackTraces = false) (hx : p.tables.exec = Jvm.exec) (hb : c.code = cL_law) (hml : c.maxLocals = 7) (hown : s.vm.findClass RL = some m.cls) (hts : ∀ w ∈ wsL_law, w.before #[Value.ref b] s = true) (hXs : va_X b L xs s s.heap) (hbl : b < s.heap.size) (hev : EV D T dE mi (fun q : Nat => s.heap.size ≤ q) s) (hga : s.heap.size ≤ g) (hL : L ≤ 2560) {k : Nat} (hk : 5 * k + 5 ≤ L) {H : Heap} {locs : List Loc} {M : mSt} (hLI : LI D T dE b0 g ob (fun q : Nat => s.heap.size ≤ q) H M k) (hS : va_S (fun q : Nat => s.heap.size ≤ q) s.heap H locs) {ls : Array Slot} (hl : lv_has ls 7 [(4, .int (nI (5 * k))), (3, .ref ob), (2, .ref g), (1, .ref b0), (0, .ref b)])
    (hnext : ∀ (H1 : Heap) (locs1 : List Loc) (M1 : mSt) (ls1 : Array Slot), LI D T dE b0 g ob (fun q : Nat => s.heap.size ≤ q) H1 M1 (k + 1) → va_S (fun q : Nat => s.heap.size ≤ q) s.heap H1 locs1 → lv_has ls1 7 [(4, .int (nI (5 * k))), (3, .ref ob), (2, .ref g), (1, .ref b0), (0, .ref b)] → W p l e room_1 s m #[Value.ref b] below meth c H1 locs1 (125 + 281 * (k + 1)) (3599 + 5166 * (k + 1)) Q (F0 m 1865 ls1 [])) : W p l e room_1 s m #[Value.ref b] below meth c H locs (125 + 281 * k) (3599 + 5166 * k) Q (F0 m 176 ls []) := by
  obtain ⟨tg, S, Y, f, hR, hM, hr, hI, hob, h7, h8, hsz⟩ := id hLI
  have hK := hev.1
  have hbA : ¬ (fun q : Nat => s.heap.size ≤ q) b := Nat.not_le.mpr hbl
  have hAM : ∀ q, AM g q → (fun q : Nat => s.heap.size ≤ q) q := fun q z => Nat.le_trans hga z.1
  have hAo : (fun q : Nat => s.heap.size ≤ q) ob := hR.tg.a h7 (by decide)
  have hrv : ∃ cell : Cell, H[b0]? = some cell ∧ cell.vm.isStatics = false ∧ s.vm.findClass "Archeloft" = some cell.cls := by
    obtain ⟨y, zq, zy, wo, hC, -⟩ := id hR
    exact x_recv hK hC.2.1.1 rfl
  refine lv_aload_n hx hb dL_law_176 rfl (lv_at hl 3 rfl) ?_
  refine lv_aload_n hx hb dL_law_177 rfl (lv_at hl 1 rfl) ?_
  refine k_iN (k_SW (As := [.ref b0, .ref ob]) (rest := []) ⟨hx, hb, hml, hown, hts⟩ hev hS (c_L_make l hst hR hI hob h7 hAo) (vx_cwSW 2 hts gL_law_L_make rfl rfl rfl (by decide +kernel) ⟨Nat.le_of_ble_eq_true rfl, Nat.le_of_ble_eq_true rfl⟩) rfl hl.1 (Nat.le_of_ble_eq_true rfl) dL_law_178 (by show _ ≤ (601024 : Nat); omega) (by show _ ≤ (7293034 : Nat); omega)) hS (fun r1_ H1 locs1 hP hz1 hS => ?_)
  obtain ⟨⟨er, ho4⟩, ⟨f1, hob1, hf1⟩, tg1, hR1, tx, fr⟩ := hP
  have hM1 := LI.rm hM h8 hsz fr
  have t7 := (tx ob hob.lt).trans h7
  have t8 := LI.t8 h8 tx hsz
  refine x_top (y := (nI ((oMake M).1))) (er) ?_
  refine lv_istore (lv' := [(5, .int (nI ((oMake M).1))), (4, .int (nI (5 * k))), (3, .ref ob), (2, .ref g), (1, .ref b0), (0, .ref b)]) hx hb dL_law_181 hl (by decide) rfl (fun ls hl => ?_)
  refine lv_aload_n hx hb dL_law_183 rfl (lv_at hl 3 rfl) ?_
  have hsz1 : g + 23 ≤ H1.size := by have := fr.1; omega
  refine k_iA (k_VA (As := []) (rest := []) ⟨hx, hb, hml, hown, hts⟩ hev hS hAM (c_X7_make l hM1 hr hI) (cwV 0 hts gL_law_X7_make rfl rfl rfl (by decide +kernel) ⟨Nat.le_of_ble_eq_true rfl, Nat.le_of_ble_eq_true rfl⟩) (x_recv hK hM1.1 rfl) rfl hl.1 (Nat.le_of_ble_eq_true rfl) dL_law_184 (by show _ ≤ (601024 : Nat); omega) (by show _ ≤ (7293034 : Nat); omega)) hS hAM (fun r2_ H2 locs2 hP hz2 hk2 hS => ?_)
  obtain ⟨S2, Y2, hM2, hr2, h02, hv2⟩ := hP
  have hI2 : Inv (800 * (k + 1)) (oMake M).2.2 := (i_make hI).mono (by omega) (by omega)
  refine W.widen (k := 125 + 281 * k + 6) (n := 3599 + 5166 * k + 123) (Nat.le_refl _) (Nat.le_refl _) ?_
  have hLI2 := LI.st hR1 hM2 hr2 hI2 hob1 t7 t8 hz2 hk2 hsz1
  have hob2 := hob1.kept (hk2 ob hob1.lt (fun z => by have := t8 ob z.1 z.2; omega))
  refine lv_istore (lv' := [(6, .int r2_), (5, .int (nI ((oMake M).1))), (4, .int (nI (5 * k))), (3, .ref ob), (2, .ref g), (1, .ref b0), (0, .ref b)]) hx hb dL_law_187 hl (by decide) rfl (fun ls hl => ?_)
  refine lv_aload_n hx hb dL_law_189 rfl (lv_at hl 4 rfl) ?_
  refine k_iA (k_VA (As := []) (rest := []) ⟨hx, hb, hml, hown, hts⟩ hev hS hAM (c_X7_thrown l hM2) (cwV 0 hts gL_law_X7_thrown rfl rfl rfl (by decide +kernel) ⟨Nat.le_of_ble_eq_true rfl, Nat.le_of_ble_eq_true rfl⟩) (x_recv hK hM2.1 rfl) rfl hl.1 (Nat.le_of_ble_eq_true rfl) dL_law_190 (by show _ ≤ (601024 : Nat); omega) (by show _ ≤ (7293034 : Nat); omega)) hS hAM (fun r3_ H3 locs3 hP hz3 hk3 hS => ?_)
  obtain ⟨eH, er2⟩ := hP
  have eH := eH.symm
  subst eH
  refine W.widen (k := 125 + 281 * k + 6) (n := 3599 + 5166 * k + 123) (Nat.le_refl _) (Nat.le_refl _) ?_
  refine x_top (y := (nI ((oMake M).1))) (er2.trans h02) ?_
  refine lv_iload hx hb dL_law_193 (lv_at hl 1 rfl) ?_
  refine y_icmp_eq hx hb (by omega) (by omega) (tgt := 200) dL_law_195 (by decide) (fun c195 => ?_) (fun c195 => ?_)
  · refine lv_iload hx hb dL_law_200 (lv_at hl 1 rfl) ?_
    refine y_if_ne hx hb (by omega) (tgt := 217) dL_law_202 (by decide) (fun c202 => ?_) (fun c202 => ?_)
    · refine lv_goto (tgt := 1865) hx hb dL_law_217 (by decide) ?_
      refine W.widen (k := 125 + 281 * (k + 1)) (n := 3599 + 5166 * (k + 1)) (by omega) (by omega) ?_
      exact hnext _ _ _ ls hLI2 hS (lv_sub hl [2, 3, 4, 5, 6] rfl)
    · have c0_ : (oMake M).1 = 0 := c202
      refine lv_aload_n hx hb dL_law_205 rfl (lv_at hl 3 rfl) ?_
      refine lv_iconst (v := nI 0) hx hb dL_law_206 (by decide) ?_
      refine x_lald (i := 0) hx hb hK hob2 (by decide) (by decide) dL_law_207 ?_
      refine lv_iload hx hb dL_law_208 (lv_at hl 0 rfl) ?_
      refine lv_i2l (v := r2_.toInt64) hx hb dL_law_210 rfl ?_
      refine lv_lcmpE hx hb (by rw [hf1 c0_, hv2 c0_]) dL_law_211 ?_
      refine y_if_eq hx hb (by decide) (tgt := 217) dL_law_212 (by decide) (fun c212 => ?_) (fun c212 => ?_)
      · refine lv_goto (tgt := 1865) hx hb dL_law_217 (by decide) ?_
        refine W.widen (k := 125 + 281 * (k + 1)) (n := 3599 + 5166 * (k + 1)) (by omega) (by omega) ?_
        exact hnext _ _ _ ls hLI2 hS (lv_sub hl [2, 3, 4, 5, 6] rfl)
      · exact absurd c212 (by decide)
  · exact absurd rfl c195
set_option maxHeartbeats 4000000 in
set_option maxRecDepth 100000 in
theorem law_c1 {p : Program} {l : Launch} {e : Env} {s : State} {m : MethodId} {below : List Frame} {meth : Method} {c : Code} {Q : State → Prop} {b L : Nat} {xs : Nat → Int32} {D : va_G} {T : Nat → ClassId} {dE mi b0 g ob : Nat} (hst : l.stackTraces = false) (hx : p.tables.exec = Jvm.exec) (hb : c.code = cL_law) (hml : c.maxLocals = 7) (hown : s.vm.findClass RL = some m.cls) (hts : ∀ w ∈ wsL_law, w.before #[Value.ref b] s = true) (hXs : va_X b L xs s s.heap) (hbl : b < s.heap.size) (hev : EV D T dE mi (fun q : Nat => s.heap.size ≤ q) s) (hga : s.heap.size ≤ g) (hL : L ≤ 2560) {k : Nat} (hk : 5 * k + 5 ≤ L) {H : Heap} {locs : List Loc} {M : mSt} (hLI : LI D T dE b0 g ob (fun q : Nat => s.heap.size ≤ q) H M k) (hS : va_S (fun q : Nat => s.heap.size ≤ q) s.heap H locs) {ls : Array Slot} (hl : lv_has ls 7 [(4, .int (nI (5 * k))), (3, .ref ob), (2, .ref g), (1, .ref b0), (0, .ref b)])
    (hnext : ∀ (H1 : Heap) (locs1 : List Loc) (M1 : mSt) (ls1 : Array Slot), LI D T dE b0 g ob (fun q : Nat => s.heap.size ≤ q) H1 M1 (k + 1) → va_S (fun q : Nat => s.heap.size ≤ q) s.heap H1 locs1 → lv_has ls1 7 [(4, .int (nI (5 * k))), (3, .ref ob), (2, .ref g), (1, .ref b0), (0, .ref b)] → W p l e room_1 s m #[Value.ref b] below meth c H1 locs1 (125 + 281 * (k + 1)) (3599 + 5166 * (k + 1)) Q (F0 m 1865 ls1 [])) : W p l e room_1 s m #[Value.ref b] below meth c H locs (125 + 281 * k) (3599 + 5166 * k) Q (F0 m 220 ls []) := by
  obtain ⟨tg, S, Y, f, hR, hM, hr, hI, hob, h7, h8, hsz⟩ := id hLI
  have hK := hev.1
  have hbA : ¬ (fun q : Nat => s.heap.size ≤ q) b := Nat.not_le.mpr hbl
  have hAM : ∀ q, AM g q → (fun q : Nat => s.heap.size ≤ q) q := fun q z => Nat.le_trans hga z.1
  have hAo : (fun q : Nat => s.heap.size ≤ q) ob := hR.tg.a h7 (by decide)
  have hrv : ∃ cell : Cell, H[b0]? = some cell ∧ cell.vm.isStatics = false ∧ s.vm.findClass "Archeloft" = some cell.cls := by
    obtain ⟨y, zq, zy, wo, hC, -⟩ := id hR
    exact x_recv hK hC.2.1.1 rfl
  refine lv_aload_n hx hb dL_law_220 rfl (lv_at hl 3 rfl) ?_
  refine lv_aload_n hx hb dL_law_221 rfl (lv_at hl 4 rfl) ?_
  refine lv_iload hx hb dL_law_222 (lv_at hl 0 rfl) ?_
  refine lv_iconst (v := nI 1) hx hb dL_law_224 (by decide) ?_
  refine y_iadd hx hb dL_law_225 ?_
  refine va_sld hx hb hXs hbl hbA hS (vp_in_nI (n := (5 * k) + 1) (by omega) (by omega)) dL_law_226 ?_
  refine x_top (y := ((xs (5 * k + 1)))) (by rw [nI_clamp (by omega)]) ?_
  refine lv_aload_n hx hb dL_law_227 rfl (lv_at hl 1 rfl) ?_
  refine k_iN (k_SW (As := [.ref b0, .int ((xs (5 * k + 1))), .ref ob]) (rest := []) ⟨hx, hb, hml, hown, hts⟩ hev hS (c_L_end l hst hR hI (xs (5 * k + 1)) hob h7 hAo) (vx_cwSW 3 hts gL_law_L_end rfl rfl rfl (by decide +kernel) ⟨Nat.le_of_ble_eq_true rfl, Nat.le_of_ble_eq_true rfl⟩) rfl hl.1 (Nat.le_of_ble_eq_true rfl) dL_law_228 (by show _ ≤ (601024 : Nat); omega) (by show _ ≤ (7293034 : Nat); omega)) hS (fun r1_ H1 locs1 hP hz1 hS => ?_)
  obtain ⟨⟨er, ho4⟩, ⟨f1, hob1, hf1⟩, tg1, hR1, tx, fr⟩ := hP
  have hM1 := LI.rm hM h8 hsz fr
  have t7 := (tx ob hob.lt).trans h7
  have t8 := LI.t8 h8 tx hsz
  refine x_top (y := (nI ((oEnd M (xs (5 * k + 1))).1))) (er) ?_
  refine lv_istore (lv' := [(5, .int (nI ((oEnd M (xs (5 * k + 1))).1))), (4, .int (nI (5 * k))), (3, .ref ob), (2, .ref g), (1, .ref b0), (0, .ref b)]) hx hb dL_law_231 hl (by decide) rfl (fun ls hl => ?_)
  refine lv_aload_n hx hb dL_law_233 rfl (lv_at hl 3 rfl) ?_
  refine lv_aload_n hx hb dL_law_234 rfl (lv_at hl 5 rfl) ?_
  refine lv_iload hx hb dL_law_235 (lv_at hl 1 rfl) ?_
  refine lv_iconst (v := nI 1) hx hb dL_law_237 (by decide) ?_
  refine y_iadd hx hb dL_law_238 ?_
  refine va_sld hx hb hXs hbl hbA hS (vp_in_nI (n := (5 * k) + 1) (by omega) (by omega)) dL_law_239 ?_
  refine x_top (y := ((xs (5 * k + 1)))) (by rw [nI_clamp (by omega)]) ?_
  have hsz1 : g + 23 ≤ H1.size := by have := fr.1; omega
  refine k_iA (k_VA (As := [.int ((xs (5 * k + 1)))]) (rest := []) ⟨hx, hb, hml, hown, hts⟩ hev hS hAM (c_X7_end l hM1 hr hI (xs (5 * k + 1))) (cwV 1 hts gL_law_X7_end rfl rfl rfl (by decide +kernel) ⟨Nat.le_of_ble_eq_true rfl, Nat.le_of_ble_eq_true rfl⟩) (x_recv hK hM1.1 rfl) rfl hl.1 (Nat.le_of_ble_eq_true rfl) dL_law_240 (by show _ ≤ (601024 : Nat); omega) (by show _ ≤ (7293034 : Nat); omega)) hS hAM (fun r2_ H2 locs2 hP hz2 hk2 hS => ?_)
  obtain ⟨S2, Y2, hM2, hr2, h02, hv2⟩ := hP
  have hI2 : Inv (800 * (k + 1)) (oEnd M (xs (5 * k + 1))).2.2 := (i_end hI (by omega) (xs (5 * k + 1))).mono (by omega) (by omega)
  refine W.widen (k := 125 + 281 * k + 7) (n := 3599 + 5166 * k + 95) (Nat.le_refl _) (Nat.le_refl _) ?_
  have hLI2 := LI.st hR1 hM2 hr2 hI2 hob1 t7 t8 hz2 hk2 hsz1
  have hob2 := hob1.kept (hk2 ob hob1.lt (fun z => by have := t8 ob z.1 z.2; omega))
  refine lv_istore (lv' := [(6, .int r2_), (5, .int (nI ((oEnd M (xs (5 * k + 1))).1))), (4, .int (nI (5 * k))), (3, .ref ob), (2, .ref g), (1, .ref b0), (0, .ref b)]) hx hb dL_law_243 hl (by decide) rfl (fun ls hl => ?_)
  refine lv_aload_n hx hb dL_law_245 rfl (lv_at hl 4 rfl) ?_
  refine k_iA (k_VA (As := []) (rest := []) ⟨hx, hb, hml, hown, hts⟩ hev hS hAM (c_X7_thrown l hM2) (cwV 0 hts gL_law_X7_thrown rfl rfl rfl (by decide +kernel) ⟨Nat.le_of_ble_eq_true rfl, Nat.le_of_ble_eq_true rfl⟩) (x_recv hK hM2.1 rfl) rfl hl.1 (Nat.le_of_ble_eq_true rfl) dL_law_246 (by show _ ≤ (601024 : Nat); omega) (by show _ ≤ (7293034 : Nat); omega)) hS hAM (fun r3_ H3 locs3 hP hz3 hk3 hS => ?_)
  obtain ⟨eH, er2⟩ := hP
  have eH := eH.symm
  subst eH
  refine W.widen (k := 125 + 281 * k + 7) (n := 3599 + 5166 * k + 95) (Nat.le_refl _) (Nat.le_refl _) ?_
  refine x_top (y := (nI ((oEnd M (xs (5 * k + 1))).1))) (er2.trans h02) ?_
  refine lv_iload hx hb dL_law_249 (lv_at hl 1 rfl) ?_
  refine y_icmp_eq hx hb (by omega) (by omega) (tgt := 256) dL_law_251 (by decide) (fun c251 => ?_) (fun c251 => ?_)
  · refine lv_iload hx hb dL_law_256 (lv_at hl 1 rfl) ?_
    refine y_if_ne hx hb (by omega) (tgt := 273) dL_law_258 (by decide) (fun c258 => ?_) (fun c258 => ?_)
    · refine lv_goto (tgt := 1865) hx hb dL_law_273 (by decide) ?_
      refine W.widen (k := 125 + 281 * (k + 1)) (n := 3599 + 5166 * (k + 1)) (by omega) (by omega) ?_
      exact hnext _ _ _ ls hLI2 hS (lv_sub hl [2, 3, 4, 5, 6] rfl)
    · have c0_ : (oEnd M (xs (5 * k + 1))).1 = 0 := c258
      refine lv_aload_n hx hb dL_law_261 rfl (lv_at hl 3 rfl) ?_
      refine lv_iconst (v := nI 0) hx hb dL_law_262 (by decide) ?_
      refine x_lald (i := 0) hx hb hK hob2 (by decide) (by decide) dL_law_263 ?_
      refine lv_iload hx hb dL_law_264 (lv_at hl 0 rfl) ?_
      refine lv_i2l (v := r2_.toInt64) hx hb dL_law_266 rfl ?_
      refine lv_lcmpE hx hb (by rw [hf1 c0_, hv2 c0_]) dL_law_267 ?_
      refine y_if_eq hx hb (by decide) (tgt := 273) dL_law_268 (by decide) (fun c268 => ?_) (fun c268 => ?_)
      · refine lv_goto (tgt := 1865) hx hb dL_law_273 (by decide) ?_
        refine W.widen (k := 125 + 281 * (k + 1)) (n := 3599 + 5166 * (k + 1)) (by omega) (by omega) ?_
        exact hnext _ _ _ ls hLI2 hS (lv_sub hl [2, 3, 4, 5, 6] rfl)
      · exact absurd c268 (by decide)
  · exact absurd rfl c251
set_option maxHeartbeats 4000000 in
set_option maxRecDepth 100000 in
theorem law_c2 {p : Program} {l : Launch} {e : Env} {s : State} {m : MethodId} {below : List Frame} {meth : Method} {c : Code} {Q : State → Prop} {b L : Nat} {xs : Nat → Int32} {D : va_G} {T : Nat → ClassId} {dE mi b0 g ob : Nat} (hst : l.stackTraces = false) (hx : p.tables.exec = Jvm.exec) (hb : c.code = cL_law) (hml : c.maxLocals = 7) (hown : s.vm.findClass RL = some m.cls) (hts : ∀ w ∈ wsL_law, w.before #[Value.ref b] s = true) (hXs : va_X b L xs s s.heap) (hbl : b < s.heap.size) (hev : EV D T dE mi (fun q : Nat => s.heap.size ≤ q) s) (hga : s.heap.size ≤ g) (hL : L ≤ 2560) {k : Nat} (hk : 5 * k + 5 ≤ L) {H : Heap} {locs : List Loc} {M : mSt} (hLI : LI D T dE b0 g ob (fun q : Nat => s.heap.size ≤ q) H M k) (hS : va_S (fun q : Nat => s.heap.size ≤ q) s.heap H locs) {ls : Array Slot} (hl : lv_has ls 7 [(4, .int (nI (5 * k))), (3, .ref ob), (2, .ref g), (1, .ref b0), (0, .ref b)])
    (hnext : ∀ (H1 : Heap) (locs1 : List Loc) (M1 : mSt) (ls1 : Array Slot), LI D T dE b0 g ob (fun q : Nat => s.heap.size ≤ q) H1 M1 (k + 1) → va_S (fun q : Nat => s.heap.size ≤ q) s.heap H1 locs1 → lv_has ls1 7 [(4, .int (nI (5 * k))), (3, .ref ob), (2, .ref g), (1, .ref b0), (0, .ref b)] → W p l e room_1 s m #[Value.ref b] below meth c H1 locs1 (125 + 281 * (k + 1)) (3599 + 5166 * (k + 1)) Q (F0 m 1865 ls1 [])) : W p l e room_1 s m #[Value.ref b] below meth c H locs (125 + 281 * k) (3599 + 5166 * k) Q (F0 m 276 ls []) := by
  obtain ⟨tg, S, Y, f, hR, hM, hr, hI, hob, h7, h8, hsz⟩ := id hLI
  have hK := hev.1
  have hbA : ¬ (fun q : Nat => s.heap.size ≤ q) b := Nat.not_le.mpr hbl
  have hAM : ∀ q, AM g q → (fun q : Nat => s.heap.size ≤ q) q := fun q z => Nat.le_trans hga z.1
  have hAo : (fun q : Nat => s.heap.size ≤ q) ob := hR.tg.a h7 (by decide)
  have hrv : ∃ cell : Cell, H[b0]? = some cell ∧ cell.vm.isStatics = false ∧ s.vm.findClass "Archeloft" = some cell.cls := by
    obtain ⟨y, zq, zy, wo, hC, -⟩ := id hR
    exact x_recv hK hC.2.1.1 rfl
  refine lv_aload_n hx hb dL_law_276 rfl (lv_at hl 3 rfl) ?_
  refine lv_aload_n hx hb dL_law_277 rfl (lv_at hl 4 rfl) ?_
  refine lv_iload hx hb dL_law_278 (lv_at hl 0 rfl) ?_
  refine lv_iconst (v := nI 1) hx hb dL_law_280 (by decide) ?_
  refine y_iadd hx hb dL_law_281 ?_
  refine va_sld hx hb hXs hbl hbA hS (vp_in_nI (n := (5 * k) + 1) (by omega) (by omega)) dL_law_282 ?_
  refine x_top (y := ((xs (5 * k + 1)))) (by rw [nI_clamp (by omega)]) ?_
  refine lv_aload_n hx hb dL_law_283 rfl (lv_at hl 4 rfl) ?_
  refine lv_iload hx hb dL_law_284 (lv_at hl 0 rfl) ?_
  refine lv_iconst (v := nI 2) hx hb dL_law_286 (by decide) ?_
  refine y_iadd hx hb dL_law_287 ?_
  refine va_sld hx hb hXs hbl hbA hS (vp_in_nI (n := (5 * k) + 2) (by omega) (by omega)) dL_law_288 ?_
  refine x_top (y := ((xs (5 * k + 2)))) (by rw [nI_clamp (by omega)]) ?_
  refine lv_aload_n hx hb dL_law_289 rfl (lv_at hl 1 rfl) ?_
  refine k_iN (k_SW (As := [.ref b0, .int ((xs (5 * k + 1))), .int ((xs (5 * k + 2))), .ref ob]) (rest := []) ⟨hx, hb, hml, hown, hts⟩ hev hS (c_L_adopt l hst hR hI (xs (5 * k + 1)) (xs (5 * k + 2)) hob h7 hAo) (vx_cwSW 4 hts gL_law_L_adopt rfl rfl rfl (by decide +kernel) ⟨Nat.le_of_ble_eq_true rfl, Nat.le_of_ble_eq_true rfl⟩) rfl hl.1 (Nat.le_of_ble_eq_true rfl) dL_law_290 (by show _ ≤ (601024 : Nat); omega) (by show _ ≤ (7293034 : Nat); omega)) hS (fun r1_ H1 locs1 hP hz1 hS => ?_)
  obtain ⟨⟨er, ho4⟩, ⟨f1, hob1, hf1⟩, tg1, hR1, tx, fr⟩ := hP
  have hM1 := LI.rm hM h8 hsz fr
  have t7 := (tx ob hob.lt).trans h7
  have t8 := LI.t8 h8 tx hsz
  refine x_top (y := (nI ((oAdopt M (xs (5 * k + 1)) (xs (5 * k + 2))).1))) (er) ?_
  refine lv_istore (lv' := [(5, .int (nI ((oAdopt M (xs (5 * k + 1)) (xs (5 * k + 2))).1))), (4, .int (nI (5 * k))), (3, .ref ob), (2, .ref g), (1, .ref b0), (0, .ref b)]) hx hb dL_law_293 hl (by decide) rfl (fun ls hl => ?_)
  refine lv_aload_n hx hb dL_law_295 rfl (lv_at hl 3 rfl) ?_
  refine lv_aload_n hx hb dL_law_296 rfl (lv_at hl 5 rfl) ?_
  refine lv_iload hx hb dL_law_297 (lv_at hl 1 rfl) ?_
  refine lv_iconst (v := nI 1) hx hb dL_law_299 (by decide) ?_
  refine y_iadd hx hb dL_law_300 ?_
  refine va_sld hx hb hXs hbl hbA hS (vp_in_nI (n := (5 * k) + 1) (by omega) (by omega)) dL_law_301 ?_
  refine x_top (y := ((xs (5 * k + 1)))) (by rw [nI_clamp (by omega)]) ?_
  refine lv_aload_n hx hb dL_law_302 rfl (lv_at hl 5 rfl) ?_
  refine lv_iload hx hb dL_law_303 (lv_at hl 1 rfl) ?_
  refine lv_iconst (v := nI 2) hx hb dL_law_305 (by decide) ?_
  refine y_iadd hx hb dL_law_306 ?_
  refine va_sld hx hb hXs hbl hbA hS (vp_in_nI (n := (5 * k) + 2) (by omega) (by omega)) dL_law_307 ?_
  refine x_top (y := ((xs (5 * k + 2)))) (by rw [nI_clamp (by omega)]) ?_
  have hsz1 : g + 23 ≤ H1.size := by have := fr.1; omega
  refine k_iA (k_VA (As := [.int ((xs (5 * k + 1))), .int ((xs (5 * k + 2)))]) (rest := []) ⟨hx, hb, hml, hown, hts⟩ hev hS hAM (c_X7_adopt l hM1 hr hI (xs (5 * k + 1)) (xs (5 * k + 2))) (cwV 2 hts gL_law_X7_adopt rfl rfl rfl (by decide +kernel) ⟨Nat.le_of_ble_eq_true rfl, Nat.le_of_ble_eq_true rfl⟩) (x_recv hK hM1.1 rfl) rfl hl.1 (Nat.le_of_ble_eq_true rfl) dL_law_308 (by show _ ≤ (601024 : Nat); omega) (by show _ ≤ (7293034 : Nat); omega)) hS hAM (fun r2_ H2 locs2 hP hz2 hk2 hS => ?_)
  obtain ⟨S2, Y2, hM2, hr2, h02, hv2⟩ := hP
  have hI2 : Inv (800 * (k + 1)) (oAdopt M (xs (5 * k + 1)) (xs (5 * k + 2))).2.2 := (i_adopt hI (xs (5 * k + 1)) (xs (5 * k + 2))).mono (by omega) (by omega)
  refine W.widen (k := 125 + 281 * k + 4) (n := 3599 + 5166 * k + 24) (Nat.le_refl _) (Nat.le_refl _) ?_
  have hLI2 := LI.st hR1 hM2 hr2 hI2 hob1 t7 t8 hz2 hk2 hsz1
  have hob2 := hob1.kept (hk2 ob hob1.lt (fun z => by have := t8 ob z.1 z.2; omega))
  refine lv_istore (lv' := [(6, .int r2_), (5, .int (nI ((oAdopt M (xs (5 * k + 1)) (xs (5 * k + 2))).1))), (4, .int (nI (5 * k))), (3, .ref ob), (2, .ref g), (1, .ref b0), (0, .ref b)]) hx hb dL_law_311 hl (by decide) rfl (fun ls hl => ?_)
  refine lv_aload_n hx hb dL_law_313 rfl (lv_at hl 4 rfl) ?_
  refine k_iA (k_VA (As := []) (rest := []) ⟨hx, hb, hml, hown, hts⟩ hev hS hAM (c_X7_thrown l hM2) (cwV 0 hts gL_law_X7_thrown rfl rfl rfl (by decide +kernel) ⟨Nat.le_of_ble_eq_true rfl, Nat.le_of_ble_eq_true rfl⟩) (x_recv hK hM2.1 rfl) rfl hl.1 (Nat.le_of_ble_eq_true rfl) dL_law_314 (by show _ ≤ (601024 : Nat); omega) (by show _ ≤ (7293034 : Nat); omega)) hS hAM (fun r3_ H3 locs3 hP hz3 hk3 hS => ?_)
  obtain ⟨eH, er2⟩ := hP
  have eH := eH.symm
  subst eH
  refine W.widen (k := 125 + 281 * k + 4) (n := 3599 + 5166 * k + 24) (Nat.le_refl _) (Nat.le_refl _) ?_
  refine x_top (y := (nI ((oAdopt M (xs (5 * k + 1)) (xs (5 * k + 2))).1))) (er2.trans h02) ?_
  refine lv_iload hx hb dL_law_317 (lv_at hl 1 rfl) ?_
  refine y_icmp_eq hx hb (by omega) (by omega) (tgt := 324) dL_law_319 (by decide) (fun c319 => ?_) (fun c319 => ?_)
  · refine lv_iload hx hb dL_law_324 (lv_at hl 1 rfl) ?_
    refine y_if_ne hx hb (by omega) (tgt := 341) dL_law_326 (by decide) (fun c326 => ?_) (fun c326 => ?_)
    · refine lv_goto (tgt := 1865) hx hb dL_law_341 (by decide) ?_
      refine W.widen (k := 125 + 281 * (k + 1)) (n := 3599 + 5166 * (k + 1)) (by omega) (by omega) ?_
      exact hnext _ _ _ ls hLI2 hS (lv_sub hl [2, 3, 4, 5, 6] rfl)
    · have c0_ : (oAdopt M (xs (5 * k + 1)) (xs (5 * k + 2))).1 = 0 := c326
      refine lv_aload_n hx hb dL_law_329 rfl (lv_at hl 3 rfl) ?_
      refine lv_iconst (v := nI 0) hx hb dL_law_330 (by decide) ?_
      refine x_lald (i := 0) hx hb hK hob2 (by decide) (by decide) dL_law_331 ?_
      refine lv_iload hx hb dL_law_332 (lv_at hl 0 rfl) ?_
      refine lv_i2l (v := r2_.toInt64) hx hb dL_law_334 rfl ?_
      refine lv_lcmpE hx hb (by rw [hf1 c0_, hv2 c0_]) dL_law_335 ?_
      refine y_if_eq hx hb (by decide) (tgt := 341) dL_law_336 (by decide) (fun c336 => ?_) (fun c336 => ?_)
      · refine lv_goto (tgt := 1865) hx hb dL_law_341 (by decide) ?_
        refine W.widen (k := 125 + 281 * (k + 1)) (n := 3599 + 5166 * (k + 1)) (by omega) (by omega) ?_
        exact hnext _ _ _ ls hLI2 hS (lv_sub hl [2, 3, 4, 5, 6] rfl)
      · exact absurd c336 (by decide)
  · exact absurd rfl c319
set_option maxHeartbeats 4000000 in
set_option maxRecDepth 100000 in
theorem law_c3 {p : Program} {l : Launch} {e : Env} {s : State} {m : MethodId} {below : List Frame} {meth : Method} {c : Code} {Q : State → Prop} {b L : Nat} {xs : Nat → Int32} {D : va_G} {T : Nat → ClassId} {dE mi b0 g ob : Nat} (hst : l.stackTraces = false) (hx : p.tables.exec = Jvm.exec) (hb : c.code = cL_law) (hml : c.maxLocals = 7) (hown : s.vm.findClass RL = some m.cls) (hts : ∀ w ∈ wsL_law, w.before #[Value.ref b] s = true) (hXs : va_X b L xs s s.heap) (hbl : b < s.heap.size) (hev : EV D T dE mi (fun q : Nat => s.heap.size ≤ q) s) (hga : s.heap.size ≤ g) (hL : L ≤ 2560) {k : Nat} (hk : 5 * k + 5 ≤ L) {H : Heap} {locs : List Loc} {M : mSt} (hLI : LI D T dE b0 g ob (fun q : Nat => s.heap.size ≤ q) H M k) (hS : va_S (fun q : Nat => s.heap.size ≤ q) s.heap H locs) {ls : Array Slot} (hl : lv_has ls 7 [(4, .int (nI (5 * k))), (3, .ref ob), (2, .ref g), (1, .ref b0), (0, .ref b)])
    (hnext : ∀ (H1 : Heap) (locs1 : List Loc) (M1 : mSt) (ls1 : Array Slot), LI D T dE b0 g ob (fun q : Nat => s.heap.size ≤ q) H1 M1 (k + 1) → va_S (fun q : Nat => s.heap.size ≤ q) s.heap H1 locs1 → lv_has ls1 7 [(4, .int (nI (5 * k))), (3, .ref ob), (2, .ref g), (1, .ref b0), (0, .ref b)] → W p l e room_1 s m #[Value.ref b] below meth c H1 locs1 (125 + 281 * (k + 1)) (3599 + 5166 * (k + 1)) Q (F0 m 1865 ls1 [])) : W p l e room_1 s m #[Value.ref b] below meth c H locs (125 + 281 * k) (3599 + 5166 * k) Q (F0 m 344 ls []) := by
  obtain ⟨tg, S, Y, f, hR, hM, hr, hI, hob, h7, h8, hsz⟩ := id hLI
  have hK := hev.1
  have hbA : ¬ (fun q : Nat => s.heap.size ≤ q) b := Nat.not_le.mpr hbl
  have hAM : ∀ q, AM g q → (fun q : Nat => s.heap.size ≤ q) q := fun q z => Nat.le_trans hga z.1
  have hAo : (fun q : Nat => s.heap.size ≤ q) ob := hR.tg.a h7 (by decide)
  have hrv : ∃ cell : Cell, H[b0]? = some cell ∧ cell.vm.isStatics = false ∧ s.vm.findClass "Archeloft" = some cell.cls := by
    obtain ⟨y, zq, zy, wo, hC, -⟩ := id hR
    exact x_recv hK hC.2.1.1 rfl
  refine lv_aload_n hx hb dL_law_344 rfl (lv_at hl 3 rfl) ?_
  refine k_iN (k_V (As := []) (rest := []) ⟨hx, hb, hml, hown, hts⟩ hev hS (u_entities l hst hR hI) (cwV 0 hts gL_law_X6_entities rfl rfl rfl (by decide +kernel) ⟨Nat.le_of_ble_eq_true rfl, Nat.le_of_ble_eq_true rfl⟩) hrv rfl hl.1 (Nat.le_of_ble_eq_true rfl) dL_law_345 (by show _ ≤ (601024 : Nat); omega) (by show _ ≤ (7293034 : Nat); omega)) hS (fun r1_ H1 locs1 hP hz1 hS => ?_)
  obtain ⟨-, er, tg1, hR1, tx, fr0⟩ := hP
  have fr := fr0.wk (S1 := fun t => t ≠ 0 ∧ t ≠ 8) (fun t z => ⟨z.1, z.2.2⟩)
  refine W.widen (k := 125 + 281 * k) (n := 3599 + 5166 * k) (Nat.le_refl _) (Nat.le_refl _) ?_
  have hM1 := LI.rm hM h8 hsz fr
  have t7 := (tx ob hob.lt).trans h7
  have t8 := LI.t8 h8 tx hsz
  have hob1 := hob.kept (fr0.2 _ hob.lt (by rw [h7]; decide))
  have hsz1 : g + 23 ≤ H1.size := by omega
  refine x_top (y := ((oEntities M).2.1)) (er) ?_
  refine lv_aload_n hx hb dL_law_348 rfl (lv_at hl 2 rfl) ?_
  refine k_iA (k_VA (As := []) (rest := [.int ((oEntities M).2.1)]) ⟨hx, hb, hml, hown, hts⟩ hev hS hAM (c_X7_entities l hM1 hr hI) (cwV 0 hts gL_law_X7_entities rfl rfl rfl (by decide +kernel) ⟨Nat.le_of_ble_eq_true rfl, Nat.le_of_ble_eq_true rfl⟩) (x_recv hK hM1.1 rfl) rfl hl.1 (Nat.le_of_ble_eq_true rfl) dL_law_349 (by show _ ≤ (601024 : Nat); omega) (by show _ ≤ (7293034 : Nat); omega)) hS hAM (fun r2_ H2 locs2 hP hz2 hk2 hS => ?_)
  obtain ⟨S2, Y2, hM2, hr2, h02, hv2⟩ := hP
  have hI2 : Inv (800 * (k + 1)) (oEntities M).2.2 := (i_entities hI).mono (by omega) (by omega)
  refine W.widen (k := 125 + 281 * k) (n := 3599 + 5166 * k) (Nat.le_refl _) (Nat.le_refl _) ?_
  have hLI2 := LI.st hR1 hM2 hr2 hI2 hob1 t7 t8 hz2 hk2 hsz1
  have hob2 := hob1.kept (hk2 ob hob1.lt (fun z => by have := t8 ob z.1 z.2; omega))
  refine x_top (y := ((oEntities M).2.1)) (hv2 rfl) ?_
  refine lv_icmp_eq (tgt := 1865) hx hb dL_law_352 (by decide) (fun c352 => ?_) (fun c352 => ?_)
  · refine W.widen (k := 125 + 281 * (k + 1)) (n := 3599 + 5166 * (k + 1)) (by omega) (by omega) ?_
    exact hnext _ _ _ ls hLI2 hS (lv_sub hl [0, 1, 2, 3, 4] rfl)
  · exact absurd rfl c352
set_option maxHeartbeats 4000000 in
set_option maxRecDepth 100000 in
theorem law_c4 {p : Program} {l : Launch} {e : Env} {s : State} {m : MethodId} {below : List Frame} {meth : Method} {c : Code} {Q : State → Prop} {b L : Nat} {xs : Nat → Int32} {D : va_G} {T : Nat → ClassId} {dE mi b0 g ob : Nat} (hst : l.stackTraces = false) (hx : p.tables.exec = Jvm.exec) (hb : c.code = cL_law) (hml : c.maxLocals = 7) (hown : s.vm.findClass RL = some m.cls) (hts : ∀ w ∈ wsL_law, w.before #[Value.ref b] s = true) (hXs : va_X b L xs s s.heap) (hbl : b < s.heap.size) (hev : EV D T dE mi (fun q : Nat => s.heap.size ≤ q) s) (hga : s.heap.size ≤ g) (hL : L ≤ 2560) {k : Nat} (hk : 5 * k + 5 ≤ L) {H : Heap} {locs : List Loc} {M : mSt} (hLI : LI D T dE b0 g ob (fun q : Nat => s.heap.size ≤ q) H M k) (hS : va_S (fun q : Nat => s.heap.size ≤ q) s.heap H locs) {ls : Array Slot} (hl : lv_has ls 7 [(4, .int (nI (5 * k))), (3, .ref ob), (2, .ref g), (1, .ref b0), (0, .ref b)])
    (hnext : ∀ (H1 : Heap) (locs1 : List Loc) (M1 : mSt) (ls1 : Array Slot), LI D T dE b0 g ob (fun q : Nat => s.heap.size ≤ q) H1 M1 (k + 1) → va_S (fun q : Nat => s.heap.size ≤ q) s.heap H1 locs1 → lv_has ls1 7 [(4, .int (nI (5 * k))), (3, .ref ob), (2, .ref g), (1, .ref b0), (0, .ref b)] → W p l e room_1 s m #[Value.ref b] below meth c H1 locs1 (125 + 281 * (k + 1)) (3599 + 5166 * (k + 1)) Q (F0 m 1865 ls1 [])) : W p l e room_1 s m #[Value.ref b] below meth c H locs (125 + 281 * k) (3599 + 5166 * k) Q (F0 m 357 ls []) := by
  obtain ⟨tg, S, Y, f, hR, hM, hr, hI, hob, h7, h8, hsz⟩ := id hLI
  have hK := hev.1
  have hbA : ¬ (fun q : Nat => s.heap.size ≤ q) b := Nat.not_le.mpr hbl
  have hAM : ∀ q, AM g q → (fun q : Nat => s.heap.size ≤ q) q := fun q z => Nat.le_trans hga z.1
  have hAo : (fun q : Nat => s.heap.size ≤ q) ob := hR.tg.a h7 (by decide)
  have hrv : ∃ cell : Cell, H[b0]? = some cell ∧ cell.vm.isStatics = false ∧ s.vm.findClass "Archeloft" = some cell.cls := by
    obtain ⟨y, zq, zy, wo, hC, -⟩ := id hR
    exact x_recv hK hC.2.1.1 rfl
  refine lv_aload_n hx hb dL_law_357 rfl (lv_at hl 3 rfl) ?_
  refine lv_aload_n hx hb dL_law_358 rfl (lv_at hl 4 rfl) ?_
  refine lv_iload hx hb dL_law_359 (lv_at hl 0 rfl) ?_
  refine lv_iconst (v := nI 1) hx hb dL_law_361 (by decide) ?_
  refine y_iadd hx hb dL_law_362 ?_
  refine va_sld hx hb hXs hbl hbA hS (vp_in_nI (n := (5 * k) + 1) (by omega) (by omega)) dL_law_363 ?_
  refine x_top (y := ((xs (5 * k + 1)))) (by rw [nI_clamp (by omega)]) ?_
  refine k_iN (k_V (As := [.int ((xs (5 * k + 1)))]) (rest := []) ⟨hx, hb, hml, hown, hts⟩ hev hS (u_isThere l hst hR hI (xs (5 * k + 1))) (cwV 1 hts gL_law_X6_isThere rfl rfl rfl (by decide +kernel) ⟨Nat.le_of_ble_eq_true rfl, Nat.le_of_ble_eq_true rfl⟩) hrv rfl hl.1 (Nat.le_of_ble_eq_true rfl) dL_law_364 (by show _ ≤ (601024 : Nat); omega) (by show _ ≤ (7293034 : Nat); omega)) hS (fun r1_ H1 locs1 hP hz1 hS => ?_)
  obtain ⟨-, er, tg1, hR1, tx, fr0⟩ := hP
  have fr := fr0.wk (S1 := fun t => t ≠ 0 ∧ t ≠ 8) (fun t z => ⟨z.1, z.2.2⟩)
  refine W.widen (k := 125 + 281 * k) (n := 3599 + 5166 * k) (Nat.le_refl _) (Nat.le_refl _) ?_
  have hM1 := LI.rm hM h8 hsz fr
  have t7 := (tx ob hob.lt).trans h7
  have t8 := LI.t8 h8 tx hsz
  have hob1 := hob.kept (fr0.2 _ hob.lt (by rw [h7]; decide))
  have hsz1 : g + 23 ≤ H1.size := by omega
  refine x_top (y := ((oIsThere M (xs (5 * k + 1))).2.1)) (er) ?_
  refine lv_aload_n hx hb dL_law_367 rfl (lv_at hl 2 rfl) ?_
  refine lv_aload_n hx hb dL_law_368 rfl (lv_at hl 4 rfl) ?_
  refine lv_iload hx hb dL_law_369 (lv_at hl 0 rfl) ?_
  refine lv_iconst (v := nI 1) hx hb dL_law_371 (by decide) ?_
  refine y_iadd hx hb dL_law_372 ?_
  refine va_sld hx hb hXs hbl hbA hS (vp_in_nI (n := (5 * k) + 1) (by omega) (by omega)) dL_law_373 ?_
  refine x_top (y := ((xs (5 * k + 1)))) (by rw [nI_clamp (by omega)]) ?_
  refine k_iA (k_VA (As := [.int ((xs (5 * k + 1)))]) (rest := [.int ((oIsThere M (xs (5 * k + 1))).2.1)]) ⟨hx, hb, hml, hown, hts⟩ hev hS hAM (c_X7_isThere l hM1 hr hI (xs (5 * k + 1))) (cwV 1 hts gL_law_X7_isThere rfl rfl rfl (by decide +kernel) ⟨Nat.le_of_ble_eq_true rfl, Nat.le_of_ble_eq_true rfl⟩) (x_recv hK hM1.1 rfl) rfl hl.1 (Nat.le_of_ble_eq_true rfl) dL_law_374 (by show _ ≤ (601024 : Nat); omega) (by show _ ≤ (7293034 : Nat); omega)) hS hAM (fun r2_ H2 locs2 hP hz2 hk2 hS => ?_)
  obtain ⟨S2, Y2, hM2, hr2, h02, hv2⟩ := hP
  have hI2 : Inv (800 * (k + 1)) (oIsThere M (xs (5 * k + 1))).2.2 := (i_isThere hI (xs (5 * k + 1))).mono (by omega) (by omega)
  refine W.widen (k := 125 + 281 * k) (n := 3599 + 5166 * k) (Nat.le_refl _) (Nat.le_refl _) ?_
  have hLI2 := LI.st hR1 hM2 hr2 hI2 hob1 t7 t8 hz2 hk2 hsz1
  have hob2 := hob1.kept (hk2 ob hob1.lt (fun z => by have := t8 ob z.1 z.2; omega))
  refine x_top (y := ((oIsThere M (xs (5 * k + 1))).2.1)) (hv2 rfl) ?_
  refine lv_icmp_eq (tgt := 1865) hx hb dL_law_377 (by decide) (fun c377 => ?_) (fun c377 => ?_)
  · refine W.widen (k := 125 + 281 * (k + 1)) (n := 3599 + 5166 * (k + 1)) (by omega) (by omega) ?_
    exact hnext _ _ _ ls hLI2 hS (lv_sub hl [0, 1, 2, 3, 4] rfl)
  · exact absurd rfl c377
set_option maxHeartbeats 4000000 in
set_option maxRecDepth 100000 in
theorem law_c5 {p : Program} {l : Launch} {e : Env} {s : State} {m : MethodId} {below : List Frame} {meth : Method} {c : Code} {Q : State → Prop} {b L : Nat} {xs : Nat → Int32} {D : va_G} {T : Nat → ClassId} {dE mi b0 g ob : Nat} (hst : l.stackTraces = false) (hx : p.tables.exec = Jvm.exec) (hb : c.code = cL_law) (hml : c.maxLocals = 7) (hown : s.vm.findClass RL = some m.cls) (hts : ∀ w ∈ wsL_law, w.before #[Value.ref b] s = true) (hXs : va_X b L xs s s.heap) (hbl : b < s.heap.size) (hev : EV D T dE mi (fun q : Nat => s.heap.size ≤ q) s) (hga : s.heap.size ≤ g) (hL : L ≤ 2560) {k : Nat} (hk : 5 * k + 5 ≤ L) {H : Heap} {locs : List Loc} {M : mSt} (hLI : LI D T dE b0 g ob (fun q : Nat => s.heap.size ≤ q) H M k) (hS : va_S (fun q : Nat => s.heap.size ≤ q) s.heap H locs) {ls : Array Slot} (hl : lv_has ls 7 [(4, .int (nI (5 * k))), (3, .ref ob), (2, .ref g), (1, .ref b0), (0, .ref b)])
    (hnext : ∀ (H1 : Heap) (locs1 : List Loc) (M1 : mSt) (ls1 : Array Slot), LI D T dE b0 g ob (fun q : Nat => s.heap.size ≤ q) H1 M1 (k + 1) → va_S (fun q : Nat => s.heap.size ≤ q) s.heap H1 locs1 → lv_has ls1 7 [(4, .int (nI (5 * k))), (3, .ref ob), (2, .ref g), (1, .ref b0), (0, .ref b)] → W p l e room_1 s m #[Value.ref b] below meth c H1 locs1 (125 + 281 * (k + 1)) (3599 + 5166 * (k + 1)) Q (F0 m 1865 ls1 [])) : W p l e room_1 s m #[Value.ref b] below meth c H locs (125 + 281 * k) (3599 + 5166 * k) Q (F0 m 382 ls []) := by
  obtain ⟨tg, S, Y, f, hR, hM, hr, hI, hob, h7, h8, hsz⟩ := id hLI
  have hK := hev.1
  have hbA : ¬ (fun q : Nat => s.heap.size ≤ q) b := Nat.not_le.mpr hbl
  have hAM : ∀ q, AM g q → (fun q : Nat => s.heap.size ≤ q) q := fun q z => Nat.le_trans hga z.1
  have hAo : (fun q : Nat => s.heap.size ≤ q) ob := hR.tg.a h7 (by decide)
  have hrv : ∃ cell : Cell, H[b0]? = some cell ∧ cell.vm.isStatics = false ∧ s.vm.findClass "Archeloft" = some cell.cls := by
    obtain ⟨y, zq, zy, wo, hC, -⟩ := id hR
    exact x_recv hK hC.2.1.1 rfl
  refine lv_aload_n hx hb dL_law_382 rfl (lv_at hl 3 rfl) ?_
  refine lv_aload_n hx hb dL_law_383 rfl (lv_at hl 4 rfl) ?_
  refine lv_iload hx hb dL_law_384 (lv_at hl 0 rfl) ?_
  refine lv_iconst (v := nI 1) hx hb dL_law_386 (by decide) ?_
  refine y_iadd hx hb dL_law_387 ?_
  refine va_sld hx hb hXs hbl hbA hS (vp_in_nI (n := (5 * k) + 1) (by omega) (by omega)) dL_law_388 ?_
  refine x_top (y := ((xs (5 * k + 1)))) (by rw [nI_clamp (by omega)]) ?_
  refine lv_aload_n hx hb dL_law_389 rfl (lv_at hl 1 rfl) ?_
  refine k_iN (k_SW (As := [.ref b0, .int ((xs (5 * k + 1))), .ref ob]) (rest := []) ⟨hx, hb, hml, hown, hts⟩ hev hS (c_L_children l hst hR hI (xs (5 * k + 1)) hob h7 hAo) (vx_cwSW 3 hts gL_law_L_children rfl rfl rfl (by decide +kernel) ⟨Nat.le_of_ble_eq_true rfl, Nat.le_of_ble_eq_true rfl⟩) rfl hl.1 (Nat.le_of_ble_eq_true rfl) dL_law_390 (by show _ ≤ (601024 : Nat); omega) (by show _ ≤ (7293034 : Nat); omega)) hS (fun r1_ H1 locs1 hP hz1 hS => ?_)
  obtain ⟨⟨er, ho4⟩, ⟨f1, hob1, hf1⟩, tg1, hR1, tx, fr⟩ := hP
  have hM1 := LI.rm hM h8 hsz fr
  have t7 := (tx ob hob.lt).trans h7
  have t8 := LI.t8 h8 tx hsz
  refine x_top (y := (nI ((oChildren M (xs (5 * k + 1))).1))) (er) ?_
  refine lv_istore (lv' := [(5, .int (nI ((oChildren M (xs (5 * k + 1))).1))), (4, .int (nI (5 * k))), (3, .ref ob), (2, .ref g), (1, .ref b0), (0, .ref b)]) hx hb dL_law_393 hl (by decide) rfl (fun ls hl => ?_)
  refine lv_aload_n hx hb dL_law_395 rfl (lv_at hl 3 rfl) ?_
  refine lv_aload_n hx hb dL_law_396 rfl (lv_at hl 5 rfl) ?_
  refine lv_iload hx hb dL_law_397 (lv_at hl 1 rfl) ?_
  refine lv_iconst (v := nI 1) hx hb dL_law_399 (by decide) ?_
  refine y_iadd hx hb dL_law_400 ?_
  refine va_sld hx hb hXs hbl hbA hS (vp_in_nI (n := (5 * k) + 1) (by omega) (by omega)) dL_law_401 ?_
  refine x_top (y := ((xs (5 * k + 1)))) (by rw [nI_clamp (by omega)]) ?_
  have hsz1 : g + 23 ≤ H1.size := by have := fr.1; omega
  refine k_iA (k_VA (As := [.int ((xs (5 * k + 1)))]) (rest := []) ⟨hx, hb, hml, hown, hts⟩ hev hS hAM (c_X7_children l hM1 hr hI (xs (5 * k + 1))) (cwV 1 hts gL_law_X7_children rfl rfl rfl (by decide +kernel) ⟨Nat.le_of_ble_eq_true rfl, Nat.le_of_ble_eq_true rfl⟩) (x_recv hK hM1.1 rfl) rfl hl.1 (Nat.le_of_ble_eq_true rfl) dL_law_402 (by show _ ≤ (601024 : Nat); omega) (by show _ ≤ (7293034 : Nat); omega)) hS hAM (fun r2_ H2 locs2 hP hz2 hk2 hS => ?_)
  obtain ⟨S2, Y2, hM2, hr2, h02, hv2⟩ := hP
  have hI2 : Inv (800 * (k + 1)) (oChildren M (xs (5 * k + 1))).2.2 := (i_children hI (xs (5 * k + 1))).mono (by omega) (by omega)
  refine W.widen (k := 125 + 281 * k + 1) (n := 3599 + 5166 * k + 6) (Nat.le_refl _) (Nat.le_refl _) ?_
  have hLI2 := LI.st hR1 hM2 hr2 hI2 hob1 t7 t8 hz2 hk2 hsz1
  have hob2 := hob1.kept (hk2 ob hob1.lt (fun z => by have := t8 ob z.1 z.2; omega))
  refine lv_istore (lv' := [(6, .int r2_), (5, .int (nI ((oChildren M (xs (5 * k + 1))).1))), (4, .int (nI (5 * k))), (3, .ref ob), (2, .ref g), (1, .ref b0), (0, .ref b)]) hx hb dL_law_405 hl (by decide) rfl (fun ls hl => ?_)
  refine lv_aload_n hx hb dL_law_407 rfl (lv_at hl 4 rfl) ?_
  refine k_iA (k_VA (As := []) (rest := []) ⟨hx, hb, hml, hown, hts⟩ hev hS hAM (c_X7_thrown l hM2) (cwV 0 hts gL_law_X7_thrown rfl rfl rfl (by decide +kernel) ⟨Nat.le_of_ble_eq_true rfl, Nat.le_of_ble_eq_true rfl⟩) (x_recv hK hM2.1 rfl) rfl hl.1 (Nat.le_of_ble_eq_true rfl) dL_law_408 (by show _ ≤ (601024 : Nat); omega) (by show _ ≤ (7293034 : Nat); omega)) hS hAM (fun r3_ H3 locs3 hP hz3 hk3 hS => ?_)
  obtain ⟨eH, er2⟩ := hP
  have eH := eH.symm
  subst eH
  refine W.widen (k := 125 + 281 * k + 1) (n := 3599 + 5166 * k + 6) (Nat.le_refl _) (Nat.le_refl _) ?_
  refine x_top (y := (nI ((oChildren M (xs (5 * k + 1))).1))) (er2.trans h02) ?_
  refine lv_iload hx hb dL_law_411 (lv_at hl 1 rfl) ?_
  refine y_icmp_eq hx hb (by omega) (by omega) (tgt := 418) dL_law_413 (by decide) (fun c413 => ?_) (fun c413 => ?_)
  · refine lv_iload hx hb dL_law_418 (lv_at hl 1 rfl) ?_
    refine y_if_ne hx hb (by omega) (tgt := 435) dL_law_420 (by decide) (fun c420 => ?_) (fun c420 => ?_)
    · refine lv_goto (tgt := 1865) hx hb dL_law_435 (by decide) ?_
      refine W.widen (k := 125 + 281 * (k + 1)) (n := 3599 + 5166 * (k + 1)) (by omega) (by omega) ?_
      exact hnext _ _ _ ls hLI2 hS (lv_sub hl [2, 3, 4, 5, 6] rfl)
    · have c0_ : (oChildren M (xs (5 * k + 1))).1 = 0 := c420
      refine lv_aload_n hx hb dL_law_423 rfl (lv_at hl 3 rfl) ?_
      refine lv_iconst (v := nI 0) hx hb dL_law_424 (by decide) ?_
      refine x_lald (i := 0) hx hb hK hob2 (by decide) (by decide) dL_law_425 ?_
      refine lv_iload hx hb dL_law_426 (lv_at hl 0 rfl) ?_
      refine lv_i2l (v := r2_.toInt64) hx hb dL_law_428 rfl ?_
      refine lv_lcmpE hx hb (by rw [hf1 c0_, hv2 c0_]) dL_law_429 ?_
      refine y_if_eq hx hb (by decide) (tgt := 435) dL_law_430 (by decide) (fun c430 => ?_) (fun c430 => ?_)
      · refine lv_goto (tgt := 1865) hx hb dL_law_435 (by decide) ?_
        refine W.widen (k := 125 + 281 * (k + 1)) (n := 3599 + 5166 * (k + 1)) (by omega) (by omega) ?_
        exact hnext _ _ _ ls hLI2 hS (lv_sub hl [2, 3, 4, 5, 6] rfl)
      · exact absurd c430 (by decide)
  · exact absurd rfl c413
set_option maxHeartbeats 4000000 in
set_option maxRecDepth 100000 in
theorem law_c6 {p : Program} {l : Launch} {e : Env} {s : State} {m : MethodId} {below : List Frame} {meth : Method} {c : Code} {Q : State → Prop} {b L : Nat} {xs : Nat → Int32} {D : va_G} {T : Nat → ClassId} {dE mi b0 g ob : Nat} (hst : l.stackTraces = false) (hx : p.tables.exec = Jvm.exec) (hb : c.code = cL_law) (hml : c.maxLocals = 7) (hown : s.vm.findClass RL = some m.cls) (hts : ∀ w ∈ wsL_law, w.before #[Value.ref b] s = true) (hXs : va_X b L xs s s.heap) (hbl : b < s.heap.size) (hev : EV D T dE mi (fun q : Nat => s.heap.size ≤ q) s) (hga : s.heap.size ≤ g) (hL : L ≤ 2560) {k : Nat} (hk : 5 * k + 5 ≤ L) {H : Heap} {locs : List Loc} {M : mSt} (hLI : LI D T dE b0 g ob (fun q : Nat => s.heap.size ≤ q) H M k) (hS : va_S (fun q : Nat => s.heap.size ≤ q) s.heap H locs) {ls : Array Slot} (hl : lv_has ls 7 [(4, .int (nI (5 * k))), (3, .ref ob), (2, .ref g), (1, .ref b0), (0, .ref b)])
    (hnext : ∀ (H1 : Heap) (locs1 : List Loc) (M1 : mSt) (ls1 : Array Slot), LI D T dE b0 g ob (fun q : Nat => s.heap.size ≤ q) H1 M1 (k + 1) → va_S (fun q : Nat => s.heap.size ≤ q) s.heap H1 locs1 → lv_has ls1 7 [(4, .int (nI (5 * k))), (3, .ref ob), (2, .ref g), (1, .ref b0), (0, .ref b)] → W p l e room_1 s m #[Value.ref b] below meth c H1 locs1 (125 + 281 * (k + 1)) (3599 + 5166 * (k + 1)) Q (F0 m 1865 ls1 [])) : W p l e room_1 s m #[Value.ref b] below meth c H locs (125 + 281 * k) (3599 + 5166 * k) Q (F0 m 438 ls []) := by
  obtain ⟨tg, S, Y, f, hR, hM, hr, hI, hob, h7, h8, hsz⟩ := id hLI
  have hK := hev.1
  have hbA : ¬ (fun q : Nat => s.heap.size ≤ q) b := Nat.not_le.mpr hbl
  have hAM : ∀ q, AM g q → (fun q : Nat => s.heap.size ≤ q) q := fun q z => Nat.le_trans hga z.1
  have hAo : (fun q : Nat => s.heap.size ≤ q) ob := hR.tg.a h7 (by decide)
  have hrv : ∃ cell : Cell, H[b0]? = some cell ∧ cell.vm.isStatics = false ∧ s.vm.findClass "Archeloft" = some cell.cls := by
    obtain ⟨y, zq, zy, wo, hC, -⟩ := id hR
    exact x_recv hK hC.2.1.1 rfl
  refine lv_aload_n hx hb dL_law_438 rfl (lv_at hl 3 rfl) ?_
  refine lv_aload_n hx hb dL_law_439 rfl (lv_at hl 4 rfl) ?_
  refine lv_iload hx hb dL_law_440 (lv_at hl 0 rfl) ?_
  refine lv_iconst (v := nI 1) hx hb dL_law_442 (by decide) ?_
  refine y_iadd hx hb dL_law_443 ?_
  refine va_sld hx hb hXs hbl hbA hS (vp_in_nI (n := (5 * k) + 1) (by omega) (by omega)) dL_law_444 ?_
  refine x_top (y := ((xs (5 * k + 1)))) (by rw [nI_clamp (by omega)]) ?_
  refine lv_aload_n hx hb dL_law_445 rfl (lv_at hl 4 rfl) ?_
  refine lv_iload hx hb dL_law_446 (lv_at hl 0 rfl) ?_
  refine lv_iconst (v := nI 2) hx hb dL_law_448 (by decide) ?_
  refine y_iadd hx hb dL_law_449 ?_
  refine va_sld hx hb hXs hbl hbA hS (vp_in_nI (n := (5 * k) + 2) (by omega) (by omega)) dL_law_450 ?_
  refine x_top (y := ((xs (5 * k + 2)))) (by rw [nI_clamp (by omega)]) ?_
  refine lv_aload_n hx hb dL_law_451 rfl (lv_at hl 4 rfl) ?_
  refine lv_iload hx hb dL_law_452 (lv_at hl 0 rfl) ?_
  refine lv_iconst (v := nI 3) hx hb dL_law_454 (by decide) ?_
  refine y_iadd hx hb dL_law_455 ?_
  refine va_sld hx hb hXs hbl hbA hS (vp_in_nI (n := (5 * k) + 3) (by omega) (by omega)) dL_law_456 ?_
  refine x_top (y := ((xs (5 * k + 3)))) (by rw [nI_clamp (by omega)]) ?_
  refine lv_aload_n hx hb dL_law_457 rfl (lv_at hl 1 rfl) ?_
  refine k_iN (k_SW (As := [.ref b0, .int ((xs (5 * k + 1))), .int ((xs (5 * k + 2))), .int ((xs (5 * k + 3))), .ref ob]) (rest := []) ⟨hx, hb, hml, hown, hts⟩ hev hS (c_L_add l hst hR hI (xs (5 * k + 1)) (xs (5 * k + 2)) (xs (5 * k + 3)) hob h7 hAo) (vx_cwSW 5 hts gL_law_L_add rfl rfl rfl (by decide +kernel) ⟨Nat.le_of_ble_eq_true rfl, Nat.le_of_ble_eq_true rfl⟩) rfl hl.1 (Nat.le_of_ble_eq_true rfl) dL_law_458 (by show _ ≤ (601024 : Nat); omega) (by show _ ≤ (7293034 : Nat); omega)) hS (fun r1_ H1 locs1 hP hz1 hS => ?_)
  obtain ⟨⟨er, ho4⟩, ⟨f1, hob1, hf1⟩, tg1, hR1, tx, fr⟩ := hP
  have hM1 := LI.rm hM h8 hsz fr
  have t7 := (tx ob hob.lt).trans h7
  have t8 := LI.t8 h8 tx hsz
  refine x_top (y := (nI ((oAdd M (xs (5 * k + 1)) (xs (5 * k + 2)) (xs (5 * k + 3))).1))) (er) ?_
  refine lv_istore (lv' := [(5, .int (nI ((oAdd M (xs (5 * k + 1)) (xs (5 * k + 2)) (xs (5 * k + 3))).1))), (4, .int (nI (5 * k))), (3, .ref ob), (2, .ref g), (1, .ref b0), (0, .ref b)]) hx hb dL_law_461 hl (by decide) rfl (fun ls hl => ?_)
  refine lv_aload_n hx hb dL_law_463 rfl (lv_at hl 3 rfl) ?_
  refine lv_aload_n hx hb dL_law_464 rfl (lv_at hl 5 rfl) ?_
  refine lv_iload hx hb dL_law_465 (lv_at hl 1 rfl) ?_
  refine lv_iconst (v := nI 1) hx hb dL_law_467 (by decide) ?_
  refine y_iadd hx hb dL_law_468 ?_
  refine va_sld hx hb hXs hbl hbA hS (vp_in_nI (n := (5 * k) + 1) (by omega) (by omega)) dL_law_469 ?_
  refine x_top (y := ((xs (5 * k + 1)))) (by rw [nI_clamp (by omega)]) ?_
  refine lv_aload_n hx hb dL_law_470 rfl (lv_at hl 5 rfl) ?_
  refine lv_iload hx hb dL_law_471 (lv_at hl 1 rfl) ?_
  refine lv_iconst (v := nI 2) hx hb dL_law_473 (by decide) ?_
  refine y_iadd hx hb dL_law_474 ?_
  refine va_sld hx hb hXs hbl hbA hS (vp_in_nI (n := (5 * k) + 2) (by omega) (by omega)) dL_law_475 ?_
  refine x_top (y := ((xs (5 * k + 2)))) (by rw [nI_clamp (by omega)]) ?_
  refine lv_aload_n hx hb dL_law_476 rfl (lv_at hl 5 rfl) ?_
  refine lv_iload hx hb dL_law_477 (lv_at hl 1 rfl) ?_
  refine lv_iconst (v := nI 3) hx hb dL_law_479 (by decide) ?_
  refine y_iadd hx hb dL_law_480 ?_
  refine va_sld hx hb hXs hbl hbA hS (vp_in_nI (n := (5 * k) + 3) (by omega) (by omega)) dL_law_481 ?_
  refine x_top (y := ((xs (5 * k + 3)))) (by rw [nI_clamp (by omega)]) ?_
  have hsz1 : g + 23 ≤ H1.size := by have := fr.1; omega
  refine k_iA (k_VA (As := [.int ((xs (5 * k + 1))), .int ((xs (5 * k + 2))), .int ((xs (5 * k + 3)))]) (rest := []) ⟨hx, hb, hml, hown, hts⟩ hev hS hAM (c_X7_add l hM1 hr hI (xs (5 * k + 1)) (xs (5 * k + 2)) (xs (5 * k + 3))) (cwV 3 hts gL_law_X7_add rfl rfl rfl (by decide +kernel) ⟨Nat.le_of_ble_eq_true rfl, Nat.le_of_ble_eq_true rfl⟩) (x_recv hK hM1.1 rfl) rfl hl.1 (Nat.le_of_ble_eq_true rfl) dL_law_482 (by show _ ≤ (601024 : Nat); omega) (by show _ ≤ (7293034 : Nat); omega)) hS hAM (fun r2_ H2 locs2 hP hz2 hk2 hS => ?_)
  obtain ⟨S2, Y2, hM2, hr2, h02, hv2⟩ := hP
  have hI2 : Inv (800 * (k + 1)) (oAdd M (xs (5 * k + 1)) (xs (5 * k + 2)) (xs (5 * k + 3))).2.2 := (i_add hI (xs (5 * k + 1)) (xs (5 * k + 2)) (xs (5 * k + 3))).mono (by omega) (by omega)
  refine W.widen (k := 125 + 281 * k + 7) (n := 3599 + 5166 * k + 129) (Nat.le_refl _) (Nat.le_refl _) ?_
  have hLI2 := LI.st hR1 hM2 hr2 hI2 hob1 t7 t8 hz2 hk2 hsz1
  have hob2 := hob1.kept (hk2 ob hob1.lt (fun z => by have := t8 ob z.1 z.2; omega))
  refine lv_istore (lv' := [(6, .int r2_), (5, .int (nI ((oAdd M (xs (5 * k + 1)) (xs (5 * k + 2)) (xs (5 * k + 3))).1))), (4, .int (nI (5 * k))), (3, .ref ob), (2, .ref g), (1, .ref b0), (0, .ref b)]) hx hb dL_law_485 hl (by decide) rfl (fun ls hl => ?_)
  refine lv_aload_n hx hb dL_law_487 rfl (lv_at hl 4 rfl) ?_
  refine k_iA (k_VA (As := []) (rest := []) ⟨hx, hb, hml, hown, hts⟩ hev hS hAM (c_X7_thrown l hM2) (cwV 0 hts gL_law_X7_thrown rfl rfl rfl (by decide +kernel) ⟨Nat.le_of_ble_eq_true rfl, Nat.le_of_ble_eq_true rfl⟩) (x_recv hK hM2.1 rfl) rfl hl.1 (Nat.le_of_ble_eq_true rfl) dL_law_488 (by show _ ≤ (601024 : Nat); omega) (by show _ ≤ (7293034 : Nat); omega)) hS hAM (fun r3_ H3 locs3 hP hz3 hk3 hS => ?_)
  obtain ⟨eH, er2⟩ := hP
  have eH := eH.symm
  subst eH
  refine W.widen (k := 125 + 281 * k + 7) (n := 3599 + 5166 * k + 129) (Nat.le_refl _) (Nat.le_refl _) ?_
  refine x_top (y := (nI ((oAdd M (xs (5 * k + 1)) (xs (5 * k + 2)) (xs (5 * k + 3))).1))) (er2.trans h02) ?_
  refine lv_iload hx hb dL_law_491 (lv_at hl 1 rfl) ?_
  refine y_icmp_eq hx hb (by omega) (by omega) (tgt := 498) dL_law_493 (by decide) (fun c493 => ?_) (fun c493 => ?_)
  · refine lv_iload hx hb dL_law_498 (lv_at hl 1 rfl) ?_
    refine y_if_ne hx hb (by omega) (tgt := 515) dL_law_500 (by decide) (fun c500 => ?_) (fun c500 => ?_)
    · refine lv_goto (tgt := 1865) hx hb dL_law_515 (by decide) ?_
      refine W.widen (k := 125 + 281 * (k + 1)) (n := 3599 + 5166 * (k + 1)) (by omega) (by omega) ?_
      exact hnext _ _ _ ls hLI2 hS (lv_sub hl [2, 3, 4, 5, 6] rfl)
    · have c0_ : (oAdd M (xs (5 * k + 1)) (xs (5 * k + 2)) (xs (5 * k + 3))).1 = 0 := c500
      refine lv_aload_n hx hb dL_law_503 rfl (lv_at hl 3 rfl) ?_
      refine lv_iconst (v := nI 0) hx hb dL_law_504 (by decide) ?_
      refine x_lald (i := 0) hx hb hK hob2 (by decide) (by decide) dL_law_505 ?_
      refine lv_iload hx hb dL_law_506 (lv_at hl 0 rfl) ?_
      refine lv_i2l (v := r2_.toInt64) hx hb dL_law_508 rfl ?_
      refine lv_lcmpE hx hb (by rw [hf1 c0_, hv2 c0_]) dL_law_509 ?_
      refine y_if_eq hx hb (by decide) (tgt := 515) dL_law_510 (by decide) (fun c510 => ?_) (fun c510 => ?_)
      · refine lv_goto (tgt := 1865) hx hb dL_law_515 (by decide) ?_
        refine W.widen (k := 125 + 281 * (k + 1)) (n := 3599 + 5166 * (k + 1)) (by omega) (by omega) ?_
        exact hnext _ _ _ ls hLI2 hS (lv_sub hl [2, 3, 4, 5, 6] rfl)
      · exact absurd c510 (by decide)
  · exact absurd rfl c493
set_option maxHeartbeats 4000000 in
set_option maxRecDepth 100000 in
theorem law_c7 {p : Program} {l : Launch} {e : Env} {s : State} {m : MethodId} {below : List Frame} {meth : Method} {c : Code} {Q : State → Prop} {b L : Nat} {xs : Nat → Int32} {D : va_G} {T : Nat → ClassId} {dE mi b0 g ob : Nat} (hst : l.stackTraces = false) (hx : p.tables.exec = Jvm.exec) (hb : c.code = cL_law) (hml : c.maxLocals = 7) (hown : s.vm.findClass RL = some m.cls) (hts : ∀ w ∈ wsL_law, w.before #[Value.ref b] s = true) (hXs : va_X b L xs s s.heap) (hbl : b < s.heap.size) (hev : EV D T dE mi (fun q : Nat => s.heap.size ≤ q) s) (hga : s.heap.size ≤ g) (hL : L ≤ 2560) {k : Nat} (hk : 5 * k + 5 ≤ L) {H : Heap} {locs : List Loc} {M : mSt} (hLI : LI D T dE b0 g ob (fun q : Nat => s.heap.size ≤ q) H M k) (hS : va_S (fun q : Nat => s.heap.size ≤ q) s.heap H locs) {ls : Array Slot} (hl : lv_has ls 7 [(4, .int (nI (5 * k))), (3, .ref ob), (2, .ref g), (1, .ref b0), (0, .ref b)])
    (hnext : ∀ (H1 : Heap) (locs1 : List Loc) (M1 : mSt) (ls1 : Array Slot), LI D T dE b0 g ob (fun q : Nat => s.heap.size ≤ q) H1 M1 (k + 1) → va_S (fun q : Nat => s.heap.size ≤ q) s.heap H1 locs1 → lv_has ls1 7 [(4, .int (nI (5 * k))), (3, .ref ob), (2, .ref g), (1, .ref b0), (0, .ref b)] → W p l e room_1 s m #[Value.ref b] below meth c H1 locs1 (125 + 281 * (k + 1)) (3599 + 5166 * (k + 1)) Q (F0 m 1865 ls1 [])) : W p l e room_1 s m #[Value.ref b] below meth c H locs (125 + 281 * k) (3599 + 5166 * k) Q (F0 m 518 ls []) := by
  obtain ⟨tg, S, Y, f, hR, hM, hr, hI, hob, h7, h8, hsz⟩ := id hLI
  have hK := hev.1
  have hbA : ¬ (fun q : Nat => s.heap.size ≤ q) b := Nat.not_le.mpr hbl
  have hAM : ∀ q, AM g q → (fun q : Nat => s.heap.size ≤ q) q := fun q z => Nat.le_trans hga z.1
  have hAo : (fun q : Nat => s.heap.size ≤ q) ob := hR.tg.a h7 (by decide)
  have hrv : ∃ cell : Cell, H[b0]? = some cell ∧ cell.vm.isStatics = false ∧ s.vm.findClass "Archeloft" = some cell.cls := by
    obtain ⟨y, zq, zy, wo, hC, -⟩ := id hR
    exact x_recv hK hC.2.1.1 rfl
  refine lv_aload_n hx hb dL_law_518 rfl (lv_at hl 3 rfl) ?_
  refine lv_aload_n hx hb dL_law_519 rfl (lv_at hl 4 rfl) ?_
  refine lv_iload hx hb dL_law_520 (lv_at hl 0 rfl) ?_
  refine lv_iconst (v := nI 1) hx hb dL_law_522 (by decide) ?_
  refine y_iadd hx hb dL_law_523 ?_
  refine va_sld hx hb hXs hbl hbA hS (vp_in_nI (n := (5 * k) + 1) (by omega) (by omega)) dL_law_524 ?_
  refine x_top (y := ((xs (5 * k + 1)))) (by rw [nI_clamp (by omega)]) ?_
  refine lv_aload_n hx hb dL_law_525 rfl (lv_at hl 4 rfl) ?_
  refine lv_iload hx hb dL_law_526 (lv_at hl 0 rfl) ?_
  refine lv_iconst (v := nI 2) hx hb dL_law_528 (by decide) ?_
  refine y_iadd hx hb dL_law_529 ?_
  refine va_sld hx hb hXs hbl hbA hS (vp_in_nI (n := (5 * k) + 2) (by omega) (by omega)) dL_law_530 ?_
  refine x_top (y := ((xs (5 * k + 2)))) (by rw [nI_clamp (by omega)]) ?_
  refine lv_aload_n hx hb dL_law_531 rfl (lv_at hl 1 rfl) ?_
  refine k_iN (k_SW (As := [.ref b0, .int ((xs (5 * k + 1))), .int ((xs (5 * k + 2))), .ref ob]) (rest := []) ⟨hx, hb, hml, hown, hts⟩ hev hS (c_L_take l hst hR hI (xs (5 * k + 1)) (xs (5 * k + 2)) hob h7 hAo) (vx_cwSW 4 hts gL_law_L_take rfl rfl rfl (by decide +kernel) ⟨Nat.le_of_ble_eq_true rfl, Nat.le_of_ble_eq_true rfl⟩) rfl hl.1 (Nat.le_of_ble_eq_true rfl) dL_law_532 (by show _ ≤ (601024 : Nat); omega) (by show _ ≤ (7293034 : Nat); omega)) hS (fun r1_ H1 locs1 hP hz1 hS => ?_)
  obtain ⟨⟨er, ho4⟩, ⟨f1, hob1, hf1⟩, tg1, hR1, tx, fr⟩ := hP
  have hM1 := LI.rm hM h8 hsz fr
  have t7 := (tx ob hob.lt).trans h7
  have t8 := LI.t8 h8 tx hsz
  refine x_top (y := (nI ((oTake M (xs (5 * k + 1)) (xs (5 * k + 2))).1))) (er) ?_
  refine lv_istore (lv' := [(5, .int (nI ((oTake M (xs (5 * k + 1)) (xs (5 * k + 2))).1))), (4, .int (nI (5 * k))), (3, .ref ob), (2, .ref g), (1, .ref b0), (0, .ref b)]) hx hb dL_law_535 hl (by decide) rfl (fun ls hl => ?_)
  refine lv_aload_n hx hb dL_law_537 rfl (lv_at hl 3 rfl) ?_
  refine lv_aload_n hx hb dL_law_538 rfl (lv_at hl 5 rfl) ?_
  refine lv_iload hx hb dL_law_539 (lv_at hl 1 rfl) ?_
  refine lv_iconst (v := nI 1) hx hb dL_law_541 (by decide) ?_
  refine y_iadd hx hb dL_law_542 ?_
  refine va_sld hx hb hXs hbl hbA hS (vp_in_nI (n := (5 * k) + 1) (by omega) (by omega)) dL_law_543 ?_
  refine x_top (y := ((xs (5 * k + 1)))) (by rw [nI_clamp (by omega)]) ?_
  refine lv_aload_n hx hb dL_law_544 rfl (lv_at hl 5 rfl) ?_
  refine lv_iload hx hb dL_law_545 (lv_at hl 1 rfl) ?_
  refine lv_iconst (v := nI 2) hx hb dL_law_547 (by decide) ?_
  refine y_iadd hx hb dL_law_548 ?_
  refine va_sld hx hb hXs hbl hbA hS (vp_in_nI (n := (5 * k) + 2) (by omega) (by omega)) dL_law_549 ?_
  refine x_top (y := ((xs (5 * k + 2)))) (by rw [nI_clamp (by omega)]) ?_
  have hsz1 : g + 23 ≤ H1.size := by have := fr.1; omega
  refine k_iA (k_VA (As := [.int ((xs (5 * k + 1))), .int ((xs (5 * k + 2)))]) (rest := []) ⟨hx, hb, hml, hown, hts⟩ hev hS hAM (c_X7_take l hM1 hr hI (xs (5 * k + 1)) (xs (5 * k + 2))) (cwV 2 hts gL_law_X7_take rfl rfl rfl (by decide +kernel) ⟨Nat.le_of_ble_eq_true rfl, Nat.le_of_ble_eq_true rfl⟩) (x_recv hK hM1.1 rfl) rfl hl.1 (Nat.le_of_ble_eq_true rfl) dL_law_550 (by show _ ≤ (601024 : Nat); omega) (by show _ ≤ (7293034 : Nat); omega)) hS hAM (fun r2_ H2 locs2 hP hz2 hk2 hS => ?_)
  obtain ⟨S2, Y2, hM2, hr2, h02, hv2⟩ := hP
  have hI2 : Inv (800 * (k + 1)) (oTake M (xs (5 * k + 1)) (xs (5 * k + 2))).2.2 := (i_take hI (xs (5 * k + 1)) (xs (5 * k + 2))).mono (by omega) (by omega)
  refine W.widen (k := 125 + 281 * k + 8) (n := 3599 + 5166 * k + 135) (Nat.le_refl _) (Nat.le_refl _) ?_
  have hLI2 := LI.st hR1 hM2 hr2 hI2 hob1 t7 t8 hz2 hk2 hsz1
  have hob2 := hob1.kept (hk2 ob hob1.lt (fun z => by have := t8 ob z.1 z.2; omega))
  refine lv_istore (lv' := [(6, .int r2_), (5, .int (nI ((oTake M (xs (5 * k + 1)) (xs (5 * k + 2))).1))), (4, .int (nI (5 * k))), (3, .ref ob), (2, .ref g), (1, .ref b0), (0, .ref b)]) hx hb dL_law_553 hl (by decide) rfl (fun ls hl => ?_)
  refine lv_aload_n hx hb dL_law_555 rfl (lv_at hl 4 rfl) ?_
  refine k_iA (k_VA (As := []) (rest := []) ⟨hx, hb, hml, hown, hts⟩ hev hS hAM (c_X7_thrown l hM2) (cwV 0 hts gL_law_X7_thrown rfl rfl rfl (by decide +kernel) ⟨Nat.le_of_ble_eq_true rfl, Nat.le_of_ble_eq_true rfl⟩) (x_recv hK hM2.1 rfl) rfl hl.1 (Nat.le_of_ble_eq_true rfl) dL_law_556 (by show _ ≤ (601024 : Nat); omega) (by show _ ≤ (7293034 : Nat); omega)) hS hAM (fun r3_ H3 locs3 hP hz3 hk3 hS => ?_)
  obtain ⟨eH, er2⟩ := hP
  have eH := eH.symm
  subst eH
  refine W.widen (k := 125 + 281 * k + 8) (n := 3599 + 5166 * k + 135) (Nat.le_refl _) (Nat.le_refl _) ?_
  refine x_top (y := (nI ((oTake M (xs (5 * k + 1)) (xs (5 * k + 2))).1))) (er2.trans h02) ?_
  refine lv_iload hx hb dL_law_559 (lv_at hl 1 rfl) ?_
  refine y_icmp_eq hx hb (by omega) (by omega) (tgt := 566) dL_law_561 (by decide) (fun c561 => ?_) (fun c561 => ?_)
  · refine lv_iload hx hb dL_law_566 (lv_at hl 1 rfl) ?_
    refine y_if_ne hx hb (by omega) (tgt := 583) dL_law_568 (by decide) (fun c568 => ?_) (fun c568 => ?_)
    · refine lv_goto (tgt := 1865) hx hb dL_law_583 (by decide) ?_
      refine W.widen (k := 125 + 281 * (k + 1)) (n := 3599 + 5166 * (k + 1)) (by omega) (by omega) ?_
      exact hnext _ _ _ ls hLI2 hS (lv_sub hl [2, 3, 4, 5, 6] rfl)
    · have c0_ : (oTake M (xs (5 * k + 1)) (xs (5 * k + 2))).1 = 0 := c568
      refine lv_aload_n hx hb dL_law_571 rfl (lv_at hl 3 rfl) ?_
      refine lv_iconst (v := nI 0) hx hb dL_law_572 (by decide) ?_
      refine x_lald (i := 0) hx hb hK hob2 (by decide) (by decide) dL_law_573 ?_
      refine lv_iload hx hb dL_law_574 (lv_at hl 0 rfl) ?_
      refine lv_i2l (v := r2_.toInt64) hx hb dL_law_576 rfl ?_
      refine lv_lcmpE hx hb (by rw [hf1 c0_, hv2 c0_]) dL_law_577 ?_
      refine y_if_eq hx hb (by decide) (tgt := 583) dL_law_578 (by decide) (fun c578 => ?_) (fun c578 => ?_)
      · refine lv_goto (tgt := 1865) hx hb dL_law_583 (by decide) ?_
        refine W.widen (k := 125 + 281 * (k + 1)) (n := 3599 + 5166 * (k + 1)) (by omega) (by omega) ?_
        exact hnext _ _ _ ls hLI2 hS (lv_sub hl [2, 3, 4, 5, 6] rfl)
      · exact absurd c578 (by decide)
  · exact absurd rfl c561
set_option maxHeartbeats 4000000 in
set_option maxRecDepth 100000 in
theorem law_c8 {p : Program} {l : Launch} {e : Env} {s : State} {m : MethodId} {below : List Frame} {meth : Method} {c : Code} {Q : State → Prop} {b L : Nat} {xs : Nat → Int32} {D : va_G} {T : Nat → ClassId} {dE mi b0 g ob : Nat} (hst : l.stackTraces = false) (hx : p.tables.exec = Jvm.exec) (hb : c.code = cL_law) (hml : c.maxLocals = 7) (hown : s.vm.findClass RL = some m.cls) (hts : ∀ w ∈ wsL_law, w.before #[Value.ref b] s = true) (hXs : va_X b L xs s s.heap) (hbl : b < s.heap.size) (hev : EV D T dE mi (fun q : Nat => s.heap.size ≤ q) s) (hga : s.heap.size ≤ g) (hL : L ≤ 2560) {k : Nat} (hk : 5 * k + 5 ≤ L) {H : Heap} {locs : List Loc} {M : mSt} (hLI : LI D T dE b0 g ob (fun q : Nat => s.heap.size ≤ q) H M k) (hS : va_S (fun q : Nat => s.heap.size ≤ q) s.heap H locs) {ls : Array Slot} (hl : lv_has ls 7 [(4, .int (nI (5 * k))), (3, .ref ob), (2, .ref g), (1, .ref b0), (0, .ref b)])
    (hnext : ∀ (H1 : Heap) (locs1 : List Loc) (M1 : mSt) (ls1 : Array Slot), LI D T dE b0 g ob (fun q : Nat => s.heap.size ≤ q) H1 M1 (k + 1) → va_S (fun q : Nat => s.heap.size ≤ q) s.heap H1 locs1 → lv_has ls1 7 [(4, .int (nI (5 * k))), (3, .ref ob), (2, .ref g), (1, .ref b0), (0, .ref b)] → W p l e room_1 s m #[Value.ref b] below meth c H1 locs1 (125 + 281 * (k + 1)) (3599 + 5166 * (k + 1)) Q (F0 m 1865 ls1 [])) : W p l e room_1 s m #[Value.ref b] below meth c H locs (125 + 281 * k) (3599 + 5166 * k) Q (F0 m 586 ls []) := by
  obtain ⟨tg, S, Y, f, hR, hM, hr, hI, hob, h7, h8, hsz⟩ := id hLI
  have hK := hev.1
  have hbA : ¬ (fun q : Nat => s.heap.size ≤ q) b := Nat.not_le.mpr hbl
  have hAM : ∀ q, AM g q → (fun q : Nat => s.heap.size ≤ q) q := fun q z => Nat.le_trans hga z.1
  have hAo : (fun q : Nat => s.heap.size ≤ q) ob := hR.tg.a h7 (by decide)
  have hrv : ∃ cell : Cell, H[b0]? = some cell ∧ cell.vm.isStatics = false ∧ s.vm.findClass "Archeloft" = some cell.cls := by
    obtain ⟨y, zq, zy, wo, hC, -⟩ := id hR
    exact x_recv hK hC.2.1.1 rfl
  refine lv_aload_n hx hb dL_law_586 rfl (lv_at hl 3 rfl) ?_
  refine lv_aload_n hx hb dL_law_587 rfl (lv_at hl 4 rfl) ?_
  refine lv_iload hx hb dL_law_588 (lv_at hl 0 rfl) ?_
  refine lv_iconst (v := nI 1) hx hb dL_law_590 (by decide) ?_
  refine y_iadd hx hb dL_law_591 ?_
  refine va_sld hx hb hXs hbl hbA hS (vp_in_nI (n := (5 * k) + 1) (by omega) (by omega)) dL_law_592 ?_
  refine x_top (y := ((xs (5 * k + 1)))) (by rw [nI_clamp (by omega)]) ?_
  refine lv_aload_n hx hb dL_law_593 rfl (lv_at hl 4 rfl) ?_
  refine lv_iload hx hb dL_law_594 (lv_at hl 0 rfl) ?_
  refine lv_iconst (v := nI 2) hx hb dL_law_596 (by decide) ?_
  refine y_iadd hx hb dL_law_597 ?_
  refine va_sld hx hb hXs hbl hbA hS (vp_in_nI (n := (5 * k) + 2) (by omega) (by omega)) dL_law_598 ?_
  refine x_top (y := ((xs (5 * k + 2)))) (by rw [nI_clamp (by omega)]) ?_
  refine lv_aload_n hx hb dL_law_599 rfl (lv_at hl 4 rfl) ?_
  refine lv_iload hx hb dL_law_600 (lv_at hl 0 rfl) ?_
  refine lv_iconst (v := nI 3) hx hb dL_law_602 (by decide) ?_
  refine y_iadd hx hb dL_law_603 ?_
  refine va_sld hx hb hXs hbl hbA hS (vp_in_nI (n := (5 * k) + 3) (by omega) (by omega)) dL_law_604 ?_
  refine x_top (y := ((xs (5 * k + 3)))) (by rw [nI_clamp (by omega)]) ?_
  refine lv_aload_n hx hb dL_law_605 rfl (lv_at hl 1 rfl) ?_
  refine k_iN (k_SW (As := [.ref b0, .int ((xs (5 * k + 1))), .int ((xs (5 * k + 2))), .int ((xs (5 * k + 3))), .ref ob]) (rest := []) ⟨hx, hb, hml, hown, hts⟩ hev hS (c_L_set l hst hR hI (xs (5 * k + 1)) (xs (5 * k + 2)) (xs (5 * k + 3)) hob h7 hAo) (vx_cwSW 5 hts gL_law_L_set rfl rfl rfl (by decide +kernel) ⟨Nat.le_of_ble_eq_true rfl, Nat.le_of_ble_eq_true rfl⟩) rfl hl.1 (Nat.le_of_ble_eq_true rfl) dL_law_606 (by show _ ≤ (601024 : Nat); omega) (by show _ ≤ (7293034 : Nat); omega)) hS (fun r1_ H1 locs1 hP hz1 hS => ?_)
  obtain ⟨⟨er, ho4⟩, ⟨f1, hob1, hf1⟩, tg1, hR1, tx, fr⟩ := hP
  have hM1 := LI.rm hM h8 hsz fr
  have t7 := (tx ob hob.lt).trans h7
  have t8 := LI.t8 h8 tx hsz
  refine x_top (y := (nI ((oSet M (xs (5 * k + 1)) (xs (5 * k + 2)) (xs (5 * k + 3))).1))) (er) ?_
  refine lv_istore (lv' := [(5, .int (nI ((oSet M (xs (5 * k + 1)) (xs (5 * k + 2)) (xs (5 * k + 3))).1))), (4, .int (nI (5 * k))), (3, .ref ob), (2, .ref g), (1, .ref b0), (0, .ref b)]) hx hb dL_law_609 hl (by decide) rfl (fun ls hl => ?_)
  refine lv_aload_n hx hb dL_law_611 rfl (lv_at hl 3 rfl) ?_
  refine lv_aload_n hx hb dL_law_612 rfl (lv_at hl 5 rfl) ?_
  refine lv_iload hx hb dL_law_613 (lv_at hl 1 rfl) ?_
  refine lv_iconst (v := nI 1) hx hb dL_law_615 (by decide) ?_
  refine y_iadd hx hb dL_law_616 ?_
  refine va_sld hx hb hXs hbl hbA hS (vp_in_nI (n := (5 * k) + 1) (by omega) (by omega)) dL_law_617 ?_
  refine x_top (y := ((xs (5 * k + 1)))) (by rw [nI_clamp (by omega)]) ?_
  refine lv_aload_n hx hb dL_law_618 rfl (lv_at hl 5 rfl) ?_
  refine lv_iload hx hb dL_law_619 (lv_at hl 1 rfl) ?_
  refine lv_iconst (v := nI 2) hx hb dL_law_621 (by decide) ?_
  refine y_iadd hx hb dL_law_622 ?_
  refine va_sld hx hb hXs hbl hbA hS (vp_in_nI (n := (5 * k) + 2) (by omega) (by omega)) dL_law_623 ?_
  refine x_top (y := ((xs (5 * k + 2)))) (by rw [nI_clamp (by omega)]) ?_
  refine lv_aload_n hx hb dL_law_624 rfl (lv_at hl 5 rfl) ?_
  refine lv_iload hx hb dL_law_625 (lv_at hl 1 rfl) ?_
  refine lv_iconst (v := nI 3) hx hb dL_law_627 (by decide) ?_
  refine y_iadd hx hb dL_law_628 ?_
  refine va_sld hx hb hXs hbl hbA hS (vp_in_nI (n := (5 * k) + 3) (by omega) (by omega)) dL_law_629 ?_
  refine x_top (y := ((xs (5 * k + 3)))) (by rw [nI_clamp (by omega)]) ?_
  have hsz1 : g + 23 ≤ H1.size := by have := fr.1; omega
  refine k_iA (k_VA (As := [.int ((xs (5 * k + 1))), .int ((xs (5 * k + 2))), .int ((xs (5 * k + 3)))]) (rest := []) ⟨hx, hb, hml, hown, hts⟩ hev hS hAM (c_X7_set l hM1 hr hI (xs (5 * k + 1)) (xs (5 * k + 2)) (xs (5 * k + 3))) (cwV 3 hts gL_law_X7_set rfl rfl rfl (by decide +kernel) ⟨Nat.le_of_ble_eq_true rfl, Nat.le_of_ble_eq_true rfl⟩) (x_recv hK hM1.1 rfl) rfl hl.1 (Nat.le_of_ble_eq_true rfl) dL_law_630 (by show _ ≤ (601024 : Nat); omega) (by show _ ≤ (7293034 : Nat); omega)) hS hAM (fun r2_ H2 locs2 hP hz2 hk2 hS => ?_)
  obtain ⟨S2, Y2, hM2, hr2, h02, hv2⟩ := hP
  have hI2 : Inv (800 * (k + 1)) (oSet M (xs (5 * k + 1)) (xs (5 * k + 2)) (xs (5 * k + 3))).2.2 := (i_set hI (xs (5 * k + 1)) (xs (5 * k + 2)) (xs (5 * k + 3))).mono (by omega) (by omega)
  refine W.widen (k := 125 + 281 * k + 3) (n := 3599 + 5166 * k + 18) (Nat.le_refl _) (Nat.le_refl _) ?_
  have hLI2 := LI.st hR1 hM2 hr2 hI2 hob1 t7 t8 hz2 hk2 hsz1
  have hob2 := hob1.kept (hk2 ob hob1.lt (fun z => by have := t8 ob z.1 z.2; omega))
  refine lv_istore (lv' := [(6, .int r2_), (5, .int (nI ((oSet M (xs (5 * k + 1)) (xs (5 * k + 2)) (xs (5 * k + 3))).1))), (4, .int (nI (5 * k))), (3, .ref ob), (2, .ref g), (1, .ref b0), (0, .ref b)]) hx hb dL_law_633 hl (by decide) rfl (fun ls hl => ?_)
  refine lv_aload_n hx hb dL_law_635 rfl (lv_at hl 4 rfl) ?_
  refine k_iA (k_VA (As := []) (rest := []) ⟨hx, hb, hml, hown, hts⟩ hev hS hAM (c_X7_thrown l hM2) (cwV 0 hts gL_law_X7_thrown rfl rfl rfl (by decide +kernel) ⟨Nat.le_of_ble_eq_true rfl, Nat.le_of_ble_eq_true rfl⟩) (x_recv hK hM2.1 rfl) rfl hl.1 (Nat.le_of_ble_eq_true rfl) dL_law_636 (by show _ ≤ (601024 : Nat); omega) (by show _ ≤ (7293034 : Nat); omega)) hS hAM (fun r3_ H3 locs3 hP hz3 hk3 hS => ?_)
  obtain ⟨eH, er2⟩ := hP
  have eH := eH.symm
  subst eH
  refine W.widen (k := 125 + 281 * k + 3) (n := 3599 + 5166 * k + 18) (Nat.le_refl _) (Nat.le_refl _) ?_
  refine x_top (y := (nI ((oSet M (xs (5 * k + 1)) (xs (5 * k + 2)) (xs (5 * k + 3))).1))) (er2.trans h02) ?_
  refine lv_iload hx hb dL_law_639 (lv_at hl 1 rfl) ?_
  refine y_icmp_eq hx hb (by omega) (by omega) (tgt := 646) dL_law_641 (by decide) (fun c641 => ?_) (fun c641 => ?_)
  · refine lv_iload hx hb dL_law_646 (lv_at hl 1 rfl) ?_
    refine y_if_ne hx hb (by omega) (tgt := 663) dL_law_648 (by decide) (fun c648 => ?_) (fun c648 => ?_)
    · refine lv_goto (tgt := 1865) hx hb dL_law_663 (by decide) ?_
      refine W.widen (k := 125 + 281 * (k + 1)) (n := 3599 + 5166 * (k + 1)) (by omega) (by omega) ?_
      exact hnext _ _ _ ls hLI2 hS (lv_sub hl [2, 3, 4, 5, 6] rfl)
    · have c0_ : (oSet M (xs (5 * k + 1)) (xs (5 * k + 2)) (xs (5 * k + 3))).1 = 0 := c648
      refine lv_aload_n hx hb dL_law_651 rfl (lv_at hl 3 rfl) ?_
      refine lv_iconst (v := nI 0) hx hb dL_law_652 (by decide) ?_
      refine x_lald (i := 0) hx hb hK hob2 (by decide) (by decide) dL_law_653 ?_
      refine lv_iload hx hb dL_law_654 (lv_at hl 0 rfl) ?_
      refine lv_i2l (v := r2_.toInt64) hx hb dL_law_656 rfl ?_
      refine lv_lcmpE hx hb (by rw [hf1 c0_, hv2 c0_]) dL_law_657 ?_
      refine y_if_eq hx hb (by decide) (tgt := 663) dL_law_658 (by decide) (fun c658 => ?_) (fun c658 => ?_)
      · refine lv_goto (tgt := 1865) hx hb dL_law_663 (by decide) ?_
        refine W.widen (k := 125 + 281 * (k + 1)) (n := 3599 + 5166 * (k + 1)) (by omega) (by omega) ?_
        exact hnext _ _ _ ls hLI2 hS (lv_sub hl [2, 3, 4, 5, 6] rfl)
      · exact absurd c658 (by decide)
  · exact absurd rfl c641
set_option maxHeartbeats 4000000 in
set_option maxRecDepth 100000 in
theorem law_c9 {p : Program} {l : Launch} {e : Env} {s : State} {m : MethodId} {below : List Frame} {meth : Method} {c : Code} {Q : State → Prop} {b L : Nat} {xs : Nat → Int32} {D : va_G} {T : Nat → ClassId} {dE mi b0 g ob : Nat} (hst : l.stackTraces = false) (hx : p.tables.exec = Jvm.exec) (hb : c.code = cL_law) (hml : c.maxLocals = 7) (hown : s.vm.findClass RL = some m.cls) (hts : ∀ w ∈ wsL_law, w.before #[Value.ref b] s = true) (hXs : va_X b L xs s s.heap) (hbl : b < s.heap.size) (hev : EV D T dE mi (fun q : Nat => s.heap.size ≤ q) s) (hga : s.heap.size ≤ g) (hL : L ≤ 2560) {k : Nat} (hk : 5 * k + 5 ≤ L) {H : Heap} {locs : List Loc} {M : mSt} (hLI : LI D T dE b0 g ob (fun q : Nat => s.heap.size ≤ q) H M k) (hS : va_S (fun q : Nat => s.heap.size ≤ q) s.heap H locs) {ls : Array Slot} (hl : lv_has ls 7 [(4, .int (nI (5 * k))), (3, .ref ob), (2, .ref g), (1, .ref b0), (0, .ref b)])
    (hnext : ∀ (H1 : Heap) (locs1 : List Loc) (M1 : mSt) (ls1 : Array Slot), LI D T dE b0 g ob (fun q : Nat => s.heap.size ≤ q) H1 M1 (k + 1) → va_S (fun q : Nat => s.heap.size ≤ q) s.heap H1 locs1 → lv_has ls1 7 [(4, .int (nI (5 * k))), (3, .ref ob), (2, .ref g), (1, .ref b0), (0, .ref b)] → W p l e room_1 s m #[Value.ref b] below meth c H1 locs1 (125 + 281 * (k + 1)) (3599 + 5166 * (k + 1)) Q (F0 m 1865 ls1 [])) : W p l e room_1 s m #[Value.ref b] below meth c H locs (125 + 281 * k) (3599 + 5166 * k) Q (F0 m 666 ls []) := by
  obtain ⟨tg, S, Y, f, hR, hM, hr, hI, hob, h7, h8, hsz⟩ := id hLI
  have hK := hev.1
  have hbA : ¬ (fun q : Nat => s.heap.size ≤ q) b := Nat.not_le.mpr hbl
  have hAM : ∀ q, AM g q → (fun q : Nat => s.heap.size ≤ q) q := fun q z => Nat.le_trans hga z.1
  have hAo : (fun q : Nat => s.heap.size ≤ q) ob := hR.tg.a h7 (by decide)
  have hrv : ∃ cell : Cell, H[b0]? = some cell ∧ cell.vm.isStatics = false ∧ s.vm.findClass "Archeloft" = some cell.cls := by
    obtain ⟨y, zq, zy, wo, hC, -⟩ := id hR
    exact x_recv hK hC.2.1.1 rfl
  refine lv_aload_n hx hb dL_law_666 rfl (lv_at hl 3 rfl) ?_
  refine lv_aload_n hx hb dL_law_667 rfl (lv_at hl 4 rfl) ?_
  refine lv_iload hx hb dL_law_668 (lv_at hl 0 rfl) ?_
  refine lv_iconst (v := nI 1) hx hb dL_law_670 (by decide) ?_
  refine y_iadd hx hb dL_law_671 ?_
  refine va_sld hx hb hXs hbl hbA hS (vp_in_nI (n := (5 * k) + 1) (by omega) (by omega)) dL_law_672 ?_
  refine x_top (y := ((xs (5 * k + 1)))) (by rw [nI_clamp (by omega)]) ?_
  refine lv_aload_n hx hb dL_law_673 rfl (lv_at hl 4 rfl) ?_
  refine lv_iload hx hb dL_law_674 (lv_at hl 0 rfl) ?_
  refine lv_iconst (v := nI 2) hx hb dL_law_676 (by decide) ?_
  refine y_iadd hx hb dL_law_677 ?_
  refine va_sld hx hb hXs hbl hbA hS (vp_in_nI (n := (5 * k) + 2) (by omega) (by omega)) dL_law_678 ?_
  refine x_top (y := ((xs (5 * k + 2)))) (by rw [nI_clamp (by omega)]) ?_
  refine lv_aload_n hx hb dL_law_679 rfl (lv_at hl 1 rfl) ?_
  refine k_iN (k_SW (As := [.ref b0, .int ((xs (5 * k + 1))), .int ((xs (5 * k + 2))), .ref ob]) (rest := []) ⟨hx, hb, hml, hown, hts⟩ hev hS (c_L_value l hst hR hI (xs (5 * k + 1)) (xs (5 * k + 2)) hob h7 hAo) (vx_cwSW 4 hts gL_law_L_value rfl rfl rfl (by decide +kernel) ⟨Nat.le_of_ble_eq_true rfl, Nat.le_of_ble_eq_true rfl⟩) rfl hl.1 (Nat.le_of_ble_eq_true rfl) dL_law_680 (by show _ ≤ (601024 : Nat); omega) (by show _ ≤ (7293034 : Nat); omega)) hS (fun r1_ H1 locs1 hP hz1 hS => ?_)
  obtain ⟨⟨er, ho4⟩, ⟨f1, hob1, hf1⟩, tg1, hR1, tx, fr⟩ := hP
  have hM1 := LI.rm hM h8 hsz fr
  have t7 := (tx ob hob.lt).trans h7
  have t8 := LI.t8 h8 tx hsz
  refine x_top (y := (nI ((oValue M (xs (5 * k + 1)) (xs (5 * k + 2))).1))) (er) ?_
  refine lv_istore (lv' := [(5, .int (nI ((oValue M (xs (5 * k + 1)) (xs (5 * k + 2))).1))), (4, .int (nI (5 * k))), (3, .ref ob), (2, .ref g), (1, .ref b0), (0, .ref b)]) hx hb dL_law_683 hl (by decide) rfl (fun ls hl => ?_)
  refine lv_aload_n hx hb dL_law_685 rfl (lv_at hl 3 rfl) ?_
  refine lv_aload_n hx hb dL_law_686 rfl (lv_at hl 5 rfl) ?_
  refine lv_iload hx hb dL_law_687 (lv_at hl 1 rfl) ?_
  refine lv_iconst (v := nI 1) hx hb dL_law_689 (by decide) ?_
  refine y_iadd hx hb dL_law_690 ?_
  refine va_sld hx hb hXs hbl hbA hS (vp_in_nI (n := (5 * k) + 1) (by omega) (by omega)) dL_law_691 ?_
  refine x_top (y := ((xs (5 * k + 1)))) (by rw [nI_clamp (by omega)]) ?_
  refine lv_aload_n hx hb dL_law_692 rfl (lv_at hl 5 rfl) ?_
  refine lv_iload hx hb dL_law_693 (lv_at hl 1 rfl) ?_
  refine lv_iconst (v := nI 2) hx hb dL_law_695 (by decide) ?_
  refine y_iadd hx hb dL_law_696 ?_
  refine va_sld hx hb hXs hbl hbA hS (vp_in_nI (n := (5 * k) + 2) (by omega) (by omega)) dL_law_697 ?_
  refine x_top (y := ((xs (5 * k + 2)))) (by rw [nI_clamp (by omega)]) ?_
  have hsz1 : g + 23 ≤ H1.size := by have := fr.1; omega
  refine k_iA (k_VA (As := [.int ((xs (5 * k + 1))), .int ((xs (5 * k + 2)))]) (rest := []) ⟨hx, hb, hml, hown, hts⟩ hev hS hAM (c_X7_value l hM1 hr hI (xs (5 * k + 1)) (xs (5 * k + 2))) (cwV 2 hts gL_law_X7_value rfl rfl rfl (by decide +kernel) ⟨Nat.le_of_ble_eq_true rfl, Nat.le_of_ble_eq_true rfl⟩) (x_recv hK hM1.1 rfl) rfl hl.1 (Nat.le_of_ble_eq_true rfl) dL_law_698 (by show _ ≤ (601024 : Nat); omega) (by show _ ≤ (7293034 : Nat); omega)) hS hAM (fun r2_ H2 locs2 hP hz2 hk2 hS => ?_)
  obtain ⟨S2, Y2, hM2, hr2, h02, hv2⟩ := hP
  have hI2 : Inv (800 * (k + 1)) (oValue M (xs (5 * k + 1)) (xs (5 * k + 2))).2.2 := (i_value hI (xs (5 * k + 1)) (xs (5 * k + 2))).mono (by omega) (by omega)
  refine W.widen (k := 125 + 281 * k + 3) (n := 3599 + 5166 * k + 18) (Nat.le_refl _) (Nat.le_refl _) ?_
  have hLI2 := LI.st hR1 hM2 hr2 hI2 hob1 t7 t8 hz2 hk2 hsz1
  have hob2 := hob1.kept (hk2 ob hob1.lt (fun z => by have := t8 ob z.1 z.2; omega))
  refine lv_istore (lv' := [(6, .int r2_), (5, .int (nI ((oValue M (xs (5 * k + 1)) (xs (5 * k + 2))).1))), (4, .int (nI (5 * k))), (3, .ref ob), (2, .ref g), (1, .ref b0), (0, .ref b)]) hx hb dL_law_701 hl (by decide) rfl (fun ls hl => ?_)
  refine lv_aload_n hx hb dL_law_703 rfl (lv_at hl 4 rfl) ?_
  refine k_iA (k_VA (As := []) (rest := []) ⟨hx, hb, hml, hown, hts⟩ hev hS hAM (c_X7_thrown l hM2) (cwV 0 hts gL_law_X7_thrown rfl rfl rfl (by decide +kernel) ⟨Nat.le_of_ble_eq_true rfl, Nat.le_of_ble_eq_true rfl⟩) (x_recv hK hM2.1 rfl) rfl hl.1 (Nat.le_of_ble_eq_true rfl) dL_law_704 (by show _ ≤ (601024 : Nat); omega) (by show _ ≤ (7293034 : Nat); omega)) hS hAM (fun r3_ H3 locs3 hP hz3 hk3 hS => ?_)
  obtain ⟨eH, er2⟩ := hP
  have eH := eH.symm
  subst eH
  refine W.widen (k := 125 + 281 * k + 3) (n := 3599 + 5166 * k + 18) (Nat.le_refl _) (Nat.le_refl _) ?_
  refine x_top (y := (nI ((oValue M (xs (5 * k + 1)) (xs (5 * k + 2))).1))) (er2.trans h02) ?_
  refine lv_iload hx hb dL_law_707 (lv_at hl 1 rfl) ?_
  refine y_icmp_eq hx hb (by omega) (by omega) (tgt := 714) dL_law_709 (by decide) (fun c709 => ?_) (fun c709 => ?_)
  · refine lv_iload hx hb dL_law_714 (lv_at hl 1 rfl) ?_
    refine y_if_ne hx hb (by omega) (tgt := 731) dL_law_716 (by decide) (fun c716 => ?_) (fun c716 => ?_)
    · refine lv_goto (tgt := 1865) hx hb dL_law_731 (by decide) ?_
      refine W.widen (k := 125 + 281 * (k + 1)) (n := 3599 + 5166 * (k + 1)) (by omega) (by omega) ?_
      exact hnext _ _ _ ls hLI2 hS (lv_sub hl [2, 3, 4, 5, 6] rfl)
    · have c0_ : (oValue M (xs (5 * k + 1)) (xs (5 * k + 2))).1 = 0 := c716
      refine lv_aload_n hx hb dL_law_719 rfl (lv_at hl 3 rfl) ?_
      refine lv_iconst (v := nI 0) hx hb dL_law_720 (by decide) ?_
      refine x_lald (i := 0) hx hb hK hob2 (by decide) (by decide) dL_law_721 ?_
      refine lv_iload hx hb dL_law_722 (lv_at hl 0 rfl) ?_
      refine lv_i2l (v := r2_.toInt64) hx hb dL_law_724 rfl ?_
      refine lv_lcmpE hx hb (by rw [hf1 c0_, hv2 c0_]) dL_law_725 ?_
      refine y_if_eq hx hb (by decide) (tgt := 731) dL_law_726 (by decide) (fun c726 => ?_) (fun c726 => ?_)
      · refine lv_goto (tgt := 1865) hx hb dL_law_731 (by decide) ?_
        refine W.widen (k := 125 + 281 * (k + 1)) (n := 3599 + 5166 * (k + 1)) (by omega) (by omega) ?_
        exact hnext _ _ _ ls hLI2 hS (lv_sub hl [2, 3, 4, 5, 6] rfl)
      · exact absurd c726 (by decide)
  · exact absurd rfl c709
set_option maxHeartbeats 4000000 in
set_option maxRecDepth 100000 in
theorem law_c10 {p : Program} {l : Launch} {e : Env} {s : State} {m : MethodId} {below : List Frame} {meth : Method} {c : Code} {Q : State → Prop} {b L : Nat} {xs : Nat → Int32} {D : va_G} {T : Nat → ClassId} {dE mi b0 g ob : Nat} (hst : l.stackTraces = false) (hx : p.tables.exec = Jvm.exec) (hb : c.code = cL_law) (hml : c.maxLocals = 7) (hown : s.vm.findClass RL = some m.cls) (hts : ∀ w ∈ wsL_law, w.before #[Value.ref b] s = true) (hXs : va_X b L xs s s.heap) (hbl : b < s.heap.size) (hev : EV D T dE mi (fun q : Nat => s.heap.size ≤ q) s) (hga : s.heap.size ≤ g) (hL : L ≤ 2560) {k : Nat} (hk : 5 * k + 5 ≤ L) {H : Heap} {locs : List Loc} {M : mSt} (hLI : LI D T dE b0 g ob (fun q : Nat => s.heap.size ≤ q) H M k) (hS : va_S (fun q : Nat => s.heap.size ≤ q) s.heap H locs) {ls : Array Slot} (hl : lv_has ls 7 [(4, .int (nI (5 * k))), (3, .ref ob), (2, .ref g), (1, .ref b0), (0, .ref b)])
    (hnext : ∀ (H1 : Heap) (locs1 : List Loc) (M1 : mSt) (ls1 : Array Slot), LI D T dE b0 g ob (fun q : Nat => s.heap.size ≤ q) H1 M1 (k + 1) → va_S (fun q : Nat => s.heap.size ≤ q) s.heap H1 locs1 → lv_has ls1 7 [(4, .int (nI (5 * k))), (3, .ref ob), (2, .ref g), (1, .ref b0), (0, .ref b)] → W p l e room_1 s m #[Value.ref b] below meth c H1 locs1 (125 + 281 * (k + 1)) (3599 + 5166 * (k + 1)) Q (F0 m 1865 ls1 [])) : W p l e room_1 s m #[Value.ref b] below meth c H locs (125 + 281 * k) (3599 + 5166 * k) Q (F0 m 734 ls []) := by
  obtain ⟨tg, S, Y, f, hR, hM, hr, hI, hob, h7, h8, hsz⟩ := id hLI
  have hK := hev.1
  have hbA : ¬ (fun q : Nat => s.heap.size ≤ q) b := Nat.not_le.mpr hbl
  have hAM : ∀ q, AM g q → (fun q : Nat => s.heap.size ≤ q) q := fun q z => Nat.le_trans hga z.1
  have hAo : (fun q : Nat => s.heap.size ≤ q) ob := hR.tg.a h7 (by decide)
  have hrv : ∃ cell : Cell, H[b0]? = some cell ∧ cell.vm.isStatics = false ∧ s.vm.findClass "Archeloft" = some cell.cls := by
    obtain ⟨y, zq, zy, wo, hC, -⟩ := id hR
    exact x_recv hK hC.2.1.1 rfl
  refine lv_aload_n hx hb dL_law_734 rfl (lv_at hl 3 rfl) ?_
  refine lv_aload_n hx hb dL_law_735 rfl (lv_at hl 4 rfl) ?_
  refine lv_iload hx hb dL_law_736 (lv_at hl 0 rfl) ?_
  refine lv_iconst (v := nI 1) hx hb dL_law_738 (by decide) ?_
  refine y_iadd hx hb dL_law_739 ?_
  refine va_sld hx hb hXs hbl hbA hS (vp_in_nI (n := (5 * k) + 1) (by omega) (by omega)) dL_law_740 ?_
  refine x_top (y := ((xs (5 * k + 1)))) (by rw [nI_clamp (by omega)]) ?_
  refine lv_aload_n hx hb dL_law_741 rfl (lv_at hl 4 rfl) ?_
  refine lv_iload hx hb dL_law_742 (lv_at hl 0 rfl) ?_
  refine lv_iconst (v := nI 2) hx hb dL_law_744 (by decide) ?_
  refine y_iadd hx hb dL_law_745 ?_
  refine va_sld hx hb hXs hbl hbA hS (vp_in_nI (n := (5 * k) + 2) (by omega) (by omega)) dL_law_746 ?_
  refine x_top (y := ((xs (5 * k + 2)))) (by rw [nI_clamp (by omega)]) ?_
  refine lv_aload_n hx hb dL_law_747 rfl (lv_at hl 1 rfl) ?_
  refine k_iN (k_SW (As := [.ref b0, .int ((xs (5 * k + 1))), .int ((xs (5 * k + 2))), .ref ob]) (rest := []) ⟨hx, hb, hml, hown, hts⟩ hev hS (c_L_mark l hst hR hI (xs (5 * k + 1)) (xs (5 * k + 2)) hob h7 hAo) (vx_cwSW 4 hts gL_law_L_mark rfl rfl rfl (by decide +kernel) ⟨Nat.le_of_ble_eq_true rfl, Nat.le_of_ble_eq_true rfl⟩) rfl hl.1 (Nat.le_of_ble_eq_true rfl) dL_law_748 (by show _ ≤ (601024 : Nat); omega) (by show _ ≤ (7293034 : Nat); omega)) hS (fun r1_ H1 locs1 hP hz1 hS => ?_)
  obtain ⟨⟨er, ho4⟩, ⟨f1, hob1, hf1⟩, tg1, hR1, tx, fr⟩ := hP
  have hM1 := LI.rm hM h8 hsz fr
  have t7 := (tx ob hob.lt).trans h7
  have t8 := LI.t8 h8 tx hsz
  refine x_top (y := (nI ((oMark M (xs (5 * k + 1)) (xs (5 * k + 2))).1))) (er) ?_
  refine lv_istore (lv' := [(5, .int (nI ((oMark M (xs (5 * k + 1)) (xs (5 * k + 2))).1))), (4, .int (nI (5 * k))), (3, .ref ob), (2, .ref g), (1, .ref b0), (0, .ref b)]) hx hb dL_law_751 hl (by decide) rfl (fun ls hl => ?_)
  refine lv_aload_n hx hb dL_law_753 rfl (lv_at hl 3 rfl) ?_
  refine lv_aload_n hx hb dL_law_754 rfl (lv_at hl 5 rfl) ?_
  refine lv_iload hx hb dL_law_755 (lv_at hl 1 rfl) ?_
  refine lv_iconst (v := nI 1) hx hb dL_law_757 (by decide) ?_
  refine y_iadd hx hb dL_law_758 ?_
  refine va_sld hx hb hXs hbl hbA hS (vp_in_nI (n := (5 * k) + 1) (by omega) (by omega)) dL_law_759 ?_
  refine x_top (y := ((xs (5 * k + 1)))) (by rw [nI_clamp (by omega)]) ?_
  refine lv_aload_n hx hb dL_law_760 rfl (lv_at hl 5 rfl) ?_
  refine lv_iload hx hb dL_law_761 (lv_at hl 1 rfl) ?_
  refine lv_iconst (v := nI 2) hx hb dL_law_763 (by decide) ?_
  refine y_iadd hx hb dL_law_764 ?_
  refine va_sld hx hb hXs hbl hbA hS (vp_in_nI (n := (5 * k) + 2) (by omega) (by omega)) dL_law_765 ?_
  refine x_top (y := ((xs (5 * k + 2)))) (by rw [nI_clamp (by omega)]) ?_
  have hsz1 : g + 23 ≤ H1.size := by have := fr.1; omega
  refine k_iA (k_VA (As := [.int ((xs (5 * k + 1))), .int ((xs (5 * k + 2)))]) (rest := []) ⟨hx, hb, hml, hown, hts⟩ hev hS hAM (c_X7_mark l hM1 hr hI (xs (5 * k + 1)) (xs (5 * k + 2))) (cwV 2 hts gL_law_X7_mark rfl rfl rfl (by decide +kernel) ⟨Nat.le_of_ble_eq_true rfl, Nat.le_of_ble_eq_true rfl⟩) (x_recv hK hM1.1 rfl) rfl hl.1 (Nat.le_of_ble_eq_true rfl) dL_law_766 (by show _ ≤ (601024 : Nat); omega) (by show _ ≤ (7293034 : Nat); omega)) hS hAM (fun r2_ H2 locs2 hP hz2 hk2 hS => ?_)
  obtain ⟨S2, Y2, hM2, hr2, h02, hv2⟩ := hP
  have hI2 : Inv (800 * (k + 1)) (oMark M (xs (5 * k + 1)) (xs (5 * k + 2))).2.2 := (i_mark hI (xs (5 * k + 1)) (xs (5 * k + 2))).mono (by omega) (by omega)
  refine W.widen (k := 125 + 281 * k + 3) (n := 3599 + 5166 * k + 18) (Nat.le_refl _) (Nat.le_refl _) ?_
  have hLI2 := LI.st hR1 hM2 hr2 hI2 hob1 t7 t8 hz2 hk2 hsz1
  have hob2 := hob1.kept (hk2 ob hob1.lt (fun z => by have := t8 ob z.1 z.2; omega))
  refine lv_istore (lv' := [(6, .int r2_), (5, .int (nI ((oMark M (xs (5 * k + 1)) (xs (5 * k + 2))).1))), (4, .int (nI (5 * k))), (3, .ref ob), (2, .ref g), (1, .ref b0), (0, .ref b)]) hx hb dL_law_769 hl (by decide) rfl (fun ls hl => ?_)
  refine lv_aload_n hx hb dL_law_771 rfl (lv_at hl 4 rfl) ?_
  refine k_iA (k_VA (As := []) (rest := []) ⟨hx, hb, hml, hown, hts⟩ hev hS hAM (c_X7_thrown l hM2) (cwV 0 hts gL_law_X7_thrown rfl rfl rfl (by decide +kernel) ⟨Nat.le_of_ble_eq_true rfl, Nat.le_of_ble_eq_true rfl⟩) (x_recv hK hM2.1 rfl) rfl hl.1 (Nat.le_of_ble_eq_true rfl) dL_law_772 (by show _ ≤ (601024 : Nat); omega) (by show _ ≤ (7293034 : Nat); omega)) hS hAM (fun r3_ H3 locs3 hP hz3 hk3 hS => ?_)
  obtain ⟨eH, er2⟩ := hP
  have eH := eH.symm
  subst eH
  refine W.widen (k := 125 + 281 * k + 3) (n := 3599 + 5166 * k + 18) (Nat.le_refl _) (Nat.le_refl _) ?_
  refine x_top (y := (nI ((oMark M (xs (5 * k + 1)) (xs (5 * k + 2))).1))) (er2.trans h02) ?_
  refine lv_iload hx hb dL_law_775 (lv_at hl 1 rfl) ?_
  refine y_icmp_eq hx hb (by omega) (by omega) (tgt := 782) dL_law_777 (by decide) (fun c777 => ?_) (fun c777 => ?_)
  · refine lv_iload hx hb dL_law_782 (lv_at hl 1 rfl) ?_
    refine y_if_ne hx hb (by omega) (tgt := 799) dL_law_784 (by decide) (fun c784 => ?_) (fun c784 => ?_)
    · refine lv_goto (tgt := 1865) hx hb dL_law_799 (by decide) ?_
      refine W.widen (k := 125 + 281 * (k + 1)) (n := 3599 + 5166 * (k + 1)) (by omega) (by omega) ?_
      exact hnext _ _ _ ls hLI2 hS (lv_sub hl [2, 3, 4, 5, 6] rfl)
    · have c0_ : (oMark M (xs (5 * k + 1)) (xs (5 * k + 2))).1 = 0 := c784
      refine lv_aload_n hx hb dL_law_787 rfl (lv_at hl 3 rfl) ?_
      refine lv_iconst (v := nI 0) hx hb dL_law_788 (by decide) ?_
      refine x_lald (i := 0) hx hb hK hob2 (by decide) (by decide) dL_law_789 ?_
      refine lv_iload hx hb dL_law_790 (lv_at hl 0 rfl) ?_
      refine lv_i2l (v := r2_.toInt64) hx hb dL_law_792 rfl ?_
      refine lv_lcmpE hx hb (by rw [hf1 c0_, hv2 c0_]) dL_law_793 ?_
      refine y_if_eq hx hb (by decide) (tgt := 799) dL_law_794 (by decide) (fun c794 => ?_) (fun c794 => ?_)
      · refine lv_goto (tgt := 1865) hx hb dL_law_799 (by decide) ?_
        refine W.widen (k := 125 + 281 * (k + 1)) (n := 3599 + 5166 * (k + 1)) (by omega) (by omega) ?_
        exact hnext _ _ _ ls hLI2 hS (lv_sub hl [2, 3, 4, 5, 6] rfl)
      · exact absurd c794 (by decide)
  · exact absurd rfl c777
set_option maxHeartbeats 4000000 in
set_option maxRecDepth 100000 in
theorem law_c11 {p : Program} {l : Launch} {e : Env} {s : State} {m : MethodId} {below : List Frame} {meth : Method} {c : Code} {Q : State → Prop} {b L : Nat} {xs : Nat → Int32} {D : va_G} {T : Nat → ClassId} {dE mi b0 g ob : Nat} (hst : l.stackTraces = false) (hx : p.tables.exec = Jvm.exec) (hb : c.code = cL_law) (hml : c.maxLocals = 7) (hown : s.vm.findClass RL = some m.cls) (hts : ∀ w ∈ wsL_law, w.before #[Value.ref b] s = true) (hXs : va_X b L xs s s.heap) (hbl : b < s.heap.size) (hev : EV D T dE mi (fun q : Nat => s.heap.size ≤ q) s) (hga : s.heap.size ≤ g) (hL : L ≤ 2560) {k : Nat} (hk : 5 * k + 5 ≤ L) {H : Heap} {locs : List Loc} {M : mSt} (hLI : LI D T dE b0 g ob (fun q : Nat => s.heap.size ≤ q) H M k) (hS : va_S (fun q : Nat => s.heap.size ≤ q) s.heap H locs) {ls : Array Slot} (hl : lv_has ls 7 [(4, .int (nI (5 * k))), (3, .ref ob), (2, .ref g), (1, .ref b0), (0, .ref b)])
    (hnext : ∀ (H1 : Heap) (locs1 : List Loc) (M1 : mSt) (ls1 : Array Slot), LI D T dE b0 g ob (fun q : Nat => s.heap.size ≤ q) H1 M1 (k + 1) → va_S (fun q : Nat => s.heap.size ≤ q) s.heap H1 locs1 → lv_has ls1 7 [(4, .int (nI (5 * k))), (3, .ref ob), (2, .ref g), (1, .ref b0), (0, .ref b)] → W p l e room_1 s m #[Value.ref b] below meth c H1 locs1 (125 + 281 * (k + 1)) (3599 + 5166 * (k + 1)) Q (F0 m 1865 ls1 [])) : W p l e room_1 s m #[Value.ref b] below meth c H locs (125 + 281 * k) (3599 + 5166 * k) Q (F0 m 802 ls []) := by
  obtain ⟨tg, S, Y, f, hR, hM, hr, hI, hob, h7, h8, hsz⟩ := id hLI
  have hK := hev.1
  have hbA : ¬ (fun q : Nat => s.heap.size ≤ q) b := Nat.not_le.mpr hbl
  have hAM : ∀ q, AM g q → (fun q : Nat => s.heap.size ≤ q) q := fun q z => Nat.le_trans hga z.1
  have hAo : (fun q : Nat => s.heap.size ≤ q) ob := hR.tg.a h7 (by decide)
  have hrv : ∃ cell : Cell, H[b0]? = some cell ∧ cell.vm.isStatics = false ∧ s.vm.findClass "Archeloft" = some cell.cls := by
    obtain ⟨y, zq, zy, wo, hC, -⟩ := id hR
    exact x_recv hK hC.2.1.1 rfl
  refine lv_aload_n hx hb dL_law_802 rfl (lv_at hl 3 rfl) ?_
  refine lv_aload_n hx hb dL_law_803 rfl (lv_at hl 4 rfl) ?_
  refine lv_iload hx hb dL_law_804 (lv_at hl 0 rfl) ?_
  refine lv_iconst (v := nI 1) hx hb dL_law_806 (by decide) ?_
  refine y_iadd hx hb dL_law_807 ?_
  refine va_sld hx hb hXs hbl hbA hS (vp_in_nI (n := (5 * k) + 1) (by omega) (by omega)) dL_law_808 ?_
  refine x_top (y := ((xs (5 * k + 1)))) (by rw [nI_clamp (by omega)]) ?_
  refine lv_aload_n hx hb dL_law_809 rfl (lv_at hl 1 rfl) ?_
  refine k_iN (k_SW (As := [.ref b0, .int ((xs (5 * k + 1))), .ref ob]) (rest := []) ⟨hx, hb, hml, hown, hts⟩ hev hS (c_L_kinds l hst hR hI (xs (5 * k + 1)) hob h7 hAo) (vx_cwSW 3 hts gL_law_L_kinds rfl rfl rfl (by decide +kernel) ⟨Nat.le_of_ble_eq_true rfl, Nat.le_of_ble_eq_true rfl⟩) rfl hl.1 (Nat.le_of_ble_eq_true rfl) dL_law_810 (by show _ ≤ (601024 : Nat); omega) (by show _ ≤ (7293034 : Nat); omega)) hS (fun r1_ H1 locs1 hP hz1 hS => ?_)
  obtain ⟨⟨er, ho4⟩, ⟨f1, hob1, hf1⟩, tg1, hR1, tx, fr⟩ := hP
  have hM1 := LI.rm hM h8 hsz fr
  have t7 := (tx ob hob.lt).trans h7
  have t8 := LI.t8 h8 tx hsz
  refine x_top (y := (nI ((oKinds M (xs (5 * k + 1))).1))) (er) ?_
  refine lv_istore (lv' := [(5, .int (nI ((oKinds M (xs (5 * k + 1))).1))), (4, .int (nI (5 * k))), (3, .ref ob), (2, .ref g), (1, .ref b0), (0, .ref b)]) hx hb dL_law_813 hl (by decide) rfl (fun ls hl => ?_)
  refine lv_aload_n hx hb dL_law_815 rfl (lv_at hl 3 rfl) ?_
  refine lv_aload_n hx hb dL_law_816 rfl (lv_at hl 5 rfl) ?_
  refine lv_iload hx hb dL_law_817 (lv_at hl 1 rfl) ?_
  refine lv_iconst (v := nI 1) hx hb dL_law_819 (by decide) ?_
  refine y_iadd hx hb dL_law_820 ?_
  refine va_sld hx hb hXs hbl hbA hS (vp_in_nI (n := (5 * k) + 1) (by omega) (by omega)) dL_law_821 ?_
  refine x_top (y := ((xs (5 * k + 1)))) (by rw [nI_clamp (by omega)]) ?_
  have hsz1 : g + 23 ≤ H1.size := by have := fr.1; omega
  refine k_iA (k_VA (As := [.int ((xs (5 * k + 1)))]) (rest := []) ⟨hx, hb, hml, hown, hts⟩ hev hS hAM (c_X7_kinds l hM1 hr hI (xs (5 * k + 1))) (cwV 1 hts gL_law_X7_kinds rfl rfl rfl (by decide +kernel) ⟨Nat.le_of_ble_eq_true rfl, Nat.le_of_ble_eq_true rfl⟩) (x_recv hK hM1.1 rfl) rfl hl.1 (Nat.le_of_ble_eq_true rfl) dL_law_822 (by show _ ≤ (601024 : Nat); omega) (by show _ ≤ (7293034 : Nat); omega)) hS hAM (fun r2_ H2 locs2 hP hz2 hk2 hS => ?_)
  obtain ⟨S2, Y2, hM2, hr2, h02, hv2⟩ := hP
  have hI2 : Inv (800 * (k + 1)) (oKinds M (xs (5 * k + 1))).2.2 := (i_kinds hI (xs (5 * k + 1))).mono (by omega) (by omega)
  refine W.widen (k := 125 + 281 * k + 1) (n := 3599 + 5166 * k + 6) (Nat.le_refl _) (Nat.le_refl _) ?_
  have hLI2 := LI.st hR1 hM2 hr2 hI2 hob1 t7 t8 hz2 hk2 hsz1
  have hob2 := hob1.kept (hk2 ob hob1.lt (fun z => by have := t8 ob z.1 z.2; omega))
  refine lv_istore (lv' := [(6, .int r2_), (5, .int (nI ((oKinds M (xs (5 * k + 1))).1))), (4, .int (nI (5 * k))), (3, .ref ob), (2, .ref g), (1, .ref b0), (0, .ref b)]) hx hb dL_law_825 hl (by decide) rfl (fun ls hl => ?_)
  refine lv_aload_n hx hb dL_law_827 rfl (lv_at hl 4 rfl) ?_
  refine k_iA (k_VA (As := []) (rest := []) ⟨hx, hb, hml, hown, hts⟩ hev hS hAM (c_X7_thrown l hM2) (cwV 0 hts gL_law_X7_thrown rfl rfl rfl (by decide +kernel) ⟨Nat.le_of_ble_eq_true rfl, Nat.le_of_ble_eq_true rfl⟩) (x_recv hK hM2.1 rfl) rfl hl.1 (Nat.le_of_ble_eq_true rfl) dL_law_828 (by show _ ≤ (601024 : Nat); omega) (by show _ ≤ (7293034 : Nat); omega)) hS hAM (fun r3_ H3 locs3 hP hz3 hk3 hS => ?_)
  obtain ⟨eH, er2⟩ := hP
  have eH := eH.symm
  subst eH
  refine W.widen (k := 125 + 281 * k + 1) (n := 3599 + 5166 * k + 6) (Nat.le_refl _) (Nat.le_refl _) ?_
  refine x_top (y := (nI ((oKinds M (xs (5 * k + 1))).1))) (er2.trans h02) ?_
  refine lv_iload hx hb dL_law_831 (lv_at hl 1 rfl) ?_
  refine y_icmp_eq hx hb (by omega) (by omega) (tgt := 838) dL_law_833 (by decide) (fun c833 => ?_) (fun c833 => ?_)
  · refine lv_iload hx hb dL_law_838 (lv_at hl 1 rfl) ?_
    refine y_if_ne hx hb (by omega) (tgt := 855) dL_law_840 (by decide) (fun c840 => ?_) (fun c840 => ?_)
    · refine lv_goto (tgt := 1865) hx hb dL_law_855 (by decide) ?_
      refine W.widen (k := 125 + 281 * (k + 1)) (n := 3599 + 5166 * (k + 1)) (by omega) (by omega) ?_
      exact hnext _ _ _ ls hLI2 hS (lv_sub hl [2, 3, 4, 5, 6] rfl)
    · have c0_ : (oKinds M (xs (5 * k + 1))).1 = 0 := c840
      refine lv_aload_n hx hb dL_law_843 rfl (lv_at hl 3 rfl) ?_
      refine lv_iconst (v := nI 0) hx hb dL_law_844 (by decide) ?_
      refine x_lald (i := 0) hx hb hK hob2 (by decide) (by decide) dL_law_845 ?_
      refine lv_iload hx hb dL_law_846 (lv_at hl 0 rfl) ?_
      refine lv_i2l (v := r2_.toInt64) hx hb dL_law_848 rfl ?_
      refine lv_lcmpE hx hb (by rw [hf1 c0_, hv2 c0_]) dL_law_849 ?_
      refine y_if_eq hx hb (by decide) (tgt := 855) dL_law_850 (by decide) (fun c850 => ?_) (fun c850 => ?_)
      · refine lv_goto (tgt := 1865) hx hb dL_law_855 (by decide) ?_
        refine W.widen (k := 125 + 281 * (k + 1)) (n := 3599 + 5166 * (k + 1)) (by omega) (by omega) ?_
        exact hnext _ _ _ ls hLI2 hS (lv_sub hl [2, 3, 4, 5, 6] rfl)
      · exact absurd c850 (by decide)
  · exact absurd rfl c833
set_option maxHeartbeats 4000000 in
set_option maxRecDepth 100000 in
theorem law_c12 {p : Program} {l : Launch} {e : Env} {s : State} {m : MethodId} {below : List Frame} {meth : Method} {c : Code} {Q : State → Prop} {b L : Nat} {xs : Nat → Int32} {D : va_G} {T : Nat → ClassId} {dE mi b0 g ob : Nat} (hst : l.stackTraces = false) (hx : p.tables.exec = Jvm.exec) (hb : c.code = cL_law) (hml : c.maxLocals = 7) (hown : s.vm.findClass RL = some m.cls) (hts : ∀ w ∈ wsL_law, w.before #[Value.ref b] s = true) (hXs : va_X b L xs s s.heap) (hbl : b < s.heap.size) (hev : EV D T dE mi (fun q : Nat => s.heap.size ≤ q) s) (hga : s.heap.size ≤ g) (hL : L ≤ 2560) {k : Nat} (hk : 5 * k + 5 ≤ L) {H : Heap} {locs : List Loc} {M : mSt} (hLI : LI D T dE b0 g ob (fun q : Nat => s.heap.size ≤ q) H M k) (hS : va_S (fun q : Nat => s.heap.size ≤ q) s.heap H locs) {ls : Array Slot} (hl : lv_has ls 7 [(4, .int (nI (5 * k))), (3, .ref ob), (2, .ref g), (1, .ref b0), (0, .ref b)])
    (hnext : ∀ (H1 : Heap) (locs1 : List Loc) (M1 : mSt) (ls1 : Array Slot), LI D T dE b0 g ob (fun q : Nat => s.heap.size ≤ q) H1 M1 (k + 1) → va_S (fun q : Nat => s.heap.size ≤ q) s.heap H1 locs1 → lv_has ls1 7 [(4, .int (nI (5 * k))), (3, .ref ob), (2, .ref g), (1, .ref b0), (0, .ref b)] → W p l e room_1 s m #[Value.ref b] below meth c H1 locs1 (125 + 281 * (k + 1)) (3599 + 5166 * (k + 1)) Q (F0 m 1865 ls1 [])) : W p l e room_1 s m #[Value.ref b] below meth c H locs (125 + 281 * k) (3599 + 5166 * k) Q (F0 m 858 ls []) := by
  obtain ⟨tg, S, Y, f, hR, hM, hr, hI, hob, h7, h8, hsz⟩ := id hLI
  have hK := hev.1
  have hbA : ¬ (fun q : Nat => s.heap.size ≤ q) b := Nat.not_le.mpr hbl
  have hAM : ∀ q, AM g q → (fun q : Nat => s.heap.size ≤ q) q := fun q z => Nat.le_trans hga z.1
  have hAo : (fun q : Nat => s.heap.size ≤ q) ob := hR.tg.a h7 (by decide)
  have hrv : ∃ cell : Cell, H[b0]? = some cell ∧ cell.vm.isStatics = false ∧ s.vm.findClass "Archeloft" = some cell.cls := by
    obtain ⟨y, zq, zy, wo, hC, -⟩ := id hR
    exact x_recv hK hC.2.1.1 rfl
  refine lv_aload_n hx hb dL_law_858 rfl (lv_at hl 3 rfl) ?_
  refine k_iN (k_V (As := []) (rest := []) ⟨hx, hb, hml, hown, hts⟩ hev hS (u_rows l hst hR hI) (cwV 0 hts gL_law_X6_rows rfl rfl rfl (by decide +kernel) ⟨Nat.le_of_ble_eq_true rfl, Nat.le_of_ble_eq_true rfl⟩) hrv rfl hl.1 (Nat.le_of_ble_eq_true rfl) dL_law_859 (by show _ ≤ (601024 : Nat); omega) (by show _ ≤ (7293034 : Nat); omega)) hS (fun r1_ H1 locs1 hP hz1 hS => ?_)
  obtain ⟨-, er, tg1, hR1, tx, fr0⟩ := hP
  have fr := fr0.wk (S1 := fun t => t ≠ 0 ∧ t ≠ 8) (fun t z => ⟨z.1, z.2.2⟩)
  refine W.widen (k := 125 + 281 * k) (n := 3599 + 5166 * k) (Nat.le_refl _) (Nat.le_refl _) ?_
  have hM1 := LI.rm hM h8 hsz fr
  have t7 := (tx ob hob.lt).trans h7
  have t8 := LI.t8 h8 tx hsz
  have hob1 := hob.kept (fr0.2 _ hob.lt (by rw [h7]; decide))
  have hsz1 : g + 23 ≤ H1.size := by omega
  refine x_top (y := ((oRows M).2.1)) (er) ?_
  refine lv_aload_n hx hb dL_law_862 rfl (lv_at hl 2 rfl) ?_
  refine k_iA (k_VA (As := []) (rest := [.int ((oRows M).2.1)]) ⟨hx, hb, hml, hown, hts⟩ hev hS hAM (c_X7_rows l hM1) (cwV 0 hts gL_law_X7_rows rfl rfl rfl (by decide +kernel) ⟨Nat.le_of_ble_eq_true rfl, Nat.le_of_ble_eq_true rfl⟩) (x_recv hK hM1.1 rfl) rfl hl.1 (Nat.le_of_ble_eq_true rfl) dL_law_863 (by show _ ≤ (601024 : Nat); omega) (by show _ ≤ (7293034 : Nat); omega)) hS hAM (fun r2_ H2 locs2 hP hz2 hk2 hS => ?_)
  obtain ⟨S2, Y2, hM2, hr2, h02, hv2⟩ := pm_rows hr hP
  have hI2 : Inv (800 * (k + 1)) (oRows M).2.2 := (i_rows hI).mono (by omega) (by omega)
  refine W.widen (k := 125 + 281 * k) (n := 3599 + 5166 * k) (Nat.le_refl _) (Nat.le_refl _) ?_
  have hLI2 := LI.st hR1 hM2 hr2 hI2 hob1 t7 t8 hz2 hk2 hsz1
  have hob2 := hob1.kept (hk2 ob hob1.lt (fun z => by have := t8 ob z.1 z.2; omega))
  refine x_top (y := ((oRows M).2.1)) (hv2 rfl) ?_
  refine lv_icmp_eq (tgt := 1865) hx hb dL_law_866 (by decide) (fun c866 => ?_) (fun c866 => ?_)
  · refine W.widen (k := 125 + 281 * (k + 1)) (n := 3599 + 5166 * (k + 1)) (by omega) (by omega) ?_
    exact hnext _ _ _ ls hLI2 hS (lv_sub hl [0, 1, 2, 3, 4] rfl)
  · exact absurd rfl c866
set_option maxHeartbeats 4000000 in
set_option maxRecDepth 100000 in
theorem law_c13 {p : Program} {l : Launch} {e : Env} {s : State} {m : MethodId} {below : List Frame} {meth : Method} {c : Code} {Q : State → Prop} {b L : Nat} {xs : Nat → Int32} {D : va_G} {T : Nat → ClassId} {dE mi b0 g ob : Nat} (hst : l.stackTraces = false) (hx : p.tables.exec = Jvm.exec) (hb : c.code = cL_law) (hml : c.maxLocals = 7) (hown : s.vm.findClass RL = some m.cls) (hts : ∀ w ∈ wsL_law, w.before #[Value.ref b] s = true) (hXs : va_X b L xs s s.heap) (hbl : b < s.heap.size) (hev : EV D T dE mi (fun q : Nat => s.heap.size ≤ q) s) (hga : s.heap.size ≤ g) (hL : L ≤ 2560) {k : Nat} (hk : 5 * k + 5 ≤ L) {H : Heap} {locs : List Loc} {M : mSt} (hLI : LI D T dE b0 g ob (fun q : Nat => s.heap.size ≤ q) H M k) (hS : va_S (fun q : Nat => s.heap.size ≤ q) s.heap H locs) {ls : Array Slot} (hl : lv_has ls 7 [(4, .int (nI (5 * k))), (3, .ref ob), (2, .ref g), (1, .ref b0), (0, .ref b)])
    (hnext : ∀ (H1 : Heap) (locs1 : List Loc) (M1 : mSt) (ls1 : Array Slot), LI D T dE b0 g ob (fun q : Nat => s.heap.size ≤ q) H1 M1 (k + 1) → va_S (fun q : Nat => s.heap.size ≤ q) s.heap H1 locs1 → lv_has ls1 7 [(4, .int (nI (5 * k))), (3, .ref ob), (2, .ref g), (1, .ref b0), (0, .ref b)] → W p l e room_1 s m #[Value.ref b] below meth c H1 locs1 (125 + 281 * (k + 1)) (3599 + 5166 * (k + 1)) Q (F0 m 1865 ls1 [])) : W p l e room_1 s m #[Value.ref b] below meth c H locs (125 + 281 * k) (3599 + 5166 * k) Q (F0 m 871 ls []) := by
  obtain ⟨tg, S, Y, f, hR, hM, hr, hI, hob, h7, h8, hsz⟩ := id hLI
  have hK := hev.1
  have hbA : ¬ (fun q : Nat => s.heap.size ≤ q) b := Nat.not_le.mpr hbl
  have hAM : ∀ q, AM g q → (fun q : Nat => s.heap.size ≤ q) q := fun q z => Nat.le_trans hga z.1
  have hAo : (fun q : Nat => s.heap.size ≤ q) ob := hR.tg.a h7 (by decide)
  have hrv : ∃ cell : Cell, H[b0]? = some cell ∧ cell.vm.isStatics = false ∧ s.vm.findClass "Archeloft" = some cell.cls := by
    obtain ⟨y, zq, zy, wo, hC, -⟩ := id hR
    exact x_recv hK hC.2.1.1 rfl
  refine lv_aload_n hx hb dL_law_871 rfl (lv_at hl 3 rfl) ?_
  refine lv_aload_n hx hb dL_law_872 rfl (lv_at hl 4 rfl) ?_
  refine lv_iload hx hb dL_law_873 (lv_at hl 0 rfl) ?_
  refine lv_iconst (v := nI 1) hx hb dL_law_875 (by decide) ?_
  refine y_iadd hx hb dL_law_876 ?_
  refine va_sld hx hb hXs hbl hbA hS (vp_in_nI (n := (5 * k) + 1) (by omega) (by omega)) dL_law_877 ?_
  refine x_top (y := ((xs (5 * k + 1)))) (by rw [nI_clamp (by omega)]) ?_
  refine lv_aload_n hx hb dL_law_878 rfl (lv_at hl 1 rfl) ?_
  refine k_iN (k_SW (As := [.ref b0, .int ((xs (5 * k + 1))), .ref ob]) (rest := []) ⟨hx, hb, hml, hown, hts⟩ hev hS (c_L_setOf l hst hR hI (xs (5 * k + 1)) hob h7 hAo) (vx_cwSW 3 hts gL_law_L_setOf rfl rfl rfl (by decide +kernel) ⟨Nat.le_of_ble_eq_true rfl, Nat.le_of_ble_eq_true rfl⟩) rfl hl.1 (Nat.le_of_ble_eq_true rfl) dL_law_879 (by show _ ≤ (601024 : Nat); omega) (by show _ ≤ (7293034 : Nat); omega)) hS (fun r1_ H1 locs1 hP hz1 hS => ?_)
  obtain ⟨⟨er, ho4⟩, ⟨f1, hob1, hf1⟩, tg1, hR1, tx, fr⟩ := hP
  have hM1 := LI.rm hM h8 hsz fr
  have t7 := (tx ob hob.lt).trans h7
  have t8 := LI.t8 h8 tx hsz
  refine x_top (y := (nI ((oSetOf M (xs (5 * k + 1))).1))) (er) ?_
  refine lv_istore (lv' := [(5, .int (nI ((oSetOf M (xs (5 * k + 1))).1))), (4, .int (nI (5 * k))), (3, .ref ob), (2, .ref g), (1, .ref b0), (0, .ref b)]) hx hb dL_law_882 hl (by decide) rfl (fun ls hl => ?_)
  refine lv_aload_n hx hb dL_law_884 rfl (lv_at hl 3 rfl) ?_
  refine lv_aload_n hx hb dL_law_885 rfl (lv_at hl 5 rfl) ?_
  refine lv_iload hx hb dL_law_886 (lv_at hl 1 rfl) ?_
  refine lv_iconst (v := nI 1) hx hb dL_law_888 (by decide) ?_
  refine y_iadd hx hb dL_law_889 ?_
  refine va_sld hx hb hXs hbl hbA hS (vp_in_nI (n := (5 * k) + 1) (by omega) (by omega)) dL_law_890 ?_
  refine x_top (y := ((xs (5 * k + 1)))) (by rw [nI_clamp (by omega)]) ?_
  have hsz1 : g + 23 ≤ H1.size := by have := fr.1; omega
  refine k_iA (k_VA (As := [.int ((xs (5 * k + 1)))]) (rest := []) ⟨hx, hb, hml, hown, hts⟩ hev hS hAM (c_X7_setOf l hM1 hr hI (xs (5 * k + 1))) (cwV 1 hts gL_law_X7_setOf rfl rfl rfl (by decide +kernel) ⟨Nat.le_of_ble_eq_true rfl, Nat.le_of_ble_eq_true rfl⟩) (x_recv hK hM1.1 rfl) rfl hl.1 (Nat.le_of_ble_eq_true rfl) dL_law_891 (by show _ ≤ (601024 : Nat); omega) (by show _ ≤ (7293034 : Nat); omega)) hS hAM (fun r2_ H2 locs2 hP hz2 hk2 hS => ?_)
  obtain ⟨S2, Y2, hM2, hr2, h02, hv2⟩ := hP
  have hI2 : Inv (800 * (k + 1)) (oSetOf M (xs (5 * k + 1))).2.2 := (i_setOf hI (xs (5 * k + 1))).mono (by omega) (by omega)
  refine W.widen (k := 125 + 281 * k + 1) (n := 3599 + 5166 * k + 6) (Nat.le_refl _) (Nat.le_refl _) ?_
  have hLI2 := LI.st hR1 hM2 hr2 hI2 hob1 t7 t8 hz2 hk2 hsz1
  have hob2 := hob1.kept (hk2 ob hob1.lt (fun z => by have := t8 ob z.1 z.2; omega))
  refine lv_istore (lv' := [(6, .int r2_), (5, .int (nI ((oSetOf M (xs (5 * k + 1))).1))), (4, .int (nI (5 * k))), (3, .ref ob), (2, .ref g), (1, .ref b0), (0, .ref b)]) hx hb dL_law_894 hl (by decide) rfl (fun ls hl => ?_)
  refine lv_aload_n hx hb dL_law_896 rfl (lv_at hl 4 rfl) ?_
  refine k_iA (k_VA (As := []) (rest := []) ⟨hx, hb, hml, hown, hts⟩ hev hS hAM (c_X7_thrown l hM2) (cwV 0 hts gL_law_X7_thrown rfl rfl rfl (by decide +kernel) ⟨Nat.le_of_ble_eq_true rfl, Nat.le_of_ble_eq_true rfl⟩) (x_recv hK hM2.1 rfl) rfl hl.1 (Nat.le_of_ble_eq_true rfl) dL_law_897 (by show _ ≤ (601024 : Nat); omega) (by show _ ≤ (7293034 : Nat); omega)) hS hAM (fun r3_ H3 locs3 hP hz3 hk3 hS => ?_)
  obtain ⟨eH, er2⟩ := hP
  have eH := eH.symm
  subst eH
  refine W.widen (k := 125 + 281 * k + 1) (n := 3599 + 5166 * k + 6) (Nat.le_refl _) (Nat.le_refl _) ?_
  refine x_top (y := (nI ((oSetOf M (xs (5 * k + 1))).1))) (er2.trans h02) ?_
  refine lv_iload hx hb dL_law_900 (lv_at hl 1 rfl) ?_
  refine y_icmp_eq hx hb (by omega) (by omega) (tgt := 907) dL_law_902 (by decide) (fun c902 => ?_) (fun c902 => ?_)
  · refine lv_iload hx hb dL_law_907 (lv_at hl 1 rfl) ?_
    refine y_if_ne hx hb (by omega) (tgt := 924) dL_law_909 (by decide) (fun c909 => ?_) (fun c909 => ?_)
    · refine lv_goto (tgt := 1865) hx hb dL_law_924 (by decide) ?_
      refine W.widen (k := 125 + 281 * (k + 1)) (n := 3599 + 5166 * (k + 1)) (by omega) (by omega) ?_
      exact hnext _ _ _ ls hLI2 hS (lv_sub hl [2, 3, 4, 5, 6] rfl)
    · have c0_ : (oSetOf M (xs (5 * k + 1))).1 = 0 := c909
      refine lv_aload_n hx hb dL_law_912 rfl (lv_at hl 3 rfl) ?_
      refine lv_iconst (v := nI 0) hx hb dL_law_913 (by decide) ?_
      refine x_lald (i := 0) hx hb hK hob2 (by decide) (by decide) dL_law_914 ?_
      refine lv_iload hx hb dL_law_915 (lv_at hl 0 rfl) ?_
      refine lv_i2l (v := r2_.toInt64) hx hb dL_law_917 rfl ?_
      refine lv_lcmpE hx hb (by rw [hf1 c0_, hv2 c0_]) dL_law_918 ?_
      refine y_if_eq hx hb (by decide) (tgt := 924) dL_law_919 (by decide) (fun c919 => ?_) (fun c919 => ?_)
      · refine lv_goto (tgt := 1865) hx hb dL_law_924 (by decide) ?_
        refine W.widen (k := 125 + 281 * (k + 1)) (n := 3599 + 5166 * (k + 1)) (by omega) (by omega) ?_
        exact hnext _ _ _ ls hLI2 hS (lv_sub hl [2, 3, 4, 5, 6] rfl)
      · exact absurd c919 (by decide)
  · exact absurd rfl c902
set_option maxHeartbeats 4000000 in
set_option maxRecDepth 100000 in
theorem law_c14 {p : Program} {l : Launch} {e : Env} {s : State} {m : MethodId} {below : List Frame} {meth : Method} {c : Code} {Q : State → Prop} {b L : Nat} {xs : Nat → Int32} {D : va_G} {T : Nat → ClassId} {dE mi b0 g ob : Nat} (hst : l.stackTraces = false) (hx : p.tables.exec = Jvm.exec) (hb : c.code = cL_law) (hml : c.maxLocals = 7) (hown : s.vm.findClass RL = some m.cls) (hts : ∀ w ∈ wsL_law, w.before #[Value.ref b] s = true) (hXs : va_X b L xs s s.heap) (hbl : b < s.heap.size) (hev : EV D T dE mi (fun q : Nat => s.heap.size ≤ q) s) (hga : s.heap.size ≤ g) (hL : L ≤ 2560) {k : Nat} (hk : 5 * k + 5 ≤ L) {H : Heap} {locs : List Loc} {M : mSt} (hLI : LI D T dE b0 g ob (fun q : Nat => s.heap.size ≤ q) H M k) (hS : va_S (fun q : Nat => s.heap.size ≤ q) s.heap H locs) {ls : Array Slot} (hl : lv_has ls 7 [(4, .int (nI (5 * k))), (3, .ref ob), (2, .ref g), (1, .ref b0), (0, .ref b)])
    (hnext : ∀ (H1 : Heap) (locs1 : List Loc) (M1 : mSt) (ls1 : Array Slot), LI D T dE b0 g ob (fun q : Nat => s.heap.size ≤ q) H1 M1 (k + 1) → va_S (fun q : Nat => s.heap.size ≤ q) s.heap H1 locs1 → lv_has ls1 7 [(4, .int (nI (5 * k))), (3, .ref ob), (2, .ref g), (1, .ref b0), (0, .ref b)] → W p l e room_1 s m #[Value.ref b] below meth c H1 locs1 (125 + 281 * (k + 1)) (3599 + 5166 * (k + 1)) Q (F0 m 1865 ls1 [])) : W p l e room_1 s m #[Value.ref b] below meth c H locs (125 + 281 * k) (3599 + 5166 * k) Q (F0 m 927 ls []) := by
  obtain ⟨tg, S, Y, f, hR, hM, hr, hI, hob, h7, h8, hsz⟩ := id hLI
  have hK := hev.1
  have hbA : ¬ (fun q : Nat => s.heap.size ≤ q) b := Nat.not_le.mpr hbl
  have hAM : ∀ q, AM g q → (fun q : Nat => s.heap.size ≤ q) q := fun q z => Nat.le_trans hga z.1
  have hAo : (fun q : Nat => s.heap.size ≤ q) ob := hR.tg.a h7 (by decide)
  have hrv : ∃ cell : Cell, H[b0]? = some cell ∧ cell.vm.isStatics = false ∧ s.vm.findClass "Archeloft" = some cell.cls := by
    obtain ⟨y, zq, zy, wo, hC, -⟩ := id hR
    exact x_recv hK hC.2.1.1 rfl
  refine lv_aload_n hx hb dL_law_927 rfl (lv_at hl 3 rfl) ?_
  refine lv_aload_n hx hb dL_law_928 rfl (lv_at hl 4 rfl) ?_
  refine lv_iload hx hb dL_law_929 (lv_at hl 0 rfl) ?_
  refine lv_iconst (v := nI 1) hx hb dL_law_931 (by decide) ?_
  refine y_iadd hx hb dL_law_932 ?_
  refine va_sld hx hb hXs hbl hbA hS (vp_in_nI (n := (5 * k) + 1) (by omega) (by omega)) dL_law_933 ?_
  refine x_top (y := ((xs (5 * k + 1)))) (by rw [nI_clamp (by omega)]) ?_
  refine lv_aload_n hx hb dL_law_934 rfl (lv_at hl 1 rfl) ?_
  refine k_iN (k_SW (As := [.ref b0, .int ((xs (5 * k + 1))), .ref ob]) (rest := []) ⟨hx, hb, hml, hown, hts⟩ hev hS (c_L_size l hst hR hI (xs (5 * k + 1)) hob h7 hAo) (vx_cwSW 3 hts gL_law_L_size rfl rfl rfl (by decide +kernel) ⟨Nat.le_of_ble_eq_true rfl, Nat.le_of_ble_eq_true rfl⟩) rfl hl.1 (Nat.le_of_ble_eq_true rfl) dL_law_935 (by show _ ≤ (601024 : Nat); omega) (by show _ ≤ (7293034 : Nat); omega)) hS (fun r1_ H1 locs1 hP hz1 hS => ?_)
  obtain ⟨⟨er, ho4⟩, ⟨f1, hob1, hf1⟩, tg1, hR1, tx, fr⟩ := hP
  have hM1 := LI.rm hM h8 hsz fr
  have t7 := (tx ob hob.lt).trans h7
  have t8 := LI.t8 h8 tx hsz
  refine x_top (y := (nI ((oSize M (xs (5 * k + 1))).1))) (er) ?_
  refine lv_istore (lv' := [(5, .int (nI ((oSize M (xs (5 * k + 1))).1))), (4, .int (nI (5 * k))), (3, .ref ob), (2, .ref g), (1, .ref b0), (0, .ref b)]) hx hb dL_law_938 hl (by decide) rfl (fun ls hl => ?_)
  refine lv_aload_n hx hb dL_law_940 rfl (lv_at hl 3 rfl) ?_
  refine lv_aload_n hx hb dL_law_941 rfl (lv_at hl 5 rfl) ?_
  refine lv_iload hx hb dL_law_942 (lv_at hl 1 rfl) ?_
  refine lv_iconst (v := nI 1) hx hb dL_law_944 (by decide) ?_
  refine y_iadd hx hb dL_law_945 ?_
  refine va_sld hx hb hXs hbl hbA hS (vp_in_nI (n := (5 * k) + 1) (by omega) (by omega)) dL_law_946 ?_
  refine x_top (y := ((xs (5 * k + 1)))) (by rw [nI_clamp (by omega)]) ?_
  have hsz1 : g + 23 ≤ H1.size := by have := fr.1; omega
  refine k_iA (k_VA (As := [.int ((xs (5 * k + 1)))]) (rest := []) ⟨hx, hb, hml, hown, hts⟩ hev hS hAM (c_X7_size l hM1 hr hI (xs (5 * k + 1))) (cwV 1 hts gL_law_X7_size rfl rfl rfl (by decide +kernel) ⟨Nat.le_of_ble_eq_true rfl, Nat.le_of_ble_eq_true rfl⟩) (x_recv hK hM1.1 rfl) rfl hl.1 (Nat.le_of_ble_eq_true rfl) dL_law_947 (by show _ ≤ (601024 : Nat); omega) (by show _ ≤ (7293034 : Nat); omega)) hS hAM (fun r2_ H2 locs2 hP hz2 hk2 hS => ?_)
  obtain ⟨S2, Y2, hM2, hr2, h02, hv2⟩ := hP
  have hI2 : Inv (800 * (k + 1)) (oSize M (xs (5 * k + 1))).2.2 := (i_size hI (xs (5 * k + 1))).mono (by omega) (by omega)
  refine W.widen (k := 125 + 281 * k + 1) (n := 3599 + 5166 * k + 6) (Nat.le_refl _) (Nat.le_refl _) ?_
  have hLI2 := LI.st hR1 hM2 hr2 hI2 hob1 t7 t8 hz2 hk2 hsz1
  have hob2 := hob1.kept (hk2 ob hob1.lt (fun z => by have := t8 ob z.1 z.2; omega))
  refine lv_istore (lv' := [(6, .int r2_), (5, .int (nI ((oSize M (xs (5 * k + 1))).1))), (4, .int (nI (5 * k))), (3, .ref ob), (2, .ref g), (1, .ref b0), (0, .ref b)]) hx hb dL_law_950 hl (by decide) rfl (fun ls hl => ?_)
  refine lv_aload_n hx hb dL_law_952 rfl (lv_at hl 4 rfl) ?_
  refine k_iA (k_VA (As := []) (rest := []) ⟨hx, hb, hml, hown, hts⟩ hev hS hAM (c_X7_thrown l hM2) (cwV 0 hts gL_law_X7_thrown rfl rfl rfl (by decide +kernel) ⟨Nat.le_of_ble_eq_true rfl, Nat.le_of_ble_eq_true rfl⟩) (x_recv hK hM2.1 rfl) rfl hl.1 (Nat.le_of_ble_eq_true rfl) dL_law_953 (by show _ ≤ (601024 : Nat); omega) (by show _ ≤ (7293034 : Nat); omega)) hS hAM (fun r3_ H3 locs3 hP hz3 hk3 hS => ?_)
  obtain ⟨eH, er2⟩ := hP
  have eH := eH.symm
  subst eH
  refine W.widen (k := 125 + 281 * k + 1) (n := 3599 + 5166 * k + 6) (Nat.le_refl _) (Nat.le_refl _) ?_
  refine x_top (y := (nI ((oSize M (xs (5 * k + 1))).1))) (er2.trans h02) ?_
  refine lv_iload hx hb dL_law_956 (lv_at hl 1 rfl) ?_
  refine y_icmp_eq hx hb (by omega) (by omega) (tgt := 963) dL_law_958 (by decide) (fun c958 => ?_) (fun c958 => ?_)
  · refine lv_iload hx hb dL_law_963 (lv_at hl 1 rfl) ?_
    refine y_if_ne hx hb (by omega) (tgt := 980) dL_law_965 (by decide) (fun c965 => ?_) (fun c965 => ?_)
    · refine lv_goto (tgt := 1865) hx hb dL_law_980 (by decide) ?_
      refine W.widen (k := 125 + 281 * (k + 1)) (n := 3599 + 5166 * (k + 1)) (by omega) (by omega) ?_
      exact hnext _ _ _ ls hLI2 hS (lv_sub hl [2, 3, 4, 5, 6] rfl)
    · have c0_ : (oSize M (xs (5 * k + 1))).1 = 0 := c965
      refine lv_aload_n hx hb dL_law_968 rfl (lv_at hl 3 rfl) ?_
      refine lv_iconst (v := nI 0) hx hb dL_law_969 (by decide) ?_
      refine x_lald (i := 0) hx hb hK hob2 (by decide) (by decide) dL_law_970 ?_
      refine lv_iload hx hb dL_law_971 (lv_at hl 0 rfl) ?_
      refine lv_i2l (v := r2_.toInt64) hx hb dL_law_973 rfl ?_
      refine lv_lcmpE hx hb (by rw [hf1 c0_, hv2 c0_]) dL_law_974 ?_
      refine y_if_eq hx hb (by decide) (tgt := 980) dL_law_975 (by decide) (fun c975 => ?_) (fun c975 => ?_)
      · refine lv_goto (tgt := 1865) hx hb dL_law_980 (by decide) ?_
        refine W.widen (k := 125 + 281 * (k + 1)) (n := 3599 + 5166 * (k + 1)) (by omega) (by omega) ?_
        exact hnext _ _ _ ls hLI2 hS (lv_sub hl [2, 3, 4, 5, 6] rfl)
      · exact absurd c975 (by decide)
  · exact absurd rfl c958
set_option maxHeartbeats 4000000 in
set_option maxRecDepth 100000 in
theorem law_c15 {p : Program} {l : Launch} {e : Env} {s : State} {m : MethodId} {below : List Frame} {meth : Method} {c : Code} {Q : State → Prop} {b L : Nat} {xs : Nat → Int32} {D : va_G} {T : Nat → ClassId} {dE mi b0 g ob : Nat} (hst : l.stackTraces = false) (hx : p.tables.exec = Jvm.exec) (hb : c.code = cL_law) (hml : c.maxLocals = 7) (hown : s.vm.findClass RL = some m.cls) (hts : ∀ w ∈ wsL_law, w.before #[Value.ref b] s = true) (hXs : va_X b L xs s s.heap) (hbl : b < s.heap.size) (hev : EV D T dE mi (fun q : Nat => s.heap.size ≤ q) s) (hga : s.heap.size ≤ g) (hL : L ≤ 2560) {k : Nat} (hk : 5 * k + 5 ≤ L) {H : Heap} {locs : List Loc} {M : mSt} (hLI : LI D T dE b0 g ob (fun q : Nat => s.heap.size ≤ q) H M k) (hS : va_S (fun q : Nat => s.heap.size ≤ q) s.heap H locs) {ls : Array Slot} (hl : lv_has ls 7 [(4, .int (nI (5 * k))), (3, .ref ob), (2, .ref g), (1, .ref b0), (0, .ref b)])
    (hnext : ∀ (H1 : Heap) (locs1 : List Loc) (M1 : mSt) (ls1 : Array Slot), LI D T dE b0 g ob (fun q : Nat => s.heap.size ≤ q) H1 M1 (k + 1) → va_S (fun q : Nat => s.heap.size ≤ q) s.heap H1 locs1 → lv_has ls1 7 [(4, .int (nI (5 * k))), (3, .ref ob), (2, .ref g), (1, .ref b0), (0, .ref b)] → W p l e room_1 s m #[Value.ref b] below meth c H1 locs1 (125 + 281 * (k + 1)) (3599 + 5166 * (k + 1)) Q (F0 m 1865 ls1 [])) : W p l e room_1 s m #[Value.ref b] below meth c H locs (125 + 281 * k) (3599 + 5166 * k) Q (F0 m 983 ls []) := by
  obtain ⟨tg, S, Y, f, hR, hM, hr, hI, hob, h7, h8, hsz⟩ := id hLI
  have hK := hev.1
  have hbA : ¬ (fun q : Nat => s.heap.size ≤ q) b := Nat.not_le.mpr hbl
  have hAM : ∀ q, AM g q → (fun q : Nat => s.heap.size ≤ q) q := fun q z => Nat.le_trans hga z.1
  have hAo : (fun q : Nat => s.heap.size ≤ q) ob := hR.tg.a h7 (by decide)
  have hrv : ∃ cell : Cell, H[b0]? = some cell ∧ cell.vm.isStatics = false ∧ s.vm.findClass "Archeloft" = some cell.cls := by
    obtain ⟨y, zq, zy, wo, hC, -⟩ := id hR
    exact x_recv hK hC.2.1.1 rfl
  refine lv_aload_n hx hb dL_law_983 rfl (lv_at hl 3 rfl) ?_
  refine lv_aload_n hx hb dL_law_984 rfl (lv_at hl 4 rfl) ?_
  refine lv_iload hx hb dL_law_985 (lv_at hl 0 rfl) ?_
  refine lv_iconst (v := nI 1) hx hb dL_law_987 (by decide) ?_
  refine y_iadd hx hb dL_law_988 ?_
  refine va_sld hx hb hXs hbl hbA hS (vp_in_nI (n := (5 * k) + 1) (by omega) (by omega)) dL_law_989 ?_
  refine x_top (y := ((xs (5 * k + 1)))) (by rw [nI_clamp (by omega)]) ?_
  refine lv_aload_n hx hb dL_law_990 rfl (lv_at hl 4 rfl) ?_
  refine lv_iload hx hb dL_law_991 (lv_at hl 0 rfl) ?_
  refine lv_iconst (v := nI 2) hx hb dL_law_993 (by decide) ?_
  refine y_iadd hx hb dL_law_994 ?_
  refine va_sld hx hb hXs hbl hbA hS (vp_in_nI (n := (5 * k) + 2) (by omega) (by omega)) dL_law_995 ?_
  refine x_top (y := ((xs (5 * k + 2)))) (by rw [nI_clamp (by omega)]) ?_
  refine lv_aload_n hx hb dL_law_996 rfl (lv_at hl 1 rfl) ?_
  refine k_iN (k_SW (As := [.ref b0, .int ((xs (5 * k + 1))), .int ((xs (5 * k + 2))), .ref ob]) (rest := []) ⟨hx, hb, hml, hown, hts⟩ hev hS (c_L_entityAt l hst hR hI (xs (5 * k + 1)) (xs (5 * k + 2)) hob h7 hAo) (vx_cwSW 4 hts gL_law_L_entityAt rfl rfl rfl (by decide +kernel) ⟨Nat.le_of_ble_eq_true rfl, Nat.le_of_ble_eq_true rfl⟩) rfl hl.1 (Nat.le_of_ble_eq_true rfl) dL_law_997 (by show _ ≤ (601024 : Nat); omega) (by show _ ≤ (7293034 : Nat); omega)) hS (fun r1_ H1 locs1 hP hz1 hS => ?_)
  obtain ⟨⟨er, ho4⟩, ⟨f1, hob1, hf1⟩, tg1, hR1, tx, fr⟩ := hP
  have hM1 := LI.rm hM h8 hsz fr
  have t7 := (tx ob hob.lt).trans h7
  have t8 := LI.t8 h8 tx hsz
  refine x_top (y := (nI ((oEntityAt M (xs (5 * k + 1)) (xs (5 * k + 2))).1))) (er) ?_
  refine lv_istore (lv' := [(5, .int (nI ((oEntityAt M (xs (5 * k + 1)) (xs (5 * k + 2))).1))), (4, .int (nI (5 * k))), (3, .ref ob), (2, .ref g), (1, .ref b0), (0, .ref b)]) hx hb dL_law_1000 hl (by decide) rfl (fun ls hl => ?_)
  refine lv_aload_n hx hb dL_law_1002 rfl (lv_at hl 3 rfl) ?_
  refine lv_aload_n hx hb dL_law_1003 rfl (lv_at hl 5 rfl) ?_
  refine lv_iload hx hb dL_law_1004 (lv_at hl 1 rfl) ?_
  refine lv_iconst (v := nI 1) hx hb dL_law_1006 (by decide) ?_
  refine y_iadd hx hb dL_law_1007 ?_
  refine va_sld hx hb hXs hbl hbA hS (vp_in_nI (n := (5 * k) + 1) (by omega) (by omega)) dL_law_1008 ?_
  refine x_top (y := ((xs (5 * k + 1)))) (by rw [nI_clamp (by omega)]) ?_
  refine lv_aload_n hx hb dL_law_1009 rfl (lv_at hl 5 rfl) ?_
  refine lv_iload hx hb dL_law_1010 (lv_at hl 1 rfl) ?_
  refine lv_iconst (v := nI 2) hx hb dL_law_1012 (by decide) ?_
  refine y_iadd hx hb dL_law_1013 ?_
  refine va_sld hx hb hXs hbl hbA hS (vp_in_nI (n := (5 * k) + 2) (by omega) (by omega)) dL_law_1014 ?_
  refine x_top (y := ((xs (5 * k + 2)))) (by rw [nI_clamp (by omega)]) ?_
  have hsz1 : g + 23 ≤ H1.size := by have := fr.1; omega
  refine k_iA (k_VA (As := [.int ((xs (5 * k + 1))), .int ((xs (5 * k + 2)))]) (rest := []) ⟨hx, hb, hml, hown, hts⟩ hev hS hAM (c_X7_entityAt l hM1 hr hI (xs (5 * k + 1)) (xs (5 * k + 2))) (cwV 2 hts gL_law_X7_entityAt rfl rfl rfl (by decide +kernel) ⟨Nat.le_of_ble_eq_true rfl, Nat.le_of_ble_eq_true rfl⟩) (x_recv hK hM1.1 rfl) rfl hl.1 (Nat.le_of_ble_eq_true rfl) dL_law_1015 (by show _ ≤ (601024 : Nat); omega) (by show _ ≤ (7293034 : Nat); omega)) hS hAM (fun r2_ H2 locs2 hP hz2 hk2 hS => ?_)
  obtain ⟨S2, Y2, hM2, hr2, h02, hv2⟩ := hP
  have hI2 : Inv (800 * (k + 1)) (oEntityAt M (xs (5 * k + 1)) (xs (5 * k + 2))).2.2 := (i_entityAt hI (xs (5 * k + 1)) (xs (5 * k + 2))).mono (by omega) (by omega)
  refine W.widen (k := 125 + 281 * k + 2) (n := 3599 + 5166 * k + 12) (Nat.le_refl _) (Nat.le_refl _) ?_
  have hLI2 := LI.st hR1 hM2 hr2 hI2 hob1 t7 t8 hz2 hk2 hsz1
  have hob2 := hob1.kept (hk2 ob hob1.lt (fun z => by have := t8 ob z.1 z.2; omega))
  refine lv_istore (lv' := [(6, .int r2_), (5, .int (nI ((oEntityAt M (xs (5 * k + 1)) (xs (5 * k + 2))).1))), (4, .int (nI (5 * k))), (3, .ref ob), (2, .ref g), (1, .ref b0), (0, .ref b)]) hx hb dL_law_1018 hl (by decide) rfl (fun ls hl => ?_)
  refine lv_aload_n hx hb dL_law_1020 rfl (lv_at hl 4 rfl) ?_
  refine k_iA (k_VA (As := []) (rest := []) ⟨hx, hb, hml, hown, hts⟩ hev hS hAM (c_X7_thrown l hM2) (cwV 0 hts gL_law_X7_thrown rfl rfl rfl (by decide +kernel) ⟨Nat.le_of_ble_eq_true rfl, Nat.le_of_ble_eq_true rfl⟩) (x_recv hK hM2.1 rfl) rfl hl.1 (Nat.le_of_ble_eq_true rfl) dL_law_1021 (by show _ ≤ (601024 : Nat); omega) (by show _ ≤ (7293034 : Nat); omega)) hS hAM (fun r3_ H3 locs3 hP hz3 hk3 hS => ?_)
  obtain ⟨eH, er2⟩ := hP
  have eH := eH.symm
  subst eH
  refine W.widen (k := 125 + 281 * k + 2) (n := 3599 + 5166 * k + 12) (Nat.le_refl _) (Nat.le_refl _) ?_
  refine x_top (y := (nI ((oEntityAt M (xs (5 * k + 1)) (xs (5 * k + 2))).1))) (er2.trans h02) ?_
  refine lv_iload hx hb dL_law_1024 (lv_at hl 1 rfl) ?_
  refine y_icmp_eq hx hb (by omega) (by omega) (tgt := 1031) dL_law_1026 (by decide) (fun c1026 => ?_) (fun c1026 => ?_)
  · refine lv_iload hx hb dL_law_1031 (lv_at hl 1 rfl) ?_
    refine y_if_ne hx hb (by omega) (tgt := 1048) dL_law_1033 (by decide) (fun c1033 => ?_) (fun c1033 => ?_)
    · refine lv_goto (tgt := 1865) hx hb dL_law_1048 (by decide) ?_
      refine W.widen (k := 125 + 281 * (k + 1)) (n := 3599 + 5166 * (k + 1)) (by omega) (by omega) ?_
      exact hnext _ _ _ ls hLI2 hS (lv_sub hl [2, 3, 4, 5, 6] rfl)
    · have c0_ : (oEntityAt M (xs (5 * k + 1)) (xs (5 * k + 2))).1 = 0 := c1033
      refine lv_aload_n hx hb dL_law_1036 rfl (lv_at hl 3 rfl) ?_
      refine lv_iconst (v := nI 0) hx hb dL_law_1037 (by decide) ?_
      refine x_lald (i := 0) hx hb hK hob2 (by decide) (by decide) dL_law_1038 ?_
      refine lv_iload hx hb dL_law_1039 (lv_at hl 0 rfl) ?_
      refine lv_i2l (v := r2_.toInt64) hx hb dL_law_1041 rfl ?_
      refine lv_lcmpE hx hb (by rw [hf1 c0_, hv2 c0_]) dL_law_1042 ?_
      refine y_if_eq hx hb (by decide) (tgt := 1048) dL_law_1043 (by decide) (fun c1043 => ?_) (fun c1043 => ?_)
      · refine lv_goto (tgt := 1865) hx hb dL_law_1048 (by decide) ?_
        refine W.widen (k := 125 + 281 * (k + 1)) (n := 3599 + 5166 * (k + 1)) (by omega) (by omega) ?_
        exact hnext _ _ _ ls hLI2 hS (lv_sub hl [2, 3, 4, 5, 6] rfl)
      · exact absurd c1043 (by decide)
  · exact absurd rfl c1026
set_option maxHeartbeats 4000000 in
set_option maxRecDepth 100000 in
theorem law_c16 {p : Program} {l : Launch} {e : Env} {s : State} {m : MethodId} {below : List Frame} {meth : Method} {c : Code} {Q : State → Prop} {b L : Nat} {xs : Nat → Int32} {D : va_G} {T : Nat → ClassId} {dE mi b0 g ob : Nat} (hst : l.stackTraces = false) (hx : p.tables.exec = Jvm.exec) (hb : c.code = cL_law) (hml : c.maxLocals = 7) (hown : s.vm.findClass RL = some m.cls) (hts : ∀ w ∈ wsL_law, w.before #[Value.ref b] s = true) (hXs : va_X b L xs s s.heap) (hbl : b < s.heap.size) (hev : EV D T dE mi (fun q : Nat => s.heap.size ≤ q) s) (hga : s.heap.size ≤ g) (hL : L ≤ 2560) {k : Nat} (hk : 5 * k + 5 ≤ L) {H : Heap} {locs : List Loc} {M : mSt} (hLI : LI D T dE b0 g ob (fun q : Nat => s.heap.size ≤ q) H M k) (hS : va_S (fun q : Nat => s.heap.size ≤ q) s.heap H locs) {ls : Array Slot} (hl : lv_has ls 7 [(4, .int (nI (5 * k))), (3, .ref ob), (2, .ref g), (1, .ref b0), (0, .ref b)])
    (hnext : ∀ (H1 : Heap) (locs1 : List Loc) (M1 : mSt) (ls1 : Array Slot), LI D T dE b0 g ob (fun q : Nat => s.heap.size ≤ q) H1 M1 (k + 1) → va_S (fun q : Nat => s.heap.size ≤ q) s.heap H1 locs1 → lv_has ls1 7 [(4, .int (nI (5 * k))), (3, .ref ob), (2, .ref g), (1, .ref b0), (0, .ref b)] → W p l e room_1 s m #[Value.ref b] below meth c H1 locs1 (125 + 281 * (k + 1)) (3599 + 5166 * (k + 1)) Q (F0 m 1865 ls1 [])) : W p l e room_1 s m #[Value.ref b] below meth c H locs (125 + 281 * k) (3599 + 5166 * k) Q (F0 m 1051 ls []) := by
  obtain ⟨tg, S, Y, f, hR, hM, hr, hI, hob, h7, h8, hsz⟩ := id hLI
  have hK := hev.1
  have hbA : ¬ (fun q : Nat => s.heap.size ≤ q) b := Nat.not_le.mpr hbl
  have hAM : ∀ q, AM g q → (fun q : Nat => s.heap.size ≤ q) q := fun q z => Nat.le_trans hga z.1
  have hAo : (fun q : Nat => s.heap.size ≤ q) ob := hR.tg.a h7 (by decide)
  have hrv : ∃ cell : Cell, H[b0]? = some cell ∧ cell.vm.isStatics = false ∧ s.vm.findClass "Archeloft" = some cell.cls := by
    obtain ⟨y, zq, zy, wo, hC, -⟩ := id hR
    exact x_recv hK hC.2.1.1 rfl
  refine lv_aload_n hx hb dL_law_1051 rfl (lv_at hl 3 rfl) ?_
  refine lv_aload_n hx hb dL_law_1052 rfl (lv_at hl 4 rfl) ?_
  refine lv_iload hx hb dL_law_1053 (lv_at hl 0 rfl) ?_
  refine lv_iconst (v := nI 1) hx hb dL_law_1055 (by decide) ?_
  refine y_iadd hx hb dL_law_1056 ?_
  refine va_sld hx hb hXs hbl hbA hS (vp_in_nI (n := (5 * k) + 1) (by omega) (by omega)) dL_law_1057 ?_
  refine x_top (y := ((xs (5 * k + 1)))) (by rw [nI_clamp (by omega)]) ?_
  refine lv_aload_n hx hb dL_law_1058 rfl (lv_at hl 4 rfl) ?_
  refine lv_iload hx hb dL_law_1059 (lv_at hl 0 rfl) ?_
  refine lv_iconst (v := nI 2) hx hb dL_law_1061 (by decide) ?_
  refine y_iadd hx hb dL_law_1062 ?_
  refine va_sld hx hb hXs hbl hbA hS (vp_in_nI (n := (5 * k) + 2) (by omega) (by omega)) dL_law_1063 ?_
  refine x_top (y := ((xs (5 * k + 2)))) (by rw [nI_clamp (by omega)]) ?_
  refine lv_aload_n hx hb dL_law_1064 rfl (lv_at hl 4 rfl) ?_
  refine lv_iload hx hb dL_law_1065 (lv_at hl 0 rfl) ?_
  refine lv_iconst (v := nI 3) hx hb dL_law_1067 (by decide) ?_
  refine y_iadd hx hb dL_law_1068 ?_
  refine va_sld hx hb hXs hbl hbA hS (vp_in_nI (n := (5 * k) + 3) (by omega) (by omega)) dL_law_1069 ?_
  refine x_top (y := ((xs (5 * k + 3)))) (by rw [nI_clamp (by omega)]) ?_
  refine lv_aload_n hx hb dL_law_1070 rfl (lv_at hl 1 rfl) ?_
  refine k_iN (k_SW (As := [.ref b0, .int ((xs (5 * k + 1))), .int ((xs (5 * k + 2))), .int ((xs (5 * k + 3))), .ref ob]) (rest := []) ⟨hx, hb, hml, hown, hts⟩ hev hS (c_L_question l hst hR hI (xs (5 * k + 1)) (xs (5 * k + 2)) (xs (5 * k + 3)) hob h7 hAo) (vx_cwSW 5 hts gL_law_L_question rfl rfl rfl (by decide +kernel) ⟨Nat.le_of_ble_eq_true rfl, Nat.le_of_ble_eq_true rfl⟩) rfl hl.1 (Nat.le_of_ble_eq_true rfl) dL_law_1071 (by show _ ≤ (601024 : Nat); omega) (by show _ ≤ (7293034 : Nat); omega)) hS (fun r1_ H1 locs1 hP hz1 hS => ?_)
  obtain ⟨⟨er, ho4⟩, ⟨f1, hob1, hf1⟩, tg1, hR1, tx, fr⟩ := hP
  have hM1 := LI.rm hM h8 hsz fr
  have t7 := (tx ob hob.lt).trans h7
  have t8 := LI.t8 h8 tx hsz
  refine x_top (y := (nI ((oQuestion M (xs (5 * k + 1)) (xs (5 * k + 2)) (xs (5 * k + 3))).1))) (er) ?_
  refine lv_istore (lv' := [(5, .int (nI ((oQuestion M (xs (5 * k + 1)) (xs (5 * k + 2)) (xs (5 * k + 3))).1))), (4, .int (nI (5 * k))), (3, .ref ob), (2, .ref g), (1, .ref b0), (0, .ref b)]) hx hb dL_law_1074 hl (by decide) rfl (fun ls hl => ?_)
  refine lv_aload_n hx hb dL_law_1076 rfl (lv_at hl 3 rfl) ?_
  refine lv_aload_n hx hb dL_law_1077 rfl (lv_at hl 5 rfl) ?_
  refine lv_iload hx hb dL_law_1078 (lv_at hl 1 rfl) ?_
  refine lv_iconst (v := nI 1) hx hb dL_law_1080 (by decide) ?_
  refine y_iadd hx hb dL_law_1081 ?_
  refine va_sld hx hb hXs hbl hbA hS (vp_in_nI (n := (5 * k) + 1) (by omega) (by omega)) dL_law_1082 ?_
  refine x_top (y := ((xs (5 * k + 1)))) (by rw [nI_clamp (by omega)]) ?_
  refine lv_aload_n hx hb dL_law_1083 rfl (lv_at hl 5 rfl) ?_
  refine lv_iload hx hb dL_law_1084 (lv_at hl 1 rfl) ?_
  refine lv_iconst (v := nI 2) hx hb dL_law_1086 (by decide) ?_
  refine y_iadd hx hb dL_law_1087 ?_
  refine va_sld hx hb hXs hbl hbA hS (vp_in_nI (n := (5 * k) + 2) (by omega) (by omega)) dL_law_1088 ?_
  refine x_top (y := ((xs (5 * k + 2)))) (by rw [nI_clamp (by omega)]) ?_
  refine lv_aload_n hx hb dL_law_1089 rfl (lv_at hl 5 rfl) ?_
  refine lv_iload hx hb dL_law_1090 (lv_at hl 1 rfl) ?_
  refine lv_iconst (v := nI 3) hx hb dL_law_1092 (by decide) ?_
  refine y_iadd hx hb dL_law_1093 ?_
  refine va_sld hx hb hXs hbl hbA hS (vp_in_nI (n := (5 * k) + 3) (by omega) (by omega)) dL_law_1094 ?_
  refine x_top (y := ((xs (5 * k + 3)))) (by rw [nI_clamp (by omega)]) ?_
  have hsz1 : g + 23 ≤ H1.size := by have := fr.1; omega
  refine k_iA (k_VA (As := [.int ((xs (5 * k + 1))), .int ((xs (5 * k + 2))), .int ((xs (5 * k + 3)))]) (rest := []) ⟨hx, hb, hml, hown, hts⟩ hev hS hAM (c_X7_question l hM1 hr hI (xs (5 * k + 1)) (xs (5 * k + 2)) (xs (5 * k + 3))) (cwV 3 hts gL_law_X7_question rfl rfl rfl (by decide +kernel) ⟨Nat.le_of_ble_eq_true rfl, Nat.le_of_ble_eq_true rfl⟩) (x_recv hK hM1.1 rfl) rfl hl.1 (Nat.le_of_ble_eq_true rfl) dL_law_1095 (by show _ ≤ (601024 : Nat); omega) (by show _ ≤ (7293034 : Nat); omega)) hS hAM (fun r2_ H2 locs2 hP hz2 hk2 hS => ?_)
  obtain ⟨S2, Y2, hM2, hr2, h02, hv2⟩ := hP
  have hI2 : Inv (800 * (k + 1)) (oQuestion M (xs (5 * k + 1)) (xs (5 * k + 2)) (xs (5 * k + 3))).2.2 := (i_question hI (xs (5 * k + 1)) (xs (5 * k + 2)) (xs (5 * k + 3))).mono (by omega) (by omega)
  refine W.widen (k := 125 + 281 * k + 5) (n := 3599 + 5166 * k + 94) (Nat.le_refl _) (Nat.le_refl _) ?_
  have hLI2 := LI.st hR1 hM2 hr2 hI2 hob1 t7 t8 hz2 hk2 hsz1
  have hob2 := hob1.kept (hk2 ob hob1.lt (fun z => by have := t8 ob z.1 z.2; omega))
  refine lv_istore (lv' := [(6, .int r2_), (5, .int (nI ((oQuestion M (xs (5 * k + 1)) (xs (5 * k + 2)) (xs (5 * k + 3))).1))), (4, .int (nI (5 * k))), (3, .ref ob), (2, .ref g), (1, .ref b0), (0, .ref b)]) hx hb dL_law_1098 hl (by decide) rfl (fun ls hl => ?_)
  refine lv_aload_n hx hb dL_law_1100 rfl (lv_at hl 4 rfl) ?_
  refine k_iA (k_VA (As := []) (rest := []) ⟨hx, hb, hml, hown, hts⟩ hev hS hAM (c_X7_thrown l hM2) (cwV 0 hts gL_law_X7_thrown rfl rfl rfl (by decide +kernel) ⟨Nat.le_of_ble_eq_true rfl, Nat.le_of_ble_eq_true rfl⟩) (x_recv hK hM2.1 rfl) rfl hl.1 (Nat.le_of_ble_eq_true rfl) dL_law_1101 (by show _ ≤ (601024 : Nat); omega) (by show _ ≤ (7293034 : Nat); omega)) hS hAM (fun r3_ H3 locs3 hP hz3 hk3 hS => ?_)
  obtain ⟨eH, er2⟩ := hP
  have eH := eH.symm
  subst eH
  refine W.widen (k := 125 + 281 * k + 5) (n := 3599 + 5166 * k + 94) (Nat.le_refl _) (Nat.le_refl _) ?_
  refine x_top (y := (nI ((oQuestion M (xs (5 * k + 1)) (xs (5 * k + 2)) (xs (5 * k + 3))).1))) (er2.trans h02) ?_
  refine lv_iload hx hb dL_law_1104 (lv_at hl 1 rfl) ?_
  refine y_icmp_eq hx hb (by omega) (by omega) (tgt := 1111) dL_law_1106 (by decide) (fun c1106 => ?_) (fun c1106 => ?_)
  · refine lv_iload hx hb dL_law_1111 (lv_at hl 1 rfl) ?_
    refine y_if_ne hx hb (by omega) (tgt := 1128) dL_law_1113 (by decide) (fun c1113 => ?_) (fun c1113 => ?_)
    · refine lv_goto (tgt := 1865) hx hb dL_law_1128 (by decide) ?_
      refine W.widen (k := 125 + 281 * (k + 1)) (n := 3599 + 5166 * (k + 1)) (by omega) (by omega) ?_
      exact hnext _ _ _ ls hLI2 hS (lv_sub hl [2, 3, 4, 5, 6] rfl)
    · have c0_ : (oQuestion M (xs (5 * k + 1)) (xs (5 * k + 2)) (xs (5 * k + 3))).1 = 0 := c1113
      refine lv_aload_n hx hb dL_law_1116 rfl (lv_at hl 3 rfl) ?_
      refine lv_iconst (v := nI 0) hx hb dL_law_1117 (by decide) ?_
      refine x_lald (i := 0) hx hb hK hob2 (by decide) (by decide) dL_law_1118 ?_
      refine lv_iload hx hb dL_law_1119 (lv_at hl 0 rfl) ?_
      refine lv_i2l (v := r2_.toInt64) hx hb dL_law_1121 rfl ?_
      refine lv_lcmpE hx hb (by rw [hf1 c0_, hv2 c0_]) dL_law_1122 ?_
      refine y_if_eq hx hb (by decide) (tgt := 1128) dL_law_1123 (by decide) (fun c1123 => ?_) (fun c1123 => ?_)
      · refine lv_goto (tgt := 1865) hx hb dL_law_1128 (by decide) ?_
        refine W.widen (k := 125 + 281 * (k + 1)) (n := 3599 + 5166 * (k + 1)) (by omega) (by omega) ?_
        exact hnext _ _ _ ls hLI2 hS (lv_sub hl [2, 3, 4, 5, 6] rfl)
      · exact absurd c1123 (by decide)
  · exact absurd rfl c1106
set_option maxHeartbeats 4000000 in
set_option maxRecDepth 100000 in
theorem law_c17 {p : Program} {l : Launch} {e : Env} {s : State} {m : MethodId} {below : List Frame} {meth : Method} {c : Code} {Q : State → Prop} {b L : Nat} {xs : Nat → Int32} {D : va_G} {T : Nat → ClassId} {dE mi b0 g ob : Nat} (hst : l.stackTraces = false) (hx : p.tables.exec = Jvm.exec) (hb : c.code = cL_law) (hml : c.maxLocals = 7) (hown : s.vm.findClass RL = some m.cls) (hts : ∀ w ∈ wsL_law, w.before #[Value.ref b] s = true) (hXs : va_X b L xs s s.heap) (hbl : b < s.heap.size) (hev : EV D T dE mi (fun q : Nat => s.heap.size ≤ q) s) (hga : s.heap.size ≤ g) (hL : L ≤ 2560) {k : Nat} (hk : 5 * k + 5 ≤ L) {H : Heap} {locs : List Loc} {M : mSt} (hLI : LI D T dE b0 g ob (fun q : Nat => s.heap.size ≤ q) H M k) (hS : va_S (fun q : Nat => s.heap.size ≤ q) s.heap H locs) {ls : Array Slot} (hl : lv_has ls 7 [(4, .int (nI (5 * k))), (3, .ref ob), (2, .ref g), (1, .ref b0), (0, .ref b)])
    (hnext : ∀ (H1 : Heap) (locs1 : List Loc) (M1 : mSt) (ls1 : Array Slot), LI D T dE b0 g ob (fun q : Nat => s.heap.size ≤ q) H1 M1 (k + 1) → va_S (fun q : Nat => s.heap.size ≤ q) s.heap H1 locs1 → lv_has ls1 7 [(4, .int (nI (5 * k))), (3, .ref ob), (2, .ref g), (1, .ref b0), (0, .ref b)] → W p l e room_1 s m #[Value.ref b] below meth c H1 locs1 (125 + 281 * (k + 1)) (3599 + 5166 * (k + 1)) Q (F0 m 1865 ls1 [])) : W p l e room_1 s m #[Value.ref b] below meth c H locs (125 + 281 * k) (3599 + 5166 * k) Q (F0 m 1131 ls []) := by
  obtain ⟨tg, S, Y, f, hR, hM, hr, hI, hob, h7, h8, hsz⟩ := id hLI
  have hK := hev.1
  have hbA : ¬ (fun q : Nat => s.heap.size ≤ q) b := Nat.not_le.mpr hbl
  have hAM : ∀ q, AM g q → (fun q : Nat => s.heap.size ≤ q) q := fun q z => Nat.le_trans hga z.1
  have hAo : (fun q : Nat => s.heap.size ≤ q) ob := hR.tg.a h7 (by decide)
  have hrv : ∃ cell : Cell, H[b0]? = some cell ∧ cell.vm.isStatics = false ∧ s.vm.findClass "Archeloft" = some cell.cls := by
    obtain ⟨y, zq, zy, wo, hC, -⟩ := id hR
    exact x_recv hK hC.2.1.1 rfl
  refine lv_aload_n hx hb dL_law_1131 rfl (lv_at hl 3 rfl) ?_
  refine lv_aload_n hx hb dL_law_1132 rfl (lv_at hl 4 rfl) ?_
  refine lv_iload hx hb dL_law_1133 (lv_at hl 0 rfl) ?_
  refine lv_iconst (v := nI 1) hx hb dL_law_1135 (by decide) ?_
  refine y_iadd hx hb dL_law_1136 ?_
  refine va_sld hx hb hXs hbl hbA hS (vp_in_nI (n := (5 * k) + 1) (by omega) (by omega)) dL_law_1137 ?_
  refine x_top (y := ((xs (5 * k + 1)))) (by rw [nI_clamp (by omega)]) ?_
  refine lv_aload_n hx hb dL_law_1138 rfl (lv_at hl 1 rfl) ?_
  refine k_iN (k_SW (As := [.ref b0, .int ((xs (5 * k + 1))), .ref ob]) (rest := []) ⟨hx, hb, hml, hown, hts⟩ hev hS (c_L_answers l hst hR hI (xs (5 * k + 1)) hob h7 hAo) (vx_cwSW 3 hts gL_law_L_answers rfl rfl rfl (by decide +kernel) ⟨Nat.le_of_ble_eq_true rfl, Nat.le_of_ble_eq_true rfl⟩) rfl hl.1 (Nat.le_of_ble_eq_true rfl) dL_law_1139 (by show _ ≤ (601024 : Nat); omega) (by show _ ≤ (7293034 : Nat); omega)) hS (fun r1_ H1 locs1 hP hz1 hS => ?_)
  obtain ⟨⟨er, ho4⟩, ⟨f1, hob1, hf1⟩, tg1, hR1, tx, fr⟩ := hP
  have hM1 := LI.rm hM h8 hsz fr
  have t7 := (tx ob hob.lt).trans h7
  have t8 := LI.t8 h8 tx hsz
  refine x_top (y := (nI ((oAnswers M (xs (5 * k + 1))).1))) (er) ?_
  refine lv_istore (lv' := [(5, .int (nI ((oAnswers M (xs (5 * k + 1))).1))), (4, .int (nI (5 * k))), (3, .ref ob), (2, .ref g), (1, .ref b0), (0, .ref b)]) hx hb dL_law_1142 hl (by decide) rfl (fun ls hl => ?_)
  refine lv_aload_n hx hb dL_law_1144 rfl (lv_at hl 3 rfl) ?_
  refine lv_aload_n hx hb dL_law_1145 rfl (lv_at hl 5 rfl) ?_
  refine lv_iload hx hb dL_law_1146 (lv_at hl 1 rfl) ?_
  refine lv_iconst (v := nI 1) hx hb dL_law_1148 (by decide) ?_
  refine y_iadd hx hb dL_law_1149 ?_
  refine va_sld hx hb hXs hbl hbA hS (vp_in_nI (n := (5 * k) + 1) (by omega) (by omega)) dL_law_1150 ?_
  refine x_top (y := ((xs (5 * k + 1)))) (by rw [nI_clamp (by omega)]) ?_
  have hsz1 : g + 23 ≤ H1.size := by have := fr.1; omega
  refine k_iA (k_VA (As := [.int ((xs (5 * k + 1)))]) (rest := []) ⟨hx, hb, hml, hown, hts⟩ hev hS hAM (c_X7_answers l hM1 hr hI (xs (5 * k + 1))) (cwV 1 hts gL_law_X7_answers rfl rfl rfl (by decide +kernel) ⟨Nat.le_of_ble_eq_true rfl, Nat.le_of_ble_eq_true rfl⟩) (x_recv hK hM1.1 rfl) rfl hl.1 (Nat.le_of_ble_eq_true rfl) dL_law_1151 (by show _ ≤ (601024 : Nat); omega) (by show _ ≤ (7293034 : Nat); omega)) hS hAM (fun r2_ H2 locs2 hP hz2 hk2 hS => ?_)
  obtain ⟨S2, Y2, hM2, hr2, h02, hv2⟩ := hP
  have hI2 : Inv (800 * (k + 1)) (oAnswers M (xs (5 * k + 1))).2.2 := (i_answers hI (xs (5 * k + 1))).mono (by omega) (by omega)
  refine W.widen (k := 125 + 281 * k + 1) (n := 3599 + 5166 * k + 6) (Nat.le_refl _) (Nat.le_refl _) ?_
  have hLI2 := LI.st hR1 hM2 hr2 hI2 hob1 t7 t8 hz2 hk2 hsz1
  have hob2 := hob1.kept (hk2 ob hob1.lt (fun z => by have := t8 ob z.1 z.2; omega))
  refine lv_istore (lv' := [(6, .int r2_), (5, .int (nI ((oAnswers M (xs (5 * k + 1))).1))), (4, .int (nI (5 * k))), (3, .ref ob), (2, .ref g), (1, .ref b0), (0, .ref b)]) hx hb dL_law_1154 hl (by decide) rfl (fun ls hl => ?_)
  refine lv_aload_n hx hb dL_law_1156 rfl (lv_at hl 4 rfl) ?_
  refine k_iA (k_VA (As := []) (rest := []) ⟨hx, hb, hml, hown, hts⟩ hev hS hAM (c_X7_thrown l hM2) (cwV 0 hts gL_law_X7_thrown rfl rfl rfl (by decide +kernel) ⟨Nat.le_of_ble_eq_true rfl, Nat.le_of_ble_eq_true rfl⟩) (x_recv hK hM2.1 rfl) rfl hl.1 (Nat.le_of_ble_eq_true rfl) dL_law_1157 (by show _ ≤ (601024 : Nat); omega) (by show _ ≤ (7293034 : Nat); omega)) hS hAM (fun r3_ H3 locs3 hP hz3 hk3 hS => ?_)
  obtain ⟨eH, er2⟩ := hP
  have eH := eH.symm
  subst eH
  refine W.widen (k := 125 + 281 * k + 1) (n := 3599 + 5166 * k + 6) (Nat.le_refl _) (Nat.le_refl _) ?_
  refine x_top (y := (nI ((oAnswers M (xs (5 * k + 1))).1))) (er2.trans h02) ?_
  refine lv_iload hx hb dL_law_1160 (lv_at hl 1 rfl) ?_
  refine y_icmp_eq hx hb (by omega) (by omega) (tgt := 1167) dL_law_1162 (by decide) (fun c1162 => ?_) (fun c1162 => ?_)
  · refine lv_iload hx hb dL_law_1167 (lv_at hl 1 rfl) ?_
    refine y_if_ne hx hb (by omega) (tgt := 1184) dL_law_1169 (by decide) (fun c1169 => ?_) (fun c1169 => ?_)
    · refine lv_goto (tgt := 1865) hx hb dL_law_1184 (by decide) ?_
      refine W.widen (k := 125 + 281 * (k + 1)) (n := 3599 + 5166 * (k + 1)) (by omega) (by omega) ?_
      exact hnext _ _ _ ls hLI2 hS (lv_sub hl [2, 3, 4, 5, 6] rfl)
    · have c0_ : (oAnswers M (xs (5 * k + 1))).1 = 0 := c1169
      refine lv_aload_n hx hb dL_law_1172 rfl (lv_at hl 3 rfl) ?_
      refine lv_iconst (v := nI 0) hx hb dL_law_1173 (by decide) ?_
      refine x_lald (i := 0) hx hb hK hob2 (by decide) (by decide) dL_law_1174 ?_
      refine lv_iload hx hb dL_law_1175 (lv_at hl 0 rfl) ?_
      refine lv_i2l (v := r2_.toInt64) hx hb dL_law_1177 rfl ?_
      refine lv_lcmpE hx hb (by rw [hf1 c0_, hv2 c0_]) dL_law_1178 ?_
      refine y_if_eq hx hb (by decide) (tgt := 1184) dL_law_1179 (by decide) (fun c1179 => ?_) (fun c1179 => ?_)
      · refine lv_goto (tgt := 1865) hx hb dL_law_1184 (by decide) ?_
        refine W.widen (k := 125 + 281 * (k + 1)) (n := 3599 + 5166 * (k + 1)) (by omega) (by omega) ?_
        exact hnext _ _ _ ls hLI2 hS (lv_sub hl [2, 3, 4, 5, 6] rfl)
      · exact absurd c1179 (by decide)
  · exact absurd rfl c1162
set_option maxHeartbeats 4000000 in
set_option maxRecDepth 100000 in
theorem law_c18 {p : Program} {l : Launch} {e : Env} {s : State} {m : MethodId} {below : List Frame} {meth : Method} {c : Code} {Q : State → Prop} {b L : Nat} {xs : Nat → Int32} {D : va_G} {T : Nat → ClassId} {dE mi b0 g ob : Nat} (hst : l.stackTraces = false) (hx : p.tables.exec = Jvm.exec) (hb : c.code = cL_law) (hml : c.maxLocals = 7) (hown : s.vm.findClass RL = some m.cls) (hts : ∀ w ∈ wsL_law, w.before #[Value.ref b] s = true) (hXs : va_X b L xs s s.heap) (hbl : b < s.heap.size) (hev : EV D T dE mi (fun q : Nat => s.heap.size ≤ q) s) (hga : s.heap.size ≤ g) (hL : L ≤ 2560) {k : Nat} (hk : 5 * k + 5 ≤ L) {H : Heap} {locs : List Loc} {M : mSt} (hLI : LI D T dE b0 g ob (fun q : Nat => s.heap.size ≤ q) H M k) (hS : va_S (fun q : Nat => s.heap.size ≤ q) s.heap H locs) {ls : Array Slot} (hl : lv_has ls 7 [(4, .int (nI (5 * k))), (3, .ref ob), (2, .ref g), (1, .ref b0), (0, .ref b)])
    (hnext : ∀ (H1 : Heap) (locs1 : List Loc) (M1 : mSt) (ls1 : Array Slot), LI D T dE b0 g ob (fun q : Nat => s.heap.size ≤ q) H1 M1 (k + 1) → va_S (fun q : Nat => s.heap.size ≤ q) s.heap H1 locs1 → lv_has ls1 7 [(4, .int (nI (5 * k))), (3, .ref ob), (2, .ref g), (1, .ref b0), (0, .ref b)] → W p l e room_1 s m #[Value.ref b] below meth c H1 locs1 (125 + 281 * (k + 1)) (3599 + 5166 * (k + 1)) Q (F0 m 1865 ls1 [])) : W p l e room_1 s m #[Value.ref b] below meth c H locs (125 + 281 * k) (3599 + 5166 * k) Q (F0 m 1187 ls []) := by
  obtain ⟨tg, S, Y, f, hR, hM, hr, hI, hob, h7, h8, hsz⟩ := id hLI
  have hK := hev.1
  have hbA : ¬ (fun q : Nat => s.heap.size ≤ q) b := Nat.not_le.mpr hbl
  have hAM : ∀ q, AM g q → (fun q : Nat => s.heap.size ≤ q) q := fun q z => Nat.le_trans hga z.1
  have hAo : (fun q : Nat => s.heap.size ≤ q) ob := hR.tg.a h7 (by decide)
  have hrv : ∃ cell : Cell, H[b0]? = some cell ∧ cell.vm.isStatics = false ∧ s.vm.findClass "Archeloft" = some cell.cls := by
    obtain ⟨y, zq, zy, wo, hC, -⟩ := id hR
    exact x_recv hK hC.2.1.1 rfl
  refine lv_aload_n hx hb dL_law_1187 rfl (lv_at hl 3 rfl) ?_
  refine lv_aload_n hx hb dL_law_1188 rfl (lv_at hl 4 rfl) ?_
  refine lv_iload hx hb dL_law_1189 (lv_at hl 0 rfl) ?_
  refine lv_iconst (v := nI 1) hx hb dL_law_1191 (by decide) ?_
  refine y_iadd hx hb dL_law_1192 ?_
  refine va_sld hx hb hXs hbl hbA hS (vp_in_nI (n := (5 * k) + 1) (by omega) (by omega)) dL_law_1193 ?_
  refine x_top (y := ((xs (5 * k + 1)))) (by rw [nI_clamp (by omega)]) ?_
  refine lv_aload_n hx hb dL_law_1194 rfl (lv_at hl 1 rfl) ?_
  refine k_iN (k_SW (As := [.ref b0, .int ((xs (5 * k + 1))), .ref ob]) (rest := []) ⟨hx, hb, hml, hown, hts⟩ hev hS (c_L_answersOneByOne l hst hR hI (xs (5 * k + 1)) hob h7 hAo) (vx_cwSW 3 hts gL_law_L_answersOneByOne rfl rfl rfl (by decide +kernel) ⟨Nat.le_of_ble_eq_true rfl, Nat.le_of_ble_eq_true rfl⟩) rfl hl.1 (Nat.le_of_ble_eq_true rfl) dL_law_1195 (by show _ ≤ (601024 : Nat); omega) (by show _ ≤ (7293034 : Nat); omega)) hS (fun r1_ H1 locs1 hP hz1 hS => ?_)
  obtain ⟨⟨er, ho4⟩, ⟨f1, hob1, hf1⟩, tg1, hR1, tx, fr⟩ := hP
  have hM1 := LI.rm hM h8 hsz fr
  have t7 := (tx ob hob.lt).trans h7
  have t8 := LI.t8 h8 tx hsz
  refine x_top (y := (nI ((oOneByOne M (xs (5 * k + 1))).1))) (er) ?_
  refine lv_istore (lv' := [(5, .int (nI ((oOneByOne M (xs (5 * k + 1))).1))), (4, .int (nI (5 * k))), (3, .ref ob), (2, .ref g), (1, .ref b0), (0, .ref b)]) hx hb dL_law_1198 hl (by decide) rfl (fun ls hl => ?_)
  refine lv_aload_n hx hb dL_law_1200 rfl (lv_at hl 3 rfl) ?_
  refine lv_aload_n hx hb dL_law_1201 rfl (lv_at hl 5 rfl) ?_
  refine lv_iload hx hb dL_law_1202 (lv_at hl 1 rfl) ?_
  refine lv_iconst (v := nI 1) hx hb dL_law_1204 (by decide) ?_
  refine y_iadd hx hb dL_law_1205 ?_
  refine va_sld hx hb hXs hbl hbA hS (vp_in_nI (n := (5 * k) + 1) (by omega) (by omega)) dL_law_1206 ?_
  refine x_top (y := ((xs (5 * k + 1)))) (by rw [nI_clamp (by omega)]) ?_
  have hsz1 : g + 23 ≤ H1.size := by have := fr.1; omega
  refine k_iA (k_VA (As := [.int ((xs (5 * k + 1)))]) (rest := []) ⟨hx, hb, hml, hown, hts⟩ hev hS hAM (c_X7_answersOneByOne l hM1 hr hI (xs (5 * k + 1))) (cwV 1 hts gL_law_X7_answersOneByOne rfl rfl rfl (by decide +kernel) ⟨Nat.le_of_ble_eq_true rfl, Nat.le_of_ble_eq_true rfl⟩) (x_recv hK hM1.1 rfl) rfl hl.1 (Nat.le_of_ble_eq_true rfl) dL_law_1207 (by show _ ≤ (601024 : Nat); omega) (by show _ ≤ (7293034 : Nat); omega)) hS hAM (fun r2_ H2 locs2 hP hz2 hk2 hS => ?_)
  obtain ⟨S2, Y2, hM2, hr2, h02, hv2⟩ := hP
  have hI2 : Inv (800 * (k + 1)) (oOneByOne M (xs (5 * k + 1))).2.2 := (i_oneByOne hI (xs (5 * k + 1))).mono (by omega) (by omega)
  refine W.widen (k := 125 + 281 * k + 1) (n := 3599 + 5166 * k + 6) (Nat.le_refl _) (Nat.le_refl _) ?_
  have hLI2 := LI.st hR1 hM2 hr2 hI2 hob1 t7 t8 hz2 hk2 hsz1
  have hob2 := hob1.kept (hk2 ob hob1.lt (fun z => by have := t8 ob z.1 z.2; omega))
  refine lv_istore (lv' := [(6, .int r2_), (5, .int (nI ((oOneByOne M (xs (5 * k + 1))).1))), (4, .int (nI (5 * k))), (3, .ref ob), (2, .ref g), (1, .ref b0), (0, .ref b)]) hx hb dL_law_1210 hl (by decide) rfl (fun ls hl => ?_)
  refine lv_aload_n hx hb dL_law_1212 rfl (lv_at hl 4 rfl) ?_
  refine k_iA (k_VA (As := []) (rest := []) ⟨hx, hb, hml, hown, hts⟩ hev hS hAM (c_X7_thrown l hM2) (cwV 0 hts gL_law_X7_thrown rfl rfl rfl (by decide +kernel) ⟨Nat.le_of_ble_eq_true rfl, Nat.le_of_ble_eq_true rfl⟩) (x_recv hK hM2.1 rfl) rfl hl.1 (Nat.le_of_ble_eq_true rfl) dL_law_1213 (by show _ ≤ (601024 : Nat); omega) (by show _ ≤ (7293034 : Nat); omega)) hS hAM (fun r3_ H3 locs3 hP hz3 hk3 hS => ?_)
  obtain ⟨eH, er2⟩ := hP
  have eH := eH.symm
  subst eH
  refine W.widen (k := 125 + 281 * k + 1) (n := 3599 + 5166 * k + 6) (Nat.le_refl _) (Nat.le_refl _) ?_
  refine x_top (y := (nI ((oOneByOne M (xs (5 * k + 1))).1))) (er2.trans h02) ?_
  refine lv_iload hx hb dL_law_1216 (lv_at hl 1 rfl) ?_
  refine y_icmp_eq hx hb (by omega) (by omega) (tgt := 1223) dL_law_1218 (by decide) (fun c1218 => ?_) (fun c1218 => ?_)
  · refine lv_iload hx hb dL_law_1223 (lv_at hl 1 rfl) ?_
    refine y_if_ne hx hb (by omega) (tgt := 1240) dL_law_1225 (by decide) (fun c1225 => ?_) (fun c1225 => ?_)
    · refine lv_goto (tgt := 1865) hx hb dL_law_1240 (by decide) ?_
      refine W.widen (k := 125 + 281 * (k + 1)) (n := 3599 + 5166 * (k + 1)) (by omega) (by omega) ?_
      exact hnext _ _ _ ls hLI2 hS (lv_sub hl [2, 3, 4, 5, 6] rfl)
    · have c0_ : (oOneByOne M (xs (5 * k + 1))).1 = 0 := c1225
      refine lv_aload_n hx hb dL_law_1228 rfl (lv_at hl 3 rfl) ?_
      refine lv_iconst (v := nI 0) hx hb dL_law_1229 (by decide) ?_
      refine x_lald (i := 0) hx hb hK hob2 (by decide) (by decide) dL_law_1230 ?_
      refine lv_iload hx hb dL_law_1231 (lv_at hl 0 rfl) ?_
      refine lv_i2l (v := r2_.toInt64) hx hb dL_law_1233 rfl ?_
      refine lv_lcmpE hx hb (by rw [hf1 c0_, hv2 c0_]) dL_law_1234 ?_
      refine y_if_eq hx hb (by decide) (tgt := 1240) dL_law_1235 (by decide) (fun c1235 => ?_) (fun c1235 => ?_)
      · refine lv_goto (tgt := 1865) hx hb dL_law_1240 (by decide) ?_
        refine W.widen (k := 125 + 281 * (k + 1)) (n := 3599 + 5166 * (k + 1)) (by omega) (by omega) ?_
        exact hnext _ _ _ ls hLI2 hS (lv_sub hl [2, 3, 4, 5, 6] rfl)
      · exact absurd c1235 (by decide)
  · exact absurd rfl c1218
set_option maxHeartbeats 4000000 in
set_option maxRecDepth 100000 in
theorem law_c19 {p : Program} {l : Launch} {e : Env} {s : State} {m : MethodId} {below : List Frame} {meth : Method} {c : Code} {Q : State → Prop} {b L : Nat} {xs : Nat → Int32} {D : va_G} {T : Nat → ClassId} {dE mi b0 g ob : Nat} (hst : l.stackTraces = false) (hx : p.tables.exec = Jvm.exec) (hb : c.code = cL_law) (hml : c.maxLocals = 7) (hown : s.vm.findClass RL = some m.cls) (hts : ∀ w ∈ wsL_law, w.before #[Value.ref b] s = true) (hXs : va_X b L xs s s.heap) (hbl : b < s.heap.size) (hev : EV D T dE mi (fun q : Nat => s.heap.size ≤ q) s) (hga : s.heap.size ≤ g) (hL : L ≤ 2560) {k : Nat} (hk : 5 * k + 5 ≤ L) {H : Heap} {locs : List Loc} {M : mSt} (hLI : LI D T dE b0 g ob (fun q : Nat => s.heap.size ≤ q) H M k) (hS : va_S (fun q : Nat => s.heap.size ≤ q) s.heap H locs) {ls : Array Slot} (hl : lv_has ls 7 [(4, .int (nI (5 * k))), (3, .ref ob), (2, .ref g), (1, .ref b0), (0, .ref b)])
    (hnext : ∀ (H1 : Heap) (locs1 : List Loc) (M1 : mSt) (ls1 : Array Slot), LI D T dE b0 g ob (fun q : Nat => s.heap.size ≤ q) H1 M1 (k + 1) → va_S (fun q : Nat => s.heap.size ≤ q) s.heap H1 locs1 → lv_has ls1 7 [(4, .int (nI (5 * k))), (3, .ref ob), (2, .ref g), (1, .ref b0), (0, .ref b)] → W p l e room_1 s m #[Value.ref b] below meth c H1 locs1 (125 + 281 * (k + 1)) (3599 + 5166 * (k + 1)) Q (F0 m 1865 ls1 [])) : W p l e room_1 s m #[Value.ref b] below meth c H locs (125 + 281 * k) (3599 + 5166 * k) Q (F0 m 1243 ls []) := by
  obtain ⟨tg, S, Y, f, hR, hM, hr, hI, hob, h7, h8, hsz⟩ := id hLI
  have hK := hev.1
  have hbA : ¬ (fun q : Nat => s.heap.size ≤ q) b := Nat.not_le.mpr hbl
  have hAM : ∀ q, AM g q → (fun q : Nat => s.heap.size ≤ q) q := fun q z => Nat.le_trans hga z.1
  have hAo : (fun q : Nat => s.heap.size ≤ q) ob := hR.tg.a h7 (by decide)
  have hrv : ∃ cell : Cell, H[b0]? = some cell ∧ cell.vm.isStatics = false ∧ s.vm.findClass "Archeloft" = some cell.cls := by
    obtain ⟨y, zq, zy, wo, hC, -⟩ := id hR
    exact x_recv hK hC.2.1.1 rfl
  refine lv_aload_n hx hb dL_law_1243 rfl (lv_at hl 3 rfl) ?_
  refine lv_aload_n hx hb dL_law_1244 rfl (lv_at hl 4 rfl) ?_
  refine lv_iload hx hb dL_law_1245 (lv_at hl 0 rfl) ?_
  refine lv_iconst (v := nI 1) hx hb dL_law_1247 (by decide) ?_
  refine y_iadd hx hb dL_law_1248 ?_
  refine va_sld hx hb hXs hbl hbA hS (vp_in_nI (n := (5 * k) + 1) (by omega) (by omega)) dL_law_1249 ?_
  refine x_top (y := ((xs (5 * k + 1)))) (by rw [nI_clamp (by omega)]) ?_
  refine lv_aload_n hx hb dL_law_1250 rfl (lv_at hl 4 rfl) ?_
  refine lv_iload hx hb dL_law_1251 (lv_at hl 0 rfl) ?_
  refine lv_iconst (v := nI 2) hx hb dL_law_1253 (by decide) ?_
  refine y_iadd hx hb dL_law_1254 ?_
  refine va_sld hx hb hXs hbl hbA hS (vp_in_nI (n := (5 * k) + 2) (by omega) (by omega)) dL_law_1255 ?_
  refine x_top (y := ((xs (5 * k + 2)))) (by rw [nI_clamp (by omega)]) ?_
  refine lv_aload_n hx hb dL_law_1256 rfl (lv_at hl 1 rfl) ?_
  refine k_iN (k_SW (As := [.ref b0, .int ((xs (5 * k + 1))), .int ((xs (5 * k + 2))), .ref ob]) (rest := []) ⟨hx, hb, hml, hown, hts⟩ hev hS (c_L_answer l hst hR hI (xs (5 * k + 1)) (xs (5 * k + 2)) hob h7 hAo) (vx_cwSW 4 hts gL_law_L_answer rfl rfl rfl (by decide +kernel) ⟨Nat.le_of_ble_eq_true rfl, Nat.le_of_ble_eq_true rfl⟩) rfl hl.1 (Nat.le_of_ble_eq_true rfl) dL_law_1257 (by show _ ≤ (601024 : Nat); omega) (by show _ ≤ (7293034 : Nat); omega)) hS (fun r1_ H1 locs1 hP hz1 hS => ?_)
  obtain ⟨⟨er, ho4⟩, ⟨f1, hob1, hf1⟩, tg1, hR1, tx, fr⟩ := hP
  have hM1 := LI.rm hM h8 hsz fr
  have t7 := (tx ob hob.lt).trans h7
  have t8 := LI.t8 h8 tx hsz
  refine x_top (y := (nI ((oAnswer M (xs (5 * k + 1)) (xs (5 * k + 2))).1))) (er) ?_
  refine lv_istore (lv' := [(5, .int (nI ((oAnswer M (xs (5 * k + 1)) (xs (5 * k + 2))).1))), (4, .int (nI (5 * k))), (3, .ref ob), (2, .ref g), (1, .ref b0), (0, .ref b)]) hx hb dL_law_1260 hl (by decide) rfl (fun ls hl => ?_)
  refine lv_aload_n hx hb dL_law_1262 rfl (lv_at hl 3 rfl) ?_
  refine lv_aload_n hx hb dL_law_1263 rfl (lv_at hl 5 rfl) ?_
  refine lv_iload hx hb dL_law_1264 (lv_at hl 1 rfl) ?_
  refine lv_iconst (v := nI 1) hx hb dL_law_1266 (by decide) ?_
  refine y_iadd hx hb dL_law_1267 ?_
  refine va_sld hx hb hXs hbl hbA hS (vp_in_nI (n := (5 * k) + 1) (by omega) (by omega)) dL_law_1268 ?_
  refine x_top (y := ((xs (5 * k + 1)))) (by rw [nI_clamp (by omega)]) ?_
  refine lv_aload_n hx hb dL_law_1269 rfl (lv_at hl 5 rfl) ?_
  refine lv_iload hx hb dL_law_1270 (lv_at hl 1 rfl) ?_
  refine lv_iconst (v := nI 2) hx hb dL_law_1272 (by decide) ?_
  refine y_iadd hx hb dL_law_1273 ?_
  refine va_sld hx hb hXs hbl hbA hS (vp_in_nI (n := (5 * k) + 2) (by omega) (by omega)) dL_law_1274 ?_
  refine x_top (y := ((xs (5 * k + 2)))) (by rw [nI_clamp (by omega)]) ?_
  have hsz1 : g + 23 ≤ H1.size := by have := fr.1; omega
  refine k_iA (k_VA (As := [.int ((xs (5 * k + 1))), .int ((xs (5 * k + 2)))]) (rest := []) ⟨hx, hb, hml, hown, hts⟩ hev hS hAM (c_X7_answer l hM1 hr hI (xs (5 * k + 1)) (xs (5 * k + 2))) (cwV 2 hts gL_law_X7_answer rfl rfl rfl (by decide +kernel) ⟨Nat.le_of_ble_eq_true rfl, Nat.le_of_ble_eq_true rfl⟩) (x_recv hK hM1.1 rfl) rfl hl.1 (Nat.le_of_ble_eq_true rfl) dL_law_1275 (by show _ ≤ (601024 : Nat); omega) (by show _ ≤ (7293034 : Nat); omega)) hS hAM (fun r2_ H2 locs2 hP hz2 hk2 hS => ?_)
  obtain ⟨S2, Y2, hM2, hr2, h02, hv2⟩ := hP
  have hI2 : Inv (800 * (k + 1)) (oAnswer M (xs (5 * k + 1)) (xs (5 * k + 2))).2.2 := (i_answer hI (xs (5 * k + 1)) (xs (5 * k + 2))).mono (by omega) (by omega)
  refine W.widen (k := 125 + 281 * k + 7) (n := 3599 + 5166 * k + 95) (Nat.le_refl _) (Nat.le_refl _) ?_
  have hLI2 := LI.st hR1 hM2 hr2 hI2 hob1 t7 t8 hz2 hk2 hsz1
  have hob2 := hob1.kept (hk2 ob hob1.lt (fun z => by have := t8 ob z.1 z.2; omega))
  refine lv_istore (lv' := [(6, .int r2_), (5, .int (nI ((oAnswer M (xs (5 * k + 1)) (xs (5 * k + 2))).1))), (4, .int (nI (5 * k))), (3, .ref ob), (2, .ref g), (1, .ref b0), (0, .ref b)]) hx hb dL_law_1278 hl (by decide) rfl (fun ls hl => ?_)
  refine lv_aload_n hx hb dL_law_1280 rfl (lv_at hl 4 rfl) ?_
  refine k_iA (k_VA (As := []) (rest := []) ⟨hx, hb, hml, hown, hts⟩ hev hS hAM (c_X7_thrown l hM2) (cwV 0 hts gL_law_X7_thrown rfl rfl rfl (by decide +kernel) ⟨Nat.le_of_ble_eq_true rfl, Nat.le_of_ble_eq_true rfl⟩) (x_recv hK hM2.1 rfl) rfl hl.1 (Nat.le_of_ble_eq_true rfl) dL_law_1281 (by show _ ≤ (601024 : Nat); omega) (by show _ ≤ (7293034 : Nat); omega)) hS hAM (fun r3_ H3 locs3 hP hz3 hk3 hS => ?_)
  obtain ⟨eH, er2⟩ := hP
  have eH := eH.symm
  subst eH
  refine W.widen (k := 125 + 281 * k + 7) (n := 3599 + 5166 * k + 95) (Nat.le_refl _) (Nat.le_refl _) ?_
  refine x_top (y := (nI ((oAnswer M (xs (5 * k + 1)) (xs (5 * k + 2))).1))) (er2.trans h02) ?_
  refine lv_iload hx hb dL_law_1284 (lv_at hl 1 rfl) ?_
  refine y_icmp_eq hx hb (by omega) (by omega) (tgt := 1291) dL_law_1286 (by decide) (fun c1286 => ?_) (fun c1286 => ?_)
  · refine lv_iload hx hb dL_law_1291 (lv_at hl 1 rfl) ?_
    refine y_if_ne hx hb (by omega) (tgt := 1308) dL_law_1293 (by decide) (fun c1293 => ?_) (fun c1293 => ?_)
    · refine lv_goto (tgt := 1865) hx hb dL_law_1308 (by decide) ?_
      refine W.widen (k := 125 + 281 * (k + 1)) (n := 3599 + 5166 * (k + 1)) (by omega) (by omega) ?_
      exact hnext _ _ _ ls hLI2 hS (lv_sub hl [2, 3, 4, 5, 6] rfl)
    · have c0_ : (oAnswer M (xs (5 * k + 1)) (xs (5 * k + 2))).1 = 0 := c1293
      refine lv_aload_n hx hb dL_law_1296 rfl (lv_at hl 3 rfl) ?_
      refine lv_iconst (v := nI 0) hx hb dL_law_1297 (by decide) ?_
      refine x_lald (i := 0) hx hb hK hob2 (by decide) (by decide) dL_law_1298 ?_
      refine lv_iload hx hb dL_law_1299 (lv_at hl 0 rfl) ?_
      refine lv_i2l (v := r2_.toInt64) hx hb dL_law_1301 rfl ?_
      refine lv_lcmpE hx hb (by rw [hf1 c0_, hv2 c0_]) dL_law_1302 ?_
      refine y_if_eq hx hb (by decide) (tgt := 1308) dL_law_1303 (by decide) (fun c1303 => ?_) (fun c1303 => ?_)
      · refine lv_goto (tgt := 1865) hx hb dL_law_1308 (by decide) ?_
        refine W.widen (k := 125 + 281 * (k + 1)) (n := 3599 + 5166 * (k + 1)) (by omega) (by omega) ?_
        exact hnext _ _ _ ls hLI2 hS (lv_sub hl [2, 3, 4, 5, 6] rfl)
      · exact absurd c1303 (by decide)
  · exact absurd rfl c1286
set_option maxHeartbeats 4000000 in
set_option maxRecDepth 100000 in
theorem law_c20 {p : Program} {l : Launch} {e : Env} {s : State} {m : MethodId} {below : List Frame} {meth : Method} {c : Code} {Q : State → Prop} {b L : Nat} {xs : Nat → Int32} {D : va_G} {T : Nat → ClassId} {dE mi b0 g ob : Nat} (hst : l.stackTraces = false) (hx : p.tables.exec = Jvm.exec) (hb : c.code = cL_law) (hml : c.maxLocals = 7) (hown : s.vm.findClass RL = some m.cls) (hts : ∀ w ∈ wsL_law, w.before #[Value.ref b] s = true) (hXs : va_X b L xs s s.heap) (hbl : b < s.heap.size) (hev : EV D T dE mi (fun q : Nat => s.heap.size ≤ q) s) (hga : s.heap.size ≤ g) (hL : L ≤ 2560) {k : Nat} (hk : 5 * k + 5 ≤ L) {H : Heap} {locs : List Loc} {M : mSt} (hLI : LI D T dE b0 g ob (fun q : Nat => s.heap.size ≤ q) H M k) (hS : va_S (fun q : Nat => s.heap.size ≤ q) s.heap H locs) {ls : Array Slot} (hl : lv_has ls 7 [(4, .int (nI (5 * k))), (3, .ref ob), (2, .ref g), (1, .ref b0), (0, .ref b)])
    (hnext : ∀ (H1 : Heap) (locs1 : List Loc) (M1 : mSt) (ls1 : Array Slot), LI D T dE b0 g ob (fun q : Nat => s.heap.size ≤ q) H1 M1 (k + 1) → va_S (fun q : Nat => s.heap.size ≤ q) s.heap H1 locs1 → lv_has ls1 7 [(4, .int (nI (5 * k))), (3, .ref ob), (2, .ref g), (1, .ref b0), (0, .ref b)] → W p l e room_1 s m #[Value.ref b] below meth c H1 locs1 (125 + 281 * (k + 1)) (3599 + 5166 * (k + 1)) Q (F0 m 1865 ls1 [])) : W p l e room_1 s m #[Value.ref b] below meth c H locs (125 + 281 * k) (3599 + 5166 * k) Q (F0 m 1311 ls []) := by
  obtain ⟨tg, S, Y, f, hR, hM, hr, hI, hob, h7, h8, hsz⟩ := id hLI
  have hK := hev.1
  have hbA : ¬ (fun q : Nat => s.heap.size ≤ q) b := Nat.not_le.mpr hbl
  have hAM : ∀ q, AM g q → (fun q : Nat => s.heap.size ≤ q) q := fun q z => Nat.le_trans hga z.1
  have hAo : (fun q : Nat => s.heap.size ≤ q) ob := hR.tg.a h7 (by decide)
  have hrv : ∃ cell : Cell, H[b0]? = some cell ∧ cell.vm.isStatics = false ∧ s.vm.findClass "Archeloft" = some cell.cls := by
    obtain ⟨y, zq, zy, wo, hC, -⟩ := id hR
    exact x_recv hK hC.2.1.1 rfl
  refine lv_aload_n hx hb dL_law_1311 rfl (lv_at hl 3 rfl) ?_
  refine lv_aload_n hx hb dL_law_1312 rfl (lv_at hl 4 rfl) ?_
  refine lv_iload hx hb dL_law_1313 (lv_at hl 0 rfl) ?_
  refine lv_iconst (v := nI 1) hx hb dL_law_1315 (by decide) ?_
  refine y_iadd hx hb dL_law_1316 ?_
  refine va_sld hx hb hXs hbl hbA hS (vp_in_nI (n := (5 * k) + 1) (by omega) (by omega)) dL_law_1317 ?_
  refine x_top (y := ((xs (5 * k + 1)))) (by rw [nI_clamp (by omega)]) ?_
  refine lv_aload_n hx hb dL_law_1318 rfl (lv_at hl 1 rfl) ?_
  refine k_iN (k_SW (As := [.ref b0, .int ((xs (5 * k + 1))), .ref ob]) (rest := []) ⟨hx, hb, hml, hown, hts⟩ hev hS (c_L_answeringRows l hst hR hI (xs (5 * k + 1)) hob h7 hAo) (vx_cwSW 3 hts gL_law_L_answeringRows rfl rfl rfl (by decide +kernel) ⟨Nat.le_of_ble_eq_true rfl, Nat.le_of_ble_eq_true rfl⟩) rfl hl.1 (Nat.le_of_ble_eq_true rfl) dL_law_1319 (by show _ ≤ (601024 : Nat); omega) (by show _ ≤ (7293034 : Nat); omega)) hS (fun r1_ H1 locs1 hP hz1 hS => ?_)
  obtain ⟨⟨er, ho4⟩, ⟨f1, hob1, hf1⟩, tg1, hR1, tx, fr⟩ := hP
  have hM1 := LI.rm hM h8 hsz fr
  have t7 := (tx ob hob.lt).trans h7
  have t8 := LI.t8 h8 tx hsz
  refine x_top (y := (nI ((oAnsRows M (xs (5 * k + 1))).1))) (er) ?_
  refine lv_istore (lv' := [(5, .int (nI ((oAnsRows M (xs (5 * k + 1))).1))), (4, .int (nI (5 * k))), (3, .ref ob), (2, .ref g), (1, .ref b0), (0, .ref b)]) hx hb dL_law_1322 hl (by decide) rfl (fun ls hl => ?_)
  refine lv_aload_n hx hb dL_law_1324 rfl (lv_at hl 3 rfl) ?_
  refine lv_aload_n hx hb dL_law_1325 rfl (lv_at hl 5 rfl) ?_
  refine lv_iload hx hb dL_law_1326 (lv_at hl 1 rfl) ?_
  refine lv_iconst (v := nI 1) hx hb dL_law_1328 (by decide) ?_
  refine y_iadd hx hb dL_law_1329 ?_
  refine va_sld hx hb hXs hbl hbA hS (vp_in_nI (n := (5 * k) + 1) (by omega) (by omega)) dL_law_1330 ?_
  refine x_top (y := ((xs (5 * k + 1)))) (by rw [nI_clamp (by omega)]) ?_
  have hsz1 : g + 23 ≤ H1.size := by have := fr.1; omega
  refine k_iA (k_VA (As := [.int ((xs (5 * k + 1)))]) (rest := []) ⟨hx, hb, hml, hown, hts⟩ hev hS hAM (c_X7_answeringRows l hM1 hr hI (xs (5 * k + 1))) (cwV 1 hts gL_law_X7_answeringRows rfl rfl rfl (by decide +kernel) ⟨Nat.le_of_ble_eq_true rfl, Nat.le_of_ble_eq_true rfl⟩) (x_recv hK hM1.1 rfl) rfl hl.1 (Nat.le_of_ble_eq_true rfl) dL_law_1331 (by show _ ≤ (601024 : Nat); omega) (by show _ ≤ (7293034 : Nat); omega)) hS hAM (fun r2_ H2 locs2 hP hz2 hk2 hS => ?_)
  obtain ⟨S2, Y2, hM2, hr2, h02, hv2⟩ := hP
  have hI2 : Inv (800 * (k + 1)) (oAnsRows M (xs (5 * k + 1))).2.2 := (i_ansRows hI (xs (5 * k + 1))).mono (by omega) (by omega)
  refine W.widen (k := 125 + 281 * k + 1) (n := 3599 + 5166 * k + 6) (Nat.le_refl _) (Nat.le_refl _) ?_
  have hLI2 := LI.st hR1 hM2 hr2 hI2 hob1 t7 t8 hz2 hk2 hsz1
  have hob2 := hob1.kept (hk2 ob hob1.lt (fun z => by have := t8 ob z.1 z.2; omega))
  refine lv_istore (lv' := [(6, .int r2_), (5, .int (nI ((oAnsRows M (xs (5 * k + 1))).1))), (4, .int (nI (5 * k))), (3, .ref ob), (2, .ref g), (1, .ref b0), (0, .ref b)]) hx hb dL_law_1334 hl (by decide) rfl (fun ls hl => ?_)
  refine lv_aload_n hx hb dL_law_1336 rfl (lv_at hl 4 rfl) ?_
  refine k_iA (k_VA (As := []) (rest := []) ⟨hx, hb, hml, hown, hts⟩ hev hS hAM (c_X7_thrown l hM2) (cwV 0 hts gL_law_X7_thrown rfl rfl rfl (by decide +kernel) ⟨Nat.le_of_ble_eq_true rfl, Nat.le_of_ble_eq_true rfl⟩) (x_recv hK hM2.1 rfl) rfl hl.1 (Nat.le_of_ble_eq_true rfl) dL_law_1337 (by show _ ≤ (601024 : Nat); omega) (by show _ ≤ (7293034 : Nat); omega)) hS hAM (fun r3_ H3 locs3 hP hz3 hk3 hS => ?_)
  obtain ⟨eH, er2⟩ := hP
  have eH := eH.symm
  subst eH
  refine W.widen (k := 125 + 281 * k + 1) (n := 3599 + 5166 * k + 6) (Nat.le_refl _) (Nat.le_refl _) ?_
  refine x_top (y := (nI ((oAnsRows M (xs (5 * k + 1))).1))) (er2.trans h02) ?_
  refine lv_iload hx hb dL_law_1340 (lv_at hl 1 rfl) ?_
  refine y_icmp_eq hx hb (by omega) (by omega) (tgt := 1347) dL_law_1342 (by decide) (fun c1342 => ?_) (fun c1342 => ?_)
  · refine lv_iload hx hb dL_law_1347 (lv_at hl 1 rfl) ?_
    refine y_if_ne hx hb (by omega) (tgt := 1364) dL_law_1349 (by decide) (fun c1349 => ?_) (fun c1349 => ?_)
    · refine lv_goto (tgt := 1865) hx hb dL_law_1364 (by decide) ?_
      refine W.widen (k := 125 + 281 * (k + 1)) (n := 3599 + 5166 * (k + 1)) (by omega) (by omega) ?_
      exact hnext _ _ _ ls hLI2 hS (lv_sub hl [2, 3, 4, 5, 6] rfl)
    · have c0_ : (oAnsRows M (xs (5 * k + 1))).1 = 0 := c1349
      refine lv_aload_n hx hb dL_law_1352 rfl (lv_at hl 3 rfl) ?_
      refine lv_iconst (v := nI 0) hx hb dL_law_1353 (by decide) ?_
      refine x_lald (i := 0) hx hb hK hob2 (by decide) (by decide) dL_law_1354 ?_
      refine lv_iload hx hb dL_law_1355 (lv_at hl 0 rfl) ?_
      refine lv_i2l (v := r2_.toInt64) hx hb dL_law_1357 rfl ?_
      refine lv_lcmpE hx hb (by rw [hf1 c0_, hv2 c0_]) dL_law_1358 ?_
      refine y_if_eq hx hb (by decide) (tgt := 1364) dL_law_1359 (by decide) (fun c1359 => ?_) (fun c1359 => ?_)
      · refine lv_goto (tgt := 1865) hx hb dL_law_1364 (by decide) ?_
        refine W.widen (k := 125 + 281 * (k + 1)) (n := 3599 + 5166 * (k + 1)) (by omega) (by omega) ?_
        exact hnext _ _ _ ls hLI2 hS (lv_sub hl [2, 3, 4, 5, 6] rfl)
      · exact absurd c1359 (by decide)
  · exact absurd rfl c1342
set_option maxHeartbeats 4000000 in
set_option maxRecDepth 100000 in
theorem law_c21 {p : Program} {l : Launch} {e : Env} {s : State} {m : MethodId} {below : List Frame} {meth : Method} {c : Code} {Q : State → Prop} {b L : Nat} {xs : Nat → Int32} {D : va_G} {T : Nat → ClassId} {dE mi b0 g ob : Nat} (hst : l.stackTraces = false) (hx : p.tables.exec = Jvm.exec) (hb : c.code = cL_law) (hml : c.maxLocals = 7) (hown : s.vm.findClass RL = some m.cls) (hts : ∀ w ∈ wsL_law, w.before #[Value.ref b] s = true) (hXs : va_X b L xs s s.heap) (hbl : b < s.heap.size) (hev : EV D T dE mi (fun q : Nat => s.heap.size ≤ q) s) (hga : s.heap.size ≤ g) (hL : L ≤ 2560) {k : Nat} (hk : 5 * k + 5 ≤ L) {H : Heap} {locs : List Loc} {M : mSt} (hLI : LI D T dE b0 g ob (fun q : Nat => s.heap.size ≤ q) H M k) (hS : va_S (fun q : Nat => s.heap.size ≤ q) s.heap H locs) {ls : Array Slot} (hl : lv_has ls 7 [(4, .int (nI (5 * k))), (3, .ref ob), (2, .ref g), (1, .ref b0), (0, .ref b)])
    (hnext : ∀ (H1 : Heap) (locs1 : List Loc) (M1 : mSt) (ls1 : Array Slot), LI D T dE b0 g ob (fun q : Nat => s.heap.size ≤ q) H1 M1 (k + 1) → va_S (fun q : Nat => s.heap.size ≤ q) s.heap H1 locs1 → lv_has ls1 7 [(4, .int (nI (5 * k))), (3, .ref ob), (2, .ref g), (1, .ref b0), (0, .ref b)] → W p l e room_1 s m #[Value.ref b] below meth c H1 locs1 (125 + 281 * (k + 1)) (3599 + 5166 * (k + 1)) Q (F0 m 1865 ls1 [])) : W p l e room_1 s m #[Value.ref b] below meth c H locs (125 + 281 * k) (3599 + 5166 * k) Q (F0 m 1367 ls []) := by
  obtain ⟨tg, S, Y, f, hR, hM, hr, hI, hob, h7, h8, hsz⟩ := id hLI
  have hK := hev.1
  have hbA : ¬ (fun q : Nat => s.heap.size ≤ q) b := Nat.not_le.mpr hbl
  have hAM : ∀ q, AM g q → (fun q : Nat => s.heap.size ≤ q) q := fun q z => Nat.le_trans hga z.1
  have hAo : (fun q : Nat => s.heap.size ≤ q) ob := hR.tg.a h7 (by decide)
  have hrv : ∃ cell : Cell, H[b0]? = some cell ∧ cell.vm.isStatics = false ∧ s.vm.findClass "Archeloft" = some cell.cls := by
    obtain ⟨y, zq, zy, wo, hC, -⟩ := id hR
    exact x_recv hK hC.2.1.1 rfl
  refine lv_aload_n hx hb dL_law_1367 rfl (lv_at hl 3 rfl) ?_
  refine lv_aload_n hx hb dL_law_1368 rfl (lv_at hl 4 rfl) ?_
  refine lv_iload hx hb dL_law_1369 (lv_at hl 0 rfl) ?_
  refine lv_iconst (v := nI 1) hx hb dL_law_1371 (by decide) ?_
  refine y_iadd hx hb dL_law_1372 ?_
  refine va_sld hx hb hXs hbl hbA hS (vp_in_nI (n := (5 * k) + 1) (by omega) (by omega)) dL_law_1373 ?_
  refine x_top (y := ((xs (5 * k + 1)))) (by rw [nI_clamp (by omega)]) ?_
  refine lv_aload_n hx hb dL_law_1374 rfl (lv_at hl 4 rfl) ?_
  refine lv_iload hx hb dL_law_1375 (lv_at hl 0 rfl) ?_
  refine lv_iconst (v := nI 2) hx hb dL_law_1377 (by decide) ?_
  refine y_iadd hx hb dL_law_1378 ?_
  refine va_sld hx hb hXs hbl hbA hS (vp_in_nI (n := (5 * k) + 2) (by omega) (by omega)) dL_law_1379 ?_
  refine x_top (y := ((xs (5 * k + 2)))) (by rw [nI_clamp (by omega)]) ?_
  refine lv_aload_n hx hb dL_law_1380 rfl (lv_at hl 1 rfl) ?_
  refine k_iN (k_SW (As := [.ref b0, .int ((xs (5 * k + 1))), .int ((xs (5 * k + 2))), .ref ob]) (rest := []) ⟨hx, hb, hml, hown, hts⟩ hev hS (c_L_changed l hst hR hI (xs (5 * k + 1)) (xs (5 * k + 2)) hob h7 hAo) (vx_cwSW 4 hts gL_law_L_changed rfl rfl rfl (by decide +kernel) ⟨Nat.le_of_ble_eq_true rfl, Nat.le_of_ble_eq_true rfl⟩) rfl hl.1 (Nat.le_of_ble_eq_true rfl) dL_law_1381 (by show _ ≤ (601024 : Nat); omega) (by show _ ≤ (7293034 : Nat); omega)) hS (fun r1_ H1 locs1 hP hz1 hS => ?_)
  obtain ⟨⟨er, ho4⟩, ⟨f1, hob1, hf1⟩, tg1, hR1, tx, fr⟩ := hP
  have hM1 := LI.rm hM h8 hsz fr
  have t7 := (tx ob hob.lt).trans h7
  have t8 := LI.t8 h8 tx hsz
  refine x_top (y := (nI ((oChanged M (xs (5 * k + 1)) (xs (5 * k + 2))).1))) (er) ?_
  refine lv_istore (lv' := [(5, .int (nI ((oChanged M (xs (5 * k + 1)) (xs (5 * k + 2))).1))), (4, .int (nI (5 * k))), (3, .ref ob), (2, .ref g), (1, .ref b0), (0, .ref b)]) hx hb dL_law_1384 hl (by decide) rfl (fun ls hl => ?_)
  refine lv_aload_n hx hb dL_law_1386 rfl (lv_at hl 3 rfl) ?_
  refine lv_aload_n hx hb dL_law_1387 rfl (lv_at hl 5 rfl) ?_
  refine lv_iload hx hb dL_law_1388 (lv_at hl 1 rfl) ?_
  refine lv_iconst (v := nI 1) hx hb dL_law_1390 (by decide) ?_
  refine y_iadd hx hb dL_law_1391 ?_
  refine va_sld hx hb hXs hbl hbA hS (vp_in_nI (n := (5 * k) + 1) (by omega) (by omega)) dL_law_1392 ?_
  refine x_top (y := ((xs (5 * k + 1)))) (by rw [nI_clamp (by omega)]) ?_
  refine lv_aload_n hx hb dL_law_1393 rfl (lv_at hl 5 rfl) ?_
  refine lv_iload hx hb dL_law_1394 (lv_at hl 1 rfl) ?_
  refine lv_iconst (v := nI 2) hx hb dL_law_1396 (by decide) ?_
  refine y_iadd hx hb dL_law_1397 ?_
  refine va_sld hx hb hXs hbl hbA hS (vp_in_nI (n := (5 * k) + 2) (by omega) (by omega)) dL_law_1398 ?_
  refine x_top (y := ((xs (5 * k + 2)))) (by rw [nI_clamp (by omega)]) ?_
  have hsz1 : g + 23 ≤ H1.size := by have := fr.1; omega
  refine k_iA (k_VA (As := [.int ((xs (5 * k + 1))), .int ((xs (5 * k + 2)))]) (rest := []) ⟨hx, hb, hml, hown, hts⟩ hev hS hAM (c_X7_changed l hM1 hr hI (xs (5 * k + 1)) (xs (5 * k + 2))) (cwV 2 hts gL_law_X7_changed rfl rfl rfl (by decide +kernel) ⟨Nat.le_of_ble_eq_true rfl, Nat.le_of_ble_eq_true rfl⟩) (x_recv hK hM1.1 rfl) rfl hl.1 (Nat.le_of_ble_eq_true rfl) dL_law_1399 (by show _ ≤ (601024 : Nat); omega) (by show _ ≤ (7293034 : Nat); omega)) hS hAM (fun r2_ H2 locs2 hP hz2 hk2 hS => ?_)
  obtain ⟨S2, Y2, hM2, hr2, h02, hv2⟩ := hP
  have hI2 : Inv (800 * (k + 1)) (oChanged M (xs (5 * k + 1)) (xs (5 * k + 2))).2.2 := (i_changed hI (xs (5 * k + 1)) (xs (5 * k + 2))).mono (by omega) (by omega)
  refine W.widen (k := 125 + 281 * k + 6) (n := 3599 + 5166 * k + 89) (Nat.le_refl _) (Nat.le_refl _) ?_
  have hLI2 := LI.st hR1 hM2 hr2 hI2 hob1 t7 t8 hz2 hk2 hsz1
  have hob2 := hob1.kept (hk2 ob hob1.lt (fun z => by have := t8 ob z.1 z.2; omega))
  refine lv_istore (lv' := [(6, .int r2_), (5, .int (nI ((oChanged M (xs (5 * k + 1)) (xs (5 * k + 2))).1))), (4, .int (nI (5 * k))), (3, .ref ob), (2, .ref g), (1, .ref b0), (0, .ref b)]) hx hb dL_law_1402 hl (by decide) rfl (fun ls hl => ?_)
  refine lv_aload_n hx hb dL_law_1404 rfl (lv_at hl 4 rfl) ?_
  refine k_iA (k_VA (As := []) (rest := []) ⟨hx, hb, hml, hown, hts⟩ hev hS hAM (c_X7_thrown l hM2) (cwV 0 hts gL_law_X7_thrown rfl rfl rfl (by decide +kernel) ⟨Nat.le_of_ble_eq_true rfl, Nat.le_of_ble_eq_true rfl⟩) (x_recv hK hM2.1 rfl) rfl hl.1 (Nat.le_of_ble_eq_true rfl) dL_law_1405 (by show _ ≤ (601024 : Nat); omega) (by show _ ≤ (7293034 : Nat); omega)) hS hAM (fun r3_ H3 locs3 hP hz3 hk3 hS => ?_)
  obtain ⟨eH, er2⟩ := hP
  have eH := eH.symm
  subst eH
  refine W.widen (k := 125 + 281 * k + 6) (n := 3599 + 5166 * k + 89) (Nat.le_refl _) (Nat.le_refl _) ?_
  refine x_top (y := (nI ((oChanged M (xs (5 * k + 1)) (xs (5 * k + 2))).1))) (er2.trans h02) ?_
  refine lv_iload hx hb dL_law_1408 (lv_at hl 1 rfl) ?_
  refine y_icmp_eq hx hb (by omega) (by omega) (tgt := 1415) dL_law_1410 (by decide) (fun c1410 => ?_) (fun c1410 => ?_)
  · refine lv_iload hx hb dL_law_1415 (lv_at hl 1 rfl) ?_
    refine y_if_ne hx hb (by omega) (tgt := 1432) dL_law_1417 (by decide) (fun c1417 => ?_) (fun c1417 => ?_)
    · refine lv_goto (tgt := 1865) hx hb dL_law_1432 (by decide) ?_
      refine W.widen (k := 125 + 281 * (k + 1)) (n := 3599 + 5166 * (k + 1)) (by omega) (by omega) ?_
      exact hnext _ _ _ ls hLI2 hS (lv_sub hl [2, 3, 4, 5, 6] rfl)
    · have c0_ : (oChanged M (xs (5 * k + 1)) (xs (5 * k + 2))).1 = 0 := c1417
      refine lv_aload_n hx hb dL_law_1420 rfl (lv_at hl 3 rfl) ?_
      refine lv_iconst (v := nI 0) hx hb dL_law_1421 (by decide) ?_
      refine x_lald (i := 0) hx hb hK hob2 (by decide) (by decide) dL_law_1422 ?_
      refine lv_iload hx hb dL_law_1423 (lv_at hl 0 rfl) ?_
      refine lv_i2l (v := r2_.toInt64) hx hb dL_law_1425 rfl ?_
      refine lv_lcmpE hx hb (by rw [hf1 c0_, hv2 c0_]) dL_law_1426 ?_
      refine y_if_eq hx hb (by decide) (tgt := 1432) dL_law_1427 (by decide) (fun c1427 => ?_) (fun c1427 => ?_)
      · refine lv_goto (tgt := 1865) hx hb dL_law_1432 (by decide) ?_
        refine W.widen (k := 125 + 281 * (k + 1)) (n := 3599 + 5166 * (k + 1)) (by omega) (by omega) ?_
        exact hnext _ _ _ ls hLI2 hS (lv_sub hl [2, 3, 4, 5, 6] rfl)
      · exact absurd c1427 (by decide)
  · exact absurd rfl c1410
set_option maxHeartbeats 4000000 in
set_option maxRecDepth 100000 in
theorem law_c22 {p : Program} {l : Launch} {e : Env} {s : State} {m : MethodId} {below : List Frame} {meth : Method} {c : Code} {Q : State → Prop} {b L : Nat} {xs : Nat → Int32} {D : va_G} {T : Nat → ClassId} {dE mi b0 g ob : Nat} (hst : l.stackTraces = false) (hx : p.tables.exec = Jvm.exec) (hb : c.code = cL_law) (hml : c.maxLocals = 7) (hown : s.vm.findClass RL = some m.cls) (hts : ∀ w ∈ wsL_law, w.before #[Value.ref b] s = true) (hXs : va_X b L xs s s.heap) (hbl : b < s.heap.size) (hev : EV D T dE mi (fun q : Nat => s.heap.size ≤ q) s) (hga : s.heap.size ≤ g) (hL : L ≤ 2560) {k : Nat} (hk : 5 * k + 5 ≤ L) {H : Heap} {locs : List Loc} {M : mSt} (hLI : LI D T dE b0 g ob (fun q : Nat => s.heap.size ≤ q) H M k) (hS : va_S (fun q : Nat => s.heap.size ≤ q) s.heap H locs) {ls : Array Slot} (hl : lv_has ls 7 [(4, .int (nI (5 * k))), (3, .ref ob), (2, .ref g), (1, .ref b0), (0, .ref b)])
    (hnext : ∀ (H1 : Heap) (locs1 : List Loc) (M1 : mSt) (ls1 : Array Slot), LI D T dE b0 g ob (fun q : Nat => s.heap.size ≤ q) H1 M1 (k + 1) → va_S (fun q : Nat => s.heap.size ≤ q) s.heap H1 locs1 → lv_has ls1 7 [(4, .int (nI (5 * k))), (3, .ref ob), (2, .ref g), (1, .ref b0), (0, .ref b)] → W p l e room_1 s m #[Value.ref b] below meth c H1 locs1 (125 + 281 * (k + 1)) (3599 + 5166 * (k + 1)) Q (F0 m 1865 ls1 [])) : W p l e room_1 s m #[Value.ref b] below meth c H locs (125 + 281 * k) (3599 + 5166 * k) Q (F0 m 1435 ls []) := by
  obtain ⟨tg, S, Y, f, hR, hM, hr, hI, hob, h7, h8, hsz⟩ := id hLI
  have hK := hev.1
  have hbA : ¬ (fun q : Nat => s.heap.size ≤ q) b := Nat.not_le.mpr hbl
  have hAM : ∀ q, AM g q → (fun q : Nat => s.heap.size ≤ q) q := fun q z => Nat.le_trans hga z.1
  have hAo : (fun q : Nat => s.heap.size ≤ q) ob := hR.tg.a h7 (by decide)
  have hrv : ∃ cell : Cell, H[b0]? = some cell ∧ cell.vm.isStatics = false ∧ s.vm.findClass "Archeloft" = some cell.cls := by
    obtain ⟨y, zq, zy, wo, hC, -⟩ := id hR
    exact x_recv hK hC.2.1.1 rfl
  refine lv_aload_n hx hb dL_law_1435 rfl (lv_at hl 3 rfl) ?_
  refine lv_aload_n hx hb dL_law_1436 rfl (lv_at hl 4 rfl) ?_
  refine lv_iload hx hb dL_law_1437 (lv_at hl 0 rfl) ?_
  refine lv_iconst (v := nI 1) hx hb dL_law_1439 (by decide) ?_
  refine y_iadd hx hb dL_law_1440 ?_
  refine va_sld hx hb hXs hbl hbA hS (vp_in_nI (n := (5 * k) + 1) (by omega) (by omega)) dL_law_1441 ?_
  refine x_top (y := ((xs (5 * k + 1)))) (by rw [nI_clamp (by omega)]) ?_
  refine lv_aload_n hx hb dL_law_1442 rfl (lv_at hl 1 rfl) ?_
  refine k_iN (k_SW (As := [.ref b0, .int ((xs (5 * k + 1))), .ref ob]) (rest := []) ⟨hx, hb, hml, hown, hts⟩ hev hS (c_L_walk l hst hR hI (xs (5 * k + 1)) hob h7 hAo) (vx_cwSW 3 hts gL_law_L_walk rfl rfl rfl (by decide +kernel) ⟨Nat.le_of_ble_eq_true rfl, Nat.le_of_ble_eq_true rfl⟩) rfl hl.1 (Nat.le_of_ble_eq_true rfl) dL_law_1443 (by show _ ≤ (601024 : Nat); omega) (by show _ ≤ (7293034 : Nat); omega)) hS (fun r1_ H1 locs1 hP hz1 hS => ?_)
  obtain ⟨⟨er, ho4⟩, ⟨f1, hob1, hf1⟩, tg1, hR1, tx, fr⟩ := hP
  have hM1 := LI.rm hM h8 hsz fr
  have t7 := (tx ob hob.lt).trans h7
  have t8 := LI.t8 h8 tx hsz
  refine x_top (y := (nI ((oWalk M (xs (5 * k + 1))).1))) (er) ?_
  refine lv_istore (lv' := [(5, .int (nI ((oWalk M (xs (5 * k + 1))).1))), (4, .int (nI (5 * k))), (3, .ref ob), (2, .ref g), (1, .ref b0), (0, .ref b)]) hx hb dL_law_1446 hl (by decide) rfl (fun ls hl => ?_)
  refine lv_aload_n hx hb dL_law_1448 rfl (lv_at hl 3 rfl) ?_
  refine lv_aload_n hx hb dL_law_1449 rfl (lv_at hl 5 rfl) ?_
  refine lv_iload hx hb dL_law_1450 (lv_at hl 1 rfl) ?_
  refine lv_iconst (v := nI 1) hx hb dL_law_1452 (by decide) ?_
  refine y_iadd hx hb dL_law_1453 ?_
  refine va_sld hx hb hXs hbl hbA hS (vp_in_nI (n := (5 * k) + 1) (by omega) (by omega)) dL_law_1454 ?_
  refine x_top (y := ((xs (5 * k + 1)))) (by rw [nI_clamp (by omega)]) ?_
  have hsz1 : g + 23 ≤ H1.size := by have := fr.1; omega
  refine k_iA (k_VA (As := [.int ((xs (5 * k + 1)))]) (rest := []) ⟨hx, hb, hml, hown, hts⟩ hev hS hAM (c_X7_walk l hM1 hr hI (xs (5 * k + 1))) (cwV 1 hts gL_law_X7_walk rfl rfl rfl (by decide +kernel) ⟨Nat.le_of_ble_eq_true rfl, Nat.le_of_ble_eq_true rfl⟩) (x_recv hK hM1.1 rfl) rfl hl.1 (Nat.le_of_ble_eq_true rfl) dL_law_1455 (by show _ ≤ (601024 : Nat); omega) (by show _ ≤ (7293034 : Nat); omega)) hS hAM (fun r2_ H2 locs2 hP hz2 hk2 hS => ?_)
  obtain ⟨S2, Y2, hM2, hr2, h02, hv2⟩ := hP
  have hI2 : Inv (800 * (k + 1)) (oWalk M (xs (5 * k + 1))).2.2 := (i_walk hI (xs (5 * k + 1))).mono (by omega) (by omega)
  refine W.widen (k := 125 + 281 * k + 9) (n := 3599 + 5166 * k + 101) (Nat.le_refl _) (Nat.le_refl _) ?_
  have hLI2 := LI.st hR1 hM2 hr2 hI2 hob1 t7 t8 hz2 hk2 hsz1
  have hob2 := hob1.kept (hk2 ob hob1.lt (fun z => by have := t8 ob z.1 z.2; omega))
  refine lv_istore (lv' := [(6, .int r2_), (5, .int (nI ((oWalk M (xs (5 * k + 1))).1))), (4, .int (nI (5 * k))), (3, .ref ob), (2, .ref g), (1, .ref b0), (0, .ref b)]) hx hb dL_law_1458 hl (by decide) rfl (fun ls hl => ?_)
  refine lv_aload_n hx hb dL_law_1460 rfl (lv_at hl 4 rfl) ?_
  refine k_iA (k_VA (As := []) (rest := []) ⟨hx, hb, hml, hown, hts⟩ hev hS hAM (c_X7_thrown l hM2) (cwV 0 hts gL_law_X7_thrown rfl rfl rfl (by decide +kernel) ⟨Nat.le_of_ble_eq_true rfl, Nat.le_of_ble_eq_true rfl⟩) (x_recv hK hM2.1 rfl) rfl hl.1 (Nat.le_of_ble_eq_true rfl) dL_law_1461 (by show _ ≤ (601024 : Nat); omega) (by show _ ≤ (7293034 : Nat); omega)) hS hAM (fun r3_ H3 locs3 hP hz3 hk3 hS => ?_)
  obtain ⟨eH, er2⟩ := hP
  have eH := eH.symm
  subst eH
  refine W.widen (k := 125 + 281 * k + 9) (n := 3599 + 5166 * k + 101) (Nat.le_refl _) (Nat.le_refl _) ?_
  refine x_top (y := (nI ((oWalk M (xs (5 * k + 1))).1))) (er2.trans h02) ?_
  refine lv_iload hx hb dL_law_1464 (lv_at hl 1 rfl) ?_
  refine y_icmp_eq hx hb (by omega) (by omega) (tgt := 1471) dL_law_1466 (by decide) (fun c1466 => ?_) (fun c1466 => ?_)
  · refine lv_iload hx hb dL_law_1471 (lv_at hl 1 rfl) ?_
    refine y_if_ne hx hb (by omega) (tgt := 1488) dL_law_1473 (by decide) (fun c1473 => ?_) (fun c1473 => ?_)
    · refine lv_goto (tgt := 1865) hx hb dL_law_1488 (by decide) ?_
      refine W.widen (k := 125 + 281 * (k + 1)) (n := 3599 + 5166 * (k + 1)) (by omega) (by omega) ?_
      exact hnext _ _ _ ls hLI2 hS (lv_sub hl [2, 3, 4, 5, 6] rfl)
    · have c0_ : (oWalk M (xs (5 * k + 1))).1 = 0 := c1473
      refine lv_aload_n hx hb dL_law_1476 rfl (lv_at hl 3 rfl) ?_
      refine lv_iconst (v := nI 0) hx hb dL_law_1477 (by decide) ?_
      refine x_lald (i := 0) hx hb hK hob2 (by decide) (by decide) dL_law_1478 ?_
      refine lv_iload hx hb dL_law_1479 (lv_at hl 0 rfl) ?_
      refine lv_i2l (v := r2_.toInt64) hx hb dL_law_1481 rfl ?_
      refine lv_lcmpE hx hb (by rw [hf1 c0_, hv2 c0_]) dL_law_1482 ?_
      refine y_if_eq hx hb (by decide) (tgt := 1488) dL_law_1483 (by decide) (fun c1483 => ?_) (fun c1483 => ?_)
      · refine lv_goto (tgt := 1865) hx hb dL_law_1488 (by decide) ?_
        refine W.widen (k := 125 + 281 * (k + 1)) (n := 3599 + 5166 * (k + 1)) (by omega) (by omega) ?_
        exact hnext _ _ _ ls hLI2 hS (lv_sub hl [2, 3, 4, 5, 6] rfl)
      · exact absurd c1483 (by decide)
  · exact absurd rfl c1466
set_option maxHeartbeats 4000000 in
set_option maxRecDepth 100000 in
theorem law_c23 {p : Program} {l : Launch} {e : Env} {s : State} {m : MethodId} {below : List Frame} {meth : Method} {c : Code} {Q : State → Prop} {b L : Nat} {xs : Nat → Int32} {D : va_G} {T : Nat → ClassId} {dE mi b0 g ob : Nat} (hst : l.stackTraces = false) (hx : p.tables.exec = Jvm.exec) (hb : c.code = cL_law) (hml : c.maxLocals = 7) (hown : s.vm.findClass RL = some m.cls) (hts : ∀ w ∈ wsL_law, w.before #[Value.ref b] s = true) (hXs : va_X b L xs s s.heap) (hbl : b < s.heap.size) (hev : EV D T dE mi (fun q : Nat => s.heap.size ≤ q) s) (hga : s.heap.size ≤ g) (hL : L ≤ 2560) {k : Nat} (hk : 5 * k + 5 ≤ L) {H : Heap} {locs : List Loc} {M : mSt} (hLI : LI D T dE b0 g ob (fun q : Nat => s.heap.size ≤ q) H M k) (hS : va_S (fun q : Nat => s.heap.size ≤ q) s.heap H locs) {ls : Array Slot} (hl : lv_has ls 7 [(4, .int (nI (5 * k))), (3, .ref ob), (2, .ref g), (1, .ref b0), (0, .ref b)])
    (hnext : ∀ (H1 : Heap) (locs1 : List Loc) (M1 : mSt) (ls1 : Array Slot), LI D T dE b0 g ob (fun q : Nat => s.heap.size ≤ q) H1 M1 (k + 1) → va_S (fun q : Nat => s.heap.size ≤ q) s.heap H1 locs1 → lv_has ls1 7 [(4, .int (nI (5 * k))), (3, .ref ob), (2, .ref g), (1, .ref b0), (0, .ref b)] → W p l e room_1 s m #[Value.ref b] below meth c H1 locs1 (125 + 281 * (k + 1)) (3599 + 5166 * (k + 1)) Q (F0 m 1865 ls1 [])) : W p l e room_1 s m #[Value.ref b] below meth c H locs (125 + 281 * k) (3599 + 5166 * k) Q (F0 m 1491 ls []) := by
  obtain ⟨tg, S, Y, f, hR, hM, hr, hI, hob, h7, h8, hsz⟩ := id hLI
  have hK := hev.1
  have hbA : ¬ (fun q : Nat => s.heap.size ≤ q) b := Nat.not_le.mpr hbl
  have hAM : ∀ q, AM g q → (fun q : Nat => s.heap.size ≤ q) q := fun q z => Nat.le_trans hga z.1
  have hAo : (fun q : Nat => s.heap.size ≤ q) ob := hR.tg.a h7 (by decide)
  have hrv : ∃ cell : Cell, H[b0]? = some cell ∧ cell.vm.isStatics = false ∧ s.vm.findClass "Archeloft" = some cell.cls := by
    obtain ⟨y, zq, zy, wo, hC, -⟩ := id hR
    exact x_recv hK hC.2.1.1 rfl
  refine lv_aload_n hx hb dL_law_1491 rfl (lv_at hl 3 rfl) ?_
  refine lv_aload_n hx hb dL_law_1492 rfl (lv_at hl 1 rfl) ?_
  refine k_iN (k_SW (As := [.ref b0, .ref ob]) (rest := []) ⟨hx, hb, hml, hown, hts⟩ hev hS (c_L_next l hst hR hI hob h7 hAo) (vx_cwSW 2 hts gL_law_L_next rfl rfl rfl (by decide +kernel) ⟨Nat.le_of_ble_eq_true rfl, Nat.le_of_ble_eq_true rfl⟩) rfl hl.1 (Nat.le_of_ble_eq_true rfl) dL_law_1493 (by show _ ≤ (601024 : Nat); omega) (by show _ ≤ (7293034 : Nat); omega)) hS (fun r1_ H1 locs1 hP hz1 hS => ?_)
  obtain ⟨⟨er, ho4⟩, ⟨f1, hob1, hf1⟩, tg1, hR1, tx, fr⟩ := hP
  have hM1 := LI.rm hM h8 hsz fr
  have t7 := (tx ob hob.lt).trans h7
  have t8 := LI.t8 h8 tx hsz
  refine x_top (y := (nI ((oNext M).1))) (er) ?_
  refine lv_istore (lv' := [(5, .int (nI ((oNext M).1))), (4, .int (nI (5 * k))), (3, .ref ob), (2, .ref g), (1, .ref b0), (0, .ref b)]) hx hb dL_law_1496 hl (by decide) rfl (fun ls hl => ?_)
  refine lv_aload_n hx hb dL_law_1498 rfl (lv_at hl 3 rfl) ?_
  have hsz1 : g + 23 ≤ H1.size := by have := fr.1; omega
  refine k_iA (k_VA (As := []) (rest := []) ⟨hx, hb, hml, hown, hts⟩ hev hS hAM (c_X7_next l hM1 hr hI) (cwV 0 hts gL_law_X7_next rfl rfl rfl (by decide +kernel) ⟨Nat.le_of_ble_eq_true rfl, Nat.le_of_ble_eq_true rfl⟩) (x_recv hK hM1.1 rfl) rfl hl.1 (Nat.le_of_ble_eq_true rfl) dL_law_1499 (by show _ ≤ (601024 : Nat); omega) (by show _ ≤ (7293034 : Nat); omega)) hS hAM (fun r2_ H2 locs2 hP hz2 hk2 hS => ?_)
  obtain ⟨S2, Y2, hM2, hr2, h02, hv2⟩ := hP
  have hI2 : Inv (800 * (k + 1)) (oNext M).2.2 := (i_next hI).mono (by omega) (by omega)
  refine W.widen (k := 125 + 281 * k + 1) (n := 3599 + 5166 * k + 6) (Nat.le_refl _) (Nat.le_refl _) ?_
  have hLI2 := LI.st hR1 hM2 hr2 hI2 hob1 t7 t8 hz2 hk2 hsz1
  have hob2 := hob1.kept (hk2 ob hob1.lt (fun z => by have := t8 ob z.1 z.2; omega))
  refine lv_istore (lv' := [(6, .int r2_), (5, .int (nI ((oNext M).1))), (4, .int (nI (5 * k))), (3, .ref ob), (2, .ref g), (1, .ref b0), (0, .ref b)]) hx hb dL_law_1502 hl (by decide) rfl (fun ls hl => ?_)
  refine lv_aload_n hx hb dL_law_1504 rfl (lv_at hl 4 rfl) ?_
  refine k_iA (k_VA (As := []) (rest := []) ⟨hx, hb, hml, hown, hts⟩ hev hS hAM (c_X7_thrown l hM2) (cwV 0 hts gL_law_X7_thrown rfl rfl rfl (by decide +kernel) ⟨Nat.le_of_ble_eq_true rfl, Nat.le_of_ble_eq_true rfl⟩) (x_recv hK hM2.1 rfl) rfl hl.1 (Nat.le_of_ble_eq_true rfl) dL_law_1505 (by show _ ≤ (601024 : Nat); omega) (by show _ ≤ (7293034 : Nat); omega)) hS hAM (fun r3_ H3 locs3 hP hz3 hk3 hS => ?_)
  obtain ⟨eH, er2⟩ := hP
  have eH := eH.symm
  subst eH
  refine W.widen (k := 125 + 281 * k + 1) (n := 3599 + 5166 * k + 6) (Nat.le_refl _) (Nat.le_refl _) ?_
  refine x_top (y := (nI ((oNext M).1))) (er2.trans h02) ?_
  refine lv_iload hx hb dL_law_1508 (lv_at hl 1 rfl) ?_
  refine y_icmp_eq hx hb (by omega) (by omega) (tgt := 1515) dL_law_1510 (by decide) (fun c1510 => ?_) (fun c1510 => ?_)
  · refine lv_iload hx hb dL_law_1515 (lv_at hl 1 rfl) ?_
    refine y_if_ne hx hb (by omega) (tgt := 1532) dL_law_1517 (by decide) (fun c1517 => ?_) (fun c1517 => ?_)
    · refine lv_goto (tgt := 1865) hx hb dL_law_1532 (by decide) ?_
      refine W.widen (k := 125 + 281 * (k + 1)) (n := 3599 + 5166 * (k + 1)) (by omega) (by omega) ?_
      exact hnext _ _ _ ls hLI2 hS (lv_sub hl [2, 3, 4, 5, 6] rfl)
    · have c0_ : (oNext M).1 = 0 := c1517
      refine lv_aload_n hx hb dL_law_1520 rfl (lv_at hl 3 rfl) ?_
      refine lv_iconst (v := nI 0) hx hb dL_law_1521 (by decide) ?_
      refine x_lald (i := 0) hx hb hK hob2 (by decide) (by decide) dL_law_1522 ?_
      refine lv_iload hx hb dL_law_1523 (lv_at hl 0 rfl) ?_
      refine lv_i2l (v := r2_.toInt64) hx hb dL_law_1525 rfl ?_
      refine lv_lcmpE hx hb (by rw [hf1 c0_, hv2 c0_]) dL_law_1526 ?_
      refine y_if_eq hx hb (by decide) (tgt := 1532) dL_law_1527 (by decide) (fun c1527 => ?_) (fun c1527 => ?_)
      · refine lv_goto (tgt := 1865) hx hb dL_law_1532 (by decide) ?_
        refine W.widen (k := 125 + 281 * (k + 1)) (n := 3599 + 5166 * (k + 1)) (by omega) (by omega) ?_
        exact hnext _ _ _ ls hLI2 hS (lv_sub hl [2, 3, 4, 5, 6] rfl)
      · exact absurd c1527 (by decide)
  · exact absurd rfl c1510
set_option maxHeartbeats 4000000 in
set_option maxRecDepth 100000 in
theorem law_c24 {p : Program} {l : Launch} {e : Env} {s : State} {m : MethodId} {below : List Frame} {meth : Method} {c : Code} {Q : State → Prop} {b L : Nat} {xs : Nat → Int32} {D : va_G} {T : Nat → ClassId} {dE mi b0 g ob : Nat} (hst : l.stackTraces = false) (hx : p.tables.exec = Jvm.exec) (hb : c.code = cL_law) (hml : c.maxLocals = 7) (hown : s.vm.findClass RL = some m.cls) (hts : ∀ w ∈ wsL_law, w.before #[Value.ref b] s = true) (hXs : va_X b L xs s s.heap) (hbl : b < s.heap.size) (hev : EV D T dE mi (fun q : Nat => s.heap.size ≤ q) s) (hga : s.heap.size ≤ g) (hL : L ≤ 2560) {k : Nat} (hk : 5 * k + 5 ≤ L) {H : Heap} {locs : List Loc} {M : mSt} (hLI : LI D T dE b0 g ob (fun q : Nat => s.heap.size ≤ q) H M k) (hS : va_S (fun q : Nat => s.heap.size ≤ q) s.heap H locs) {ls : Array Slot} (hl : lv_has ls 7 [(4, .int (nI (5 * k))), (3, .ref ob), (2, .ref g), (1, .ref b0), (0, .ref b)])
    (hnext : ∀ (H1 : Heap) (locs1 : List Loc) (M1 : mSt) (ls1 : Array Slot), LI D T dE b0 g ob (fun q : Nat => s.heap.size ≤ q) H1 M1 (k + 1) → va_S (fun q : Nat => s.heap.size ≤ q) s.heap H1 locs1 → lv_has ls1 7 [(4, .int (nI (5 * k))), (3, .ref ob), (2, .ref g), (1, .ref b0), (0, .ref b)] → W p l e room_1 s m #[Value.ref b] below meth c H1 locs1 (125 + 281 * (k + 1)) (3599 + 5166 * (k + 1)) Q (F0 m 1865 ls1 [])) : W p l e room_1 s m #[Value.ref b] below meth c H locs (125 + 281 * k) (3599 + 5166 * k) Q (F0 m 1535 ls []) := by
  obtain ⟨tg, S, Y, f, hR, hM, hr, hI, hob, h7, h8, hsz⟩ := id hLI
  have hK := hev.1
  have hbA : ¬ (fun q : Nat => s.heap.size ≤ q) b := Nat.not_le.mpr hbl
  have hAM : ∀ q, AM g q → (fun q : Nat => s.heap.size ≤ q) q := fun q z => Nat.le_trans hga z.1
  have hAo : (fun q : Nat => s.heap.size ≤ q) ob := hR.tg.a h7 (by decide)
  have hrv : ∃ cell : Cell, H[b0]? = some cell ∧ cell.vm.isStatics = false ∧ s.vm.findClass "Archeloft" = some cell.cls := by
    obtain ⟨y, zq, zy, wo, hC, -⟩ := id hR
    exact x_recv hK hC.2.1.1 rfl
  refine lv_aload_n hx hb dL_law_1535 rfl (lv_at hl 3 rfl) ?_
  refine lv_aload_n hx hb dL_law_1536 rfl (lv_at hl 4 rfl) ?_
  refine lv_iload hx hb dL_law_1537 (lv_at hl 0 rfl) ?_
  refine lv_iconst (v := nI 1) hx hb dL_law_1539 (by decide) ?_
  refine y_iadd hx hb dL_law_1540 ?_
  refine va_sld hx hb hXs hbl hbA hS (vp_in_nI (n := (5 * k) + 1) (by omega) (by omega)) dL_law_1541 ?_
  refine x_top (y := ((xs (5 * k + 1)))) (by rw [nI_clamp (by omega)]) ?_
  refine lv_aload_n hx hb dL_law_1542 rfl (lv_at hl 4 rfl) ?_
  refine lv_iload hx hb dL_law_1543 (lv_at hl 0 rfl) ?_
  refine lv_iconst (v := nI 2) hx hb dL_law_1545 (by decide) ?_
  refine y_iadd hx hb dL_law_1546 ?_
  refine va_sld hx hb hXs hbl hbA hS (vp_in_nI (n := (5 * k) + 2) (by omega) (by omega)) dL_law_1547 ?_
  refine x_top (y := ((xs (5 * k + 2)))) (by rw [nI_clamp (by omega)]) ?_
  refine lv_aload_n hx hb dL_law_1548 rfl (lv_at hl 4 rfl) ?_
  refine lv_iload hx hb dL_law_1549 (lv_at hl 0 rfl) ?_
  refine lv_iconst (v := nI 3) hx hb dL_law_1551 (by decide) ?_
  refine y_iadd hx hb dL_law_1552 ?_
  refine va_sld hx hb hXs hbl hbA hS (vp_in_nI (n := (5 * k) + 3) (by omega) (by omega)) dL_law_1553 ?_
  refine x_top (y := ((xs (5 * k + 3)))) (by rw [nI_clamp (by omega)]) ?_
  refine lv_aload_n hx hb dL_law_1554 rfl (lv_at hl 4 rfl) ?_
  refine lv_iload hx hb dL_law_1555 (lv_at hl 0 rfl) ?_
  refine lv_iconst (v := nI 4) hx hb dL_law_1557 (by decide) ?_
  refine y_iadd hx hb dL_law_1558 ?_
  refine va_sld hx hb hXs hbl hbA hS (vp_in_nI (n := (5 * k) + 4) (by omega) (by omega)) dL_law_1559 ?_
  refine x_top (y := ((xs (5 * k + 4)))) (by rw [nI_clamp (by omega)]) ?_
  refine lv_aload_n hx hb dL_law_1560 rfl (lv_at hl 1 rfl) ?_
  refine k_iN (k_SW (As := [.ref b0, .int ((xs (5 * k + 1))), .int ((xs (5 * k + 2))), .int ((xs (5 * k + 3))), .int ((xs (5 * k + 4))), .ref ob]) (rest := []) ⟨hx, hb, hml, hown, hts⟩ hev hS (c_L_defer l hst hR hI (xs (5 * k + 1)) (xs (5 * k + 2)) (xs (5 * k + 3)) (xs (5 * k + 4)) hob h7 hAo) (vx_cwSW 6 hts gL_law_L_defer rfl rfl rfl (by decide +kernel) ⟨Nat.le_of_ble_eq_true rfl, Nat.le_of_ble_eq_true rfl⟩) rfl hl.1 (Nat.le_of_ble_eq_true rfl) dL_law_1561 (by show _ ≤ (601024 : Nat); omega) (by show _ ≤ (7293034 : Nat); omega)) hS (fun r1_ H1 locs1 hP hz1 hS => ?_)
  obtain ⟨⟨er, ho4⟩, ⟨f1, hob1, hf1⟩, tg1, hR1, tx, fr⟩ := hP
  have hM1 := LI.rm hM h8 hsz fr
  have t7 := (tx ob hob.lt).trans h7
  have t8 := LI.t8 h8 tx hsz
  refine x_top (y := (nI ((oDefer M (xs (5 * k + 1)) (xs (5 * k + 2)) (xs (5 * k + 3)) (xs (5 * k + 4))).1))) (er) ?_
  refine lv_istore (lv' := [(5, .int (nI ((oDefer M (xs (5 * k + 1)) (xs (5 * k + 2)) (xs (5 * k + 3)) (xs (5 * k + 4))).1))), (4, .int (nI (5 * k))), (3, .ref ob), (2, .ref g), (1, .ref b0), (0, .ref b)]) hx hb dL_law_1564 hl (by decide) rfl (fun ls hl => ?_)
  refine lv_aload_n hx hb dL_law_1566 rfl (lv_at hl 3 rfl) ?_
  refine lv_aload_n hx hb dL_law_1567 rfl (lv_at hl 5 rfl) ?_
  refine lv_iload hx hb dL_law_1568 (lv_at hl 1 rfl) ?_
  refine lv_iconst (v := nI 1) hx hb dL_law_1570 (by decide) ?_
  refine y_iadd hx hb dL_law_1571 ?_
  refine va_sld hx hb hXs hbl hbA hS (vp_in_nI (n := (5 * k) + 1) (by omega) (by omega)) dL_law_1572 ?_
  refine x_top (y := ((xs (5 * k + 1)))) (by rw [nI_clamp (by omega)]) ?_
  refine lv_aload_n hx hb dL_law_1573 rfl (lv_at hl 5 rfl) ?_
  refine lv_iload hx hb dL_law_1574 (lv_at hl 1 rfl) ?_
  refine lv_iconst (v := nI 2) hx hb dL_law_1576 (by decide) ?_
  refine y_iadd hx hb dL_law_1577 ?_
  refine va_sld hx hb hXs hbl hbA hS (vp_in_nI (n := (5 * k) + 2) (by omega) (by omega)) dL_law_1578 ?_
  refine x_top (y := ((xs (5 * k + 2)))) (by rw [nI_clamp (by omega)]) ?_
  refine lv_aload_n hx hb dL_law_1579 rfl (lv_at hl 5 rfl) ?_
  refine lv_iload hx hb dL_law_1580 (lv_at hl 1 rfl) ?_
  refine lv_iconst (v := nI 3) hx hb dL_law_1582 (by decide) ?_
  refine y_iadd hx hb dL_law_1583 ?_
  refine va_sld hx hb hXs hbl hbA hS (vp_in_nI (n := (5 * k) + 3) (by omega) (by omega)) dL_law_1584 ?_
  refine x_top (y := ((xs (5 * k + 3)))) (by rw [nI_clamp (by omega)]) ?_
  refine lv_aload_n hx hb dL_law_1585 rfl (lv_at hl 5 rfl) ?_
  refine lv_iload hx hb dL_law_1586 (lv_at hl 1 rfl) ?_
  refine lv_iconst (v := nI 4) hx hb dL_law_1588 (by decide) ?_
  refine y_iadd hx hb dL_law_1589 ?_
  refine va_sld hx hb hXs hbl hbA hS (vp_in_nI (n := (5 * k) + 4) (by omega) (by omega)) dL_law_1590 ?_
  refine x_top (y := ((xs (5 * k + 4)))) (by rw [nI_clamp (by omega)]) ?_
  have hsz1 : g + 23 ≤ H1.size := by have := fr.1; omega
  refine k_iA (k_VA (As := [.int ((xs (5 * k + 1))), .int ((xs (5 * k + 2))), .int ((xs (5 * k + 3))), .int ((xs (5 * k + 4)))]) (rest := []) ⟨hx, hb, hml, hown, hts⟩ hev hS hAM (c_X7_defer l hM1 hr hI (xs (5 * k + 1)) (xs (5 * k + 2)) (xs (5 * k + 3)) (xs (5 * k + 4))) (cwV 4 hts gL_law_X7_defer rfl rfl rfl (by decide +kernel) ⟨Nat.le_of_ble_eq_true rfl, Nat.le_of_ble_eq_true rfl⟩) (x_recv hK hM1.1 rfl) rfl hl.1 (Nat.le_of_ble_eq_true rfl) dL_law_1591 (by show _ ≤ (601024 : Nat); omega) (by show _ ≤ (7293034 : Nat); omega)) hS hAM (fun r2_ H2 locs2 hP hz2 hk2 hS => ?_)
  obtain ⟨S2, Y2, hM2, hr2, h02, hv2⟩ := hP
  have hI2 : Inv (800 * (k + 1)) (oDefer M (xs (5 * k + 1)) (xs (5 * k + 2)) (xs (5 * k + 3)) (xs (5 * k + 4))).2.2 := (i_defer hI (xs (5 * k + 1)) (xs (5 * k + 2)) (xs (5 * k + 3)) (xs (5 * k + 4))).mono (by omega) (by omega)
  refine W.widen (k := 125 + 281 * k + 3) (n := 3599 + 5166 * k + 83) (Nat.le_refl _) (Nat.le_refl _) ?_
  have hLI2 := LI.st hR1 hM2 hr2 hI2 hob1 t7 t8 hz2 hk2 hsz1
  have hob2 := hob1.kept (hk2 ob hob1.lt (fun z => by have := t8 ob z.1 z.2; omega))
  refine lv_istore (lv' := [(6, .int r2_), (5, .int (nI ((oDefer M (xs (5 * k + 1)) (xs (5 * k + 2)) (xs (5 * k + 3)) (xs (5 * k + 4))).1))), (4, .int (nI (5 * k))), (3, .ref ob), (2, .ref g), (1, .ref b0), (0, .ref b)]) hx hb dL_law_1594 hl (by decide) rfl (fun ls hl => ?_)
  refine lv_aload_n hx hb dL_law_1596 rfl (lv_at hl 4 rfl) ?_
  refine k_iA (k_VA (As := []) (rest := []) ⟨hx, hb, hml, hown, hts⟩ hev hS hAM (c_X7_thrown l hM2) (cwV 0 hts gL_law_X7_thrown rfl rfl rfl (by decide +kernel) ⟨Nat.le_of_ble_eq_true rfl, Nat.le_of_ble_eq_true rfl⟩) (x_recv hK hM2.1 rfl) rfl hl.1 (Nat.le_of_ble_eq_true rfl) dL_law_1597 (by show _ ≤ (601024 : Nat); omega) (by show _ ≤ (7293034 : Nat); omega)) hS hAM (fun r3_ H3 locs3 hP hz3 hk3 hS => ?_)
  obtain ⟨eH, er2⟩ := hP
  have eH := eH.symm
  subst eH
  refine W.widen (k := 125 + 281 * k + 3) (n := 3599 + 5166 * k + 83) (Nat.le_refl _) (Nat.le_refl _) ?_
  refine x_top (y := (nI ((oDefer M (xs (5 * k + 1)) (xs (5 * k + 2)) (xs (5 * k + 3)) (xs (5 * k + 4))).1))) (er2.trans h02) ?_
  refine lv_iload hx hb dL_law_1600 (lv_at hl 1 rfl) ?_
  refine y_icmp_eq hx hb (by omega) (by omega) (tgt := 1607) dL_law_1602 (by decide) (fun c1602 => ?_) (fun c1602 => ?_)
  · refine lv_iload hx hb dL_law_1607 (lv_at hl 1 rfl) ?_
    refine y_if_ne hx hb (by omega) (tgt := 1624) dL_law_1609 (by decide) (fun c1609 => ?_) (fun c1609 => ?_)
    · refine lv_goto (tgt := 1865) hx hb dL_law_1624 (by decide) ?_
      refine W.widen (k := 125 + 281 * (k + 1)) (n := 3599 + 5166 * (k + 1)) (by omega) (by omega) ?_
      exact hnext _ _ _ ls hLI2 hS (lv_sub hl [2, 3, 4, 5, 6] rfl)
    · have c0_ : (oDefer M (xs (5 * k + 1)) (xs (5 * k + 2)) (xs (5 * k + 3)) (xs (5 * k + 4))).1 = 0 := c1609
      refine lv_aload_n hx hb dL_law_1612 rfl (lv_at hl 3 rfl) ?_
      refine lv_iconst (v := nI 0) hx hb dL_law_1613 (by decide) ?_
      refine x_lald (i := 0) hx hb hK hob2 (by decide) (by decide) dL_law_1614 ?_
      refine lv_iload hx hb dL_law_1615 (lv_at hl 0 rfl) ?_
      refine lv_i2l (v := r2_.toInt64) hx hb dL_law_1617 rfl ?_
      refine lv_lcmpE hx hb (by rw [hf1 c0_, hv2 c0_]) dL_law_1618 ?_
      refine y_if_eq hx hb (by decide) (tgt := 1624) dL_law_1619 (by decide) (fun c1619 => ?_) (fun c1619 => ?_)
      · refine lv_goto (tgt := 1865) hx hb dL_law_1624 (by decide) ?_
        refine W.widen (k := 125 + 281 * (k + 1)) (n := 3599 + 5166 * (k + 1)) (by omega) (by omega) ?_
        exact hnext _ _ _ ls hLI2 hS (lv_sub hl [2, 3, 4, 5, 6] rfl)
      · exact absurd c1619 (by decide)
  · exact absurd rfl c1602
set_option maxHeartbeats 4000000 in
set_option maxRecDepth 100000 in
theorem law_c25 {p : Program} {l : Launch} {e : Env} {s : State} {m : MethodId} {below : List Frame} {meth : Method} {c : Code} {Q : State → Prop} {b L : Nat} {xs : Nat → Int32} {D : va_G} {T : Nat → ClassId} {dE mi b0 g ob : Nat} (hst : l.stackTraces = false) (hx : p.tables.exec = Jvm.exec) (hb : c.code = cL_law) (hml : c.maxLocals = 7) (hown : s.vm.findClass RL = some m.cls) (hts : ∀ w ∈ wsL_law, w.before #[Value.ref b] s = true) (hXs : va_X b L xs s s.heap) (hbl : b < s.heap.size) (hev : EV D T dE mi (fun q : Nat => s.heap.size ≤ q) s) (hga : s.heap.size ≤ g) (hL : L ≤ 2560) {k : Nat} (hk : 5 * k + 5 ≤ L) {H : Heap} {locs : List Loc} {M : mSt} (hLI : LI D T dE b0 g ob (fun q : Nat => s.heap.size ≤ q) H M k) (hS : va_S (fun q : Nat => s.heap.size ≤ q) s.heap H locs) {ls : Array Slot} (hl : lv_has ls 7 [(4, .int (nI (5 * k))), (3, .ref ob), (2, .ref g), (1, .ref b0), (0, .ref b)])
    (hnext : ∀ (H1 : Heap) (locs1 : List Loc) (M1 : mSt) (ls1 : Array Slot), LI D T dE b0 g ob (fun q : Nat => s.heap.size ≤ q) H1 M1 (k + 1) → va_S (fun q : Nat => s.heap.size ≤ q) s.heap H1 locs1 → lv_has ls1 7 [(4, .int (nI (5 * k))), (3, .ref ob), (2, .ref g), (1, .ref b0), (0, .ref b)] → W p l e room_1 s m #[Value.ref b] below meth c H1 locs1 (125 + 281 * (k + 1)) (3599 + 5166 * (k + 1)) Q (F0 m 1865 ls1 [])) : W p l e room_1 s m #[Value.ref b] below meth c H locs (125 + 281 * k) (3599 + 5166 * k) Q (F0 m 1627 ls []) := by
  obtain ⟨tg, S, Y, f, hR, hM, hr, hI, hob, h7, h8, hsz⟩ := id hLI
  have hK := hev.1
  have hbA : ¬ (fun q : Nat => s.heap.size ≤ q) b := Nat.not_le.mpr hbl
  have hAM : ∀ q, AM g q → (fun q : Nat => s.heap.size ≤ q) q := fun q z => Nat.le_trans hga z.1
  have hAo : (fun q : Nat => s.heap.size ≤ q) ob := hR.tg.a h7 (by decide)
  have hrv : ∃ cell : Cell, H[b0]? = some cell ∧ cell.vm.isStatics = false ∧ s.vm.findClass "Archeloft" = some cell.cls := by
    obtain ⟨y, zq, zy, wo, hC, -⟩ := id hR
    exact x_recv hK hC.2.1.1 rfl
  refine lv_aload_n hx hb dL_law_1627 rfl (lv_at hl 3 rfl) ?_
  refine lv_aload_n hx hb dL_law_1628 rfl (lv_at hl 1 rfl) ?_
  refine k_iN (k_SW (As := [.ref b0, .ref ob]) (rest := []) ⟨hx, hb, hml, hown, hts⟩ hev hS (c_L_finish l hst hR hI hob h7 hAo (by omega)) (vx_cwSW 2 hts gL_law_L_finish rfl rfl rfl (by decide +kernel) ⟨Nat.le_of_ble_eq_true rfl, Nat.le_of_ble_eq_true rfl⟩) rfl hl.1 (Nat.le_of_ble_eq_true rfl) dL_law_1629 (by show _ ≤ (601024 : Nat); omega) (by show _ ≤ (7293034 : Nat); omega)) hS (fun r1_ H1 locs1 hP hz1 hS => ?_)
  obtain ⟨⟨er, ho4⟩, ⟨f1, hob1, hf1⟩, tg1, hR1, tx, fr⟩ := hP
  have hM1 := LI.rm hM h8 hsz fr
  have t7 := (tx ob hob.lt).trans h7
  have t8 := LI.t8 h8 tx hsz
  refine x_top (y := (nI ((oFinish M).1))) (er) ?_
  refine lv_istore (lv' := [(5, .int (nI ((oFinish M).1))), (4, .int (nI (5 * k))), (3, .ref ob), (2, .ref g), (1, .ref b0), (0, .ref b)]) hx hb dL_law_1632 hl (by decide) rfl (fun ls hl => ?_)
  refine lv_aload_n hx hb dL_law_1634 rfl (lv_at hl 3 rfl) ?_
  have hsz1 : g + 23 ≤ H1.size := by have := fr.1; omega
  refine k_iA (k_VA (As := []) (rest := []) ⟨hx, hb, hml, hown, hts⟩ hev hS hAM (c_X7_finish l hM1 hr hI) (cwV 0 hts gL_law_X7_finish rfl rfl rfl (by decide +kernel) ⟨Nat.le_of_ble_eq_true rfl, Nat.le_of_ble_eq_true rfl⟩) (x_recv hK hM1.1 rfl) rfl hl.1 (Nat.le_of_ble_eq_true rfl) dL_law_1635 (by show _ ≤ (601024 : Nat); omega) (by show _ ≤ (7293034 : Nat); omega)) hS hAM (fun r2_ H2 locs2 hP hz2 hk2 hS => ?_)
  obtain ⟨S2, Y2, hM2, hr2, h02, hv2⟩ := hP
  have hI2 : Inv (800 * (k + 1)) (oFinish M).2.2 := (i_finish hI (by omega)).mono (by omega) (by omega)
  refine W.widen (k := 125 + 281 * k + 281) (n := 3599 + 5166 * k + 5166) (Nat.le_refl _) (Nat.le_refl _) ?_
  have hLI2 := LI.st hR1 hM2 hr2 hI2 hob1 t7 t8 hz2 hk2 hsz1
  have hob2 := hob1.kept (hk2 ob hob1.lt (fun z => by have := t8 ob z.1 z.2; omega))
  refine lv_istore (lv' := [(6, .int r2_), (5, .int (nI ((oFinish M).1))), (4, .int (nI (5 * k))), (3, .ref ob), (2, .ref g), (1, .ref b0), (0, .ref b)]) hx hb dL_law_1638 hl (by decide) rfl (fun ls hl => ?_)
  refine lv_aload_n hx hb dL_law_1640 rfl (lv_at hl 4 rfl) ?_
  refine k_iA (k_VA (As := []) (rest := []) ⟨hx, hb, hml, hown, hts⟩ hev hS hAM (c_X7_thrown l hM2) (cwV 0 hts gL_law_X7_thrown rfl rfl rfl (by decide +kernel) ⟨Nat.le_of_ble_eq_true rfl, Nat.le_of_ble_eq_true rfl⟩) (x_recv hK hM2.1 rfl) rfl hl.1 (Nat.le_of_ble_eq_true rfl) dL_law_1641 (by show _ ≤ (601024 : Nat); omega) (by show _ ≤ (7293034 : Nat); omega)) hS hAM (fun r3_ H3 locs3 hP hz3 hk3 hS => ?_)
  obtain ⟨eH, er2⟩ := hP
  have eH := eH.symm
  subst eH
  refine W.widen (k := 125 + 281 * k + 281) (n := 3599 + 5166 * k + 5166) (Nat.le_refl _) (Nat.le_refl _) ?_
  refine x_top (y := (nI ((oFinish M).1))) (er2.trans h02) ?_
  refine lv_iload hx hb dL_law_1644 (lv_at hl 1 rfl) ?_
  refine y_icmp_eq hx hb (by omega) (by omega) (tgt := 1651) dL_law_1646 (by decide) (fun c1646 => ?_) (fun c1646 => ?_)
  · refine lv_iload hx hb dL_law_1651 (lv_at hl 1 rfl) ?_
    refine y_if_ne hx hb (by omega) (tgt := 1668) dL_law_1653 (by decide) (fun c1653 => ?_) (fun c1653 => ?_)
    · refine lv_goto (tgt := 1865) hx hb dL_law_1668 (by decide) ?_
      refine W.widen (k := 125 + 281 * (k + 1)) (n := 3599 + 5166 * (k + 1)) (by omega) (by omega) ?_
      exact hnext _ _ _ ls hLI2 hS (lv_sub hl [2, 3, 4, 5, 6] rfl)
    · have c0_ : (oFinish M).1 = 0 := c1653
      refine lv_aload_n hx hb dL_law_1656 rfl (lv_at hl 3 rfl) ?_
      refine lv_iconst (v := nI 0) hx hb dL_law_1657 (by decide) ?_
      refine x_lald (i := 0) hx hb hK hob2 (by decide) (by decide) dL_law_1658 ?_
      refine lv_iload hx hb dL_law_1659 (lv_at hl 0 rfl) ?_
      refine lv_i2l (v := r2_.toInt64) hx hb dL_law_1661 rfl ?_
      refine lv_lcmpE hx hb (by rw [hf1 c0_, hv2 c0_]) dL_law_1662 ?_
      refine y_if_eq hx hb (by decide) (tgt := 1668) dL_law_1663 (by decide) (fun c1663 => ?_) (fun c1663 => ?_)
      · refine lv_goto (tgt := 1865) hx hb dL_law_1668 (by decide) ?_
        refine W.widen (k := 125 + 281 * (k + 1)) (n := 3599 + 5166 * (k + 1)) (by omega) (by omega) ?_
        exact hnext _ _ _ ls hLI2 hS (lv_sub hl [2, 3, 4, 5, 6] rfl)
      · exact absurd c1663 (by decide)
  · exact absurd rfl c1646
set_option maxHeartbeats 4000000 in
set_option maxRecDepth 100000 in
theorem law_c26 {p : Program} {l : Launch} {e : Env} {s : State} {m : MethodId} {below : List Frame} {meth : Method} {c : Code} {Q : State → Prop} {b L : Nat} {xs : Nat → Int32} {D : va_G} {T : Nat → ClassId} {dE mi b0 g ob : Nat} (hst : l.stackTraces = false) (hx : p.tables.exec = Jvm.exec) (hb : c.code = cL_law) (hml : c.maxLocals = 7) (hown : s.vm.findClass RL = some m.cls) (hts : ∀ w ∈ wsL_law, w.before #[Value.ref b] s = true) (hXs : va_X b L xs s s.heap) (hbl : b < s.heap.size) (hev : EV D T dE mi (fun q : Nat => s.heap.size ≤ q) s) (hga : s.heap.size ≤ g) (hL : L ≤ 2560) {k : Nat} (hk : 5 * k + 5 ≤ L) {H : Heap} {locs : List Loc} {M : mSt} (hLI : LI D T dE b0 g ob (fun q : Nat => s.heap.size ≤ q) H M k) (hS : va_S (fun q : Nat => s.heap.size ≤ q) s.heap H locs) {ls : Array Slot} (hl : lv_has ls 7 [(4, .int (nI (5 * k))), (3, .ref ob), (2, .ref g), (1, .ref b0), (0, .ref b)])
    (hnext : ∀ (H1 : Heap) (locs1 : List Loc) (M1 : mSt) (ls1 : Array Slot), LI D T dE b0 g ob (fun q : Nat => s.heap.size ≤ q) H1 M1 (k + 1) → va_S (fun q : Nat => s.heap.size ≤ q) s.heap H1 locs1 → lv_has ls1 7 [(4, .int (nI (5 * k))), (3, .ref ob), (2, .ref g), (1, .ref b0), (0, .ref b)] → W p l e room_1 s m #[Value.ref b] below meth c H1 locs1 (125 + 281 * (k + 1)) (3599 + 5166 * (k + 1)) Q (F0 m 1865 ls1 [])) : W p l e room_1 s m #[Value.ref b] below meth c H locs (125 + 281 * k) (3599 + 5166 * k) Q (F0 m 1671 ls []) := by
  obtain ⟨tg, S, Y, f, hR, hM, hr, hI, hob, h7, h8, hsz⟩ := id hLI
  have hK := hev.1
  have hbA : ¬ (fun q : Nat => s.heap.size ≤ q) b := Nat.not_le.mpr hbl
  have hAM : ∀ q, AM g q → (fun q : Nat => s.heap.size ≤ q) q := fun q z => Nat.le_trans hga z.1
  have hAo : (fun q : Nat => s.heap.size ≤ q) ob := hR.tg.a h7 (by decide)
  have hrv : ∃ cell : Cell, H[b0]? = some cell ∧ cell.vm.isStatics = false ∧ s.vm.findClass "Archeloft" = some cell.cls := by
    obtain ⟨y, zq, zy, wo, hC, -⟩ := id hR
    exact x_recv hK hC.2.1.1 rfl
  refine lv_aload_n hx hb dL_law_1671 rfl (lv_at hl 3 rfl) ?_
  refine lv_aload_n hx hb dL_law_1672 rfl (lv_at hl 4 rfl) ?_
  refine lv_iload hx hb dL_law_1673 (lv_at hl 0 rfl) ?_
  refine lv_iconst (v := nI 1) hx hb dL_law_1675 (by decide) ?_
  refine y_iadd hx hb dL_law_1676 ?_
  refine va_sld hx hb hXs hbl hbA hS (vp_in_nI (n := (5 * k) + 1) (by omega) (by omega)) dL_law_1677 ?_
  refine x_top (y := ((xs (5 * k + 1)))) (by rw [nI_clamp (by omega)]) ?_
  refine lv_aload_n hx hb dL_law_1678 rfl (lv_at hl 4 rfl) ?_
  refine lv_iload hx hb dL_law_1679 (lv_at hl 0 rfl) ?_
  refine lv_iconst (v := nI 2) hx hb dL_law_1681 (by decide) ?_
  refine y_iadd hx hb dL_law_1682 ?_
  refine va_sld hx hb hXs hbl hbA hS (vp_in_nI (n := (5 * k) + 2) (by omega) (by omega)) dL_law_1683 ?_
  refine x_top (y := ((xs (5 * k + 2)))) (by rw [nI_clamp (by omega)]) ?_
  refine lv_aload_n hx hb dL_law_1684 rfl (lv_at hl 1 rfl) ?_
  refine k_iN (k_SW (As := [.ref b0, .int ((xs (5 * k + 1))), .int ((xs (5 * k + 2))), .ref ob]) (rest := []) ⟨hx, hb, hml, hown, hts⟩ hev hS (c_L_system l hst hR hI (xs (5 * k + 1)) (xs (5 * k + 2)) hob h7 hAo) (vx_cwSW 4 hts gL_law_L_system rfl rfl rfl (by decide +kernel) ⟨Nat.le_of_ble_eq_true rfl, Nat.le_of_ble_eq_true rfl⟩) rfl hl.1 (Nat.le_of_ble_eq_true rfl) dL_law_1685 (by show _ ≤ (601024 : Nat); omega) (by show _ ≤ (7293034 : Nat); omega)) hS (fun r1_ H1 locs1 hP hz1 hS => ?_)
  obtain ⟨⟨er, ho4⟩, ⟨f1, hob1, hf1⟩, tg1, hR1, tx, fr⟩ := hP
  have hM1 := LI.rm hM h8 hsz fr
  have t7 := (tx ob hob.lt).trans h7
  have t8 := LI.t8 h8 tx hsz
  refine x_top (y := (nI ((oSystem M (xs (5 * k + 1)) (xs (5 * k + 2))).1))) (er) ?_
  refine lv_istore (lv' := [(5, .int (nI ((oSystem M (xs (5 * k + 1)) (xs (5 * k + 2))).1))), (4, .int (nI (5 * k))), (3, .ref ob), (2, .ref g), (1, .ref b0), (0, .ref b)]) hx hb dL_law_1688 hl (by decide) rfl (fun ls hl => ?_)
  refine lv_aload_n hx hb dL_law_1690 rfl (lv_at hl 3 rfl) ?_
  refine lv_aload_n hx hb dL_law_1691 rfl (lv_at hl 5 rfl) ?_
  refine lv_iload hx hb dL_law_1692 (lv_at hl 1 rfl) ?_
  refine lv_iconst (v := nI 1) hx hb dL_law_1694 (by decide) ?_
  refine y_iadd hx hb dL_law_1695 ?_
  refine va_sld hx hb hXs hbl hbA hS (vp_in_nI (n := (5 * k) + 1) (by omega) (by omega)) dL_law_1696 ?_
  refine x_top (y := ((xs (5 * k + 1)))) (by rw [nI_clamp (by omega)]) ?_
  refine lv_aload_n hx hb dL_law_1697 rfl (lv_at hl 5 rfl) ?_
  refine lv_iload hx hb dL_law_1698 (lv_at hl 1 rfl) ?_
  refine lv_iconst (v := nI 2) hx hb dL_law_1700 (by decide) ?_
  refine y_iadd hx hb dL_law_1701 ?_
  refine va_sld hx hb hXs hbl hbA hS (vp_in_nI (n := (5 * k) + 2) (by omega) (by omega)) dL_law_1702 ?_
  refine x_top (y := ((xs (5 * k + 2)))) (by rw [nI_clamp (by omega)]) ?_
  have hsz1 : g + 23 ≤ H1.size := by have := fr.1; omega
  refine k_iA (k_VA (As := [.int ((xs (5 * k + 1))), .int ((xs (5 * k + 2)))]) (rest := []) ⟨hx, hb, hml, hown, hts⟩ hev hS hAM (c_X7_system l hM1 hr hI (xs (5 * k + 1)) (xs (5 * k + 2))) (cwV 2 hts gL_law_X7_system rfl rfl rfl (by decide +kernel) ⟨Nat.le_of_ble_eq_true rfl, Nat.le_of_ble_eq_true rfl⟩) (x_recv hK hM1.1 rfl) rfl hl.1 (Nat.le_of_ble_eq_true rfl) dL_law_1703 (by show _ ≤ (601024 : Nat); omega) (by show _ ≤ (7293034 : Nat); omega)) hS hAM (fun r2_ H2 locs2 hP hz2 hk2 hS => ?_)
  obtain ⟨S2, Y2, hM2, hr2, h02, hv2⟩ := hP
  have hI2 : Inv (800 * (k + 1)) (oSystem M (xs (5 * k + 1)) (xs (5 * k + 2))).2.2 := (i_system hI (xs (5 * k + 1)) (xs (5 * k + 2))).mono (by omega) (by omega)
  refine W.widen (k := 125 + 281 * k + 4) (n := 3599 + 5166 * k + 88) (Nat.le_refl _) (Nat.le_refl _) ?_
  have hLI2 := LI.st hR1 hM2 hr2 hI2 hob1 t7 t8 hz2 hk2 hsz1
  have hob2 := hob1.kept (hk2 ob hob1.lt (fun z => by have := t8 ob z.1 z.2; omega))
  refine lv_istore (lv' := [(6, .int r2_), (5, .int (nI ((oSystem M (xs (5 * k + 1)) (xs (5 * k + 2))).1))), (4, .int (nI (5 * k))), (3, .ref ob), (2, .ref g), (1, .ref b0), (0, .ref b)]) hx hb dL_law_1706 hl (by decide) rfl (fun ls hl => ?_)
  refine lv_aload_n hx hb dL_law_1708 rfl (lv_at hl 4 rfl) ?_
  refine k_iA (k_VA (As := []) (rest := []) ⟨hx, hb, hml, hown, hts⟩ hev hS hAM (c_X7_thrown l hM2) (cwV 0 hts gL_law_X7_thrown rfl rfl rfl (by decide +kernel) ⟨Nat.le_of_ble_eq_true rfl, Nat.le_of_ble_eq_true rfl⟩) (x_recv hK hM2.1 rfl) rfl hl.1 (Nat.le_of_ble_eq_true rfl) dL_law_1709 (by show _ ≤ (601024 : Nat); omega) (by show _ ≤ (7293034 : Nat); omega)) hS hAM (fun r3_ H3 locs3 hP hz3 hk3 hS => ?_)
  obtain ⟨eH, er2⟩ := hP
  have eH := eH.symm
  subst eH
  refine W.widen (k := 125 + 281 * k + 4) (n := 3599 + 5166 * k + 88) (Nat.le_refl _) (Nat.le_refl _) ?_
  refine x_top (y := (nI ((oSystem M (xs (5 * k + 1)) (xs (5 * k + 2))).1))) (er2.trans h02) ?_
  refine lv_iload hx hb dL_law_1712 (lv_at hl 1 rfl) ?_
  refine y_icmp_eq hx hb (by omega) (by omega) (tgt := 1719) dL_law_1714 (by decide) (fun c1714 => ?_) (fun c1714 => ?_)
  · refine lv_iload hx hb dL_law_1719 (lv_at hl 1 rfl) ?_
    refine y_if_ne hx hb (by omega) (tgt := 1736) dL_law_1721 (by decide) (fun c1721 => ?_) (fun c1721 => ?_)
    · refine lv_goto (tgt := 1865) hx hb dL_law_1736 (by decide) ?_
      refine W.widen (k := 125 + 281 * (k + 1)) (n := 3599 + 5166 * (k + 1)) (by omega) (by omega) ?_
      exact hnext _ _ _ ls hLI2 hS (lv_sub hl [2, 3, 4, 5, 6] rfl)
    · have c0_ : (oSystem M (xs (5 * k + 1)) (xs (5 * k + 2))).1 = 0 := c1721
      refine lv_aload_n hx hb dL_law_1724 rfl (lv_at hl 3 rfl) ?_
      refine lv_iconst (v := nI 0) hx hb dL_law_1725 (by decide) ?_
      refine x_lald (i := 0) hx hb hK hob2 (by decide) (by decide) dL_law_1726 ?_
      refine lv_iload hx hb dL_law_1727 (lv_at hl 0 rfl) ?_
      refine lv_i2l (v := r2_.toInt64) hx hb dL_law_1729 rfl ?_
      refine lv_lcmpE hx hb (by rw [hf1 c0_, hv2 c0_]) dL_law_1730 ?_
      refine y_if_eq hx hb (by decide) (tgt := 1736) dL_law_1731 (by decide) (fun c1731 => ?_) (fun c1731 => ?_)
      · refine lv_goto (tgt := 1865) hx hb dL_law_1736 (by decide) ?_
        refine W.widen (k := 125 + 281 * (k + 1)) (n := 3599 + 5166 * (k + 1)) (by omega) (by omega) ?_
        exact hnext _ _ _ ls hLI2 hS (lv_sub hl [2, 3, 4, 5, 6] rfl)
      · exact absurd c1731 (by decide)
  · exact absurd rfl c1714
set_option maxHeartbeats 4000000 in
set_option maxRecDepth 100000 in
theorem law_c27 {p : Program} {l : Launch} {e : Env} {s : State} {m : MethodId} {below : List Frame} {meth : Method} {c : Code} {Q : State → Prop} {b L : Nat} {xs : Nat → Int32} {D : va_G} {T : Nat → ClassId} {dE mi b0 g ob : Nat} (hst : l.stackTraces = false) (hx : p.tables.exec = Jvm.exec) (hb : c.code = cL_law) (hml : c.maxLocals = 7) (hown : s.vm.findClass RL = some m.cls) (hts : ∀ w ∈ wsL_law, w.before #[Value.ref b] s = true) (hXs : va_X b L xs s s.heap) (hbl : b < s.heap.size) (hev : EV D T dE mi (fun q : Nat => s.heap.size ≤ q) s) (hga : s.heap.size ≤ g) (hL : L ≤ 2560) {k : Nat} (hk : 5 * k + 5 ≤ L) {H : Heap} {locs : List Loc} {M : mSt} (hLI : LI D T dE b0 g ob (fun q : Nat => s.heap.size ≤ q) H M k) (hS : va_S (fun q : Nat => s.heap.size ≤ q) s.heap H locs) {ls : Array Slot} (hl : lv_has ls 7 [(4, .int (nI (5 * k))), (3, .ref ob), (2, .ref g), (1, .ref b0), (0, .ref b)])
    (hnext : ∀ (H1 : Heap) (locs1 : List Loc) (M1 : mSt) (ls1 : Array Slot), LI D T dE b0 g ob (fun q : Nat => s.heap.size ≤ q) H1 M1 (k + 1) → va_S (fun q : Nat => s.heap.size ≤ q) s.heap H1 locs1 → lv_has ls1 7 [(4, .int (nI (5 * k))), (3, .ref ob), (2, .ref g), (1, .ref b0), (0, .ref b)] → W p l e room_1 s m #[Value.ref b] below meth c H1 locs1 (125 + 281 * (k + 1)) (3599 + 5166 * (k + 1)) Q (F0 m 1865 ls1 [])) : W p l e room_1 s m #[Value.ref b] below meth c H locs (125 + 281 * k) (3599 + 5166 * k) Q (F0 m 1739 ls []) := by
  obtain ⟨tg, S, Y, f, hR, hM, hr, hI, hob, h7, h8, hsz⟩ := id hLI
  have hK := hev.1
  have hbA : ¬ (fun q : Nat => s.heap.size ≤ q) b := Nat.not_le.mpr hbl
  have hAM : ∀ q, AM g q → (fun q : Nat => s.heap.size ≤ q) q := fun q z => Nat.le_trans hga z.1
  have hAo : (fun q : Nat => s.heap.size ≤ q) ob := hR.tg.a h7 (by decide)
  have hrv : ∃ cell : Cell, H[b0]? = some cell ∧ cell.vm.isStatics = false ∧ s.vm.findClass "Archeloft" = some cell.cls := by
    obtain ⟨y, zq, zy, wo, hC, -⟩ := id hR
    exact x_recv hK hC.2.1.1 rfl
  refine lv_aload_n hx hb dL_law_1739 rfl (lv_at hl 3 rfl) ?_
  refine lv_aload_n hx hb dL_law_1740 rfl (lv_at hl 4 rfl) ?_
  refine lv_iload hx hb dL_law_1741 (lv_at hl 0 rfl) ?_
  refine lv_iconst (v := nI 1) hx hb dL_law_1743 (by decide) ?_
  refine y_iadd hx hb dL_law_1744 ?_
  refine va_sld hx hb hXs hbl hbA hS (vp_in_nI (n := (5 * k) + 1) (by omega) (by omega)) dL_law_1745 ?_
  refine x_top (y := ((xs (5 * k + 1)))) (by rw [nI_clamp (by omega)]) ?_
  refine lv_aload_n hx hb dL_law_1746 rfl (lv_at hl 1 rfl) ?_
  refine k_iN (k_SW (As := [.ref b0, .int ((xs (5 * k + 1))), .ref ob]) (rest := []) ⟨hx, hb, hml, hown, hts⟩ hev hS (c_L_stage l hst hR hI (xs (5 * k + 1)) hob h7 hAo) (vx_cwSW 3 hts gL_law_L_stage rfl rfl rfl (by decide +kernel) ⟨Nat.le_of_ble_eq_true rfl, Nat.le_of_ble_eq_true rfl⟩) rfl hl.1 (Nat.le_of_ble_eq_true rfl) dL_law_1747 (by show _ ≤ (601024 : Nat); omega) (by show _ ≤ (7293034 : Nat); omega)) hS (fun r1_ H1 locs1 hP hz1 hS => ?_)
  obtain ⟨⟨er, ho4⟩, ⟨f1, hob1, hf1⟩, tg1, hR1, tx, fr⟩ := hP
  have hM1 := LI.rm hM h8 hsz fr
  have t7 := (tx ob hob.lt).trans h7
  have t8 := LI.t8 h8 tx hsz
  refine x_top (y := (nI ((oStage M (xs (5 * k + 1))).1))) (er) ?_
  refine lv_istore (lv' := [(5, .int (nI ((oStage M (xs (5 * k + 1))).1))), (4, .int (nI (5 * k))), (3, .ref ob), (2, .ref g), (1, .ref b0), (0, .ref b)]) hx hb dL_law_1750 hl (by decide) rfl (fun ls hl => ?_)
  refine lv_aload_n hx hb dL_law_1752 rfl (lv_at hl 3 rfl) ?_
  refine lv_aload_n hx hb dL_law_1753 rfl (lv_at hl 5 rfl) ?_
  refine lv_iload hx hb dL_law_1754 (lv_at hl 1 rfl) ?_
  refine lv_iconst (v := nI 1) hx hb dL_law_1756 (by decide) ?_
  refine y_iadd hx hb dL_law_1757 ?_
  refine va_sld hx hb hXs hbl hbA hS (vp_in_nI (n := (5 * k) + 1) (by omega) (by omega)) dL_law_1758 ?_
  refine x_top (y := ((xs (5 * k + 1)))) (by rw [nI_clamp (by omega)]) ?_
  have hsz1 : g + 23 ≤ H1.size := by have := fr.1; omega
  refine k_iA (k_VA (As := [.int ((xs (5 * k + 1)))]) (rest := []) ⟨hx, hb, hml, hown, hts⟩ hev hS hAM (c_X7_stage l hM1 hr hI (xs (5 * k + 1))) (cwV 1 hts gL_law_X7_stage rfl rfl rfl (by decide +kernel) ⟨Nat.le_of_ble_eq_true rfl, Nat.le_of_ble_eq_true rfl⟩) (x_recv hK hM1.1 rfl) rfl hl.1 (Nat.le_of_ble_eq_true rfl) dL_law_1759 (by show _ ≤ (601024 : Nat); omega) (by show _ ≤ (7293034 : Nat); omega)) hS hAM (fun r2_ H2 locs2 hP hz2 hk2 hS => ?_)
  obtain ⟨S2, Y2, hM2, hr2, h02, hv2⟩ := hP
  have hI2 : Inv (800 * (k + 1)) (oStage M (xs (5 * k + 1))).2.2 := (i_stage hI (xs (5 * k + 1))).mono (by omega) (by omega)
  refine W.widen (k := 125 + 281 * k + 1) (n := 3599 + 5166 * k + 6) (Nat.le_refl _) (Nat.le_refl _) ?_
  have hLI2 := LI.st hR1 hM2 hr2 hI2 hob1 t7 t8 hz2 hk2 hsz1
  have hob2 := hob1.kept (hk2 ob hob1.lt (fun z => by have := t8 ob z.1 z.2; omega))
  refine lv_istore (lv' := [(6, .int r2_), (5, .int (nI ((oStage M (xs (5 * k + 1))).1))), (4, .int (nI (5 * k))), (3, .ref ob), (2, .ref g), (1, .ref b0), (0, .ref b)]) hx hb dL_law_1762 hl (by decide) rfl (fun ls hl => ?_)
  refine lv_aload_n hx hb dL_law_1764 rfl (lv_at hl 4 rfl) ?_
  refine k_iA (k_VA (As := []) (rest := []) ⟨hx, hb, hml, hown, hts⟩ hev hS hAM (c_X7_thrown l hM2) (cwV 0 hts gL_law_X7_thrown rfl rfl rfl (by decide +kernel) ⟨Nat.le_of_ble_eq_true rfl, Nat.le_of_ble_eq_true rfl⟩) (x_recv hK hM2.1 rfl) rfl hl.1 (Nat.le_of_ble_eq_true rfl) dL_law_1765 (by show _ ≤ (601024 : Nat); omega) (by show _ ≤ (7293034 : Nat); omega)) hS hAM (fun r3_ H3 locs3 hP hz3 hk3 hS => ?_)
  obtain ⟨eH, er2⟩ := hP
  have eH := eH.symm
  subst eH
  refine W.widen (k := 125 + 281 * k + 1) (n := 3599 + 5166 * k + 6) (Nat.le_refl _) (Nat.le_refl _) ?_
  refine x_top (y := (nI ((oStage M (xs (5 * k + 1))).1))) (er2.trans h02) ?_
  refine lv_iload hx hb dL_law_1768 (lv_at hl 1 rfl) ?_
  refine y_icmp_eq hx hb (by omega) (by omega) (tgt := 1775) dL_law_1770 (by decide) (fun c1770 => ?_) (fun c1770 => ?_)
  · refine lv_iload hx hb dL_law_1775 (lv_at hl 1 rfl) ?_
    refine y_if_ne hx hb (by omega) (tgt := 1792) dL_law_1777 (by decide) (fun c1777 => ?_) (fun c1777 => ?_)
    · refine lv_goto (tgt := 1865) hx hb dL_law_1792 (by decide) ?_
      refine W.widen (k := 125 + 281 * (k + 1)) (n := 3599 + 5166 * (k + 1)) (by omega) (by omega) ?_
      exact hnext _ _ _ ls hLI2 hS (lv_sub hl [2, 3, 4, 5, 6] rfl)
    · have c0_ : (oStage M (xs (5 * k + 1))).1 = 0 := c1777
      refine lv_aload_n hx hb dL_law_1780 rfl (lv_at hl 3 rfl) ?_
      refine lv_iconst (v := nI 0) hx hb dL_law_1781 (by decide) ?_
      refine x_lald (i := 0) hx hb hK hob2 (by decide) (by decide) dL_law_1782 ?_
      refine lv_iload hx hb dL_law_1783 (lv_at hl 0 rfl) ?_
      refine lv_i2l (v := r2_.toInt64) hx hb dL_law_1785 rfl ?_
      refine lv_lcmpE hx hb (by rw [hf1 c0_, hv2 c0_]) dL_law_1786 ?_
      refine y_if_eq hx hb (by decide) (tgt := 1792) dL_law_1787 (by decide) (fun c1787 => ?_) (fun c1787 => ?_)
      · refine lv_goto (tgt := 1865) hx hb dL_law_1792 (by decide) ?_
        refine W.widen (k := 125 + 281 * (k + 1)) (n := 3599 + 5166 * (k + 1)) (by omega) (by omega) ?_
        exact hnext _ _ _ ls hLI2 hS (lv_sub hl [2, 3, 4, 5, 6] rfl)
      · exact absurd c1787 (by decide)
  · exact absurd rfl c1770
set_option maxHeartbeats 4000000 in
set_option maxRecDepth 100000 in
theorem law_c28 {p : Program} {l : Launch} {e : Env} {s : State} {m : MethodId} {below : List Frame} {meth : Method} {c : Code} {Q : State → Prop} {b L : Nat} {xs : Nat → Int32} {D : va_G} {T : Nat → ClassId} {dE mi b0 g ob : Nat} (hst : l.stackTraces = false) (hx : p.tables.exec = Jvm.exec) (hb : c.code = cL_law) (hml : c.maxLocals = 7) (hown : s.vm.findClass RL = some m.cls) (hts : ∀ w ∈ wsL_law, w.before #[Value.ref b] s = true) (hXs : va_X b L xs s s.heap) (hbl : b < s.heap.size) (hev : EV D T dE mi (fun q : Nat => s.heap.size ≤ q) s) (hga : s.heap.size ≤ g) (hL : L ≤ 2560) {k : Nat} (hk : 5 * k + 5 ≤ L) {H : Heap} {locs : List Loc} {M : mSt} (hLI : LI D T dE b0 g ob (fun q : Nat => s.heap.size ≤ q) H M k) (hS : va_S (fun q : Nat => s.heap.size ≤ q) s.heap H locs) {ls : Array Slot} (hl : lv_has ls 7 [(4, .int (nI (5 * k))), (3, .ref ob), (2, .ref g), (1, .ref b0), (0, .ref b)])
    (hnext : ∀ (H1 : Heap) (locs1 : List Loc) (M1 : mSt) (ls1 : Array Slot), LI D T dE b0 g ob (fun q : Nat => s.heap.size ≤ q) H1 M1 (k + 1) → va_S (fun q : Nat => s.heap.size ≤ q) s.heap H1 locs1 → lv_has ls1 7 [(4, .int (nI (5 * k))), (3, .ref ob), (2, .ref g), (1, .ref b0), (0, .ref b)] → W p l e room_1 s m #[Value.ref b] below meth c H1 locs1 (125 + 281 * (k + 1)) (3599 + 5166 * (k + 1)) Q (F0 m 1865 ls1 [])) : W p l e room_1 s m #[Value.ref b] below meth c H locs (125 + 281 * k) (3599 + 5166 * k) Q (F0 m 1795 ls []) := by
  obtain ⟨tg, S, Y, f, hR, hM, hr, hI, hob, h7, h8, hsz⟩ := id hLI
  have hK := hev.1
  have hbA : ¬ (fun q : Nat => s.heap.size ≤ q) b := Nat.not_le.mpr hbl
  have hAM : ∀ q, AM g q → (fun q : Nat => s.heap.size ≤ q) q := fun q z => Nat.le_trans hga z.1
  have hAo : (fun q : Nat => s.heap.size ≤ q) ob := hR.tg.a h7 (by decide)
  have hrv : ∃ cell : Cell, H[b0]? = some cell ∧ cell.vm.isStatics = false ∧ s.vm.findClass "Archeloft" = some cell.cls := by
    obtain ⟨y, zq, zy, wo, hC, -⟩ := id hR
    exact x_recv hK hC.2.1.1 rfl
  refine lv_aload_n hx hb dL_law_1795 rfl (lv_at hl 3 rfl) ?_
  refine k_iN (k_V (As := []) (rest := []) ⟨hx, hb, hml, hown, hts⟩ hev hS (u_stages l hst hR hI) (cwV 0 hts gL_law_X6_stages rfl rfl rfl (by decide +kernel) ⟨Nat.le_of_ble_eq_true rfl, Nat.le_of_ble_eq_true rfl⟩) hrv rfl hl.1 (Nat.le_of_ble_eq_true rfl) dL_law_1796 (by show _ ≤ (601024 : Nat); omega) (by show _ ≤ (7293034 : Nat); omega)) hS (fun r1_ H1 locs1 hP hz1 hS => ?_)
  obtain ⟨-, er, tg1, hR1, tx, fr0⟩ := hP
  have fr := fr0.wk (S1 := fun t => t ≠ 0 ∧ t ≠ 8) (fun t z => ⟨z.1, z.2.2⟩)
  refine W.widen (k := 125 + 281 * k) (n := 3599 + 5166 * k) (Nat.le_refl _) (Nat.le_refl _) ?_
  have hM1 := LI.rm hM h8 hsz fr
  have t7 := (tx ob hob.lt).trans h7
  have t8 := LI.t8 h8 tx hsz
  have hob1 := hob.kept (fr0.2 _ hob.lt (by rw [h7]; decide))
  have hsz1 : g + 23 ≤ H1.size := by omega
  refine x_top (y := ((oStages M).2.1)) (er) ?_
  refine lv_aload_n hx hb dL_law_1799 rfl (lv_at hl 2 rfl) ?_
  refine k_iA (k_VA (As := []) (rest := [.int ((oStages M).2.1)]) ⟨hx, hb, hml, hown, hts⟩ hev hS hAM (c_X7_stages l hM1 hr hI) (cwV 0 hts gL_law_X7_stages rfl rfl rfl (by decide +kernel) ⟨Nat.le_of_ble_eq_true rfl, Nat.le_of_ble_eq_true rfl⟩) (x_recv hK hM1.1 rfl) rfl hl.1 (Nat.le_of_ble_eq_true rfl) dL_law_1800 (by show _ ≤ (601024 : Nat); omega) (by show _ ≤ (7293034 : Nat); omega)) hS hAM (fun r2_ H2 locs2 hP hz2 hk2 hS => ?_)
  obtain ⟨S2, Y2, hM2, hr2, h02, hv2⟩ := hP
  have hI2 : Inv (800 * (k + 1)) (oStages M).2.2 := (i_stages hI).mono (by omega) (by omega)
  refine W.widen (k := 125 + 281 * k) (n := 3599 + 5166 * k) (Nat.le_refl _) (Nat.le_refl _) ?_
  have hLI2 := LI.st hR1 hM2 hr2 hI2 hob1 t7 t8 hz2 hk2 hsz1
  have hob2 := hob1.kept (hk2 ob hob1.lt (fun z => by have := t8 ob z.1 z.2; omega))
  refine x_top (y := ((oStages M).2.1)) (hv2 rfl) ?_
  refine lv_icmp_eq (tgt := 1865) hx hb dL_law_1803 (by decide) (fun c1803 => ?_) (fun c1803 => ?_)
  · refine W.widen (k := 125 + 281 * (k + 1)) (n := 3599 + 5166 * (k + 1)) (by omega) (by omega) ?_
    exact hnext _ _ _ ls hLI2 hS (lv_sub hl [0, 1, 2, 3, 4] rfl)
  · exact absurd rfl c1803
set_option maxHeartbeats 4000000 in
set_option maxRecDepth 100000 in
theorem law_c29 {p : Program} {l : Launch} {e : Env} {s : State} {m : MethodId} {below : List Frame} {meth : Method} {c : Code} {Q : State → Prop} {b L : Nat} {xs : Nat → Int32} {D : va_G} {T : Nat → ClassId} {dE mi b0 g ob : Nat} (hst : l.stackTraces = false) (hx : p.tables.exec = Jvm.exec) (hb : c.code = cL_law) (hml : c.maxLocals = 7) (hown : s.vm.findClass RL = some m.cls) (hts : ∀ w ∈ wsL_law, w.before #[Value.ref b] s = true) (hXs : va_X b L xs s s.heap) (hbl : b < s.heap.size) (hev : EV D T dE mi (fun q : Nat => s.heap.size ≤ q) s) (hga : s.heap.size ≤ g) (hL : L ≤ 2560) {k : Nat} (hk : 5 * k + 5 ≤ L) {H : Heap} {locs : List Loc} {M : mSt} (hLI : LI D T dE b0 g ob (fun q : Nat => s.heap.size ≤ q) H M k) (hS : va_S (fun q : Nat => s.heap.size ≤ q) s.heap H locs) {ls : Array Slot} (hl : lv_has ls 7 [(4, .int (nI (5 * k))), (3, .ref ob), (2, .ref g), (1, .ref b0), (0, .ref b)])
    (hnext : ∀ (H1 : Heap) (locs1 : List Loc) (M1 : mSt) (ls1 : Array Slot), LI D T dE b0 g ob (fun q : Nat => s.heap.size ≤ q) H1 M1 (k + 1) → va_S (fun q : Nat => s.heap.size ≤ q) s.heap H1 locs1 → lv_has ls1 7 [(4, .int (nI (5 * k))), (3, .ref ob), (2, .ref g), (1, .ref b0), (0, .ref b)] → W p l e room_1 s m #[Value.ref b] below meth c H1 locs1 (125 + 281 * (k + 1)) (3599 + 5166 * (k + 1)) Q (F0 m 1865 ls1 [])) : W p l e room_1 s m #[Value.ref b] below meth c H locs (125 + 281 * k) (3599 + 5166 * k) Q (F0 m 1808 ls []) := by
  obtain ⟨tg, S, Y, f, hR, hM, hr, hI, hob, h7, h8, hsz⟩ := id hLI
  have hK := hev.1
  have hbA : ¬ (fun q : Nat => s.heap.size ≤ q) b := Nat.not_le.mpr hbl
  have hAM : ∀ q, AM g q → (fun q : Nat => s.heap.size ≤ q) q := fun q z => Nat.le_trans hga z.1
  have hAo : (fun q : Nat => s.heap.size ≤ q) ob := hR.tg.a h7 (by decide)
  have hrv : ∃ cell : Cell, H[b0]? = some cell ∧ cell.vm.isStatics = false ∧ s.vm.findClass "Archeloft" = some cell.cls := by
    obtain ⟨y, zq, zy, wo, hC, -⟩ := id hR
    exact x_recv hK hC.2.1.1 rfl
  refine lv_aload_n hx hb dL_law_1808 rfl (lv_at hl 3 rfl) ?_
  refine lv_aload_n hx hb dL_law_1809 rfl (lv_at hl 1 rfl) ?_
  refine k_iN (k_SW (As := [.ref b0, .ref ob]) (rest := []) ⟨hx, hb, hml, hown, hts⟩ hev hS (c_L_run l hst hR hI hob h7 hAo) (vx_cwSW 2 hts gL_law_L_run rfl rfl rfl (by decide +kernel) ⟨Nat.le_of_ble_eq_true rfl, Nat.le_of_ble_eq_true rfl⟩) rfl hl.1 (Nat.le_of_ble_eq_true rfl) dL_law_1810 (by show _ ≤ (601024 : Nat); omega) (by show _ ≤ (7293034 : Nat); omega)) hS (fun r1_ H1 locs1 hP hz1 hS => ?_)
  obtain ⟨⟨er, ho4⟩, ⟨f1, hob1, hf1⟩, tg1, hR1, tx, fr⟩ := hP
  have hM1 := LI.rm hM h8 hsz fr
  have t7 := (tx ob hob.lt).trans h7
  have t8 := LI.t8 h8 tx hsz
  refine x_top (y := (nI ((oRun M).1))) (er) ?_
  refine lv_istore (lv' := [(5, .int (nI ((oRun M).1))), (4, .int (nI (5 * k))), (3, .ref ob), (2, .ref g), (1, .ref b0), (0, .ref b)]) hx hb dL_law_1813 hl (by decide) rfl (fun ls hl => ?_)
  refine lv_aload_n hx hb dL_law_1815 rfl (lv_at hl 3 rfl) ?_
  have hsz1 : g + 23 ≤ H1.size := by have := fr.1; omega
  refine k_iA (k_VA (As := []) (rest := []) ⟨hx, hb, hml, hown, hts⟩ hev hS hAM (c_X7_run l hM1 hr hI) (cwV 0 hts gL_law_X7_run rfl rfl rfl (by decide +kernel) ⟨Nat.le_of_ble_eq_true rfl, Nat.le_of_ble_eq_true rfl⟩) (x_recv hK hM1.1 rfl) rfl hl.1 (Nat.le_of_ble_eq_true rfl) dL_law_1816 (by show _ ≤ (601024 : Nat); omega) (by show _ ≤ (7293034 : Nat); omega)) hS hAM (fun r2_ H2 locs2 hP hz2 hk2 hS => ?_)
  obtain ⟨S2, Y2, hM2, hr2, h02, hv2⟩ := hP
  have hI2 : Inv (800 * (k + 1)) (oRun M).2.2 := (i_run hI).mono (by omega) (by omega)
  refine W.widen (k := 125 + 281 * k + 1) (n := 3599 + 5166 * k + 6) (Nat.le_refl _) (Nat.le_refl _) ?_
  have hLI2 := LI.st hR1 hM2 hr2 hI2 hob1 t7 t8 hz2 hk2 hsz1
  have hob2 := hob1.kept (hk2 ob hob1.lt (fun z => by have := t8 ob z.1 z.2; omega))
  refine lv_istore (lv' := [(6, .int r2_), (5, .int (nI ((oRun M).1))), (4, .int (nI (5 * k))), (3, .ref ob), (2, .ref g), (1, .ref b0), (0, .ref b)]) hx hb dL_law_1819 hl (by decide) rfl (fun ls hl => ?_)
  refine lv_aload_n hx hb dL_law_1821 rfl (lv_at hl 4 rfl) ?_
  refine k_iA (k_VA (As := []) (rest := []) ⟨hx, hb, hml, hown, hts⟩ hev hS hAM (c_X7_thrown l hM2) (cwV 0 hts gL_law_X7_thrown rfl rfl rfl (by decide +kernel) ⟨Nat.le_of_ble_eq_true rfl, Nat.le_of_ble_eq_true rfl⟩) (x_recv hK hM2.1 rfl) rfl hl.1 (Nat.le_of_ble_eq_true rfl) dL_law_1822 (by show _ ≤ (601024 : Nat); omega) (by show _ ≤ (7293034 : Nat); omega)) hS hAM (fun r3_ H3 locs3 hP hz3 hk3 hS => ?_)
  obtain ⟨eH, er2⟩ := hP
  have eH := eH.symm
  subst eH
  refine W.widen (k := 125 + 281 * k + 1) (n := 3599 + 5166 * k + 6) (Nat.le_refl _) (Nat.le_refl _) ?_
  refine x_top (y := (nI ((oRun M).1))) (er2.trans h02) ?_
  refine lv_iload hx hb dL_law_1825 (lv_at hl 1 rfl) ?_
  refine y_icmp_eq hx hb (by omega) (by omega) (tgt := 1832) dL_law_1827 (by decide) (fun c1827 => ?_) (fun c1827 => ?_)
  · refine lv_iload hx hb dL_law_1832 (lv_at hl 1 rfl) ?_
    refine y_if_ne hx hb (by omega) (tgt := 1849) dL_law_1834 (by decide) (fun c1834 => ?_) (fun c1834 => ?_)
    · refine lv_goto (tgt := 1865) hx hb dL_law_1849 (by decide) ?_
      refine W.widen (k := 125 + 281 * (k + 1)) (n := 3599 + 5166 * (k + 1)) (by omega) (by omega) ?_
      exact hnext _ _ _ ls hLI2 hS (lv_sub hl [2, 3, 4, 5, 6] rfl)
    · have c0_ : (oRun M).1 = 0 := c1834
      refine lv_aload_n hx hb dL_law_1837 rfl (lv_at hl 3 rfl) ?_
      refine lv_iconst (v := nI 0) hx hb dL_law_1838 (by decide) ?_
      refine x_lald (i := 0) hx hb hK hob2 (by decide) (by decide) dL_law_1839 ?_
      refine lv_iload hx hb dL_law_1840 (lv_at hl 0 rfl) ?_
      refine lv_i2l (v := r2_.toInt64) hx hb dL_law_1842 rfl ?_
      refine lv_lcmpE hx hb (by rw [hf1 c0_, hv2 c0_]) dL_law_1843 ?_
      refine y_if_eq hx hb (by decide) (tgt := 1849) dL_law_1844 (by decide) (fun c1844 => ?_) (fun c1844 => ?_)
      · refine lv_goto (tgt := 1865) hx hb dL_law_1849 (by decide) ?_
        refine W.widen (k := 125 + 281 * (k + 1)) (n := 3599 + 5166 * (k + 1)) (by omega) (by omega) ?_
        exact hnext _ _ _ ls hLI2 hS (lv_sub hl [2, 3, 4, 5, 6] rfl)
      · exact absurd c1844 (by decide)
  · exact absurd rfl c1827
set_option maxHeartbeats 4000000 in
set_option maxRecDepth 100000 in
theorem law_c30 {p : Program} {l : Launch} {e : Env} {s : State} {m : MethodId} {below : List Frame} {meth : Method} {c : Code} {Q : State → Prop} {b L : Nat} {xs : Nat → Int32} {D : va_G} {T : Nat → ClassId} {dE mi b0 g ob : Nat} (hst : l.stackTraces = false) (hx : p.tables.exec = Jvm.exec) (hb : c.code = cL_law) (hml : c.maxLocals = 7) (hown : s.vm.findClass RL = some m.cls) (hts : ∀ w ∈ wsL_law, w.before #[Value.ref b] s = true) (hXs : va_X b L xs s s.heap) (hbl : b < s.heap.size) (hev : EV D T dE mi (fun q : Nat => s.heap.size ≤ q) s) (hga : s.heap.size ≤ g) (hL : L ≤ 2560) {k : Nat} (hk : 5 * k + 5 ≤ L) {H : Heap} {locs : List Loc} {M : mSt} (hLI : LI D T dE b0 g ob (fun q : Nat => s.heap.size ≤ q) H M k) (hS : va_S (fun q : Nat => s.heap.size ≤ q) s.heap H locs) {ls : Array Slot} (hl : lv_has ls 7 [(4, .int (nI (5 * k))), (3, .ref ob), (2, .ref g), (1, .ref b0), (0, .ref b)])
    (hnext : ∀ (H1 : Heap) (locs1 : List Loc) (M1 : mSt) (ls1 : Array Slot), LI D T dE b0 g ob (fun q : Nat => s.heap.size ≤ q) H1 M1 (k + 1) → va_S (fun q : Nat => s.heap.size ≤ q) s.heap H1 locs1 → lv_has ls1 7 [(4, .int (nI (5 * k))), (3, .ref ob), (2, .ref g), (1, .ref b0), (0, .ref b)] → W p l e room_1 s m #[Value.ref b] below meth c H1 locs1 (125 + 281 * (k + 1)) (3599 + 5166 * (k + 1)) Q (F0 m 1865 ls1 [])) : W p l e room_1 s m #[Value.ref b] below meth c H locs (125 + 281 * k) (3599 + 5166 * k) Q (F0 m 1852 ls []) := by
  obtain ⟨tg, S, Y, f, hR, hM, hr, hI, hob, h7, h8, hsz⟩ := id hLI
  have hK := hev.1
  have hbA : ¬ (fun q : Nat => s.heap.size ≤ q) b := Nat.not_le.mpr hbl
  have hAM : ∀ q, AM g q → (fun q : Nat => s.heap.size ≤ q) q := fun q z => Nat.le_trans hga z.1
  have hAo : (fun q : Nat => s.heap.size ≤ q) ob := hR.tg.a h7 (by decide)
  have hrv : ∃ cell : Cell, H[b0]? = some cell ∧ cell.vm.isStatics = false ∧ s.vm.findClass "Archeloft" = some cell.cls := by
    obtain ⟨y, zq, zy, wo, hC, -⟩ := id hR
    exact x_recv hK hC.2.1.1 rfl
  refine lv_aload_n hx hb dL_law_1852 rfl (lv_at hl 3 rfl) ?_
  refine k_iN (k_V (As := []) (rest := []) ⟨hx, hb, hml, hown, hts⟩ hev hS (u_tick l hst hR hI) (cwV 0 hts gL_law_X6_tick rfl rfl rfl (by decide +kernel) ⟨Nat.le_of_ble_eq_true rfl, Nat.le_of_ble_eq_true rfl⟩) hrv rfl hl.1 (Nat.le_of_ble_eq_true rfl) dL_law_1853 (by show _ ≤ (601024 : Nat); omega) (by show _ ≤ (7293034 : Nat); omega)) hS (fun r1_ H1 locs1 hP hz1 hS => ?_)
  obtain ⟨-, er, tg1, hR1, tx, fr0⟩ := hP
  have fr := fr0.wk (S1 := fun t => t ≠ 0 ∧ t ≠ 8) (fun t z => ⟨z.1, z.2.2⟩)
  refine W.widen (k := 125 + 281 * k) (n := 3599 + 5166 * k) (Nat.le_refl _) (Nat.le_refl _) ?_
  have hM1 := LI.rm hM h8 hsz fr
  have t7 := (tx ob hob.lt).trans h7
  have t8 := LI.t8 h8 tx hsz
  have hob1 := hob.kept (fr0.2 _ hob.lt (by rw [h7]; decide))
  have hsz1 : g + 23 ≤ H1.size := by omega
  refine x_top (y := ((oTick M).2.1)) (er) ?_
  refine lv_aload_n hx hb dL_law_1856 rfl (lv_at hl 2 rfl) ?_
  refine k_iA (k_VA (As := []) (rest := [.int ((oTick M).2.1)]) ⟨hx, hb, hml, hown, hts⟩ hev hS hAM (c_X7_tick l hM1) (cwV 0 hts gL_law_X7_tick rfl rfl rfl (by decide +kernel) ⟨Nat.le_of_ble_eq_true rfl, Nat.le_of_ble_eq_true rfl⟩) (x_recv hK hM1.1 rfl) rfl hl.1 (Nat.le_of_ble_eq_true rfl) dL_law_1857 (by show _ ≤ (601024 : Nat); omega) (by show _ ≤ (7293034 : Nat); omega)) hS hAM (fun r2_ H2 locs2 hP hz2 hk2 hS => ?_)
  obtain ⟨S2, Y2, hM2, hr2, h02, hv2⟩ := pm_tick hr hP
  have hI2 : Inv (800 * (k + 1)) (oTick M).2.2 := (i_tick hI).mono (by omega) (by omega)
  refine W.widen (k := 125 + 281 * k) (n := 3599 + 5166 * k) (Nat.le_refl _) (Nat.le_refl _) ?_
  have hLI2 := LI.st hR1 hM2 hr2 hI2 hob1 t7 t8 hz2 hk2 hsz1
  have hob2 := hob1.kept (hk2 ob hob1.lt (fun z => by have := t8 ob z.1 z.2; omega))
  refine x_top (y := ((oTick M).2.1)) (hv2 rfl) ?_
  refine lv_icmp_eq (tgt := 1865) hx hb dL_law_1860 (by decide) (fun c1860 => ?_) (fun c1860 => ?_)
  · refine W.widen (k := 125 + 281 * (k + 1)) (n := 3599 + 5166 * (k + 1)) (by omega) (by omega) ?_
    exact hnext _ _ _ ls hLI2 hS (lv_sub hl [0, 1, 2, 3, 4] rfl)
  · exact absurd rfl c1860
