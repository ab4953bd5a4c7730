/-! the law: what it stands on, its invariant, its calls -/
theorem EV.sub {D : va_G} {T : Nat → ClassId} {dE mi : Nat} {A B : Nat → Prop} {U : State} (h : EV D T dE mi A U) (hAB : ∀ q, B q → A q) : EV D T dE mi B U :=
  ⟨h.1, ⟨h.2.1.1.narrow hAB, h.2.1.2.1.narrow hAB, fun z => h.2.1.2.2 (hAB _ z)⟩, ⟨h.2.2.1.1.narrow hAB, h.2.2.1.2.narrow hAB⟩, h.2.2.2⟩
section KA
variable {p : Program} {l : Launch} {e : Env} {R : Room} {s : State} {m : MethodId} {args : Array Value} {below : List Frame} {meth : Method} {c : Code} {H : Heap} {locs : List Loc} {cells slots : Nat} {Q : State → Prop}
variable {cc : ByteArray} {pc : Nat} {ls : Array Slot} {rest st0 : List Value} {D : va_G} {T : Nat → ClassId} {dE mi : Nat} {A A1 : Nat → Prop} {H0 : Heap} {a : Array Value}
variable {y : MethodName} {bytes : ByteArray} {maxL nL mc ms n index : Nat} {ret : Option FieldType} {ws : List Cond} {rm : Room} {Qc : Array Value → State → Outcome → State → Prop} {XC : String → State → State → Prop} {Ts : List Cond} {own C : String} {b : Addr} {As : List Value}
/-- a call of one that writes less -/
theorem k_VA (S : CallFix p m c cc nL s args Ts own) (hev : EV D T dE mi A s) (hS : va_S A s.heap H locs) (hAB : ∀ q, A1 q → A q) (hM : vx_Met l y ws rm (PcE D T dE mi A1 H (.ref b :: As)) Qc XC mc ms A1) (cw : CallW R s args own C index y bytes maxL ret ws rm mc ms n) (hrecv : ∃ cell : Cell, H[b]? = some cell ∧ cell.vm.isStatics = false ∧ s.vm.findClass C = some cell.cls)
    (hn : As.length = n) (hsize : ls.size = nL) (hW : (rest.map fun v => v.category).sum ≤ 8) (hdg : decode cc pc = .ok (.invokevirtual index, 3)) (hc : cells + mc ≤ R.cells) (hs : slots + ms ≤ R.slots) :
    vx_Run p l e R s m args below meth c H locs cells slots mc ms (F0 m pc ls (As.reverse ++ .ref b :: rest)) rest (Qc (Value.ref b :: As).toArray) XC A1 :=
  vx_runV S hM cw ⟨PcE.blind, hrecv, fun U hU hW => ⟨rfl, hU, (hev.go hS hU hW).sub hAB⟩⟩ rfl hn hsize rfl (lv_room hW) hdg ⟨hc, hs⟩
theorem k_IA (S : CallFix p m c cc nL s args Ts own) (hev : EV D T dE mi A s) (hS : va_S A s.heap H locs) (hAB : ∀ q, A1 q → A q) (hM : vx_Met l y ws rm (PcE D T dE mi A1 H (.ref b :: As)) Qc XC mc ms A1) (cw : CallB R s args own index y bytes maxL none ws rm mc ms n ∧ y.name = "<init>" ∧ (Cond.instanceMethod y).before args s = true)
    (hn : As.length = n) (hsize : ls.size = nL) (hW : (rest.map fun v => v.category).sum ≤ 8) (hdg : decode cc pc = .ok (.invokespecial index, 3)) (hc : cells + mc ≤ R.cells) (hs : slots + ms ≤ R.slots) :
    vx_Run p l e R s m args below meth c H locs cells slots mc ms (F0 m pc ls (As.reverse ++ .ref b :: rest)) rest (Qc (Value.ref b :: As).toArray) XC A1 :=
  vx_runI S hM cw ⟨PcE.blind, fun U hU hW => ⟨rfl, hU, (hev.go hS hU hW).sub hAB⟩⟩ rfl hn hsize rfl (lv_room hW) hdg ⟨hc, hs⟩
theorem k_iA {P : Int32 → Heap → Prop} (hr : vx_Run p l e R s m args below meth c H locs cells slots mc ms (F0 m pc ls st0) rest (QI A1 P a) (XX A1 XN) A1) (hS : va_S A H0 H locs) (hAB : ∀ q, A1 q → A q)
    (kk : ∀ (r : Int32) (H1 : Heap) (locs1 : List Loc), P r H1 → H.size ≤ H1.size → (∀ q : Nat, q < H.size → ¬ A1 q → H1[q]? = H[q]?) → va_S A H0 H1 locs1 → W p l e R s m args below meth c H1 locs1 (cells + mc) (slots + ms) Q (F0 m (pc + 3) ls (.int r :: rest))) : W p l e R s m args below meth c H locs cells slots Q (F0 m pc ls st0) :=
  vx_calli hr hS (fun _ _ h => hAB _ h) (fun _ h => hAB _ h) (fun _ _ h => hAB _ h)
    (fun E ce q9 u t H1 locs1 ht _ _ hb hz _ hS1 h7 h8 h9 => hb.2.elim)
    (fun r u t H1 locs1 ht _ hp hb hz hk hS1 => kk r H1 locs1 (by rw [← ht, hb]; exact hp) hz hk hS1)
theorem k_vA {P : Heap → Prop} (hr : vx_Run p l e R s m args below meth c H locs cells slots mc ms (F0 m pc ls st0) rest (QV A1 P a) (XX A1 XN) A1) (hS : va_S A H0 H locs) (hAB : ∀ q, A1 q → A q)
    (kk : ∀ (H1 : Heap) (locs1 : List Loc), P H1 → H.size ≤ H1.size → (∀ q : Nat, q < H.size → ¬ A1 q → H1[q]? = H[q]?) → va_S A H0 H1 locs1 → W p l e R s m args below meth c H1 locs1 (cells + mc) (slots + ms) Q (F0 m (pc + 3) ls rest)) : W p l e R s m args below meth c H locs cells slots Q (F0 m pc ls st0) :=
  vx_callv hr hS (fun _ _ h => hAB _ h) (fun _ h => hAB _ h) (fun _ _ h => hAB _ h)
    (fun E ce q9 u t H1 locs1 ht _ _ hb hz _ hS1 h7 h8 h9 => hb.2.elim)
    (fun u t H1 locs1 ht _ hp hb hz hk hS1 => kk H1 locs1 (by rw [← ht, hb]; exact hp) hz hk hS1)
/-- a call of the law's own, or of the class by its model's words: nothing is thrown -/
theorem k_iN {P : Int32 → Heap → Prop} (hr : vx_Run p l e R s m args below meth c H locs cells slots mc ms (F0 m pc ls st0) rest (QI A P a) (XX A XN) A) (hS : va_S A H0 H locs)
    (kk : ∀ (r : Int32) (H1 : Heap) (locs1 : List Loc), P r H1 → H.size ≤ H1.size → va_S A H0 H1 locs1 → W p l e R s m args below meth c H1 locs1 (cells + mc) (slots + ms) Q (F0 m (pc + 3) ls (.int r :: rest))) : W p l e R s m args below meth c H locs cells slots Q (F0 m pc ls st0) :=
  k_i hr hS (fun _ _ _ _ _ h _ _ _ _ _ => h.elim) kk
theorem lv_lcmpE (hexec : p.tables.exec = Jvm.exec) (hb : c.code = cc) {x y : Int64} (hxy : x = y) (hdg : decode cc pc = .ok (.lcmp, 1))
    (k : W p l e R s m args below meth c H locs cells slots Q (F0 m (pc + 1) ls (.int (nI 0) :: rest))) : W p l e R s m args below meth c H locs cells slots Q (F0 m pc ls (.long y :: .long x :: rest)) := by
  subst hxy
  intro T hT X
  obtain ⟨t, a, b⟩ := k T hT X
  refine ⟨t, ?_, b⟩
  jvm_step X.here [X.here.top, hexec, hb, hdg, Int64.lt_irrefl]
  exact a
end KA
/-- the law's invariant: both stores tell M, k calls are through -/
def LI (D : va_G) (T : Nat → ClassId) (dE b0 g ob : Nat) (A : Nat → Prop) (H : Heap) (M : mSt) (k : Nat) : Prop := ∃ (tg : Nat → Nat) (S : Nat → Int32) (Y : Nat → Nat → Int32) (f : Nat → Int64), RepT D T dE b0 A tg H M ∧ RM D T g S Y H ∧ Rel S Y M ∧ Inv (800 * k) M ∧ jc (T 4) H ob 1 f ∧ tg ob = 7 ∧ (∀ q, g ≤ q → q < g + 23 → tg q = 8) ∧ g + 23 ≤ H.size
section LIS
variable {D : va_G} {T : Nat → ClassId} {dE b0 g ob : Nat} {A : Nat → Prop} {H H1 H2 : Heap} {M : mSt} {k : Nat} {tg tg1 : Nat → Nat} {S : Nat → Int32} {Y : Nat → Nat → Int32} {f : Nat → Int64}
/-- the reference's cells, over a call of the class -/
theorem LI.rm (hM : RM D T g S Y H) (h8 : ∀ q, g ≤ q → q < g + 23 → tg q = 8) (hsz : g + 23 ≤ H.size) (fr : FR tg (fun t => t ≠ 0 ∧ t ≠ 8) H H1) : RM D T g S Y H1 := hM.kept (fun q h1 h2 => fr.2 q (by omega) (by rw [h8 q h1 h2]; decide))
/-- both calls are through -/
theorem LI.st (hR : RepT D T dE b0 A tg1 H1 M) (hM : RM D T g S Y H2) (hr : Rel S Y M) (hI : Inv (800 * (k + 1)) M) (ho : jc (T 4) H1 ob 1 f) (t7 : tg1 ob = 7) (t8 : ∀ q, g ≤ q → q < g + 23 → tg1 q = 8) (hz : H1.size ≤ H2.size) (hk : ∀ q : Nat, q < H1.size → ¬ AM g q → H2[q]? = H1[q]?) (hsz : g + 23 ≤ H1.size) : LI D T dE b0 g ob A H2 M (k + 1) := by
  have fr : FR tg1 (fun t => t = 8) H1 H2 := ⟨hz, fun q h1 h2 => hk q h1 (fun z => h2 (t8 q z.1 z.2))⟩
  refine ⟨tg1, S, Y, f, hR.out fr (Or.inr rfl), hM, hr, hI, ho.kept (hk ob ho.lt (fun z => ?_)), t7, t8, by omega⟩
  have := t8 ob z.1 z.2
  omega
theorem LI.t8 (h8 : ∀ q, g ≤ q → q < g + 23 → tg q = 8) (tx : TX tg H tg1) (hsz : g + 23 ≤ H.size) : ∀ q, g ≤ q → q < g + 23 → tg1 q = 8 := fun q h1 h2 => (tx q (by omega)).trans (h8 q h1 h2)
end LIS
theorem pm_rows {D : va_G} {T : Nat → ClassId} {g : Nat} {S : Nat → Int32} {Y : Nat → Nat → Int32} {H : Heap} {M : mSt} {r : Int32} (hr : Rel S Y M) (h : RM D T g (upd S 0 (nI 0)) Y H ∧ r = S 12) : PM D T g (oRows M) r H := ⟨upd S 0 (nI 0), Y, h.1, hr.s0, rfl, fun _ => h.2.trans hr.2.2.1.1⟩
theorem pm_tick {D : va_G} {T : Nat → ClassId} {g : Nat} {S : Nat → Int32} {Y : Nat → Nat → Int32} {H : Heap} {M : mSt} {r : Int32} (hr : Rel S Y M) (h : RM D T g (upd S 0 (nI 0)) Y H ∧ r = S 1) : PM D T g (oTick M) r H := ⟨upd S 0 (nI 0), Y, h.1, hr.s0, rfl, fun _ => h.2.trans hr.1⟩
