section KCN
variable {p : Program} {l : Launch} {e : Env} {R : Room} {s : State} {m : MethodId} {args : Array Value} {below : List Frame} {meth : Method} {c : Code} {H : Heap} {locs : List Loc} {cells slots : Nat} {Q : State → Prop}
variable {cc : ByteArray} {pc : Nat} {ls : Array Slot} {rest st0 : List Value} {D : va_G} {T : Nat → ClassId} {dE mi : Nat} {A : Nat → Prop} {H0 : Heap}
variable {Qc : Array Value → State → Outcome → State → Prop} {X' : String → Heap → Prop} {MC MS : Nat}
/-- 'throw new NoSuchElementException("..")' in the class Archeloft -/
theorem k_thrN {text : String} {ik is : Nat} (hx : p.tables.exec = Jvm.exec) (hb : c.code = cc) (hl : l.stackTraces = false) (hown : s.vm.findClass RX6 = some m.cls) (hev : EV D T dE mi A s) (hS : va_S A s.heap H locs) (hcls : Bundle.fit "java/util/NoSuchElementException" = true)
    (hk : (Cond.classLink RX6 ik "java/util/NoSuchElementException").before args s = true) (hini : (Cond.initialized "java/util/NoSuchElementException").before args s = true) (hstr : (is, text) ∈ evStr) (hcc : ("java/util/NoSuchElementException", "java/util/NoSuchElementException") ∈ evCast) (hat : ∀ w ∈ atN, w.before args s = true)
    (hng : ∀ w ∈ nseAt.filter (fun w => !goodWord w), w ∈ [Cond.castable "java/util/NoSuchElementException" "java/util/NoSuchElementException", .declares (Bundle.initS "java/lang/RuntimeException"), .declares (Bundle.initS "java/lang/Exception"), .declares (Bundle.initS Bundle.tN)])
    (hgood : ∀ w ∈ Cond.classLink RX6 ik "java/util/NoSuchElementException" :: Cond.initialized "java/util/NoSuchElementException" :: nseAt, vx_ot w = true) (hsize : ls.size = c.maxLocals)
    (d0 : decode cc pc = .ok (.new ik, 3)) (d3 : decode cc (pc + 3) = .ok (.dup, 1)) (d4 : decode cc (pc + 4) = .ok (.ldc is, 2)) (d6 : decode cc (pc + 6) = .ok (.invokespecial 247, 3)) (d9 : decode cc (pc + 9) = .ok (.athrow, 1))
    (hnt : ∀ x ∈ c.exceptionTable.toList, False) (hRf : 5 < R.frames) (hRl : (rest.map fun v => v.category).sum + 82 ≤ R.locals) (hRc : cells + 1 ≤ R.cells) (hRs : slots + 6 ≤ R.slots) (hlk : meth.locks = false)
    (hX : ∀ H1 : Heap, H.size ≤ H1.size → (∀ q : Nat, q < H.size → H1[q]? = H[q]?) → X' "java/util/NoSuchElementException" H1) (hc : cells + 1 ≤ MC) (hs : slots + 6 ≤ MS) :
    W p l e R s m args below meth c H locs cells slots (vx_MQ below Qc (XX A X') args s MC MS A) (F0 m pc ls rest) := by
  obtain ⟨-, -, ⟨hU, hN⟩, hca, ⟨⟨-, hde⟩, -⟩, hst, -⟩ := hev
  obtain ⟨sa, hsa⟩ := hst _ hstr
  refine vx_makeN hx hb hl hown hk hini hsa (vx_hat hat hng (vx_c (va_Nw.use rfl (hca _ hcc)) (vx_c (va_Nw.use rfl (hde _ (by decide +kernel))) (vx_c (va_Nw.use rfl (hde _ (by decide +kernel))) (vx_c (va_Nw.use rfl (hde _ (by decide +kernel))) vx_n))))) hgood hU hN hS hsize d0 d3 d4 d6 hRf hRl hRc hRs (fun q ce H1 h7 h8 h9 hz hk1 => ?_)
  have hS1 : va_S A s.heap H1 locs := ⟨Nat.le_trans hS.1 hz, fun q9 h1 h2 => (hk1 q9 (Nat.lt_of_lt_of_le h1 hS.1)).trans (hS.2.1 q9 h1 h2), hS.2.2⟩
  exact vx_athrow hx hb d9 (k_up hnt hlk hS1 h7 h8 h9 (hX H1 hz hk1) hc hs)
end KCN
