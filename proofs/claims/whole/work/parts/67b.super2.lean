section S2
variable {p : Program} {l : Launch} {e : Env} {R : Room} {s : State} {m : MethodId} {args : Array Value} {below : List Frame} {meth : Method} {c : Code} {H : Heap} {locs : List Loc} {cells slots : Nat}
/-- a super call of a method that the superclass has from its own superclass -/
theorem ge_sub2 {vm : Vm} {a b : ClassId} {k : Class} (h : vm.classes[a]? = some k) (hs : k.super = some b) : vm.isSubclass a b = true := by
  have h0 : 0 < vm.classes.size := by
    rcases Nat.eq_zero_or_pos vm.classes.size with z | z
    · rw [Array.getElem?_eq_none (by omega)] at h; cases h
    · exact z
  obtain ⟨n, hn⟩ : ∃ n, vm.classes.size = n + 1 := ⟨vm.classes.size - 1, by omega⟩
  unfold Vm.isSubclass
  rw [hn]
  simp [Vm.isSubclassAux, h, hs]
theorem ge_runP2 {x y : MethodName} {bytes cc : ByteArray} {maxL nL mc ms n index : Nat} {ret : Option FieldType} {ws : List Cond} {rm : Room} {Pc : Array Value → State → Prop} {Qc : Array Value → State → Outcome → State → Prop} {free : Addr → Prop} {Ts : List Cond} {own C : String} {cC : ClassId} {b : Addr} {As rest : List Value} {g : JFrame}
    (hat : ClassAt s C cC) (S : CallFix p m c cc nL s args Ts own) (hM : Met l y ws rm Pc Qc mc ms free)
    (hrc : rm.cells = mc) (hrs : rm.slots = ms) (hfr : rm.frames + 1 ≤ R.frames) (hlo : 8 + (maxL + 11) + rm.locals ≤ R.locals) (hws : ∀ w ∈ ws, ∀ (a' : Array Value) (U : State), s.WarmedH U.vm → w.before a' U = true) (hcw : Cond.code y bytes maxL ret ∈ ws)
    (hl1 : (Cond.methodLink own index x).before args s = true) (hl2 : (Cond.sameMethod x.cls y.cls x.name x.desc).before args s = true) (hl3 : (Cond.superclass own x.cls).before args s = true) (hl5 : (Cond.superclass x.cls y.cls).before args s = true)
    (hl4 : (Cond.instanceMethod y).before args s = true) (hini : (Cond.initialized y.cls).before args s = true) (hcode : (Cond.code y bytes maxL ret).before args s = true) (hno : x.name ≠ "<init>") (hxy : (⟨y.cls, x.name, x.desc⟩ : MethodName) = y) (hlen : ∀ sig, parseMethodDescriptor y.desc = some sig → n = sig.parameters.length)
    (hp : PreV s H C b Pc As) (hg : g.method = m) (hn : As.length = n) (hsize : g.locals.size = nL) (hstack : g.stack = As.reverse ++ .ref b :: rest) (hW : 2 * g.monitorRoom + (rest.map fun v => v.category).sum ≤ 8) (hdg : decode cc g.pc = .ok (.invokespecial index, 3)) (hf : cells + mc ≤ R.cells ∧ slots + ms ≤ R.slots) :
    va_Run p l e R s m args below meth c H locs cells slots mc ms g rest (Qc (Value.ref b :: As).toArray) (free) := by
  have hK : Back l R p e below s args y 3 8 (PreOf R mc ms Pc) (PostOf Qc mc ms free) := back_of (bytes := bytes) (maxL := maxL) (ret := ret) hM hp.1 hrc hrs hfr hlo hws hcw (fun a' U hW => word_at hW (Or.inl (by first | rfl | simp [Cond.onTables, Cond.keeps, Cond.steady])) hini)
  obtain ⟨hx, hb, hml, ho, -⟩ := S
  obtain ⟨-, ⟨cellB, hcB, hoB, hclB⟩, hPc⟩ := hp
  obtain ⟨hfc, kB, hkB, -⟩ := hat
  cases hfc.symm.trans hclB
  obtain ⟨mk, methM, hnamed, hmethM, hstM, habM⟩ := Cond.instanceMethod_spec hl4
  obtain ⟨methM', cM, hmethM', -, -, -, -, -, -, hsigM⟩ := Cond.code_spec hnamed hcode
  cases hmethM.symm.trans hmethM'
  obtain ⟨ps, dk, kp, hps, hdk, hkp, hsuper, -, -, hnid⟩ := Cond.superclass_spec ho hl3
  obtain ⟨ps2, dk2, kp2, hps2, hdk2, hkp2, hsuper2, -, -, -⟩ := Cond.superclass_spec hps hl5
  have hpm : ps2 = mk.cls := Option.some.inj (hps2.symm.trans (findClass_of_methodNamed hnamed))
  have hsub : s.vm.isSubclass ps mk.cls = true := ge_sub2 hdk2 (by rw [hsuper2, hpm])
  have hn2 : s.methodNamed? ⟨y.cls, x.name, x.desc⟩ = some mk := by rw [hxy]; exact hnamed
  intro T hT X
  obtain ⟨v, vm₁, ⟨U', l2, c2, s2⟩, hW₁, X', ⟨g', mk', t, L, e1, e2, hq, h1, hL, h2, h3⟩, st⟩ := X.specialUpBack hx ho hl1 hl2 hn2 hmethM hstM habM hno hdk hnid hps hsuper hsub (a := b) (cell := cellB) (by rw [hT]; exact hcB) (fun z h => by rw [h] at hoB; cases hoB) hkB (W := 8) (Pre := PreOf R mc ms Pc) (Post := PostOf Qc mc ms free) (by rw [hxy]; exact hK) (g := g) hg (hsize.trans hml.symm) (s₀ := T.setTop g) (Steps.refl _) (argsL := As) (rest := rest) (hn.trans (hlen _ hsigM)) hstack hW (by rw [hb]; exact hdg)
    (fun vm₁ hW₁ => ⟨hf.1, hf.2, hPc (T.setVm vm₁) hT hW₁⟩)
  dsimp only [Pt.U, Pt.locs, Pt.cells, Pt.slots] at X' e1 e2 h1 h2 h3 st
  subst h1; subst h2; subst h3
  exact ⟨v, (T.setVm vm₁).calling g' mk' (Value.ref b :: As).toArray, t, U', L, hT, X', hL, e1, e2, hq, fun target h => st.trans h⟩
end S2
def ge_cq (own : String) (idx n : Nat) (x : MethodName) (y' : ge_Y) : Prop := (∀ w ∈ ([.methodLink own idx x, .sameMethod x.cls y'.1.cls x.name x.desc, .superclass own x.cls, .superclass x.cls y'.1.cls, .instanceMethod y'.1, .initialized y'.1.cls] : List Cond), w ∈ ge_tbl) ∧ Cond.code y'.1 y'.2.1 y'.2.2.1 y'.2.2.2 ∈ ge_tbl ∧
  (x.name ≠ "<init>" ∧ (⟨y'.1.cls, x.name, x.desc⟩ : MethodName) = y'.1 ∧ (parseMethodDescriptor y'.1.desc).map (fun d => d.parameters.length) = some n)
section S3
variable {X : ge_X} {S : List ge_S} {y : ge_Y} {d : Nat} {Q : Option Value → ge_G → Prop} {l : List (Nat × Value)} {st rest : List Value} {g : ge_G} {pc : Nat}
theorem ge_callP2 {idx n p ci d' : Nat} {x0 : MethodName} {y' : ge_Y} {As : List Value} {fs : List ge_F} {q : vw_C} {Q' : Option Value → ge_G → Prop} (dg : decode y.2.1 pc = .ok (.invokespecial idx, 3)) (hc : ge_cq y.1.cls idx n x0 y') (hd : ge_ok y' d' d)
    (hs : S[p]? = some (.inl (ci, fs))) (hq : vwCl[ci]? = some q) (hn : As.length = n) (hst : st = As.reverse ++ .ref (ge_ad X.1 p) :: rest) (hr : (rest.map fun v => v.category).sum ≤ 8)
    (hM : ge_M X S y' d' (.ref (ge_ad X.1 p) :: As) g Q') (kk : ∀ (v : Option Value) (g' : ge_G), Q' v g' → ge_A X S y d Q (pc + 3) l (v.toList ++ rest) g') : ge_A X S y d Q pc l st g := by
  intro pr lc e s m args below meth c H locs ls C hH hS hls
  obtain ⟨hc1, hc2, hc3, hc4, hc5⟩ := hc
  have ht := C.2.2.2.2.1
  have hG := ge_gin (y := y) (y' := y') hc2 hc1
  have hG2 : GoodIn ge_tbl (Cond.code y'.1 y'.2.1 y'.2.2.1 y'.2.2.2 :: ge_tbl) := fun w h => hG w (List.mem_append_right _ h)
  have ok := fun w h => ht w (hc1 w h)
  refine ge_after (ge_runP2 (x := x0) (As := As) (rest := rest) (b := ge_ad X.1 p) (nL := y.2.2.1) (Ts := ge_tbl) (own := y.1.cls) (C := q.1) (C.2.2.2.2.2.2.2.1.1 ci q hq).2 ⟨C.1, C.2.1, C.2.2.1, C.2.2.2.1, C.2.2.2.2.1⟩ (hM lc) rfl rfl hd.room.1 hd.room.2 (pay_in ht hG2) List.mem_cons_self
    (ok _ (by simp)) (ok _ (by simp)) (ok _ (by simp)) (ok _ (by simp)) (ok _ (by simp)) (ok _ (by simp)) (ht _ hc2) hc3 hc4 (fun sig h => by rw [h] at hc5; exact (Option.some.inj hc5).symm)
    ⟨ge_blind X S g _, va_recv C.2.2.2.2.2.2.2.1 hH.1 hq (ge_w_get X S g hs), fun U hU hW => ⟨rfl, by rw [hU]; exact hH, ge_K_moved hW hU hS C.2.2.2.2.2.2.2⟩⟩ rfl hn hls.1 hst (lv_room hr) dg ⟨Nat.zero_le _, Nat.zero_le _⟩) hS ?_
  intro v g' hv H1 locs1 hH1 hS1
  exact kk v g' hv pr lc e s m args below meth c H1 locs1 ls C hH1 hS1 hls
theorem gq_rQ3i {idx p ci d' : Nat} {x0 : MethodName} {y' : ge_Y} {a1 a2 a3 : Value} {fs : List ge_F} {q : vw_C} {x : Int32} {g' : ge_G} (dg : decode y.2.1 pc = .ok (.invokespecial idx, 3)) (hc : ge_cq y.1.cls idx 3 x0 y') (hs : S[p]? = some (.inl (ci, fs))) (hM : ge_N X S y' d' [.ref (ge_ad X.1 p), a1, a2, a3] g (some (.int x)) g') (hd : ge_ok y' d' d) (hq : vwCl[ci]? = some q) (hr : (rest.map fun v => v.category).sum ≤ 8)
    (kk : ge_B X S y d Q (pc + 3) l (.int x :: rest) g') : ge_B X S y d Q pc l (a3 :: a2 :: a1 :: .ref (ge_ad X.1 p) :: rest) g :=
  fun g1 hg => ge_callP2 (As := [a1, a2, a3]) dg hc hd hs hq rfl rfl hr (hM g1 hg) (fun v g2 ⟨g3, h1, h2⟩ => by obtain ⟨rfl, rfl⟩ := h2; exact kk g2 h1)
end S3
