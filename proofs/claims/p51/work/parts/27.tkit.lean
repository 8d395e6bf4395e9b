/-! more call rules: selection as a fact (private methods of a superclass), super.m(..), ends that hand back a reference -/
section KY
variable {p : Program} {l : Launch} {e : Env} {R : Room} {s : State} {m : MethodId} {args : Array Value} {below : List Frame} {meth : Method} {c : Code} {H : Heap} {locs : List Loc} {cells slots : Nat} {Q : State → Prop}
variable {y : MethodName} {bytes cc : ByteArray} {maxL nL mc ms n index : Nat} {ret : Option FieldType} {rm : Room} {Pc : Array Value → State → Prop} {Qc : Array Value → State → Outcome → State → Prop} {free : Addr → Prop} {own C : String} {b : Addr} {As rest : List Value} {g : JFrame}
/-- a private method, found from a class below its own: z is another method of that class that the tables say is found -/
theorem selP {y z : MethodName} (hc : (Cond.selects C z z).before args s = true) (hz : (Cond.instanceMethod z).before args s = true) (hcls : y.cls = z.cls) (hy : y.cls ≠ "java/lang/invoke/MethodHandle" ∧ y.cls ≠ "java/lang/invoke/VarHandle") (hpriv : (Cond.privateMethod y).before args s = true) (hinst : (Cond.instanceMethod y).before args s = true) : (Cond.selects C y y).before args s = true := by
  obtain ⟨mz, methZ, hnz, -, -, -⟩ := Cond.instanceMethod_spec hz
  obtain ⟨mk, methM, hnamed, hmethM, -, -⟩ := Cond.instanceMethod_spec hinst
  have hfound : s.methodFound? y.cls y.name y.desc = some mk := State.methodFound?_of_named hnamed hy
  have e : mk.cls = mz.cls := by
    have h1 := findClass_of_methodNamed hnamed
    have h2 := findClass_of_methodNamed hnz
    rw [hcls] at h1
    exact Option.some.inj (h1.symm.trans h2)
  obtain ⟨c2, r2, m2, q1, q2, q3, q4, kP, hkP, hkPi⟩ := Cond.selects_spec hc
  cases hnz.symm.trans q3
  have hsel : selectMethod {} s.vm c2 mk = .method mk := selectMethod_private hmethM (Cond.privateMethod_at hpriv mk methM hnamed hmethM)
  simp only [Cond.before, Cond.holds, Cond.value, q1, hfound, hnamed, hsel, e, hkP]
  simp; exact hkPi
theorem xrunVf (S : CallFix p m c cc nL s args BW own) (hM : Met l y (Cond.code y bytes maxL ret :: BW) rm Pc Qc mc ms free) (F : CF y bytes maxL ret n) (hL : Cond.methodLink own index y ∈ BW) (hin : Cond.instanceMethod y ∈ BW) (hse : (Cond.selects C y y).before args s = true) (hrc : rm.cells = mc) (hrs : rm.slots = ms) (hR : rm.frames + 1 ≤ R.frames ∧ 16 + (maxL + 11) + rm.locals ≤ R.locals) (hp : PreV s H C b Pc As)
    (hg : g.method = m) (hn : As.length = n) (hsize : g.locals.size = nL) (hstack : g.stack = As.reverse ++ .ref b :: rest) (hW : 2 * g.monitorRoom + (rest.map fun v => v.category).sum ≤ 16) (hdg : decode cc g.pc = .ok (.invokevirtual index, 3)) (hf : cells + mc ≤ R.cells ∧ slots + ms ≤ R.slots) :
    va_Run p l e R s m args below meth c H locs cells slots mc ms g rest (Qc (Value.ref b :: As).toArray) (free) := by
  obtain ⟨hx, hb, hml, ho, hw⟩ := S
  have hK : Back l R p e below s args y 3 16 (PreOf R mc ms Pc) (PostOf Qc mc ms free) := kBack hw hM hp.1 F hrc hrs hR
  obtain ⟨-, ⟨cellB, hcB, hoB, hclB⟩, hPc⟩ := hp
  intro T hT X
  obtain ⟨v, vm₁, ⟨U', l2, c2, s2⟩, hW₁, X', ⟨g', mk, t, L, e1, e2, hq, h1, hL', h2, h3⟩, st⟩ := callV X hx (C := C) (bytes := bytes) (maxL := maxL) (ret := ret) ho (hw _ hL) (hw _ hin) hse (hw _ F.1) ⟨F.2.2.2.1, F.2.2.2.2.1⟩ hK (by rw [hT]; exact hcB) hoB hclB hg (hsize.trans hml.symm) (argsL := As) (rest := rest) (fun sig h => hn.trans (F.len sig h)) hstack hW (by rw [hb]; exact hdg)
    (fun vm₁ hW₁ => ⟨hf.1, hf.2, hPc (T.setVm vm₁) hT hW₁⟩)
  dsimp only [Pt.U, Pt.locs, Pt.cells, Pt.slots] at X' e1 e2 h1 h2 h3 st
  subst h1; subst h2; subst h3
  exact ⟨v, (T.setVm vm₁).calling g' mk (Value.ref b :: As).toArray, t, U', L, hT, X', hL', e1, e2, hq, st⟩
/-- super.m(..) -/
theorem xrunU (S : CallFix p m c cc nL s args BW own) (hM : Met l y (Cond.code y bytes maxL ret :: BW) rm Pc Qc mc ms free) (F : CF y bytes maxL ret n) (hL : Cond.methodLink own index y ∈ BW) (hsame : Cond.sameMethod y.cls y.cls y.name y.desc ∈ BW) (hsup : Cond.superclass own y.cls ∈ BW) (hin : Cond.instanceMethod y ∈ BW) (hno : y.name ≠ "<init>") (hrc : rm.cells = mc) (hrs : rm.slots = ms) (hR : rm.frames + 1 ≤ R.frames ∧ 16 + (maxL + 11) + rm.locals ≤ R.locals) (hp : PreV s H C b Pc As)
    (hg : g.method = m) (hn : As.length = n) (hsize : g.locals.size = nL) (hstack : g.stack = As.reverse ++ .ref b :: rest) (hW : 2 * g.monitorRoom + (rest.map fun v => v.category).sum ≤ 16) (hdg : decode cc g.pc = .ok (.invokespecial index, 3)) (hf : cells + mc ≤ R.cells ∧ slots + ms ≤ R.slots) :
    va_Run p l e R s m args below meth c H locs cells slots mc ms g rest (Qc (Value.ref b :: As).toArray) (free) := by
  obtain ⟨hx, hb, hml, ho, hw⟩ := S
  have hK : Back l R p e below s args y 3 16 (PreOf R mc ms Pc) (PostOf Qc mc ms free) := kBack hw hM hp.1 F hrc hrs hR
  obtain ⟨-, ⟨cellB, hcB, hoB, hclB⟩, hPc⟩ := hp
  obtain ⟨kB, hkB, -⟩ := Vm.findClass_spec hclB
  intro T hT X
  obtain ⟨v, vm₁, ⟨U', l2, c2, s2⟩, hW₁, X', ⟨g', mk, t, L, e1, e2, hq, h1, hL', h2, h3⟩, st⟩ := va_callSU X hx (bytes := bytes) (maxL := maxL) (ret := ret) ho (hw _ hL) (hw _ hsame) (hw _ hsup) (hw _ hin) (hw _ F.1) hno hK (by rw [hT]; exact hcB) hoB hkB hg (hsize.trans hml.symm) (argsL := As) (rest := rest) (fun sig h => hn.trans (F.len sig h)) hstack hW (by rw [hb]; exact hdg)
    (fun vm₁ hW₁ => ⟨hf.1, hf.2, hPc (T.setVm vm₁) hT hW₁⟩)
  dsimp only [Pt.U, Pt.locs, Pt.cells, Pt.slots] at X' e1 e2 h1 h2 h3 st
  subst h1; subst h2; subst h3
  exact ⟨v, (T.setVm vm₁).calling g' mk (Value.ref b :: As).toArray, t, U', L, hT, X', hL', e1, e2, hq, st⟩
/-- a call that names x, selection finds y -/
theorem xrunO {x : MethodName} {b0 : ByteArray} {m0 : Nat} {r0 : Option FieldType} (S : CallFix p m c cc nL s args BW own) (hM : Met l y (Cond.code y bytes maxL ret :: BW) rm Pc Qc mc ms free) (F : CF y bytes maxL ret n) (hL : Cond.methodLink own index x ∈ BW) (hsame : Cond.sameMethod x.cls x.cls x.name x.desc ∈ BW) (hx0 : Cond.instanceMethod x ∈ BW) (hc0 : Cond.code x b0 m0 r0 ∈ BW) (hxm : x.cls ≠ "java/lang/invoke/MethodHandle" ∧ x.cls ≠ "java/lang/invoke/VarHandle") (hdx : x.desc = y.desc) (hse : Cond.selects C x y ∈ BW) (hin : Cond.instanceMethod y ∈ BW) (hrc : rm.cells = mc) (hrs : rm.slots = ms) (hR : rm.frames + 1 ≤ R.frames ∧ 16 + (maxL + 11) + rm.locals ≤ R.locals) (hp : PreV s H C b Pc As)
    (hg : g.method = m) (hn : As.length = n) (hsize : g.locals.size = nL) (hstack : g.stack = As.reverse ++ .ref b :: rest) (hW : 2 * g.monitorRoom + (rest.map fun v => v.category).sum ≤ 16) (hdg : decode cc g.pc = .ok (.invokevirtual index, 3)) (hf : cells + mc ≤ R.cells ∧ slots + ms ≤ R.slots) :
    va_Run p l e R s m args below meth c H locs cells slots mc ms g rest (Qc (Value.ref b :: As).toArray) (free) := by
  obtain ⟨hx, hb, hml, ho, hw⟩ := S
  have hK : Back l R p e below s args y 3 16 (PreOf R mc ms Pc) (PostOf Qc mc ms free) := kBack hw hM hp.1 F hrc hrs hR
  obtain ⟨-, ⟨cellB, hcB, hoB, hclB⟩, hPc⟩ := hp
  intro T hT X
  obtain ⟨v, vm₁, ⟨U', l2, c2, s2⟩, hW₁, X', ⟨g', mk, t, L, e1, e2, hq, h1, hL', h2, h3⟩, st⟩ := va_callVU X hx (C := C) (owner := x.cls) (bytes := bytes) (maxL := maxL) (ret := ret) ho (hw _ hL) (hw _ hsame) (va_Decl.of (hw _ hx0) (hw _ hc0)) hxm (hw _ hse) (hw _ hin) (hw _ F.1) hK (by rw [hT]; exact hcB) hoB hclB hg (hsize.trans hml.symm) (argsL := As) (rest := rest) (fun sig h => hn.trans (F.len sig (hdx ▸ h))) hstack hW (by rw [hb]; exact hdg)
    (fun vm₁ hW₁ => ⟨hf.1, hf.2, hPc (T.setVm vm₁) hT hW₁⟩)
  dsimp only [Pt.U, Pt.locs, Pt.cells, Pt.slots] at X' e1 e2 h1 h2 h3 st
  subst h1; subst h2; subst h3
  exact ⟨v, (T.setVm vm₁).calling g' mk (Value.ref b :: As).toArray, t, U', L, hT, X', hL', e1, e2, hq, st⟩
end KY
section KZ
variable {p : Program} {l : Launch} {e : Env} {R : Room} {s : State} {m : MethodId} {args : Array Value} {below : List Frame} {meth : Method} {c : Code} {H : Heap} {locs : List Loc} {cells slots : Nat} {Q : State → Prop}
variable {cc : ByteArray} {pc : Nat} {ls : Array Slot} {rest st0 st1 : List Value} {G : GT}
/-- a call of an instance method that reads; selection as a fact; the stack behind it told -/
theorem rcVf {own : String} {nL index : Nat} {y : MethodName} {b : ByteArray} {maxL k n : Nat} {ret : Option FieldType} {o : Nat} {as : List Value} {wd : va_W} {r : Option Value} {cl : String} (C : CallFix p m c cc nL s args BW own) (hM : RO l G y b maxL ret k (.ref o :: as) wd r) (F : CF y b maxL ret n) (hn : as.length = n) (hL : Cond.methodLink own index y ∈ BW) (hst : Cond.instanceMethod y ∈ BW) (hse : (Cond.selects cl y y).before args s = true) (hE : EV G s H) (hP : va_P (gD G) vwCl wd H)
    (hrv : ∃ cellB : Cell, H[o]? = some cellB ∧ cellB.vm.isStatics = false ∧ s.vm.findClass cl = some cellB.cls)
    (hl : ls.size = nL) (hdg : decode cc pc = .ok (.invokevirtual index, 3)) (hR : (rmK k 0 0).frames + 1 ≤ R.frames ∧ 16 + (maxL + 11) + (rmK k 0 0).locals ≤ R.locals) (hs0 : st0 = as.reverse ++ .ref o :: rest) (hW : (rest.map fun v => v.category).sum ≤ 16) (hf : cells ≤ R.cells ∧ slots ≤ R.slots) (hs1 : r.toList ++ rest = st1)
    (kk : W p l e R s m args below meth c H locs cells slots Q (F0 m (pc + 3) ls st1)) : W p l e R s m args below meth c H locs cells slots Q (F0 m pc ls st0) := by
  subst hs1
  exact rc0 (xrunVf (As := as) (rest := rest) (C := cl) C hM F hL hst hse rfl rfl hR ⟨PR.blind, hrv, fun U hU hW => ⟨rfl, by rw [hU]; exact EV.warm hW hE, by rw [hU]; exact hP⟩⟩ rfl hn hl hs0 (k_room hW) hdg hf) kk
theorem rcVo {own : String} {nL index : Nat} {x y : MethodName} {b0 : ByteArray} {m0 : Nat} {r0 : Option FieldType} {b : ByteArray} {maxL k n : Nat} {ret : Option FieldType} {o : Nat} {as : List Value} {wd : va_W} {r : Option Value} {cl : String} (C : CallFix p m c cc nL s args BW own) (hM : RO l G y b maxL ret k (.ref o :: as) wd r) (F : CF y b maxL ret n) (hn : as.length = n) (hL : Cond.methodLink own index x ∈ BW) (hsame : Cond.sameMethod x.cls x.cls x.name x.desc ∈ BW) (hx0 : Cond.instanceMethod x ∈ BW) (hc0 : Cond.code x b0 m0 r0 ∈ BW) (hxm : x.cls ≠ "java/lang/invoke/MethodHandle" ∧ x.cls ≠ "java/lang/invoke/VarHandle") (hdx : x.desc = y.desc) (hse : Cond.selects cl x y ∈ BW) (hst : Cond.instanceMethod y ∈ BW) (hE : EV G s H) (hP : va_P (gD G) vwCl wd H)
    (hrv : ∃ cellB : Cell, H[o]? = some cellB ∧ cellB.vm.isStatics = false ∧ s.vm.findClass cl = some cellB.cls)
    (hl : ls.size = nL) (hdg : decode cc pc = .ok (.invokevirtual index, 3)) (hR : (rmK k 0 0).frames + 1 ≤ R.frames ∧ 16 + (maxL + 11) + (rmK k 0 0).locals ≤ R.locals) (hs0 : st0 = as.reverse ++ .ref o :: rest) (hW : (rest.map fun v => v.category).sum ≤ 16) (hf : cells ≤ R.cells ∧ slots ≤ R.slots) (hs1 : r.toList ++ rest = st1)
    (kk : W p l e R s m args below meth c H locs cells slots Q (F0 m (pc + 3) ls st1)) : W p l e R s m args below meth c H locs cells slots Q (F0 m pc ls st0) := by
  subst hs1
  exact rc0 (xrunO (As := as) (rest := rest) (C := cl) C hM F hL hsame hx0 hc0 hxm hdx hse hst rfl rfl hR ⟨PR.blind, hrv, fun U hU hW => ⟨rfl, by rw [hU]; exact EV.warm hW hE, by rw [hU]; exact hP⟩⟩ rfl hn hl hs0 (k_room hW) hdg hf) kk
theorem rcU {own : String} {nL index : Nat} {y : MethodName} {b : ByteArray} {maxL k n : Nat} {ret : Option FieldType} {o : Nat} {as : List Value} {wd : va_W} {r : Option Value} {cl : String} (C : CallFix p m c cc nL s args BW own) (hM : RO l G y b maxL ret k (.ref o :: as) wd r) (F : CF y b maxL ret n) (hn : as.length = n) (hL : Cond.methodLink own index y ∈ BW) (hsame : Cond.sameMethod y.cls y.cls y.name y.desc ∈ BW) (hsup : Cond.superclass own y.cls ∈ BW) (hst : Cond.instanceMethod y ∈ BW) (hno : y.name ≠ "<init>") (hE : EV G s H) (hP : va_P (gD G) vwCl wd H)
    (hrv : ∃ cellB : Cell, H[o]? = some cellB ∧ cellB.vm.isStatics = false ∧ s.vm.findClass cl = some cellB.cls)
    (hl : ls.size = nL) (hdg : decode cc pc = .ok (.invokespecial index, 3)) (hR : (rmK k 0 0).frames + 1 ≤ R.frames ∧ 16 + (maxL + 11) + (rmK k 0 0).locals ≤ R.locals) (hs0 : st0 = as.reverse ++ .ref o :: rest) (hW : (rest.map fun v => v.category).sum ≤ 16) (hf : cells ≤ R.cells ∧ slots ≤ R.slots) (hs1 : r.toList ++ rest = st1)
    (kk : W p l e R s m args below meth c H locs cells slots Q (F0 m (pc + 3) ls st1)) : W p l e R s m args below meth c H locs cells slots Q (F0 m pc ls st0) := by
  subst hs1
  exact rc0 (xrunU (As := as) (rest := rest) (C := cl) C hM F hL hsame hsup hst hno rfl rfl hR ⟨PR.blind, hrv, fun U hU hW => ⟨rfl, by rw [hU]; exact EV.warm hW hE, by rw [hU]; exact hP⟩⟩ rfl hn hl hs0 (k_room hW) hdg hf) kk
theorem rcSf {own : String} {nL index : Nat} {y : MethodName} {b : ByteArray} {maxL k n : Nat} {ret : Option FieldType} {as : List Value} {wd : va_W} {r : Option Value} (C : CallFix p m c cc nL s args BW own) (hM : RO l G y b maxL ret k as wd r) (F : CF y b maxL ret n) (hn : as.length = n) (hL : Cond.methodLink own index y ∈ BW) (hst : Cond.static y ∈ BW) (hE : EV G s H) (hP : va_P (gD G) vwCl wd H)
    (hl : ls.size = nL) (hdg : decode cc pc = .ok (.invokestatic index, 3)) (hR : (rmK k 0 0).frames + 1 ≤ R.frames ∧ 16 + (maxL + 11) + (rmK k 0 0).locals ≤ R.locals) (hs0 : st0 = as.reverse ++ rest) (hW : (rest.map fun v => v.category).sum ≤ 16) (hf : cells ≤ R.cells ∧ slots ≤ R.slots) (hs1 : r.toList ++ rest = st1)
    (kk : W p l e R s m args below meth c H locs cells slots Q (F0 m (pc + 3) ls st1)) : W p l e R s m args below meth c H locs cells slots Q (F0 m pc ls st0) := by
  subst hs1
  exact rcS C hM F hn hL hst hE hP hl hdg hR hs0 hW hf kk
theorem weVf {own : String} {nL index : Nat} {y : MethodName} {b : ByteArray} {maxL k n mc ms : Nat} {ret : Option FieldType} {o : Nat} {as : List Value} {wr wd : va_W} {P : Option Value → va_W → Prop} {cl : String} {A : Nat → Prop} (C : CallFix p m c cc nL s args BW own) (hM : WE l G y b maxL ret k mc ms (.ref o :: as) wd P) (F : CF y b maxL ret n) (hn : as.length = n) (hL : Cond.methodLink own index y ∈ BW) (hst : Cond.instanceMethod y ∈ BW) (hse : (Cond.selects cl y y).before args s = true) (hE : EV G s H) (hP : va_P (gD G) vwCl (wr ++ wd) H) (hD : va_D A (wr ++ wd)) (hS : va_S A s.heap H locs) (hA : ∀ q : Nat, s.heap.size ≤ q → A q) (hAB : ∀ q : Nat, A q → gB G ≤ q)
    (hrv : ∃ cellB : Cell, H[o]? = some cellB ∧ cellB.vm.isStatics = false ∧ s.vm.findClass cl = some cellB.cls)
    (hl : ls.size = nL) (hdg : decode cc pc = .ok (.invokevirtual index, 3)) (hR : (rmK k mc ms).frames + 1 ≤ R.frames ∧ 16 + (maxL + 11) + (rmK k mc ms).locals ≤ R.locals) (hs0 : st0 = as.reverse ++ .ref o :: rest) (hW : (rest.map fun v => v.category).sum ≤ 16) (hf : cells + mc ≤ R.cells ∧ slots + ms ≤ R.slots)
    (kk : ∀ (r : Option Value) (wd' : va_W) (H1 : Heap) (locs1 : List Loc), P r wd' → va_P (gD G) vwCl (wr ++ wd') H1 → va_D A (wr ++ wd') → va_S A s.heap H1 locs1 → W p l e R s m args below meth c H1 locs1 (cells + mc) (slots + ms) Q (F0 m (pc + 3) ls (r.toList ++ rest))) : W p l e R s m args below meth c H locs cells slots Q (F0 m pc ls st0) :=
  we0 hP hD hS hA (xrunVf (As := as) (rest := rest) (C := cl) C (hM H.size) F hL hst hse rfl rfl hR ⟨PW.blind, hrv, fun U hU hW => ⟨rfl, by rw [hU], by rw [hU]; exact EV.warm hW hE, by rw [hU]; exact P_tl hP, (D_tl hD).weaken (fun _ q _ h => hAB q.1 h)⟩⟩ rfl hn hl hs0 (k_room hW) hdg hf) kk
theorem weU {own : String} {nL index : Nat} {y : MethodName} {b : ByteArray} {maxL k n mc ms : Nat} {ret : Option FieldType} {o : Nat} {as : List Value} {wr wd : va_W} {P : Option Value → va_W → Prop} {cl : String} {A : Nat → Prop} (C : CallFix p m c cc nL s args BW own) (hM : WE l G y b maxL ret k mc ms (.ref o :: as) wd P) (F : CF y b maxL ret n) (hn : as.length = n) (hL : Cond.methodLink own index y ∈ BW) (hsame : Cond.sameMethod y.cls y.cls y.name y.desc ∈ BW) (hsup : Cond.superclass own y.cls ∈ BW) (hst : Cond.instanceMethod y ∈ BW) (hno : y.name ≠ "<init>") (hE : EV G s H) (hP : va_P (gD G) vwCl (wr ++ wd) H) (hD : va_D A (wr ++ wd)) (hS : va_S A s.heap H locs) (hA : ∀ q : Nat, s.heap.size ≤ q → A q) (hAB : ∀ q : Nat, A q → gB G ≤ q)
    (hrv : ∃ cellB : Cell, H[o]? = some cellB ∧ cellB.vm.isStatics = false ∧ s.vm.findClass cl = some cellB.cls)
    (hl : ls.size = nL) (hdg : decode cc pc = .ok (.invokespecial index, 3)) (hR : (rmK k mc ms).frames + 1 ≤ R.frames ∧ 16 + (maxL + 11) + (rmK k mc ms).locals ≤ R.locals) (hs0 : st0 = as.reverse ++ .ref o :: rest) (hW : (rest.map fun v => v.category).sum ≤ 16) (hf : cells + mc ≤ R.cells ∧ slots + ms ≤ R.slots)
    (kk : ∀ (r : Option Value) (wd' : va_W) (H1 : Heap) (locs1 : List Loc), P r wd' → va_P (gD G) vwCl (wr ++ wd') H1 → va_D A (wr ++ wd') → va_S A s.heap H1 locs1 → W p l e R s m args below meth c H1 locs1 (cells + mc) (slots + ms) Q (F0 m (pc + 3) ls (r.toList ++ rest))) : W p l e R s m args below meth c H locs cells slots Q (F0 m pc ls st0) :=
  we0 hP hD hS hA (xrunU (As := as) (rest := rest) (C := cl) C (hM H.size) F hL hsame hsup hst hno rfl rfl hR ⟨PW.blind, hrv, fun U hU hW => ⟨rfl, by rw [hU], by rw [hU]; exact EV.warm hW hE, by rw [hU]; exact P_tl hP, (D_tl hD).weaken (fun _ q _ h => hAB q.1 h)⟩⟩ rfl hn hl hs0 (k_room hW) hdg hf) kk
theorem weA {P : Option Value → va_W → Prop} {wd' : va_W} {mc ms q : Nat} {rt : FieldType} {A : Nat → Prop} (hx : p.tables.exec = Jvm.exec) (hb : c.code = cc) (hr : meth.sig.returnType = some rt) (hrt : (∃ n, rt = .object n) ∨ ∃ t, rt = .array t) (hk : meth.locks = false) (hp : P (some (.ref q)) wd') (hP : va_P (gD G) vwCl wd' H) (hD : va_D A wd') (hS : va_S A s.heap H locs) (h1 : cells ≤ mc) (h2 : slots ≤ ms) (hdg : decode cc pc = .ok (.areturn, 1)) : W p l e R s m args below meth c H locs cells slots (MQ below (QE G P A) args s mc ms A) (F0 m pc ls [.ref q]) :=
  W.widen h1 h2 (W.aret hx hb hr hrt (Or.inr ⟨q, rfl⟩) (fun t ht _ => ⟨some (.ref q), wd', rfl, hp, by rw [ht]; exact hP, hD, hS.F ht⟩) hS.2.2 hdg hk)
theorem weN {P : Option Value → va_W → Prop} {wd' : va_W} {mc ms : Nat} {v : Int32} {A : Nat → Prop} (hx : p.tables.exec = Jvm.exec) (hb : c.code = cc) (hr : meth.sig.returnType = some .int) (hk : meth.locks = false) (hp : P (some (.int v)) wd') (hP : va_P (gD G) vwCl wd' H) (hD : va_D A wd') (hS : va_S A s.heap H locs) (h1 : cells ≤ mc) (h2 : slots ≤ ms) (hdg : decode cc pc = .ok (.ireturn, 1)) : W p l e R s m args below meth c H locs cells slots (MQ below (QE G P A) args s mc ms A) (F0 m pc ls [.int v]) :=
  W.widen h1 h2 (W.iret hx hb hr (fun t ht _ => ⟨some (.int v), wd', rfl, hp, by rw [ht]; exact hP, hD, hS.F ht⟩) hS.2.2 hdg hk)
theorem weL {P : Option Value → va_W → Prop} {wd' : va_W} {mc ms : Nat} {v : Int64} {A : Nat → Prop} (hx : p.tables.exec = Jvm.exec) (hb : c.code = cc) (hr : meth.sig.returnType = some .long) (hk : meth.locks = false) (hp : P (some (.long v)) wd') (hP : va_P (gD G) vwCl wd' H) (hD : va_D A wd') (hS : va_S A s.heap H locs) (h1 : cells ≤ mc) (h2 : slots ≤ ms) (hdg : decode cc pc = .ok (.lreturn, 1)) : W p l e R s m args below meth c H locs cells slots (MQ below (QE G P A) args s mc ms A) (F0 m pc ls [.long v]) :=
  W.widen h1 h2 (W.lret hx hb hr (fun t ht _ => ⟨some (.long v), wd', rfl, hp, by rw [ht]; exact hP, hD, hS.F ht⟩) hS.2.2 hdg hk)
theorem re_a {q : Nat} {r : Option Value} {rt : FieldType} (hx : p.tables.exec = Jvm.exec) (hb : c.code = cc) (hr : meth.sig.returnType = some rt) (hrt : (∃ n, rt = .object n) ∨ ∃ t, rt = .array t) (hk : meth.locks = false) (hdg : decode cc pc = .ok (.areturn, 1)) (er : r = some (.ref q)) : W p l e R s m args below meth c s.heap [] 0 0 (MQ below (QR r) args s 0 0 (fun _ => False)) (F0 m pc ls [.ref q]) := by
  subst er
  exact W.aret hx hb hr hrt (Or.inr ⟨q, rfl⟩) (fun t ht _ => ⟨rfl, ht⟩) (fun _ h => nomatch h) hdg hk
end KZ
section KZ2
variable {p : Program} {l : Launch} {e : Env} {R : Room} {s : State} {m : MethodId} {args : Array Value} {below : List Frame} {meth : Method} {c : Code} {H : Heap} {locs : List Loc} {cells slots : Nat} {Q : State → Prop}
variable {cc : ByteArray} {pc : Nat} {ls : Array Slot} {rest : List Value}
theorem k_ldcwT {T : State} (X : Stand p l e R s m args below meth c T locs cells slots) (hexec : p.tables.exec = Jvm.exec) {own text : String} {index : Nat} {a : Addr} (hown : s.vm.findClass own = some m.cls)
    (hconst : (Cond.stringRef own index text).before args s = true) (hev : (Term.string own index).eval args s none [] s = some (.ref a)) {g : JFrame} (hg : g.method = m) (hdg : decode c.code g.pc = .ok (.ldc_w index, 3)) :
    ∀ target, Steps p.tables e below (T.setTop { g with pc := g.pc + 3, stack := .ref a :: g.stack }) target → Steps p.tables e below (T.setTop g) target := by
  obtain ⟨k, cf, i, a', hk, hcf, hcp, -, hr, hev'⟩ := Cond.stringRef_spec hown hconst
  cases hev.symm.trans hev'
  obtain ⟨k', hk', he⟩ := X.warmed.alike.2.2 _ _ hk
  have hr' : k'.resolved[index]? = some (some (.string a)) := by
    rcases X.warmed.entry hk hk' index with h | ⟨h, -⟩
    · rw [h]; exact hr
    · rw [hr] at h; cases h
  intro target hrest
  subst hg
  jvm_step X.here [hexec, hdg, ldc_w.wp_string (e := e) (s := T) (f := g) X.here.top hk' (by rw [he]; exact hcf) hcp hr']
  exact hrest
theorem k_ldcwS (hexec : p.tables.exec = Jvm.exec) (hb : c.code = cc) {own tx : String} {index q : Nat} (hown : s.vm.findClass own = some m.cls) (hZ : vk_R own index tx q s) (hdg : decode cc pc = .ok (.ldc_w index, 3))
    (k : W p l e R s m args below meth c H locs cells slots Q (F0 m (pc + 3) ls (.ref q :: rest))) : W p l e R s m args below meth c H locs cells slots Q (F0 m pc ls rest) := by
  intro T hT X
  obtain ⟨t, a1, b1⟩ := k T hT X
  exact ⟨t, k_ldcwT X hexec hown (text := tx) (a := q) hZ.1 hZ.2 (g := F0 m pc ls rest) rfl (by rw [hb]; exact hdg) t a1, b1⟩
theorem lv_aconst_null (hexec : p.tables.exec = Jvm.exec) (hb : c.code = cc) (hdg : decode cc pc = .ok (.aconst_null, 1))
    (k : W p l e R s m args below meth c H locs cells slots Q (F0 m (pc + 1) ls (.null :: rest))) : W p l e R s m args below meth c H locs cells slots Q (F0 m pc ls (rest)) := by
  intro T hT X
  obtain ⟨t, a, b⟩ := k T hT X
  refine ⟨t, ?_, b⟩
  jvm_step X.here [X.here.top, hexec, hb, hdg]
  exact a
end KZ2
/-! numbers of the texts -/
theorem fit_nar (x : Int32) : fits .byte (.int (vp_nar .byte x)) = true := pk_fb x
def mOK (m : Nat) : Prop := m = 16 ∨ m = 34
theorem mOK.lt {m : Nat} (h : mOK m) : m < 35 := by rcases h with rfl | rfl <;> omega
theorem nI_sub_le {q m : Nat} (hq : q ≤ 34) (hm : m < 35) : (nI q - nI m ≤ 0) ↔ q ≤ m := by
  have e := pk_sub_toInt (a := q) (b := m) (by omega) (by omega)
  have e0 : (0 : Int32).toInt = 0 := by decide
  rw [Int32.le_iff_toInt_le, e, e0]
  omega
theorem nc_max {q : Nat} (h1 : 16 < q) (h2 : q ≤ 34) : fJ9_max_7cf53 (nI q - (16 : Int32)) (18 : Int32) = (18 : Int32) := by
  have k : ∀ q : Nat, q < 35 → 16 < q → fJ9_max_7cf53 (nI q - (16 : Int32)) (18 : Int32) = (18 : Int32) := by decide +kernel
  exact k q (by omega) h1
